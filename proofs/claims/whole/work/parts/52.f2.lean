abbrev M_F_ofTree : MD := (⟨"FelledByNames", "ofTree", "(II)I"⟩, prog_1_method_8_code, 4, (some .int), fun _ => True)
theorem d_F_ofTree_0 : decode prog_1_method_8_code 0 = .ok (.aload_n 0, 1) := by decide +kernel
theorem d_F_ofTree_1 : decode prog_1_method_8_code 1 = .ok (.iload_n 1, 1) := by decide +kernel
theorem d_F_ofTree_2 : decode prog_1_method_8_code 2 = .ok (.invokevirtual 152, 3) := by decide +kernel
theorem kB_F_isTree : kB M_F_isTree 1 := ⟨tm 1 (by decide +kernel) rfl, tm 611 (by decide +kernel) rfl, ⟨by decide, by decide, by decide +kernel⟩, by decide⟩
theorem k_F_152_F_isTree_FV : kV "FelledByNames" 152 0 M_F_isTree 1 := ⟨kB_F_isTree, tm 608 (by decide +kernel) rfl, tm 610 (by decide +kernel) rfl, tp 7 (by decide +kernel) rfl, _, rfl, rfl⟩
theorem d_F_ofTree_5 : decode prog_1_method_8_code 5 = .ok (.ifCond .ne 9, 3) := by decide +kernel
theorem d_F_ofTree_14 : decode prog_1_method_8_code 14 = .ok (.aload_n 0, 1) := by decide +kernel
theorem d_F_ofTree_15 : decode prog_1_method_8_code 15 = .ok (.getfield 39, 3) := by decide +kernel
theorem d_F_ofTree_18 : decode prog_1_method_8_code 18 = .ok (.getfield 145, 3) := by decide +kernel
theorem f_F_145_World : fok "FelledByNames" 145 4 4 := ⟨R_World, F_World, 14, "FelledByNames$World", rfl, i_World, by decide, tm 182 (by decide +kernel) rfl, Or.inl rfl, t_World, t_World_ok, n_World⟩
theorem d_F_ofTree_21 : decode prog_1_method_8_code 21 = .ok (.iload_n 1, 1) := by decide +kernel
theorem d_F_ofTree_22 : decode prog_1_method_8_code 22 = .ok (.aaload, 1) := by decide +kernel
theorem d_F_ofTree_23 : decode prog_1_method_8_code 23 = .ok (.astore_n 3, 1) := by decide +kernel
theorem d_F_ofTree_24 : decode prog_1_method_8_code 24 = .ok (.iload_n 2, 1) := by decide +kernel
theorem d_F_ofTree_25 : decode prog_1_method_8_code 25 = .ok (.tableswitch 110 0 7 #[47, 52, 57, 70, 75, 80, 93, 105], 47) := by decide +kernel
theorem d_F_ofTree_72 : decode prog_1_method_8_code 72 = .ok (.aload_n 3, 1) := by decide +kernel
theorem d_F_ofTree_73 : decode prog_1_method_8_code 73 = .ok (.getfield 156, 3) := by decide +kernel
theorem f_F_156_Tree : fok "FelledByNames" 156 6 0 := ⟨R_Tree, F_Tree, 8, "FelledByNames$Tree", rfl, i_Tree, by decide, tm 122 (by decide +kernel) rfl, Or.inl rfl, t_Tree, t_Tree_ok, n_Tree⟩
theorem f_F_156_Beech : fok "FelledByNames" 156 7 0 := ⟨R_Beech, F_Beech, 8, "FelledByNames$Tree", rfl, i_Beech, by decide, tm 122 (by decide +kernel) rfl, Or.inl rfl, t_Beech, t_Beech_ok, n_Beech⟩
theorem f_F_156_Oak : fok "FelledByNames" 156 8 0 := ⟨R_Oak, F_Oak, 8, "FelledByNames$Tree", rfl, i_Oak, by decide, tm 122 (by decide +kernel) rfl, Or.inl rfl, t_Oak, t_Oak_ok, n_Oak⟩
theorem f_F_156_Sapling : fok "FelledByNames" 156 9 0 := ⟨R_Sapling, F_Sapling, 8, "FelledByNames$Tree", rfl, i_Sapling, by decide, tm 122 (by decide +kernel) rfl, Or.inl rfl, t_Sapling, t_Sapling_ok, n_Sapling⟩
theorem f_F_156_Wedged : fok "FelledByNames" 156 10 0 := ⟨R_Wedged, F_Wedged, 8, "FelledByNames$Tree", rfl, i_Wedged, by decide, tm 122 (by decide +kernel) rfl, Or.inl rfl, t_Wedged, t_Wedged_ok, n_Wedged⟩
theorem f_F_156_Hollow : fok "FelledByNames" 156 11 0 := ⟨R_Hollow, F_Hollow, 8, "FelledByNames$Tree", rfl, i_Hollow, by decide, tm 122 (by decide +kernel) rfl, Or.inl rfl, t_Hollow, t_Hollow_ok, n_Hollow⟩
theorem f_F_156_Hill : fok "FelledByNames" 156 12 0 := ⟨R_Hill, F_Hill, 8, "FelledByNames$Tree", rfl, i_Hill, by decide, tm 122 (by decide +kernel) rfl, Or.inl rfl, t_Hill, t_Hill_ok, n_Hill⟩
theorem ft_F_156 : ∀ c, c ≤ 6 → fok "FelledByNames" 156 (6 + c) 0 := fun c hc => by
  rcases (show c = 0 ∨ c = 1 ∨ c = 2 ∨ c = 3 ∨ c = 4 ∨ c = 5 ∨ c = 6 by omega) with rfl | rfl | rfl | rfl | rfl | rfl | rfl
  · exact f_F_156_Tree
  · exact f_F_156_Beech
  · exact f_F_156_Oak
  · exact f_F_156_Sapling
  · exact f_F_156_Wedged
  · exact f_F_156_Hollow
  · exact f_F_156_Hill
theorem d_F_ofTree_76 : decode prog_1_method_8_code 76 = .ok (.ireturn, 1) := by decide +kernel
theorem d_F_ofTree_77 : decode prog_1_method_8_code 77 = .ok (.aload_n 3, 1) := by decide +kernel
theorem d_F_ofTree_78 : decode prog_1_method_8_code 78 = .ok (.getfield 128, 3) := by decide +kernel
theorem f_F_128_Tree : fok "FelledByNames" 128 6 2 := ⟨R_Tree, F_Tree, 8, "FelledByNames$Tree", rfl, i_Tree, by decide, tm 133 (by decide +kernel) rfl, Or.inl rfl, t_Tree, t_Tree_ok, n_Tree⟩
theorem f_F_128_Beech : fok "FelledByNames" 128 7 2 := ⟨R_Beech, F_Beech, 8, "FelledByNames$Tree", rfl, i_Beech, by decide, tm 133 (by decide +kernel) rfl, Or.inl rfl, t_Beech, t_Beech_ok, n_Beech⟩
theorem f_F_128_Oak : fok "FelledByNames" 128 8 2 := ⟨R_Oak, F_Oak, 8, "FelledByNames$Tree", rfl, i_Oak, by decide, tm 133 (by decide +kernel) rfl, Or.inl rfl, t_Oak, t_Oak_ok, n_Oak⟩
theorem f_F_128_Sapling : fok "FelledByNames" 128 9 2 := ⟨R_Sapling, F_Sapling, 8, "FelledByNames$Tree", rfl, i_Sapling, by decide, tm 133 (by decide +kernel) rfl, Or.inl rfl, t_Sapling, t_Sapling_ok, n_Sapling⟩
theorem f_F_128_Wedged : fok "FelledByNames" 128 10 2 := ⟨R_Wedged, F_Wedged, 8, "FelledByNames$Tree", rfl, i_Wedged, by decide, tm 133 (by decide +kernel) rfl, Or.inl rfl, t_Wedged, t_Wedged_ok, n_Wedged⟩
theorem f_F_128_Hollow : fok "FelledByNames" 128 11 2 := ⟨R_Hollow, F_Hollow, 8, "FelledByNames$Tree", rfl, i_Hollow, by decide, tm 133 (by decide +kernel) rfl, Or.inl rfl, t_Hollow, t_Hollow_ok, n_Hollow⟩
theorem f_F_128_Hill : fok "FelledByNames" 128 12 2 := ⟨R_Hill, F_Hill, 8, "FelledByNames$Tree", rfl, i_Hill, by decide, tm 133 (by decide +kernel) rfl, Or.inl rfl, t_Hill, t_Hill_ok, n_Hill⟩
theorem ft_F_128 : ∀ c, c ≤ 6 → fok "FelledByNames" 128 (6 + c) 2 := fun c hc => by
  rcases (show c = 0 ∨ c = 1 ∨ c = 2 ∨ c = 3 ∨ c = 4 ∨ c = 5 ∨ c = 6 by omega) with rfl | rfl | rfl | rfl | rfl | rfl | rfl
  · exact f_F_128_Tree
  · exact f_F_128_Beech
  · exact f_F_128_Oak
  · exact f_F_128_Sapling
  · exact f_F_128_Wedged
  · exact f_F_128_Hollow
  · exact f_F_128_Hill
theorem d_F_ofTree_81 : decode prog_1_method_8_code 81 = .ok (.ireturn, 1) := by decide +kernel
theorem d_F_ofTree_82 : decode prog_1_method_8_code 82 = .ok (.aload_n 3, 1) := by decide +kernel
theorem d_F_ofTree_83 : decode prog_1_method_8_code 83 = .ok (.getfield 133, 3) := by decide +kernel
theorem f_F_133_Tree : fok "FelledByNames" 133 6 3 := ⟨R_Tree, F_Tree, 8, "FelledByNames$Tree", rfl, i_Tree, by decide, tm 137 (by decide +kernel) rfl, Or.inl rfl, t_Tree, t_Tree_ok, n_Tree⟩
theorem f_F_133_Beech : fok "FelledByNames" 133 7 3 := ⟨R_Beech, F_Beech, 8, "FelledByNames$Tree", rfl, i_Beech, by decide, tm 137 (by decide +kernel) rfl, Or.inl rfl, t_Beech, t_Beech_ok, n_Beech⟩
theorem f_F_133_Oak : fok "FelledByNames" 133 8 3 := ⟨R_Oak, F_Oak, 8, "FelledByNames$Tree", rfl, i_Oak, by decide, tm 137 (by decide +kernel) rfl, Or.inl rfl, t_Oak, t_Oak_ok, n_Oak⟩
theorem f_F_133_Sapling : fok "FelledByNames" 133 9 3 := ⟨R_Sapling, F_Sapling, 8, "FelledByNames$Tree", rfl, i_Sapling, by decide, tm 137 (by decide +kernel) rfl, Or.inl rfl, t_Sapling, t_Sapling_ok, n_Sapling⟩
theorem f_F_133_Wedged : fok "FelledByNames" 133 10 3 := ⟨R_Wedged, F_Wedged, 8, "FelledByNames$Tree", rfl, i_Wedged, by decide, tm 137 (by decide +kernel) rfl, Or.inl rfl, t_Wedged, t_Wedged_ok, n_Wedged⟩
theorem f_F_133_Hollow : fok "FelledByNames" 133 11 3 := ⟨R_Hollow, F_Hollow, 8, "FelledByNames$Tree", rfl, i_Hollow, by decide, tm 137 (by decide +kernel) rfl, Or.inl rfl, t_Hollow, t_Hollow_ok, n_Hollow⟩
theorem f_F_133_Hill : fok "FelledByNames" 133 12 3 := ⟨R_Hill, F_Hill, 8, "FelledByNames$Tree", rfl, i_Hill, by decide, tm 137 (by decide +kernel) rfl, Or.inl rfl, t_Hill, t_Hill_ok, n_Hill⟩
theorem ft_F_133 : ∀ c, c ≤ 6 → fok "FelledByNames" 133 (6 + c) 3 := fun c hc => by
  rcases (show c = 0 ∨ c = 1 ∨ c = 2 ∨ c = 3 ∨ c = 4 ∨ c = 5 ∨ c = 6 by omega) with rfl | rfl | rfl | rfl | rfl | rfl | rfl
  · exact f_F_133_Tree
  · exact f_F_133_Beech
  · exact f_F_133_Oak
  · exact f_F_133_Sapling
  · exact f_F_133_Wedged
  · exact f_F_133_Hollow
  · exact f_F_133_Hill
theorem d_F_ofTree_86 : decode prog_1_method_8_code 86 = .ok (.bipush 10, 2) := by decide +kernel
theorem d_F_ofTree_88 : decode prog_1_method_8_code 88 = .ok (.imul, 1) := by decide +kernel
theorem d_F_ofTree_89 : decode prog_1_method_8_code 89 = .ok (.aload_n 3, 1) := by decide +kernel
theorem d_F_ofTree_90 : decode prog_1_method_8_code 90 = .ok (.getfield 136, 3) := by decide +kernel
theorem f_F_136_Tree : fok "FelledByNames" 136 6 4 := ⟨R_Tree, F_Tree, 8, "FelledByNames$Tree", rfl, i_Tree, by decide, tm 140 (by decide +kernel) rfl, Or.inl rfl, t_Tree, t_Tree_ok, n_Tree⟩
theorem f_F_136_Beech : fok "FelledByNames" 136 7 4 := ⟨R_Beech, F_Beech, 8, "FelledByNames$Tree", rfl, i_Beech, by decide, tm 140 (by decide +kernel) rfl, Or.inl rfl, t_Beech, t_Beech_ok, n_Beech⟩
theorem f_F_136_Oak : fok "FelledByNames" 136 8 4 := ⟨R_Oak, F_Oak, 8, "FelledByNames$Tree", rfl, i_Oak, by decide, tm 140 (by decide +kernel) rfl, Or.inl rfl, t_Oak, t_Oak_ok, n_Oak⟩
theorem f_F_136_Sapling : fok "FelledByNames" 136 9 4 := ⟨R_Sapling, F_Sapling, 8, "FelledByNames$Tree", rfl, i_Sapling, by decide, tm 140 (by decide +kernel) rfl, Or.inl rfl, t_Sapling, t_Sapling_ok, n_Sapling⟩
theorem f_F_136_Wedged : fok "FelledByNames" 136 10 4 := ⟨R_Wedged, F_Wedged, 8, "FelledByNames$Tree", rfl, i_Wedged, by decide, tm 140 (by decide +kernel) rfl, Or.inl rfl, t_Wedged, t_Wedged_ok, n_Wedged⟩
theorem f_F_136_Hollow : fok "FelledByNames" 136 11 4 := ⟨R_Hollow, F_Hollow, 8, "FelledByNames$Tree", rfl, i_Hollow, by decide, tm 140 (by decide +kernel) rfl, Or.inl rfl, t_Hollow, t_Hollow_ok, n_Hollow⟩
theorem f_F_136_Hill : fok "FelledByNames" 136 12 4 := ⟨R_Hill, F_Hill, 8, "FelledByNames$Tree", rfl, i_Hill, by decide, tm 140 (by decide +kernel) rfl, Or.inl rfl, t_Hill, t_Hill_ok, n_Hill⟩
theorem ft_F_136 : ∀ c, c ≤ 6 → fok "FelledByNames" 136 (6 + c) 4 := fun c hc => by
  rcases (show c = 0 ∨ c = 1 ∨ c = 2 ∨ c = 3 ∨ c = 4 ∨ c = 5 ∨ c = 6 by omega) with rfl | rfl | rfl | rfl | rfl | rfl | rfl
  · exact f_F_136_Tree
  · exact f_F_136_Beech
  · exact f_F_136_Oak
  · exact f_F_136_Sapling
  · exact f_F_136_Wedged
  · exact f_F_136_Hollow
  · exact f_F_136_Hill
theorem d_F_ofTree_93 : decode prog_1_method_8_code 93 = .ok (.iadd, 1) := by decide +kernel
theorem d_F_ofTree_94 : decode prog_1_method_8_code 94 = .ok (.ireturn, 1) := by decide +kernel
theorem d_F_ofTree_95 : decode prog_1_method_8_code 95 = .ok (.aload_n 3, 1) := by decide +kernel
theorem d_F_ofTree_96 : decode prog_1_method_8_code 96 = .ok (.getfield 139, 3) := by decide +kernel
theorem f_F_139_Tree : fok "FelledByNames" 139 6 5 := ⟨R_Tree, F_Tree, 8, "FelledByNames$Tree", rfl, i_Tree, by decide, tm 142 (by decide +kernel) rfl, Or.inl rfl, t_Tree, t_Tree_ok, n_Tree⟩
theorem f_F_139_Beech : fok "FelledByNames" 139 7 5 := ⟨R_Beech, F_Beech, 8, "FelledByNames$Tree", rfl, i_Beech, by decide, tm 142 (by decide +kernel) rfl, Or.inl rfl, t_Beech, t_Beech_ok, n_Beech⟩
theorem f_F_139_Oak : fok "FelledByNames" 139 8 5 := ⟨R_Oak, F_Oak, 8, "FelledByNames$Tree", rfl, i_Oak, by decide, tm 142 (by decide +kernel) rfl, Or.inl rfl, t_Oak, t_Oak_ok, n_Oak⟩
theorem f_F_139_Sapling : fok "FelledByNames" 139 9 5 := ⟨R_Sapling, F_Sapling, 8, "FelledByNames$Tree", rfl, i_Sapling, by decide, tm 142 (by decide +kernel) rfl, Or.inl rfl, t_Sapling, t_Sapling_ok, n_Sapling⟩
theorem f_F_139_Wedged : fok "FelledByNames" 139 10 5 := ⟨R_Wedged, F_Wedged, 8, "FelledByNames$Tree", rfl, i_Wedged, by decide, tm 142 (by decide +kernel) rfl, Or.inl rfl, t_Wedged, t_Wedged_ok, n_Wedged⟩
theorem f_F_139_Hollow : fok "FelledByNames" 139 11 5 := ⟨R_Hollow, F_Hollow, 8, "FelledByNames$Tree", rfl, i_Hollow, by decide, tm 142 (by decide +kernel) rfl, Or.inl rfl, t_Hollow, t_Hollow_ok, n_Hollow⟩
theorem f_F_139_Hill : fok "FelledByNames" 139 12 5 := ⟨R_Hill, F_Hill, 8, "FelledByNames$Tree", rfl, i_Hill, by decide, tm 142 (by decide +kernel) rfl, Or.inl rfl, t_Hill, t_Hill_ok, n_Hill⟩
theorem ft_F_139 : ∀ c, c ≤ 6 → fok "FelledByNames" 139 (6 + c) 5 := fun c hc => by
  rcases (show c = 0 ∨ c = 1 ∨ c = 2 ∨ c = 3 ∨ c = 4 ∨ c = 5 ∨ c = 6 by omega) with rfl | rfl | rfl | rfl | rfl | rfl | rfl
  · exact f_F_139_Tree
  · exact f_F_139_Beech
  · exact f_F_139_Oak
  · exact f_F_139_Sapling
  · exact f_F_139_Wedged
  · exact f_F_139_Hollow
  · exact f_F_139_Hill
theorem d_F_ofTree_99 : decode prog_1_method_8_code 99 = .ok (.ireturn, 1) := by decide +kernel
theorem d_F_ofTree_100 : decode prog_1_method_8_code 100 = .ok (.aload_n 3, 1) := by decide +kernel
theorem d_F_ofTree_101 : decode prog_1_method_8_code 101 = .ok (.getfield 142, 3) := by decide +kernel
theorem f_F_142_Tree : fok "FelledByNames" 142 6 6 := ⟨R_Tree, F_Tree, 8, "FelledByNames$Tree", rfl, i_Tree, by decide, tm 147 (by decide +kernel) rfl, Or.inl rfl, t_Tree, t_Tree_ok, n_Tree⟩
theorem f_F_142_Beech : fok "FelledByNames" 142 7 6 := ⟨R_Beech, F_Beech, 8, "FelledByNames$Tree", rfl, i_Beech, by decide, tm 147 (by decide +kernel) rfl, Or.inl rfl, t_Beech, t_Beech_ok, n_Beech⟩
theorem f_F_142_Oak : fok "FelledByNames" 142 8 6 := ⟨R_Oak, F_Oak, 8, "FelledByNames$Tree", rfl, i_Oak, by decide, tm 147 (by decide +kernel) rfl, Or.inl rfl, t_Oak, t_Oak_ok, n_Oak⟩
theorem f_F_142_Sapling : fok "FelledByNames" 142 9 6 := ⟨R_Sapling, F_Sapling, 8, "FelledByNames$Tree", rfl, i_Sapling, by decide, tm 147 (by decide +kernel) rfl, Or.inl rfl, t_Sapling, t_Sapling_ok, n_Sapling⟩
theorem f_F_142_Wedged : fok "FelledByNames" 142 10 6 := ⟨R_Wedged, F_Wedged, 8, "FelledByNames$Tree", rfl, i_Wedged, by decide, tm 147 (by decide +kernel) rfl, Or.inl rfl, t_Wedged, t_Wedged_ok, n_Wedged⟩
theorem f_F_142_Hollow : fok "FelledByNames" 142 11 6 := ⟨R_Hollow, F_Hollow, 8, "FelledByNames$Tree", rfl, i_Hollow, by decide, tm 147 (by decide +kernel) rfl, Or.inl rfl, t_Hollow, t_Hollow_ok, n_Hollow⟩
theorem f_F_142_Hill : fok "FelledByNames" 142 12 6 := ⟨R_Hill, F_Hill, 8, "FelledByNames$Tree", rfl, i_Hill, by decide, tm 147 (by decide +kernel) rfl, Or.inl rfl, t_Hill, t_Hill_ok, n_Hill⟩
theorem ft_F_142 : ∀ c, c ≤ 6 → fok "FelledByNames" 142 (6 + c) 6 := fun c hc => by
  rcases (show c = 0 ∨ c = 1 ∨ c = 2 ∨ c = 3 ∨ c = 4 ∨ c = 5 ∨ c = 6 by omega) with rfl | rfl | rfl | rfl | rfl | rfl | rfl
  · exact f_F_142_Tree
  · exact f_F_142_Beech
  · exact f_F_142_Oak
  · exact f_F_142_Sapling
  · exact f_F_142_Wedged
  · exact f_F_142_Hollow
  · exact f_F_142_Hill
theorem d_F_ofTree_104 : decode prog_1_method_8_code 104 = .ok (.ireturn, 1) := by decide +kernel
theorem d_F_ofTree_105 : decode prog_1_method_8_code 105 = .ok (.aload_n 3, 1) := by decide +kernel
theorem d_F_ofTree_106 : decode prog_1_method_8_code 106 = .ok (.getfield 159, 3) := by decide +kernel
theorem f_F_159_Tree : fok "FelledByNames" 159 6 7 := ⟨R_Tree, F_Tree, 8, "FelledByNames$Tree", rfl, i_Tree, by decide, tm 151 (by decide +kernel) rfl, Or.inl rfl, t_Tree, t_Tree_ok, n_Tree⟩
theorem f_F_159_Beech : fok "FelledByNames" 159 7 7 := ⟨R_Beech, F_Beech, 8, "FelledByNames$Tree", rfl, i_Beech, by decide, tm 151 (by decide +kernel) rfl, Or.inl rfl, t_Beech, t_Beech_ok, n_Beech⟩
theorem f_F_159_Oak : fok "FelledByNames" 159 8 7 := ⟨R_Oak, F_Oak, 8, "FelledByNames$Tree", rfl, i_Oak, by decide, tm 151 (by decide +kernel) rfl, Or.inl rfl, t_Oak, t_Oak_ok, n_Oak⟩
theorem f_F_159_Sapling : fok "FelledByNames" 159 9 7 := ⟨R_Sapling, F_Sapling, 8, "FelledByNames$Tree", rfl, i_Sapling, by decide, tm 151 (by decide +kernel) rfl, Or.inl rfl, t_Sapling, t_Sapling_ok, n_Sapling⟩
theorem f_F_159_Wedged : fok "FelledByNames" 159 10 7 := ⟨R_Wedged, F_Wedged, 8, "FelledByNames$Tree", rfl, i_Wedged, by decide, tm 151 (by decide +kernel) rfl, Or.inl rfl, t_Wedged, t_Wedged_ok, n_Wedged⟩
theorem f_F_159_Hollow : fok "FelledByNames" 159 11 7 := ⟨R_Hollow, F_Hollow, 8, "FelledByNames$Tree", rfl, i_Hollow, by decide, tm 151 (by decide +kernel) rfl, Or.inl rfl, t_Hollow, t_Hollow_ok, n_Hollow⟩
theorem f_F_159_Hill : fok "FelledByNames" 159 12 7 := ⟨R_Hill, F_Hill, 8, "FelledByNames$Tree", rfl, i_Hill, by decide, tm 151 (by decide +kernel) rfl, Or.inl rfl, t_Hill, t_Hill_ok, n_Hill⟩
theorem ft_F_159 : ∀ c, c ≤ 6 → fok "FelledByNames" 159 (6 + c) 7 := fun c hc => by
  rcases (show c = 0 ∨ c = 1 ∨ c = 2 ∨ c = 3 ∨ c = 4 ∨ c = 5 ∨ c = 6 by omega) with rfl | rfl | rfl | rfl | rfl | rfl | rfl
  · exact f_F_159_Tree
  · exact f_F_159_Beech
  · exact f_F_159_Oak
  · exact f_F_159_Sapling
  · exact f_F_159_Wedged
  · exact f_F_159_Hollow
  · exact f_F_159_Hill
theorem d_F_ofTree_109 : decode prog_1_method_8_code 109 = .ok (.ifCond .eq 7, 3) := by decide +kernel
theorem d_F_ofTree_116 : decode prog_1_method_8_code 116 = .ok (.iconst 0, 1) := by decide +kernel
theorem d_F_ofTree_117 : decode prog_1_method_8_code 117 = .ok (.ireturn, 1) := by decide +kernel
theorem d_F_ofTree_112 : decode prog_1_method_8_code 112 = .ok (.iconst 1, 1) := by decide +kernel
theorem d_F_ofTree_113 : decode prog_1_method_8_code 113 = .ok (.goto 4, 3) := by decide +kernel
theorem d_F_ofTree_118 : decode prog_1_method_8_code 118 = .ok (.aload_n 3, 1) := by decide +kernel
theorem d_F_ofTree_119 : decode prog_1_method_8_code 119 = .ok (.aload_n 0, 1) := by decide +kernel
theorem d_F_ofTree_120 : decode prog_1_method_8_code 120 = .ok (.getfield 39, 3) := by decide +kernel
theorem d_F_ofTree_123 : decode prog_1_method_8_code 123 = .ok (.getfield 163, 3) := by decide +kernel
theorem f_F_163_World : fok "FelledByNames" 163 4 6 := ⟨R_World, F_World, 14, "FelledByNames$World", rfl, i_World, by decide, tm 186 (by decide +kernel) rfl, Or.inl rfl, t_World, t_World_ok, n_World⟩
theorem d_F_ofTree_126 : decode prog_1_method_8_code 126 = .ok (.invokevirtual 166, 3) := by decide +kernel
theorem k_F_166_Tree_limit_TreeU : kU "FelledByNames" 166 6 "FelledByNames$Tree" ⟨"FelledByNames$Tree", "limit", "(I)I"⟩ M_Tree_limit 1 := ⟨kB_Tree_limit, tm 612 (by decide +kernel) rfl, tm 615 (by decide +kernel) rfl, ⟨by decide, by decide⟩, tm 613 (by decide +kernel) rfl, ⟨prog_10_method_3_code, 2, (some .int), tm 638 (by decide +kernel) rfl⟩, by decide +kernel, tm 613 (by decide +kernel) rfl, _, rfl, tm 614 (by decide +kernel) rfl⟩
theorem k_F_166_Beech_limit_BeechU : kU "FelledByNames" 166 7 "FelledByNames$Tree" ⟨"FelledByNames$Tree", "limit", "(I)I"⟩ M_Beech_limit 1 := ⟨kB_Beech_limit, tm 612 (by decide +kernel) rfl, tm 615 (by decide +kernel) rfl, ⟨by decide, by decide⟩, tm 613 (by decide +kernel) rfl, ⟨prog_10_method_3_code, 2, (some .int), tm 638 (by decide +kernel) rfl⟩, by decide +kernel, tm 617 (by decide +kernel) rfl, _, rfl, tm 616 (by decide +kernel) rfl⟩
theorem k_F_166_Oak_limit_OakU : kU "FelledByNames" 166 8 "FelledByNames$Tree" ⟨"FelledByNames$Tree", "limit", "(I)I"⟩ M_Oak_limit 1 := ⟨kB_Oak_limit, tm 612 (by decide +kernel) rfl, tm 615 (by decide +kernel) rfl, ⟨by decide, by decide⟩, tm 613 (by decide +kernel) rfl, ⟨prog_10_method_3_code, 2, (some .int), tm 638 (by decide +kernel) rfl⟩, by decide +kernel, tm 630 (by decide +kernel) rfl, _, rfl, tm 632 (by decide +kernel) rfl⟩
theorem k_F_166_Sapling_limit_SaplingU : kU "FelledByNames" 166 9 "FelledByNames$Tree" ⟨"FelledByNames$Tree", "limit", "(I)I"⟩ M_Sapling_limit 1 := ⟨kB_Sapling_limit, tm 612 (by decide +kernel) rfl, tm 615 (by decide +kernel) rfl, ⟨by decide, by decide⟩, tm 613 (by decide +kernel) rfl, ⟨prog_10_method_3_code, 2, (some .int), tm 638 (by decide +kernel) rfl⟩, by decide +kernel, tm 624 (by decide +kernel) rfl, _, rfl, tm 633 (by decide +kernel) rfl⟩
theorem k_F_166_Wedged_limit_WedgedU : kU "FelledByNames" 166 10 "FelledByNames$Tree" ⟨"FelledByNames$Tree", "limit", "(I)I"⟩ M_Wedged_limit 1 := ⟨kB_Wedged_limit, tm 612 (by decide +kernel) rfl, tm 615 (by decide +kernel) rfl, ⟨by decide, by decide⟩, tm 613 (by decide +kernel) rfl, ⟨prog_10_method_3_code, 2, (some .int), tm 638 (by decide +kernel) rfl⟩, by decide +kernel, tm 635 (by decide +kernel) rfl, _, rfl, tm 634 (by decide +kernel) rfl⟩
theorem k_F_166_Hollow_limit_HollowU : kU "FelledByNames" 166 11 "FelledByNames$Tree" ⟨"FelledByNames$Tree", "limit", "(I)I"⟩ M_Hollow_limit 1 := ⟨kB_Hollow_limit, tm 612 (by decide +kernel) rfl, tm 615 (by decide +kernel) rfl, ⟨by decide, by decide⟩, tm 613 (by decide +kernel) rfl, ⟨prog_10_method_3_code, 2, (some .int), tm 638 (by decide +kernel) rfl⟩, by decide +kernel, tm 627 (by decide +kernel) rfl, _, rfl, tm 626 (by decide +kernel) rfl⟩
theorem k_F_166_Hill_limit_HillU : kU "FelledByNames" 166 12 "FelledByNames$Tree" ⟨"FelledByNames$Tree", "limit", "(I)I"⟩ M_Hill_limit 1 := ⟨kB_Hill_limit, tm 612 (by decide +kernel) rfl, tm 615 (by decide +kernel) rfl, ⟨by decide, by decide⟩, tm 613 (by decide +kernel) rfl, ⟨prog_10_method_3_code, 2, (some .int), tm 638 (by decide +kernel) rfl⟩, by decide +kernel, tm 621 (by decide +kernel) rfl, _, rfl, tm 620 (by decide +kernel) rfl⟩
theorem vs_F_166 {l : Launch} {M : MD} {d mc ms pc : Nat} {ls : List (Nat × Value)} {st : List Value} {n c s w i : Nat} {R W Z : Nat → Nat → Int32} {T : Nat → Nat → Nat} {kn : Kn} {h0 : HP} {Q : QT} {x : Int32} (hd : decode M.2.1 pc = .ok (.invokevirtual 166, 3)) (hM0 : M.1.cls = "FelledByNames") (hT : TI T kn n) (hw : w < 3) (hi : i < 8) (hK : tN (W w) (50 + 7 * i + 0) ≤ 6) (hs8 : (st.map fun v => v.category).sum ≤ 8) (hc0 : c ≤ mc) (hs0 : s ≤ ms) (kk : V l M (d + 3) mc ms (pc + 3) ls (.int (lmv (tN (W w) (50 + 7 * i + 0)) (W w (50 + 7 * i + 1)) (W w (50 + 7 * i + 5)) x) :: st) n (co R W Z T kn h0) c s Q) : V l M (d + 3) mc ms pc ls (.int x :: .ref (T w i) :: st) n (co R W Z T kn h0) c s Q := by
  have hb0 := co_t (R := R) (W := W) (Z := Z) (h0 := h0) hT hw hi
  unfold trc at hb0
  have hK0 := hK
  generalize hk : (tN (W w) (50 + 7 * i + 0)) = k at hK hb0 kk
  rcases (show k = 0 ∨ k = 1 ∨ k = 2 ∨ k = 3 ∨ k = 4 ∨ k = 5 ∨ k = 6 by omega) with rfl | rfl | rfl | rfl | rfl | rfl | rfl
  · refine V.callU (M := M) (vs := [.int x]) (by exact hd) (by rw [hM0]; exact k_F_166_Tree_limit_TreeU) hb0 rfl rfl hs8 (by omega) (by omega) (c_Tree_limit (d := d + 2) hT hw hi hK0 ?_)
    first | exact kk | (rw [hk]; exact kk)
  · refine V.callU (M := M) (vs := [.int x]) (by exact hd) (by rw [hM0]; exact k_F_166_Beech_limit_BeechU) hb0 rfl rfl hs8 (by omega) (by omega) (c_Beech_limit (d := d + 1) hT hw hi hK0 ?_)
    first | exact kk | (rw [hk]; exact kk)
  · refine V.callU (M := M) (vs := [.int x]) (by exact hd) (by rw [hM0]; exact k_F_166_Oak_limit_OakU) hb0 rfl rfl hs8 (by omega) (by omega) (c_Oak_limit (d := d + 2) hT hw hi hK0 ?_)
    first | exact kk | (rw [hk]; exact kk)
  · refine V.callU (M := M) (vs := [.int x]) (by exact hd) (by rw [hM0]; exact k_F_166_Sapling_limit_SaplingU) hb0 rfl rfl hs8 (by omega) (by omega) (c_Sapling_limit (d := d + 2) hT hw hi hK0 ?_)
    first | exact kk | (rw [hk]; exact kk)
  · refine V.callU (M := M) (vs := [.int x]) (by exact hd) (by rw [hM0]; exact k_F_166_Wedged_limit_WedgedU) hb0 rfl rfl hs8 (by omega) (by omega) (c_Wedged_limit (d := d + 0) hT hw hi hK0 ?_)
    first | exact kk | (rw [hk]; exact kk)
  · refine V.callU (M := M) (vs := [.int x]) (by exact hd) (by rw [hM0]; exact k_F_166_Hollow_limit_HollowU) hb0 rfl rfl hs8 (by omega) (by omega) (c_Hollow_limit (d := d + 1) hT hw hi hK0 ?_)
    first | exact kk | (rw [hk]; exact kk)
  · refine V.callU (M := M) (vs := [.int x]) (by exact hd) (by rw [hM0]; exact k_F_166_Hill_limit_HillU) hb0 rfl rfl hs8 (by omega) (by omega) (c_Hill_limit (d := d + 1) hT hw hi hK0 ?_)
    first | exact kk | (rw [hk]; exact kk)
theorem d_F_ofTree_129 : decode prog_1_method_8_code 129 = .ok (.ireturn, 1) := by decide +kernel
theorem d_F_ofTree_130 : decode prog_1_method_8_code 130 = .ok (.aload_n 3, 1) := by decide +kernel
theorem d_F_ofTree_131 : decode prog_1_method_8_code 131 = .ok (.invokevirtual 169, 3) := by decide +kernel
theorem k_F_169_Tree_reaches_TreeU : kU "FelledByNames" 169 6 "FelledByNames$Tree" ⟨"FelledByNames$Tree", "reaches", "()I"⟩ M_Tree_reaches 0 := ⟨kB_Tree_reaches, tm 639 (by decide +kernel) rfl, tm 642 (by decide +kernel) rfl, ⟨by decide, by decide⟩, tm 640 (by decide +kernel) rfl, ⟨prog_10_method_5_code, 1, (some .int), tm 651 (by decide +kernel) rfl⟩, by decide +kernel, tm 640 (by decide +kernel) rfl, _, rfl, tm 641 (by decide +kernel) rfl⟩
theorem k_F_169_Tree_reaches_BeechU : kU "FelledByNames" 169 7 "FelledByNames$Tree" ⟨"FelledByNames$Tree", "reaches", "()I"⟩ M_Tree_reaches 0 := ⟨kB_Tree_reaches, tm 639 (by decide +kernel) rfl, tm 642 (by decide +kernel) rfl, ⟨by decide, by decide⟩, tm 640 (by decide +kernel) rfl, ⟨prog_10_method_5_code, 1, (some .int), tm 651 (by decide +kernel) rfl⟩, by decide +kernel, tm 640 (by decide +kernel) rfl, _, rfl, tm 643 (by decide +kernel) rfl⟩
theorem k_F_169_Tree_reaches_OakU : kU "FelledByNames" 169 8 "FelledByNames$Tree" ⟨"FelledByNames$Tree", "reaches", "()I"⟩ M_Tree_reaches 0 := ⟨kB_Tree_reaches, tm 639 (by decide +kernel) rfl, tm 642 (by decide +kernel) rfl, ⟨by decide, by decide⟩, tm 640 (by decide +kernel) rfl, ⟨prog_10_method_5_code, 1, (some .int), tm 651 (by decide +kernel) rfl⟩, by decide +kernel, tm 640 (by decide +kernel) rfl, _, rfl, tm 648 (by decide +kernel) rfl⟩
theorem k_F_169_Tree_reaches_SaplingU : kU "FelledByNames" 169 9 "FelledByNames$Tree" ⟨"FelledByNames$Tree", "reaches", "()I"⟩ M_Tree_reaches 0 := ⟨kB_Tree_reaches, tm 639 (by decide +kernel) rfl, tm 642 (by decide +kernel) rfl, ⟨by decide, by decide⟩, tm 640 (by decide +kernel) rfl, ⟨prog_10_method_5_code, 1, (some .int), tm 651 (by decide +kernel) rfl⟩, by decide +kernel, tm 640 (by decide +kernel) rfl, _, rfl, tm 649 (by decide +kernel) rfl⟩
theorem k_F_169_Tree_reaches_WedgedU : kU "FelledByNames" 169 10 "FelledByNames$Tree" ⟨"FelledByNames$Tree", "reaches", "()I"⟩ M_Tree_reaches 0 := ⟨kB_Tree_reaches, tm 639 (by decide +kernel) rfl, tm 642 (by decide +kernel) rfl, ⟨by decide, by decide⟩, tm 640 (by decide +kernel) rfl, ⟨prog_10_method_5_code, 1, (some .int), tm 651 (by decide +kernel) rfl⟩, by decide +kernel, tm 640 (by decide +kernel) rfl, _, rfl, tm 650 (by decide +kernel) rfl⟩
theorem k_F_169_Hollow_reaches_HollowU : kU "FelledByNames" 169 11 "FelledByNames$Tree" ⟨"FelledByNames$Tree", "reaches", "()I"⟩ M_Hollow_reaches 0 := ⟨kB_Hollow_reaches, tm 639 (by decide +kernel) rfl, tm 642 (by decide +kernel) rfl, ⟨by decide, by decide⟩, tm 640 (by decide +kernel) rfl, ⟨prog_10_method_5_code, 1, (some .int), tm 651 (by decide +kernel) rfl⟩, by decide +kernel, tm 646 (by decide +kernel) rfl, _, rfl, tm 645 (by decide +kernel) rfl⟩
theorem k_F_169_Tree_reaches_HillU : kU "FelledByNames" 169 12 "FelledByNames$Tree" ⟨"FelledByNames$Tree", "reaches", "()I"⟩ M_Tree_reaches 0 := ⟨kB_Tree_reaches, tm 639 (by decide +kernel) rfl, tm 642 (by decide +kernel) rfl, ⟨by decide, by decide⟩, tm 640 (by decide +kernel) rfl, ⟨prog_10_method_5_code, 1, (some .int), tm 651 (by decide +kernel) rfl⟩, by decide +kernel, tm 640 (by decide +kernel) rfl, _, rfl, tm 644 (by decide +kernel) rfl⟩
theorem vs_F_169 {l : Launch} {M : MD} {d mc ms pc : Nat} {ls : List (Nat × Value)} {st : List Value} {n c s w i : Nat} {R W Z : Nat → Nat → Int32} {T : Nat → Nat → Nat} {kn : Kn} {h0 : HP} {Q : QT} (hd : decode M.2.1 pc = .ok (.invokevirtual 169, 3)) (hM0 : M.1.cls = "FelledByNames") (hT : TI T kn n) (hw : w < 3) (hi : i < 8) (hK : tN (W w) (50 + 7 * i + 0) ≤ 6) (hs8 : (st.map fun v => v.category).sum ≤ 8) (hc0 : c ≤ mc) (hs0 : s ≤ ms) (kk : V l M (d + 1) mc ms (pc + 3) ls (.int (rcv (tN (W w) (50 + 7 * i + 0)) (W w (50 + 7 * i + 5))) :: st) n (co R W Z T kn h0) c s Q) : V l M (d + 1) mc ms pc ls (.ref (T w i) :: st) n (co R W Z T kn h0) c s Q := by
  have hb0 := co_t (R := R) (W := W) (Z := Z) (h0 := h0) hT hw hi
  unfold trc at hb0
  have hK0 := hK
  generalize hk : (tN (W w) (50 + 7 * i + 0)) = k at hK hb0 kk
  rcases (show k = 0 ∨ k = 1 ∨ k = 2 ∨ k = 3 ∨ k = 4 ∨ k = 5 ∨ k = 6 by omega) with rfl | rfl | rfl | rfl | rfl | rfl | rfl
  · refine V.callU (M := M) (vs := []) (by exact hd) (by rw [hM0]; exact k_F_169_Tree_reaches_TreeU) hb0 rfl rfl hs8 (by omega) (by omega) (c_Tree_reaches (x := 0) (d := d + 0) hT hw hi hK0 ?_)
    first | exact kk | (rw [hk]; exact kk)
  · refine V.callU (M := M) (vs := []) (by exact hd) (by rw [hM0]; exact k_F_169_Tree_reaches_BeechU) hb0 rfl rfl hs8 (by omega) (by omega) (c_Tree_reaches (x := 0) (d := d + 0) hT hw hi hK0 ?_)
    first | exact kk | (rw [hk]; exact kk)
  · refine V.callU (M := M) (vs := []) (by exact hd) (by rw [hM0]; exact k_F_169_Tree_reaches_OakU) hb0 rfl rfl hs8 (by omega) (by omega) (c_Tree_reaches (x := 0) (d := d + 0) hT hw hi hK0 ?_)
    first | exact kk | (rw [hk]; exact kk)
  · refine V.callU (M := M) (vs := []) (by exact hd) (by rw [hM0]; exact k_F_169_Tree_reaches_SaplingU) hb0 rfl rfl hs8 (by omega) (by omega) (c_Tree_reaches (x := 0) (d := d + 0) hT hw hi hK0 ?_)
    first | exact kk | (rw [hk]; exact kk)
  · refine V.callU (M := M) (vs := []) (by exact hd) (by rw [hM0]; exact k_F_169_Tree_reaches_WedgedU) hb0 rfl rfl hs8 (by omega) (by omega) (c_Tree_reaches (x := 0) (d := d + 0) hT hw hi hK0 ?_)
    first | exact kk | (rw [hk]; exact kk)
  · refine V.callU (M := M) (vs := []) (by exact hd) (by rw [hM0]; exact k_F_169_Hollow_reaches_HollowU) hb0 rfl rfl hs8 (by omega) (by omega) (c_Hollow_reaches (x := 0) (d := d + 0) hT hw hi hK0 ?_)
    first | exact kk | (rw [hk]; exact kk)
  · refine V.callU (M := M) (vs := []) (by exact hd) (by rw [hM0]; exact k_F_169_Tree_reaches_HillU) hb0 rfl rfl hs8 (by omega) (by omega) (c_Tree_reaches (x := 0) (d := d + 0) hT hw hi hK0 ?_)
    first | exact kk | (rw [hk]; exact kk)
theorem d_F_ofTree_134 : decode prog_1_method_8_code 134 = .ok (.ireturn, 1) := by decide +kernel
theorem d_F_ofTree_135 : decode prog_1_method_8_code 135 = .ok (.aload_n 0, 1) := by decide +kernel
theorem d_F_ofTree_136 : decode prog_1_method_8_code 136 = .ok (.iconst 1, 1) := by decide +kernel
theorem d_F_ofTree_137 : decode prog_1_method_8_code 137 = .ok (.invokevirtual 97, 3) := by decide +kernel
theorem d_F_ofTree_140 : decode prog_1_method_8_code 140 = .ok (.ireturn, 1) := by decide +kernel
theorem d_F_ofTree_8 : decode prog_1_method_8_code 8 = .ok (.aload_n 0, 1) := by decide +kernel
theorem d_F_ofTree_9 : decode prog_1_method_8_code 9 = .ok (.iconst 1, 1) := by decide +kernel
theorem d_F_ofTree_10 : decode prog_1_method_8_code 10 = .ok (.invokevirtual 97, 3) := by decide +kernel
theorem d_F_ofTree_13 : decode prog_1_method_8_code 13 = .ok (.ireturn, 1) := by decide +kernel
set_option maxRecDepth 100000 in
theorem c_F_ofTree {N dy : Nat} {x y : Int32} {l : Launch} {d n : Nat} {R W Z : Nat → Nat → Int32} {T : Nat → Nat → Nat} {kn : Kn} {h0 : HP} {Q : QT} (hN : N ≤ 8) (e0 : W 0 0 = nI N) (hT : TI T kn n) (hB0 : WB (W 0)) (hdy : W 0 1 = nI dy) (hd9 : dy < 2 ^ 30) (hE : (wi x (nI 0) (nI N - nI 1) && wi y (nI 0) (nI 7)) = false → Q (some (.int (-1000000000 - nI 1))) n (co (uA R 54 (upd (R 54) 1 (R 54 1 + nI 1))) W Z T kn h0)) (hOk : ∀ i w, i < N → w ≤ 7 → x = nI i → y = nI w → Q (some (.int (oft (W 0) i w))) n (co R W Z T kn h0)) : Ct l M_F_ofTree (d + 3) 0 0 [.ref 0, .int x, .int y] n (co R W Z T kn h0) Q := by
  refine Ct.of (fun _ => trivial) (by decide) (Nat.le_of_ble_eq_true rfl) ?_
  refine V.aload_n d_F_ofTree_0 rfl ?_
  refine V.iload_n d_F_ofTree_1 rfl ?_
  refine V.callV1 d_F_ofTree_2 k_F_152_F_isTree_FV (co_s sc_ob) (Nat.le_of_ble_eq_true rfl) (by omega) (by omega) (c_F_isTree ?_)
  refine V.ifneB (tgt := 14) d_F_ofTree_5 (by decide) (fun c_5 => ?_) (fun c_5 => ?_)
  · skip
    rw [e0] at c_5
    obtain ⟨i, hi, rfl⟩ := tre_nat hN c_5
    have hi8 : i < 8 := by omega
    refine V.aload_n d_F_ofTree_14 rfl ?_
    refine V.get d_F_ofTree_15 f_F_39_F (co_s sc_ob) rfl ?_
    refine V.get d_F_ofTree_18 f_F_145_World (co_s (sc_wd (wb_ds 0 (by decide)).1)) rfl ?_
    refine V.iload_n d_F_ofTree_21 rfl ?_
    refine V.aald d_F_ofTree_22 (Or.inl rfl) (co_s (sc_tr (wb_ds 0 (by decide)).2.2.2.1)) (vp_in_nI (by omega) (by omega)) (by rw [icl (by omega)]; exact if_pos (by omega)) ?_
    refine V.astore_n d_F_ofTree_23 (by decide) ?_
    refine V.iload_n d_F_ofTree_24 rfl ?_
    by_cases hy : wi y (nI 0) (nI 7) = true
    · skip
      obtain ⟨w, hw7, rfl⟩ := wi_nat (k := 7) (by decide) hy
      rcases (show w = 0 ∨ w = 1 ∨ w = 2 ∨ w = 3 ∨ w = 4 ∨ w = 5 ∨ w = 6 ∨ w = 7 by omega) with rfl | rfl | rfl | rfl | rfl | rfl | rfl | rfl
      · skip
        refine V.tabIn (tgt := 72) (off := 47) d_F_ofTree_25 (by decide +kernel) (by decide +kernel) (by decide +kernel) (by decide) ?_
        refine V.aload_n d_F_ofTree_72 rfl ?_
        refine V.get d_F_ofTree_73 (ft_F_156 _ (hB0.kd hi8)) (co_t hT (by decide) hi8) rfl ?_
        refine V.iret d_F_ofTree_76 rfl (by omega) (by omega) ?_
        exact hOk i 0 hi hw7 rfl rfl
      · skip
        refine V.tabIn (tgt := 77) (off := 52) d_F_ofTree_25 (by decide +kernel) (by decide +kernel) (by decide +kernel) (by decide) ?_
        refine V.aload_n d_F_ofTree_77 rfl ?_
        refine V.get d_F_ofTree_78 (ft_F_128 _ (hB0.kd hi8)) (co_t hT (by decide) hi8) rfl ?_
        refine V.iret d_F_ofTree_81 rfl (by omega) (by omega) ?_
        exact hOk i 1 hi hw7 rfl rfl
      · skip
        refine V.tabIn (tgt := 82) (off := 57) d_F_ofTree_25 (by decide +kernel) (by decide +kernel) (by decide +kernel) (by decide) ?_
        refine V.aload_n d_F_ofTree_82 rfl ?_
        refine V.get d_F_ofTree_83 (ft_F_133 _ (hB0.kd hi8)) (co_t hT (by decide) hi8) rfl ?_
        refine V.bipush_ (nI 10) d_F_ofTree_86 (by decide +kernel) ?_
        refine V.imul d_F_ofTree_88 ?_
        refine V.aload_n d_F_ofTree_89 rfl ?_
        refine V.get d_F_ofTree_90 (ft_F_136 _ (hB0.kd hi8)) (co_t hT (by decide) hi8) rfl ?_
        refine V.iadd d_F_ofTree_93 ?_
        refine V.iret d_F_ofTree_94 rfl (by omega) (by omega) ?_
        rw [Int32.mul_comm]
        exact hOk i 2 hi hw7 rfl rfl
      · skip
        refine V.tabIn (tgt := 95) (off := 70) d_F_ofTree_25 (by decide +kernel) (by decide +kernel) (by decide +kernel) (by decide) ?_
        refine V.aload_n d_F_ofTree_95 rfl ?_
        refine V.get d_F_ofTree_96 (ft_F_139 _ (hB0.kd hi8)) (co_t hT (by decide) hi8) rfl ?_
        refine V.iret d_F_ofTree_99 rfl (by omega) (by omega) ?_
        exact hOk i 3 hi hw7 rfl rfl
      · skip
        refine V.tabIn (tgt := 100) (off := 75) d_F_ofTree_25 (by decide +kernel) (by decide +kernel) (by decide +kernel) (by decide) ?_
        refine V.aload_n d_F_ofTree_100 rfl ?_
        refine V.get d_F_ofTree_101 (ft_F_142 _ (hB0.kd hi8)) (co_t hT (by decide) hi8) rfl ?_
        refine V.iret d_F_ofTree_104 rfl (by omega) (by omega) ?_
        exact hOk i 4 hi hw7 rfl rfl
      · skip
        refine V.tabIn (tgt := 105) (off := 80) d_F_ofTree_25 (by decide +kernel) (by decide +kernel) (by decide +kernel) (by decide) ?_
        refine V.aload_n d_F_ofTree_105 rfl ?_
        refine V.get d_F_ofTree_106 (ft_F_159 _ (hB0.kd hi8)) (co_t hT (by decide) hi8) rfl ?_
        refine V.if_eq (tgt := 116) d_F_ofTree_109 (by decide) (fun c_109 => ?_) (fun c_109 => ?_)
        · skip
          refine V.iconst_ (nI 0) d_F_ofTree_116 (by decide +kernel) ?_
          refine V.iret d_F_ofTree_117 rfl (by omega) (by omega) ?_
          have h5 := hOk i 5 hi hw7 rfl rfl
          obtain ⟨k6, b6, e6⟩ := hB0.k6 hi8
          have e6' : oft (W 0) i 5 = nI k6 := e6
          rw [e6'] at h5
          rw [e6] at c_109
          rcases (show k6 = 0 ∨ k6 = 1 by omega) with rfl | rfl
          · first | exact h5 | exact absurd rfl c_109
          · first | exact h5 | exact absurd c_109 (by decide)
        · skip
          refine V.iconst_ (nI 1) d_F_ofTree_112 (by decide +kernel) ?_
          refine V.goto (tgt := 117) d_F_ofTree_113 (by decide) ?_
          refine V.iret d_F_ofTree_117 rfl (by omega) (by omega) ?_
          have h5 := hOk i 5 hi hw7 rfl rfl
          obtain ⟨k6, b6, e6⟩ := hB0.k6 hi8
          have e6' : oft (W 0) i 5 = nI k6 := e6
          rw [e6'] at h5
          rw [e6] at c_109
          rcases (show k6 = 0 ∨ k6 = 1 by omega) with rfl | rfl
          · first | exact h5 | exact absurd rfl c_109
          · first | exact h5 | exact absurd c_109 (by decide)
      · skip
        refine V.tabIn (tgt := 118) (off := 93) d_F_ofTree_25 (by decide +kernel) (by decide +kernel) (by decide +kernel) (by decide) ?_
        refine V.aload_n d_F_ofTree_118 rfl ?_
        refine V.aload_n d_F_ofTree_119 rfl ?_
        refine V.get d_F_ofTree_120 f_F_39_F (co_s sc_ob) rfl ?_
        refine V.get d_F_ofTree_123 f_F_163_World (co_s (sc_wd (wb_ds 0 (by decide)).1)) rfl ?_
        refine vs_F_166 d_F_ofTree_126 rfl hT (w := 0) (by decide) hi8 (hB0.kd hi8) (Nat.le_of_ble_eq_true rfl) (by omega) (by omega) ?_
        refine V.iret d_F_ofTree_129 rfl (by omega) (by omega) ?_
        rw [lmv_lim hB0 hi8 hdy hd9]
        exact hOk i 6 hi hw7 rfl rfl
      · skip
        refine V.tabIn (tgt := 130) (off := 105) d_F_ofTree_25 (by decide +kernel) (by decide +kernel) (by decide +kernel) (by decide) ?_
        refine V.aload_n d_F_ofTree_130 rfl ?_
        refine vs_F_169 d_F_ofTree_131 rfl hT (w := 0) (by decide) hi8 (hB0.kd hi8) (Nat.le_of_ble_eq_true rfl) (by omega) (by omega) ?_
        refine V.iret d_F_ofTree_134 rfl (by omega) (by omega) ?_
        have h7 := hOk i 7 hi hw7 rfl rfl
        have e7 : oft (W 0) i 7 = rch (W 0) i := rfl
        rw [e7, (rcv_rch hB0 hi8).2.1] at h7
        rw [(rcv_rch hB0 hi8).1]
        exact h7
    · skip
      refine V.tabOut (tgt := 135) d_F_ofTree_25 (wi_out (k := 7) (by decide) (Bool.eq_false_iff.mpr hy)) (by decide) ?_
      refine V.aload_n d_F_ofTree_135 rfl ?_
      refine V.iconst_ (nI 1) d_F_ofTree_136 (by decide +kernel) ?_
      refine V.callV1 d_F_ofTree_137 k_F_97_F_error_FV (co_s sc_ob) (Nat.le_of_ble_eq_true rfl) (by omega) (by omega) (c_F_error (by decide) ?_)
      refine V.iret d_F_ofTree_140 rfl (by omega) (by omega) ?_
      exact hE (by rw [Bool.eq_false_iff.mpr hy, Bool.and_false])
  · skip
    refine V.aload_n d_F_ofTree_8 rfl ?_
    refine V.iconst_ (nI 1) d_F_ofTree_9 (by decide +kernel) ?_
    refine V.callV1 d_F_ofTree_10 k_F_97_F_error_FV (co_s sc_ob) (Nat.le_of_ble_eq_true rfl) (by omega) (by omega) (c_F_error (by decide) ?_)
    refine V.iret d_F_ofTree_13 rfl (by omega) (by omega) ?_
    rw [e0] at c_5
    exact hE (by rw [c_5, Bool.false_and])
theorem chg_f {x v : Int32} (h : ¬ ((x = nI 0 ∧ wi v (nI 0) (nI 15) = true) ∨ (x = nI 1 ∧ wi v (nI 0) (nI 99) = true) ∨ (x = nI 2 ∧ wi v (nI 0) (nI 1) = true))) : (wi x (nI 0) (nI 2) && wi v (nI 0) (chm x)) = false := by
  refine Bool.eq_false_iff.mpr (fun z => h ?_)
  rw [Bool.and_eq_true] at z
  obtain ⟨z1, z2⟩ := z
  obtain ⟨i, hi, rfl⟩ := wi_nat (k := 2) (by decide) z1
  rcases (show i = 0 ∨ i = 1 ∨ i = 2 by omega) with rfl | rfl | rfl
  · exact Or.inl ⟨rfl, z2⟩
  · exact Or.inr (Or.inl ⟨rfl, z2⟩)
  · exact Or.inr (Or.inr ⟨rfl, z2⟩)
abbrev M_F_change : MD := (⟨"FelledByNames", "change", "(III)I"⟩, prog_1_method_9_code, 6, (some .int), fun _ => True)
theorem d_F_change_0 : decode prog_1_method_9_code 0 = .ok (.aload_n 0, 1) := by decide +kernel
theorem d_F_change_1 : decode prog_1_method_9_code 1 = .ok (.iload_n 1, 1) := by decide +kernel
theorem d_F_change_2 : decode prog_1_method_9_code 2 = .ok (.invokevirtual 152, 3) := by decide +kernel
theorem d_F_change_5 : decode prog_1_method_9_code 5 = .ok (.ifCond .ne 9, 3) := by decide +kernel
theorem d_F_change_14 : decode prog_1_method_9_code 14 = .ok (.aload_n 0, 1) := by decide +kernel
theorem d_F_change_15 : decode prog_1_method_9_code 15 = .ok (.getfield 39, 3) := by decide +kernel
theorem d_F_change_18 : decode prog_1_method_9_code 18 = .ok (.getfield 145, 3) := by decide +kernel
theorem d_F_change_21 : decode prog_1_method_9_code 21 = .ok (.iload_n 1, 1) := by decide +kernel
theorem d_F_change_22 : decode prog_1_method_9_code 22 = .ok (.aaload, 1) := by decide +kernel
theorem d_F_change_23 : decode prog_1_method_9_code 23 = .ok (.astore 4, 2) := by decide +kernel
theorem d_F_change_25 : decode prog_1_method_9_code 25 = .ok (.iload_n 2, 1) := by decide +kernel
theorem d_F_change_26 : decode prog_1_method_9_code 26 = .ok (.ifCond .ne 28, 3) := by decide +kernel
theorem d_F_change_54 : decode prog_1_method_9_code 54 = .ok (.iload_n 2, 1) := by decide +kernel
theorem d_F_change_55 : decode prog_1_method_9_code 55 = .ok (.iconst 1, 1) := by decide +kernel
theorem d_F_change_56 : decode prog_1_method_9_code 56 = .ok (.if_icmp .ne 28, 3) := by decide +kernel
theorem d_F_change_84 : decode prog_1_method_9_code 84 = .ok (.iload_n 2, 1) := by decide +kernel
theorem d_F_change_85 : decode prog_1_method_9_code 85 = .ok (.iconst 2, 1) := by decide +kernel
theorem d_F_change_86 : decode prog_1_method_9_code 86 = .ok (.if_icmp .ne 44, 3) := by decide +kernel
theorem d_F_change_130 : decode prog_1_method_9_code 130 = .ok (.aload_n 0, 1) := by decide +kernel
theorem d_F_change_131 : decode prog_1_method_9_code 131 = .ok (.iconst 1, 1) := by decide +kernel
theorem d_F_change_132 : decode prog_1_method_9_code 132 = .ok (.invokevirtual 97, 3) := by decide +kernel
theorem d_F_change_135 : decode prog_1_method_9_code 135 = .ok (.ireturn, 1) := by decide +kernel
theorem d_F_change_89 : decode prog_1_method_9_code 89 = .ok (.iload_n 3, 1) := by decide +kernel
theorem d_F_change_90 : decode prog_1_method_9_code 90 = .ok (.iconst 1, 1) := by decide +kernel
theorem d_F_change_91 : decode prog_1_method_9_code 91 = .ok (.invokestatic 94, 3) := by decide +kernel
theorem d_F_change_94 : decode prog_1_method_9_code 94 = .ok (.ifCond .eq 36, 3) := by decide +kernel
theorem d_F_change_97 : decode prog_1_method_9_code 97 = .ok (.aload 4, 2) := by decide +kernel
theorem d_F_change_99 : decode prog_1_method_9_code 99 = .ok (.getfield 159, 3) := by decide +kernel
theorem d_F_change_102 : decode prog_1_method_9_code 102 = .ok (.ifCond .eq 7, 3) := by decide +kernel
theorem d_F_change_109 : decode prog_1_method_9_code 109 = .ok (.iconst 0, 1) := by decide +kernel
theorem d_F_change_110 : decode prog_1_method_9_code 110 = .ok (.istore 5, 2) := by decide +kernel
theorem d_F_change_112 : decode prog_1_method_9_code 112 = .ok (.aload 4, 2) := by decide +kernel
theorem d_F_change_114 : decode prog_1_method_9_code 114 = .ok (.iload_n 3, 1) := by decide +kernel
theorem d_F_change_115 : decode prog_1_method_9_code 115 = .ok (.iconst 1, 1) := by decide +kernel
theorem d_F_change_116 : decode prog_1_method_9_code 116 = .ok (.if_icmp .ne 7, 3) := by decide +kernel
theorem d_F_change_123 : decode prog_1_method_9_code 123 = .ok (.iconst 0, 1) := by decide +kernel
theorem d_F_change_124 : decode prog_1_method_9_code 124 = .ok (.putfield 159, 3) := by decide +kernel
theorem d_F_change_127 : decode prog_1_method_9_code 127 = .ok (.goto 9, 3) := by decide +kernel
theorem d_F_change_136 : decode prog_1_method_9_code 136 = .ok (.iload 5, 2) := by decide +kernel
theorem d_F_change_138 : decode prog_1_method_9_code 138 = .ok (.ireturn, 1) := by decide +kernel
theorem d_F_change_119 : decode prog_1_method_9_code 119 = .ok (.iconst 1, 1) := by decide +kernel
theorem d_F_change_120 : decode prog_1_method_9_code 120 = .ok (.goto 4, 3) := by decide +kernel
theorem d_F_change_105 : decode prog_1_method_9_code 105 = .ok (.iconst 1, 1) := by decide +kernel
theorem d_F_change_106 : decode prog_1_method_9_code 106 = .ok (.goto 4, 3) := by decide +kernel
theorem d_F_change_59 : decode prog_1_method_9_code 59 = .ok (.iload_n 3, 1) := by decide +kernel
theorem d_F_change_60 : decode prog_1_method_9_code 60 = .ok (.bipush 99, 2) := by decide +kernel
theorem d_F_change_62 : decode prog_1_method_9_code 62 = .ok (.invokestatic 94, 3) := by decide +kernel
theorem d_F_change_65 : decode prog_1_method_9_code 65 = .ok (.ifCond .eq 19, 3) := by decide +kernel
theorem d_F_change_68 : decode prog_1_method_9_code 68 = .ok (.aload 4, 2) := by decide +kernel
theorem d_F_change_70 : decode prog_1_method_9_code 70 = .ok (.getfield 142, 3) := by decide +kernel
theorem d_F_change_73 : decode prog_1_method_9_code 73 = .ok (.istore 5, 2) := by decide +kernel
theorem d_F_change_75 : decode prog_1_method_9_code 75 = .ok (.aload 4, 2) := by decide +kernel
theorem d_F_change_77 : decode prog_1_method_9_code 77 = .ok (.iload_n 3, 1) := by decide +kernel
theorem d_F_change_78 : decode prog_1_method_9_code 78 = .ok (.putfield 142, 3) := by decide +kernel
theorem d_F_change_81 : decode prog_1_method_9_code 81 = .ok (.goto 55, 3) := by decide +kernel
theorem d_F_change_29 : decode prog_1_method_9_code 29 = .ok (.iload_n 3, 1) := by decide +kernel
theorem d_F_change_30 : decode prog_1_method_9_code 30 = .ok (.bipush 15, 2) := by decide +kernel
theorem d_F_change_32 : decode prog_1_method_9_code 32 = .ok (.invokestatic 94, 3) := by decide +kernel
theorem d_F_change_35 : decode prog_1_method_9_code 35 = .ok (.ifCond .eq 19, 3) := by decide +kernel
theorem d_F_change_38 : decode prog_1_method_9_code 38 = .ok (.aload 4, 2) := by decide +kernel
theorem d_F_change_40 : decode prog_1_method_9_code 40 = .ok (.getfield 139, 3) := by decide +kernel
theorem d_F_change_43 : decode prog_1_method_9_code 43 = .ok (.istore 5, 2) := by decide +kernel
theorem d_F_change_45 : decode prog_1_method_9_code 45 = .ok (.aload 4, 2) := by decide +kernel
theorem d_F_change_47 : decode prog_1_method_9_code 47 = .ok (.iload_n 3, 1) := by decide +kernel
theorem d_F_change_48 : decode prog_1_method_9_code 48 = .ok (.putfield 139, 3) := by decide +kernel
theorem d_F_change_51 : decode prog_1_method_9_code 51 = .ok (.goto 85, 3) := by decide +kernel
theorem d_F_change_8 : decode prog_1_method_9_code 8 = .ok (.aload_n 0, 1) := by decide +kernel
theorem d_F_change_9 : decode prog_1_method_9_code 9 = .ok (.iconst 1, 1) := by decide +kernel
theorem d_F_change_10 : decode prog_1_method_9_code 10 = .ok (.invokevirtual 97, 3) := by decide +kernel
theorem d_F_change_13 : decode prog_1_method_9_code 13 = .ok (.ireturn, 1) := by decide +kernel
set_option maxRecDepth 100000 in
theorem c_F_change {N : Nat} {x y v : Int32} {l : Launch} {d n : Nat} {R W Z : Nat → Nat → Int32} {T : Nat → Nat → Nat} {kn : Kn} {h0 : HP} {Q : QT} (hN : N ≤ 8) (e0 : W 0 0 = nI N) (hT : TI T kn n) (hB0 : WB (W 0)) (hE : (wi x (nI 0) (nI N - nI 1) && wi y (nI 0) (nI 2) && wi v (nI 0) (chm y)) = false → Q (some (.int (-1000000000 - nI 1))) n (co (uA R 54 (upd (R 54) 1 (R 54 1 + nI 1))) W Z T kn h0)) (hOk : ∀ i w, i < N → w ≤ 2 → x = nI i → y = nI w → wi v (nI 0) (chm y) = true → Q (some (.int (W 0 (50 + 7 * i + (4 + w))))) n (co R (uW W 0 (upd (W 0) (50 + 7 * i + (4 + w)) v)) Z T kn h0)) : Ct l M_F_change (d + 2) 0 0 [.ref 0, .int x, .int y, .int v] n (co R W Z T kn h0) Q := by
  refine Ct.of (fun _ => trivial) (by decide) (Nat.le_of_ble_eq_true rfl) ?_
  refine V.aload_n d_F_change_0 rfl ?_
  refine V.iload_n d_F_change_1 rfl ?_
  refine V.callV1 d_F_change_2 k_F_152_F_isTree_FV (co_s sc_ob) (Nat.le_of_ble_eq_true rfl) (by omega) (by omega) (c_F_isTree ?_)
  refine V.ifneB (tgt := 14) d_F_change_5 (by decide) (fun c_5 => ?_) (fun c_5 => ?_)
  · skip
    rw [e0] at c_5
    obtain ⟨i, hi, rfl⟩ := tre_nat hN c_5
    have hi8 : i < 8 := by omega
    refine V.aload_n d_F_change_14 rfl ?_
    refine V.get d_F_change_15 f_F_39_F (co_s sc_ob) rfl ?_
    refine V.get d_F_change_18 f_F_145_World (co_s (sc_wd (wb_ds 0 (by decide)).1)) rfl ?_
    refine V.iload_n d_F_change_21 rfl ?_
    refine V.aald d_F_change_22 (Or.inl rfl) (co_s (sc_tr (wb_ds 0 (by decide)).2.2.2.1)) (vp_in_nI (by omega) (by omega)) (by rw [icl (by omega)]; exact if_pos (by omega)) ?_
    refine V.astore d_F_change_23 (by decide) ?_
    refine V.iload_n d_F_change_25 rfl ?_
    refine V.if_ne (tgt := 54) d_F_change_26 (by decide) (fun c_26 => ?_) (fun c_26 => ?_)
    · skip
      refine V.iload_n d_F_change_54 rfl ?_
      refine V.iconst_ (nI 1) d_F_change_55 (by decide +kernel) ?_
      refine V.icmp_ne (tgt := 84) d_F_change_56 (by decide) (fun c_56 => ?_) (fun c_56 => ?_)
      · skip
        refine V.iload_n d_F_change_84 rfl ?_
        refine V.iconst_ (nI 2) d_F_change_85 (by decide +kernel) ?_
        refine V.icmp_ne (tgt := 130) d_F_change_86 (by decide) (fun c_86 => ?_) (fun c_86 => ?_)
        · skip
          refine V.aload_n d_F_change_130 rfl ?_
          refine V.iconst_ (nI 1) d_F_change_131 (by decide +kernel) ?_
          refine V.callV1 d_F_change_132 k_F_97_F_error_FV (co_s sc_ob) (Nat.le_of_ble_eq_true rfl) (by omega) (by omega) (c_F_error (by decide) ?_)
          refine V.iret d_F_change_135 rfl (by omega) (by omega) ?_
          refine hE ?_
          rw [Bool.and_assoc, chg_f (fun z => ?_), Bool.and_false]
          rcases z with ⟨z1, z2⟩ | ⟨z1, z2⟩ | ⟨z1, z2⟩ <;> first | exact absurd z1 c_26 | exact absurd z1 c_56 | exact absurd z1 c_86 | exact absurd z2 (by rw [c_35]; decide) | exact absurd z2 (by rw [c_65]; decide) | exact absurd z2 (by rw [c_94]; decide)
        · skip
          refine V.iload_n d_F_change_89 rfl ?_
          refine V.iconst_ (nI 1) d_F_change_90 (by decide +kernel) ?_
          refine V.callS2 d_F_change_91 k_F_94_F_withinS (Nat.le_of_ble_eq_true rfl) (by omega) (by omega) (c_F_within ?_)
          refine V.ifeqB (tgt := 130) d_F_change_94 (by decide) (fun c_94 => ?_) (fun c_94 => ?_)
          · skip
            refine V.aload_n d_F_change_130 rfl ?_
            refine V.iconst_ (nI 1) d_F_change_131 (by decide +kernel) ?_
            refine V.callV1 d_F_change_132 k_F_97_F_error_FV (co_s sc_ob) (Nat.le_of_ble_eq_true rfl) (by omega) (by omega) (c_F_error (by decide) ?_)
            refine V.iret d_F_change_135 rfl (by omega) (by omega) ?_
            refine hE ?_
            rw [Bool.and_assoc, chg_f (fun z => ?_), Bool.and_false]
            rcases z with ⟨z1, z2⟩ | ⟨z1, z2⟩ | ⟨z1, z2⟩ <;> first | exact absurd z1 c_26 | exact absurd z1 c_56 | exact absurd z1 c_86 | exact absurd z2 (by rw [c_35]; decide) | exact absurd z2 (by rw [c_65]; decide) | exact absurd z2 (by rw [c_94]; decide)
          · skip
            refine V.aload d_F_change_97 rfl ?_
            refine V.get d_F_change_99 (ft_F_159 _ (hB0.kd hi8)) (co_t hT (by decide) hi8) rfl ?_
            refine V.if_eq (tgt := 109) d_F_change_102 (by decide) (fun c_102 => ?_) (fun c_102 => ?_)
            · skip
              refine V.iconst_ (nI 0) d_F_change_109 (by decide +kernel) ?_
              refine V.istore d_F_change_110 (by decide) ?_
              refine V.aload d_F_change_112 rfl ?_
              refine V.iload_n d_F_change_114 rfl ?_
              refine V.iconst_ (nI 1) d_F_change_115 (by decide +kernel) ?_
              refine V.icmp_ne (tgt := 123) d_F_change_116 (by decide) (fun c_116 => ?_) (fun c_116 => ?_)
              · skip
                refine V.iconst_ (nI 0) d_F_change_123 (by decide +kernel) ?_
                refine V.put d_F_change_124 (ft_F_159 _ (hB0.kd hi8)) (fpt_7 _ (hB0.kd hi8)) (fun _ => rfl) (fun _ => rfl) (co_t hT (by decide) hi8) (Nat.le_of_ble_eq_true rfl) ?_
                refine V.eqH (co_utr (k := 6) hT (by decide) hi8 (by decide) (by decide)) ?_
                refine V.goto (tgt := 136) d_F_change_127 (by decide) ?_
                refine V.iload d_F_change_136 rfl ?_
                refine V.iret d_F_change_138 rfl (by omega) (by omega) ?_
                have h2 := hOk i 2 hi (by omega) rfl c_86 (by rw [c_86]; exact c_94)
                obtain ⟨k6, b6, e6⟩ := hB0.k6 hi8
                have e6' : W 0 (50 + 7 * i + (4 + 2)) = nI k6 := e6
                rw [e6'] at h2
                rw [e6] at c_102
                obtain ⟨vk, bv, rfl⟩ := wi_nat (k := 1) (by decide) c_94
                rcases (show k6 = 0 ∨ k6 = 1 by omega) with rfl | rfl
                · rcases (show vk = 0 ∨ vk = 1 by omega) with rfl | rfl
                  · first | exact h2 | exact absurd rfl c_102 | exact absurd c_116 (by decide)
                  · first | exact h2 | exact absurd rfl c_102 | exact absurd rfl c_116
                · rcases (show vk = 0 ∨ vk = 1 by omega) with rfl | rfl
                  · first | exact h2 | exact absurd c_102 (by decide) | exact absurd c_116 (by decide)
                  · first | exact h2 | exact absurd c_102 (by decide) | exact absurd rfl c_116
              · skip
                refine V.iconst_ (nI 1) d_F_change_119 (by decide +kernel) ?_
                refine V.goto (tgt := 124) d_F_change_120 (by decide) ?_
                refine V.put d_F_change_124 (ft_F_159 _ (hB0.kd hi8)) (fpt_7 _ (hB0.kd hi8)) (fun _ => rfl) (fun _ => rfl) (co_t hT (by decide) hi8) (Nat.le_of_ble_eq_true rfl) ?_
                refine V.eqH (co_utr (k := 6) hT (by decide) hi8 (by decide) (by decide)) ?_
                refine V.goto (tgt := 136) d_F_change_127 (by decide) ?_
                refine V.iload d_F_change_136 rfl ?_
                refine V.iret d_F_change_138 rfl (by omega) (by omega) ?_
                have h2 := hOk i 2 hi (by omega) rfl c_86 (by rw [c_86]; exact c_94)
                obtain ⟨k6, b6, e6⟩ := hB0.k6 hi8
                have e6' : W 0 (50 + 7 * i + (4 + 2)) = nI k6 := e6
                rw [e6'] at h2
                rw [e6] at c_102
                obtain ⟨vk, bv, rfl⟩ := wi_nat (k := 1) (by decide) c_94
                rcases (show k6 = 0 ∨ k6 = 1 by omega) with rfl | rfl
                · rcases (show vk = 0 ∨ vk = 1 by omega) with rfl | rfl
                  · first | exact h2 | exact absurd rfl c_102 | exact absurd c_116 (by decide)
                  · first | exact h2 | exact absurd rfl c_102 | exact absurd rfl c_116
                · rcases (show vk = 0 ∨ vk = 1 by omega) with rfl | rfl
                  · first | exact h2 | exact absurd c_102 (by decide) | exact absurd c_116 (by decide)
                  · first | exact h2 | exact absurd c_102 (by decide) | exact absurd rfl c_116
            · skip
              refine V.iconst_ (nI 1) d_F_change_105 (by decide +kernel) ?_
              refine V.goto (tgt := 110) d_F_change_106 (by decide) ?_
              refine V.istore d_F_change_110 (by decide) ?_
              refine V.aload d_F_change_112 rfl ?_
              refine V.iload_n d_F_change_114 rfl ?_
              refine V.iconst_ (nI 1) d_F_change_115 (by decide +kernel) ?_
              refine V.icmp_ne (tgt := 123) d_F_change_116 (by decide) (fun c_116 => ?_) (fun c_116 => ?_)
              · skip
                refine V.iconst_ (nI 0) d_F_change_123 (by decide +kernel) ?_
                refine V.put d_F_change_124 (ft_F_159 _ (hB0.kd hi8)) (fpt_7 _ (hB0.kd hi8)) (fun _ => rfl) (fun _ => rfl) (co_t hT (by decide) hi8) (Nat.le_of_ble_eq_true rfl) ?_
                refine V.eqH (co_utr (k := 6) hT (by decide) hi8 (by decide) (by decide)) ?_
                refine V.goto (tgt := 136) d_F_change_127 (by decide) ?_
                refine V.iload d_F_change_136 rfl ?_
                refine V.iret d_F_change_138 rfl (by omega) (by omega) ?_
                have h2 := hOk i 2 hi (by omega) rfl c_86 (by rw [c_86]; exact c_94)
                obtain ⟨k6, b6, e6⟩ := hB0.k6 hi8
                have e6' : W 0 (50 + 7 * i + (4 + 2)) = nI k6 := e6
                rw [e6'] at h2
                rw [e6] at c_102
                obtain ⟨vk, bv, rfl⟩ := wi_nat (k := 1) (by decide) c_94
                rcases (show k6 = 0 ∨ k6 = 1 by omega) with rfl | rfl
                · rcases (show vk = 0 ∨ vk = 1 by omega) with rfl | rfl
                  · first | exact h2 | exact absurd rfl c_102 | exact absurd c_116 (by decide)
                  · first | exact h2 | exact absurd rfl c_102 | exact absurd rfl c_116
                · rcases (show vk = 0 ∨ vk = 1 by omega) with rfl | rfl
                  · first | exact h2 | exact absurd c_102 (by decide) | exact absurd c_116 (by decide)
                  · first | exact h2 | exact absurd c_102 (by decide) | exact absurd rfl c_116
              · skip
                refine V.iconst_ (nI 1) d_F_change_119 (by decide +kernel) ?_
                refine V.goto (tgt := 124) d_F_change_120 (by decide) ?_
                refine V.put d_F_change_124 (ft_F_159 _ (hB0.kd hi8)) (fpt_7 _ (hB0.kd hi8)) (fun _ => rfl) (fun _ => rfl) (co_t hT (by decide) hi8) (Nat.le_of_ble_eq_true rfl) ?_
                refine V.eqH (co_utr (k := 6) hT (by decide) hi8 (by decide) (by decide)) ?_
                refine V.goto (tgt := 136) d_F_change_127 (by decide) ?_
                refine V.iload d_F_change_136 rfl ?_
                refine V.iret d_F_change_138 rfl (by omega) (by omega) ?_
                have h2 := hOk i 2 hi (by omega) rfl c_86 (by rw [c_86]; exact c_94)
                obtain ⟨k6, b6, e6⟩ := hB0.k6 hi8
                have e6' : W 0 (50 + 7 * i + (4 + 2)) = nI k6 := e6
                rw [e6'] at h2
                rw [e6] at c_102
                obtain ⟨vk, bv, rfl⟩ := wi_nat (k := 1) (by decide) c_94
                rcases (show k6 = 0 ∨ k6 = 1 by omega) with rfl | rfl
                · rcases (show vk = 0 ∨ vk = 1 by omega) with rfl | rfl
                  · first | exact h2 | exact absurd rfl c_102 | exact absurd c_116 (by decide)
                  · first | exact h2 | exact absurd rfl c_102 | exact absurd rfl c_116
                · rcases (show vk = 0 ∨ vk = 1 by omega) with rfl | rfl
                  · first | exact h2 | exact absurd c_102 (by decide) | exact absurd c_116 (by decide)
                  · first | exact h2 | exact absurd c_102 (by decide) | exact absurd rfl c_116
      · skip
        refine V.iload_n d_F_change_59 rfl ?_
        refine V.bipush_ (nI 99) d_F_change_60 (by decide +kernel) ?_
        refine V.callS2 d_F_change_62 k_F_94_F_withinS (Nat.le_of_ble_eq_true rfl) (by omega) (by omega) (c_F_within ?_)
        refine V.ifeqB (tgt := 84) d_F_change_65 (by decide) (fun c_65 => ?_) (fun c_65 => ?_)
        · skip
          refine V.iload_n d_F_change_84 rfl ?_
          refine V.iconst_ (nI 2) d_F_change_85 (by decide +kernel) ?_
          refine V.icmp_ne (tgt := 130) d_F_change_86 (by decide) (fun c_86 => ?_) (fun c_86 => ?_)
          · skip
            refine V.aload_n d_F_change_130 rfl ?_
            refine V.iconst_ (nI 1) d_F_change_131 (by decide +kernel) ?_
            refine V.callV1 d_F_change_132 k_F_97_F_error_FV (co_s sc_ob) (Nat.le_of_ble_eq_true rfl) (by omega) (by omega) (c_F_error (by decide) ?_)
            refine V.iret d_F_change_135 rfl (by omega) (by omega) ?_
            refine hE ?_
            rw [Bool.and_assoc, chg_f (fun z => ?_), Bool.and_false]
            rcases z with ⟨z1, z2⟩ | ⟨z1, z2⟩ | ⟨z1, z2⟩ <;> first | exact absurd z1 c_26 | exact absurd z1 c_56 | exact absurd z1 c_86 | exact absurd z2 (by rw [c_35]; decide) | exact absurd z2 (by rw [c_65]; decide) | exact absurd z2 (by rw [c_94]; decide)
          · skip
            refine V.iload_n d_F_change_89 rfl ?_
            refine V.iconst_ (nI 1) d_F_change_90 (by decide +kernel) ?_
            refine V.callS2 d_F_change_91 k_F_94_F_withinS (Nat.le_of_ble_eq_true rfl) (by omega) (by omega) (c_F_within ?_)
            refine V.ifeqB (tgt := 130) d_F_change_94 (by decide) (fun c_94 => ?_) (fun c_94 => ?_)
            · skip
              refine V.aload_n d_F_change_130 rfl ?_
              refine V.iconst_ (nI 1) d_F_change_131 (by decide +kernel) ?_
              refine V.callV1 d_F_change_132 k_F_97_F_error_FV (co_s sc_ob) (Nat.le_of_ble_eq_true rfl) (by omega) (by omega) (c_F_error (by decide) ?_)
              refine V.iret d_F_change_135 rfl (by omega) (by omega) ?_
              refine hE ?_
              rw [Bool.and_assoc, chg_f (fun z => ?_), Bool.and_false]
              rcases z with ⟨z1, z2⟩ | ⟨z1, z2⟩ | ⟨z1, z2⟩ <;> first | exact absurd z1 c_26 | exact absurd z1 c_56 | exact absurd z1 c_86 | exact absurd z2 (by rw [c_35]; decide) | exact absurd z2 (by rw [c_65]; decide) | exact absurd z2 (by rw [c_94]; decide)
            · skip
              refine V.aload d_F_change_97 rfl ?_
              refine V.get d_F_change_99 (ft_F_159 _ (hB0.kd hi8)) (co_t hT (by decide) hi8) rfl ?_
              refine V.if_eq (tgt := 109) d_F_change_102 (by decide) (fun c_102 => ?_) (fun c_102 => ?_)
              · skip
                refine V.iconst_ (nI 0) d_F_change_109 (by decide +kernel) ?_
                refine V.istore d_F_change_110 (by decide) ?_
                refine V.aload d_F_change_112 rfl ?_
                refine V.iload_n d_F_change_114 rfl ?_
                refine V.iconst_ (nI 1) d_F_change_115 (by decide +kernel) ?_
                refine V.icmp_ne (tgt := 123) d_F_change_116 (by decide) (fun c_116 => ?_) (fun c_116 => ?_)
                · skip
                  refine V.iconst_ (nI 0) d_F_change_123 (by decide +kernel) ?_
                  refine V.put d_F_change_124 (ft_F_159 _ (hB0.kd hi8)) (fpt_7 _ (hB0.kd hi8)) (fun _ => rfl) (fun _ => rfl) (co_t hT (by decide) hi8) (Nat.le_of_ble_eq_true rfl) ?_
                  refine V.eqH (co_utr (k := 6) hT (by decide) hi8 (by decide) (by decide)) ?_
                  refine V.goto (tgt := 136) d_F_change_127 (by decide) ?_
                  refine V.iload d_F_change_136 rfl ?_
                  refine V.iret d_F_change_138 rfl (by omega) (by omega) ?_
                  have h2 := hOk i 2 hi (by omega) rfl c_86 (by rw [c_86]; exact c_94)
                  obtain ⟨k6, b6, e6⟩ := hB0.k6 hi8
                  have e6' : W 0 (50 + 7 * i + (4 + 2)) = nI k6 := e6
                  rw [e6'] at h2
                  rw [e6] at c_102
                  obtain ⟨vk, bv, rfl⟩ := wi_nat (k := 1) (by decide) c_94
                  rcases (show k6 = 0 ∨ k6 = 1 by omega) with rfl | rfl
                  · rcases (show vk = 0 ∨ vk = 1 by omega) with rfl | rfl
                    · first | exact h2 | exact absurd rfl c_102 | exact absurd c_116 (by decide)
                    · first | exact h2 | exact absurd rfl c_102 | exact absurd rfl c_116
                  · rcases (show vk = 0 ∨ vk = 1 by omega) with rfl | rfl
                    · first | exact h2 | exact absurd c_102 (by decide) | exact absurd c_116 (by decide)
                    · first | exact h2 | exact absurd c_102 (by decide) | exact absurd rfl c_116
                · skip
                  refine V.iconst_ (nI 1) d_F_change_119 (by decide +kernel) ?_
                  refine V.goto (tgt := 124) d_F_change_120 (by decide) ?_
                  refine V.put d_F_change_124 (ft_F_159 _ (hB0.kd hi8)) (fpt_7 _ (hB0.kd hi8)) (fun _ => rfl) (fun _ => rfl) (co_t hT (by decide) hi8) (Nat.le_of_ble_eq_true rfl) ?_
                  refine V.eqH (co_utr (k := 6) hT (by decide) hi8 (by decide) (by decide)) ?_
                  refine V.goto (tgt := 136) d_F_change_127 (by decide) ?_
                  refine V.iload d_F_change_136 rfl ?_
                  refine V.iret d_F_change_138 rfl (by omega) (by omega) ?_
                  have h2 := hOk i 2 hi (by omega) rfl c_86 (by rw [c_86]; exact c_94)
                  obtain ⟨k6, b6, e6⟩ := hB0.k6 hi8
                  have e6' : W 0 (50 + 7 * i + (4 + 2)) = nI k6 := e6
                  rw [e6'] at h2
                  rw [e6] at c_102
                  obtain ⟨vk, bv, rfl⟩ := wi_nat (k := 1) (by decide) c_94
                  rcases (show k6 = 0 ∨ k6 = 1 by omega) with rfl | rfl
                  · rcases (show vk = 0 ∨ vk = 1 by omega) with rfl | rfl
                    · first | exact h2 | exact absurd rfl c_102 | exact absurd c_116 (by decide)
                    · first | exact h2 | exact absurd rfl c_102 | exact absurd rfl c_116
                  · rcases (show vk = 0 ∨ vk = 1 by omega) with rfl | rfl
                    · first | exact h2 | exact absurd c_102 (by decide) | exact absurd c_116 (by decide)
                    · first | exact h2 | exact absurd c_102 (by decide) | exact absurd rfl c_116
              · skip
                refine V.iconst_ (nI 1) d_F_change_105 (by decide +kernel) ?_
                refine V.goto (tgt := 110) d_F_change_106 (by decide) ?_
                refine V.istore d_F_change_110 (by decide) ?_
                refine V.aload d_F_change_112 rfl ?_
                refine V.iload_n d_F_change_114 rfl ?_
                refine V.iconst_ (nI 1) d_F_change_115 (by decide +kernel) ?_
                refine V.icmp_ne (tgt := 123) d_F_change_116 (by decide) (fun c_116 => ?_) (fun c_116 => ?_)
                · skip
                  refine V.iconst_ (nI 0) d_F_change_123 (by decide +kernel) ?_
                  refine V.put d_F_change_124 (ft_F_159 _ (hB0.kd hi8)) (fpt_7 _ (hB0.kd hi8)) (fun _ => rfl) (fun _ => rfl) (co_t hT (by decide) hi8) (Nat.le_of_ble_eq_true rfl) ?_
                  refine V.eqH (co_utr (k := 6) hT (by decide) hi8 (by decide) (by decide)) ?_
                  refine V.goto (tgt := 136) d_F_change_127 (by decide) ?_
                  refine V.iload d_F_change_136 rfl ?_
                  refine V.iret d_F_change_138 rfl (by omega) (by omega) ?_
                  have h2 := hOk i 2 hi (by omega) rfl c_86 (by rw [c_86]; exact c_94)
                  obtain ⟨k6, b6, e6⟩ := hB0.k6 hi8
                  have e6' : W 0 (50 + 7 * i + (4 + 2)) = nI k6 := e6
                  rw [e6'] at h2
                  rw [e6] at c_102
                  obtain ⟨vk, bv, rfl⟩ := wi_nat (k := 1) (by decide) c_94
                  rcases (show k6 = 0 ∨ k6 = 1 by omega) with rfl | rfl
                  · rcases (show vk = 0 ∨ vk = 1 by omega) with rfl | rfl
                    · first | exact h2 | exact absurd rfl c_102 | exact absurd c_116 (by decide)
                    · first | exact h2 | exact absurd rfl c_102 | exact absurd rfl c_116
                  · rcases (show vk = 0 ∨ vk = 1 by omega) with rfl | rfl
                    · first | exact h2 | exact absurd c_102 (by decide) | exact absurd c_116 (by decide)
                    · first | exact h2 | exact absurd c_102 (by decide) | exact absurd rfl c_116
                · skip
                  refine V.iconst_ (nI 1) d_F_change_119 (by decide +kernel) ?_
                  refine V.goto (tgt := 124) d_F_change_120 (by decide) ?_
                  refine V.put d_F_change_124 (ft_F_159 _ (hB0.kd hi8)) (fpt_7 _ (hB0.kd hi8)) (fun _ => rfl) (fun _ => rfl) (co_t hT (by decide) hi8) (Nat.le_of_ble_eq_true rfl) ?_
                  refine V.eqH (co_utr (k := 6) hT (by decide) hi8 (by decide) (by decide)) ?_
                  refine V.goto (tgt := 136) d_F_change_127 (by decide) ?_
                  refine V.iload d_F_change_136 rfl ?_
                  refine V.iret d_F_change_138 rfl (by omega) (by omega) ?_
                  have h2 := hOk i 2 hi (by omega) rfl c_86 (by rw [c_86]; exact c_94)
                  obtain ⟨k6, b6, e6⟩ := hB0.k6 hi8
                  have e6' : W 0 (50 + 7 * i + (4 + 2)) = nI k6 := e6
                  rw [e6'] at h2
                  rw [e6] at c_102
                  obtain ⟨vk, bv, rfl⟩ := wi_nat (k := 1) (by decide) c_94
                  rcases (show k6 = 0 ∨ k6 = 1 by omega) with rfl | rfl
                  · rcases (show vk = 0 ∨ vk = 1 by omega) with rfl | rfl
                    · first | exact h2 | exact absurd rfl c_102 | exact absurd c_116 (by decide)
                    · first | exact h2 | exact absurd rfl c_102 | exact absurd rfl c_116
                  · rcases (show vk = 0 ∨ vk = 1 by omega) with rfl | rfl
                    · first | exact h2 | exact absurd c_102 (by decide) | exact absurd c_116 (by decide)
                    · first | exact h2 | exact absurd c_102 (by decide) | exact absurd rfl c_116
        · skip
          refine V.aload d_F_change_68 rfl ?_
          refine V.get d_F_change_70 (ft_F_142 _ (hB0.kd hi8)) (co_t hT (by decide) hi8) rfl ?_
          refine V.istore d_F_change_73 (by decide) ?_
          refine V.aload d_F_change_75 rfl ?_
          refine V.iload_n d_F_change_77 rfl ?_
          refine V.put d_F_change_78 (ft_F_142 _ (hB0.kd hi8)) (fpt_6 _ (hB0.kd hi8)) (fun _ => rfl) (fun _ => rfl) (co_t hT (by decide) hi8) (Nat.le_of_ble_eq_true rfl) ?_
          refine V.eqH (co_utr (k := 5) hT (by decide) hi8 (by decide) (by decide)) ?_
          refine V.goto (tgt := 136) d_F_change_81 (by decide) ?_
          refine V.iload d_F_change_136 rfl ?_
          refine V.iret d_F_change_138 rfl (by omega) (by omega) ?_
          exact hOk i 1 hi (by omega) rfl c_56 (by rw [c_56]; exact c_65)
    · skip
      refine V.iload_n d_F_change_29 rfl ?_
      refine V.bipush_ (nI 15) d_F_change_30 (by decide +kernel) ?_
      refine V.callS2 d_F_change_32 k_F_94_F_withinS (Nat.le_of_ble_eq_true rfl) (by omega) (by omega) (c_F_within ?_)
      refine V.ifeqB (tgt := 54) d_F_change_35 (by decide) (fun c_35 => ?_) (fun c_35 => ?_)
      · skip
        refine V.iload_n d_F_change_54 rfl ?_
        refine V.iconst_ (nI 1) d_F_change_55 (by decide +kernel) ?_
        refine V.icmp_ne (tgt := 84) d_F_change_56 (by decide) (fun c_56 => ?_) (fun c_56 => ?_)
        · skip
          refine V.iload_n d_F_change_84 rfl ?_
          refine V.iconst_ (nI 2) d_F_change_85 (by decide +kernel) ?_
          refine V.icmp_ne (tgt := 130) d_F_change_86 (by decide) (fun c_86 => ?_) (fun c_86 => ?_)
          · skip
            refine V.aload_n d_F_change_130 rfl ?_
            refine V.iconst_ (nI 1) d_F_change_131 (by decide +kernel) ?_
            refine V.callV1 d_F_change_132 k_F_97_F_error_FV (co_s sc_ob) (Nat.le_of_ble_eq_true rfl) (by omega) (by omega) (c_F_error (by decide) ?_)
            refine V.iret d_F_change_135 rfl (by omega) (by omega) ?_
            refine hE ?_
            rw [Bool.and_assoc, chg_f (fun z => ?_), Bool.and_false]
            rcases z with ⟨z1, z2⟩ | ⟨z1, z2⟩ | ⟨z1, z2⟩ <;> first | exact absurd z1 c_26 | exact absurd z1 c_56 | exact absurd z1 c_86 | exact absurd z2 (by rw [c_35]; decide) | exact absurd z2 (by rw [c_65]; decide) | exact absurd z2 (by rw [c_94]; decide)
          · skip
            refine V.iload_n d_F_change_89 rfl ?_
            refine V.iconst_ (nI 1) d_F_change_90 (by decide +kernel) ?_
            refine V.callS2 d_F_change_91 k_F_94_F_withinS (Nat.le_of_ble_eq_true rfl) (by omega) (by omega) (c_F_within ?_)
            refine V.ifeqB (tgt := 130) d_F_change_94 (by decide) (fun c_94 => ?_) (fun c_94 => ?_)
            · skip
              refine V.aload_n d_F_change_130 rfl ?_
              refine V.iconst_ (nI 1) d_F_change_131 (by decide +kernel) ?_
              refine V.callV1 d_F_change_132 k_F_97_F_error_FV (co_s sc_ob) (Nat.le_of_ble_eq_true rfl) (by omega) (by omega) (c_F_error (by decide) ?_)
              refine V.iret d_F_change_135 rfl (by omega) (by omega) ?_
              refine hE ?_
              rw [Bool.and_assoc, chg_f (fun z => ?_), Bool.and_false]
              rcases z with ⟨z1, z2⟩ | ⟨z1, z2⟩ | ⟨z1, z2⟩ <;> first | exact absurd z1 c_26 | exact absurd z1 c_56 | exact absurd z1 c_86 | exact absurd z2 (by rw [c_35]; decide) | exact absurd z2 (by rw [c_65]; decide) | exact absurd z2 (by rw [c_94]; decide)
            · skip
              refine V.aload d_F_change_97 rfl ?_
              refine V.get d_F_change_99 (ft_F_159 _ (hB0.kd hi8)) (co_t hT (by decide) hi8) rfl ?_
              refine V.if_eq (tgt := 109) d_F_change_102 (by decide) (fun c_102 => ?_) (fun c_102 => ?_)
              · skip
                refine V.iconst_ (nI 0) d_F_change_109 (by decide +kernel) ?_
                refine V.istore d_F_change_110 (by decide) ?_
                refine V.aload d_F_change_112 rfl ?_
                refine V.iload_n d_F_change_114 rfl ?_
                refine V.iconst_ (nI 1) d_F_change_115 (by decide +kernel) ?_
                refine V.icmp_ne (tgt := 123) d_F_change_116 (by decide) (fun c_116 => ?_) (fun c_116 => ?_)
                · skip
                  refine V.iconst_ (nI 0) d_F_change_123 (by decide +kernel) ?_
                  refine V.put d_F_change_124 (ft_F_159 _ (hB0.kd hi8)) (fpt_7 _ (hB0.kd hi8)) (fun _ => rfl) (fun _ => rfl) (co_t hT (by decide) hi8) (Nat.le_of_ble_eq_true rfl) ?_
                  refine V.eqH (co_utr (k := 6) hT (by decide) hi8 (by decide) (by decide)) ?_
                  refine V.goto (tgt := 136) d_F_change_127 (by decide) ?_
                  refine V.iload d_F_change_136 rfl ?_
                  refine V.iret d_F_change_138 rfl (by omega) (by omega) ?_
                  have h2 := hOk i 2 hi (by omega) rfl c_86 (by rw [c_86]; exact c_94)
                  obtain ⟨k6, b6, e6⟩ := hB0.k6 hi8
                  have e6' : W 0 (50 + 7 * i + (4 + 2)) = nI k6 := e6
                  rw [e6'] at h2
                  rw [e6] at c_102
                  obtain ⟨vk, bv, rfl⟩ := wi_nat (k := 1) (by decide) c_94
                  rcases (show k6 = 0 ∨ k6 = 1 by omega) with rfl | rfl
                  · rcases (show vk = 0 ∨ vk = 1 by omega) with rfl | rfl
                    · first | exact h2 | exact absurd rfl c_102 | exact absurd c_116 (by decide)
                    · first | exact h2 | exact absurd rfl c_102 | exact absurd rfl c_116
                  · rcases (show vk = 0 ∨ vk = 1 by omega) with rfl | rfl
                    · first | exact h2 | exact absurd c_102 (by decide) | exact absurd c_116 (by decide)
                    · first | exact h2 | exact absurd c_102 (by decide) | exact absurd rfl c_116
                · skip
                  refine V.iconst_ (nI 1) d_F_change_119 (by decide +kernel) ?_
                  refine V.goto (tgt := 124) d_F_change_120 (by decide) ?_
                  refine V.put d_F_change_124 (ft_F_159 _ (hB0.kd hi8)) (fpt_7 _ (hB0.kd hi8)) (fun _ => rfl) (fun _ => rfl) (co_t hT (by decide) hi8) (Nat.le_of_ble_eq_true rfl) ?_
                  refine V.eqH (co_utr (k := 6) hT (by decide) hi8 (by decide) (by decide)) ?_
                  refine V.goto (tgt := 136) d_F_change_127 (by decide) ?_
                  refine V.iload d_F_change_136 rfl ?_
                  refine V.iret d_F_change_138 rfl (by omega) (by omega) ?_
                  have h2 := hOk i 2 hi (by omega) rfl c_86 (by rw [c_86]; exact c_94)
                  obtain ⟨k6, b6, e6⟩ := hB0.k6 hi8
                  have e6' : W 0 (50 + 7 * i + (4 + 2)) = nI k6 := e6
                  rw [e6'] at h2
                  rw [e6] at c_102
                  obtain ⟨vk, bv, rfl⟩ := wi_nat (k := 1) (by decide) c_94
                  rcases (show k6 = 0 ∨ k6 = 1 by omega) with rfl | rfl
                  · rcases (show vk = 0 ∨ vk = 1 by omega) with rfl | rfl
                    · first | exact h2 | exact absurd rfl c_102 | exact absurd c_116 (by decide)
                    · first | exact h2 | exact absurd rfl c_102 | exact absurd rfl c_116
                  · rcases (show vk = 0 ∨ vk = 1 by omega) with rfl | rfl
                    · first | exact h2 | exact absurd c_102 (by decide) | exact absurd c_116 (by decide)
                    · first | exact h2 | exact absurd c_102 (by decide) | exact absurd rfl c_116
              · skip
                refine V.iconst_ (nI 1) d_F_change_105 (by decide +kernel) ?_
                refine V.goto (tgt := 110) d_F_change_106 (by decide) ?_
                refine V.istore d_F_change_110 (by decide) ?_
                refine V.aload d_F_change_112 rfl ?_
                refine V.iload_n d_F_change_114 rfl ?_
                refine V.iconst_ (nI 1) d_F_change_115 (by decide +kernel) ?_
                refine V.icmp_ne (tgt := 123) d_F_change_116 (by decide) (fun c_116 => ?_) (fun c_116 => ?_)
                · skip
                  refine V.iconst_ (nI 0) d_F_change_123 (by decide +kernel) ?_
                  refine V.put d_F_change_124 (ft_F_159 _ (hB0.kd hi8)) (fpt_7 _ (hB0.kd hi8)) (fun _ => rfl) (fun _ => rfl) (co_t hT (by decide) hi8) (Nat.le_of_ble_eq_true rfl) ?_
                  refine V.eqH (co_utr (k := 6) hT (by decide) hi8 (by decide) (by decide)) ?_
                  refine V.goto (tgt := 136) d_F_change_127 (by decide) ?_
                  refine V.iload d_F_change_136 rfl ?_
                  refine V.iret d_F_change_138 rfl (by omega) (by omega) ?_
                  have h2 := hOk i 2 hi (by omega) rfl c_86 (by rw [c_86]; exact c_94)
                  obtain ⟨k6, b6, e6⟩ := hB0.k6 hi8
                  have e6' : W 0 (50 + 7 * i + (4 + 2)) = nI k6 := e6
                  rw [e6'] at h2
                  rw [e6] at c_102
                  obtain ⟨vk, bv, rfl⟩ := wi_nat (k := 1) (by decide) c_94
                  rcases (show k6 = 0 ∨ k6 = 1 by omega) with rfl | rfl
                  · rcases (show vk = 0 ∨ vk = 1 by omega) with rfl | rfl
                    · first | exact h2 | exact absurd rfl c_102 | exact absurd c_116 (by decide)
                    · first | exact h2 | exact absurd rfl c_102 | exact absurd rfl c_116
                  · rcases (show vk = 0 ∨ vk = 1 by omega) with rfl | rfl
                    · first | exact h2 | exact absurd c_102 (by decide) | exact absurd c_116 (by decide)
                    · first | exact h2 | exact absurd c_102 (by decide) | exact absurd rfl c_116
                · skip
                  refine V.iconst_ (nI 1) d_F_change_119 (by decide +kernel) ?_
                  refine V.goto (tgt := 124) d_F_change_120 (by decide) ?_
                  refine V.put d_F_change_124 (ft_F_159 _ (hB0.kd hi8)) (fpt_7 _ (hB0.kd hi8)) (fun _ => rfl) (fun _ => rfl) (co_t hT (by decide) hi8) (Nat.le_of_ble_eq_true rfl) ?_
                  refine V.eqH (co_utr (k := 6) hT (by decide) hi8 (by decide) (by decide)) ?_
                  refine V.goto (tgt := 136) d_F_change_127 (by decide) ?_
                  refine V.iload d_F_change_136 rfl ?_
                  refine V.iret d_F_change_138 rfl (by omega) (by omega) ?_
                  have h2 := hOk i 2 hi (by omega) rfl c_86 (by rw [c_86]; exact c_94)
                  obtain ⟨k6, b6, e6⟩ := hB0.k6 hi8
                  have e6' : W 0 (50 + 7 * i + (4 + 2)) = nI k6 := e6
                  rw [e6'] at h2
                  rw [e6] at c_102
                  obtain ⟨vk, bv, rfl⟩ := wi_nat (k := 1) (by decide) c_94
                  rcases (show k6 = 0 ∨ k6 = 1 by omega) with rfl | rfl
                  · rcases (show vk = 0 ∨ vk = 1 by omega) with rfl | rfl
                    · first | exact h2 | exact absurd rfl c_102 | exact absurd c_116 (by decide)
                    · first | exact h2 | exact absurd rfl c_102 | exact absurd rfl c_116
                  · rcases (show vk = 0 ∨ vk = 1 by omega) with rfl | rfl
                    · first | exact h2 | exact absurd c_102 (by decide) | exact absurd c_116 (by decide)
                    · first | exact h2 | exact absurd c_102 (by decide) | exact absurd rfl c_116
        · skip
          refine V.iload_n d_F_change_59 rfl ?_
          refine V.bipush_ (nI 99) d_F_change_60 (by decide +kernel) ?_
          refine V.callS2 d_F_change_62 k_F_94_F_withinS (Nat.le_of_ble_eq_true rfl) (by omega) (by omega) (c_F_within ?_)
          refine V.ifeqB (tgt := 84) d_F_change_65 (by decide) (fun c_65 => ?_) (fun c_65 => ?_)
          · skip
            refine V.iload_n d_F_change_84 rfl ?_
            refine V.iconst_ (nI 2) d_F_change_85 (by decide +kernel) ?_
            refine V.icmp_ne (tgt := 130) d_F_change_86 (by decide) (fun c_86 => ?_) (fun c_86 => ?_)
            · skip
              refine V.aload_n d_F_change_130 rfl ?_
              refine V.iconst_ (nI 1) d_F_change_131 (by decide +kernel) ?_
              refine V.callV1 d_F_change_132 k_F_97_F_error_FV (co_s sc_ob) (Nat.le_of_ble_eq_true rfl) (by omega) (by omega) (c_F_error (by decide) ?_)
              refine V.iret d_F_change_135 rfl (by omega) (by omega) ?_
              refine hE ?_
              rw [Bool.and_assoc, chg_f (fun z => ?_), Bool.and_false]
              rcases z with ⟨z1, z2⟩ | ⟨z1, z2⟩ | ⟨z1, z2⟩ <;> first | exact absurd z1 c_26 | exact absurd z1 c_56 | exact absurd z1 c_86 | exact absurd z2 (by rw [c_35]; decide) | exact absurd z2 (by rw [c_65]; decide) | exact absurd z2 (by rw [c_94]; decide)
            · skip
              refine V.iload_n d_F_change_89 rfl ?_
              refine V.iconst_ (nI 1) d_F_change_90 (by decide +kernel) ?_
              refine V.callS2 d_F_change_91 k_F_94_F_withinS (Nat.le_of_ble_eq_true rfl) (by omega) (by omega) (c_F_within ?_)
              refine V.ifeqB (tgt := 130) d_F_change_94 (by decide) (fun c_94 => ?_) (fun c_94 => ?_)
              · skip
                refine V.aload_n d_F_change_130 rfl ?_
                refine V.iconst_ (nI 1) d_F_change_131 (by decide +kernel) ?_
                refine V.callV1 d_F_change_132 k_F_97_F_error_FV (co_s sc_ob) (Nat.le_of_ble_eq_true rfl) (by omega) (by omega) (c_F_error (by decide) ?_)
                refine V.iret d_F_change_135 rfl (by omega) (by omega) ?_
                refine hE ?_
                rw [Bool.and_assoc, chg_f (fun z => ?_), Bool.and_false]
                rcases z with ⟨z1, z2⟩ | ⟨z1, z2⟩ | ⟨z1, z2⟩ <;> first | exact absurd z1 c_26 | exact absurd z1 c_56 | exact absurd z1 c_86 | exact absurd z2 (by rw [c_35]; decide) | exact absurd z2 (by rw [c_65]; decide) | exact absurd z2 (by rw [c_94]; decide)
              · skip
                refine V.aload d_F_change_97 rfl ?_
                refine V.get d_F_change_99 (ft_F_159 _ (hB0.kd hi8)) (co_t hT (by decide) hi8) rfl ?_
                refine V.if_eq (tgt := 109) d_F_change_102 (by decide) (fun c_102 => ?_) (fun c_102 => ?_)
                · skip
                  refine V.iconst_ (nI 0) d_F_change_109 (by decide +kernel) ?_
                  refine V.istore d_F_change_110 (by decide) ?_
                  refine V.aload d_F_change_112 rfl ?_
                  refine V.iload_n d_F_change_114 rfl ?_
                  refine V.iconst_ (nI 1) d_F_change_115 (by decide +kernel) ?_
                  refine V.icmp_ne (tgt := 123) d_F_change_116 (by decide) (fun c_116 => ?_) (fun c_116 => ?_)
                  · skip
                    refine V.iconst_ (nI 0) d_F_change_123 (by decide +kernel) ?_
                    refine V.put d_F_change_124 (ft_F_159 _ (hB0.kd hi8)) (fpt_7 _ (hB0.kd hi8)) (fun _ => rfl) (fun _ => rfl) (co_t hT (by decide) hi8) (Nat.le_of_ble_eq_true rfl) ?_
                    refine V.eqH (co_utr (k := 6) hT (by decide) hi8 (by decide) (by decide)) ?_
                    refine V.goto (tgt := 136) d_F_change_127 (by decide) ?_
                    refine V.iload d_F_change_136 rfl ?_
                    refine V.iret d_F_change_138 rfl (by omega) (by omega) ?_
                    have h2 := hOk i 2 hi (by omega) rfl c_86 (by rw [c_86]; exact c_94)
                    obtain ⟨k6, b6, e6⟩ := hB0.k6 hi8
                    have e6' : W 0 (50 + 7 * i + (4 + 2)) = nI k6 := e6
                    rw [e6'] at h2
                    rw [e6] at c_102
                    obtain ⟨vk, bv, rfl⟩ := wi_nat (k := 1) (by decide) c_94
                    rcases (show k6 = 0 ∨ k6 = 1 by omega) with rfl | rfl
                    · rcases (show vk = 0 ∨ vk = 1 by omega) with rfl | rfl
                      · first | exact h2 | exact absurd rfl c_102 | exact absurd c_116 (by decide)
                      · first | exact h2 | exact absurd rfl c_102 | exact absurd rfl c_116
                    · rcases (show vk = 0 ∨ vk = 1 by omega) with rfl | rfl
                      · first | exact h2 | exact absurd c_102 (by decide) | exact absurd c_116 (by decide)
                      · first | exact h2 | exact absurd c_102 (by decide) | exact absurd rfl c_116
                  · skip
                    refine V.iconst_ (nI 1) d_F_change_119 (by decide +kernel) ?_
                    refine V.goto (tgt := 124) d_F_change_120 (by decide) ?_
                    refine V.put d_F_change_124 (ft_F_159 _ (hB0.kd hi8)) (fpt_7 _ (hB0.kd hi8)) (fun _ => rfl) (fun _ => rfl) (co_t hT (by decide) hi8) (Nat.le_of_ble_eq_true rfl) ?_
                    refine V.eqH (co_utr (k := 6) hT (by decide) hi8 (by decide) (by decide)) ?_
                    refine V.goto (tgt := 136) d_F_change_127 (by decide) ?_
                    refine V.iload d_F_change_136 rfl ?_
                    refine V.iret d_F_change_138 rfl (by omega) (by omega) ?_
                    have h2 := hOk i 2 hi (by omega) rfl c_86 (by rw [c_86]; exact c_94)
                    obtain ⟨k6, b6, e6⟩ := hB0.k6 hi8
                    have e6' : W 0 (50 + 7 * i + (4 + 2)) = nI k6 := e6
                    rw [e6'] at h2
                    rw [e6] at c_102
                    obtain ⟨vk, bv, rfl⟩ := wi_nat (k := 1) (by decide) c_94
                    rcases (show k6 = 0 ∨ k6 = 1 by omega) with rfl | rfl
                    · rcases (show vk = 0 ∨ vk = 1 by omega) with rfl | rfl
                      · first | exact h2 | exact absurd rfl c_102 | exact absurd c_116 (by decide)
                      · first | exact h2 | exact absurd rfl c_102 | exact absurd rfl c_116
                    · rcases (show vk = 0 ∨ vk = 1 by omega) with rfl | rfl
                      · first | exact h2 | exact absurd c_102 (by decide) | exact absurd c_116 (by decide)
                      · first | exact h2 | exact absurd c_102 (by decide) | exact absurd rfl c_116
                · skip
                  refine V.iconst_ (nI 1) d_F_change_105 (by decide +kernel) ?_
                  refine V.goto (tgt := 110) d_F_change_106 (by decide) ?_
                  refine V.istore d_F_change_110 (by decide) ?_
                  refine V.aload d_F_change_112 rfl ?_
                  refine V.iload_n d_F_change_114 rfl ?_
                  refine V.iconst_ (nI 1) d_F_change_115 (by decide +kernel) ?_
                  refine V.icmp_ne (tgt := 123) d_F_change_116 (by decide) (fun c_116 => ?_) (fun c_116 => ?_)
                  · skip
                    refine V.iconst_ (nI 0) d_F_change_123 (by decide +kernel) ?_
                    refine V.put d_F_change_124 (ft_F_159 _ (hB0.kd hi8)) (fpt_7 _ (hB0.kd hi8)) (fun _ => rfl) (fun _ => rfl) (co_t hT (by decide) hi8) (Nat.le_of_ble_eq_true rfl) ?_
                    refine V.eqH (co_utr (k := 6) hT (by decide) hi8 (by decide) (by decide)) ?_
                    refine V.goto (tgt := 136) d_F_change_127 (by decide) ?_
                    refine V.iload d_F_change_136 rfl ?_
                    refine V.iret d_F_change_138 rfl (by omega) (by omega) ?_
                    have h2 := hOk i 2 hi (by omega) rfl c_86 (by rw [c_86]; exact c_94)
                    obtain ⟨k6, b6, e6⟩ := hB0.k6 hi8
                    have e6' : W 0 (50 + 7 * i + (4 + 2)) = nI k6 := e6
                    rw [e6'] at h2
                    rw [e6] at c_102
                    obtain ⟨vk, bv, rfl⟩ := wi_nat (k := 1) (by decide) c_94
                    rcases (show k6 = 0 ∨ k6 = 1 by omega) with rfl | rfl
                    · rcases (show vk = 0 ∨ vk = 1 by omega) with rfl | rfl
                      · first | exact h2 | exact absurd rfl c_102 | exact absurd c_116 (by decide)
                      · first | exact h2 | exact absurd rfl c_102 | exact absurd rfl c_116
                    · rcases (show vk = 0 ∨ vk = 1 by omega) with rfl | rfl
                      · first | exact h2 | exact absurd c_102 (by decide) | exact absurd c_116 (by decide)
                      · first | exact h2 | exact absurd c_102 (by decide) | exact absurd rfl c_116
                  · skip
                    refine V.iconst_ (nI 1) d_F_change_119 (by decide +kernel) ?_
                    refine V.goto (tgt := 124) d_F_change_120 (by decide) ?_
                    refine V.put d_F_change_124 (ft_F_159 _ (hB0.kd hi8)) (fpt_7 _ (hB0.kd hi8)) (fun _ => rfl) (fun _ => rfl) (co_t hT (by decide) hi8) (Nat.le_of_ble_eq_true rfl) ?_
                    refine V.eqH (co_utr (k := 6) hT (by decide) hi8 (by decide) (by decide)) ?_
                    refine V.goto (tgt := 136) d_F_change_127 (by decide) ?_
                    refine V.iload d_F_change_136 rfl ?_
                    refine V.iret d_F_change_138 rfl (by omega) (by omega) ?_
                    have h2 := hOk i 2 hi (by omega) rfl c_86 (by rw [c_86]; exact c_94)
                    obtain ⟨k6, b6, e6⟩ := hB0.k6 hi8
                    have e6' : W 0 (50 + 7 * i + (4 + 2)) = nI k6 := e6
                    rw [e6'] at h2
                    rw [e6] at c_102
                    obtain ⟨vk, bv, rfl⟩ := wi_nat (k := 1) (by decide) c_94
                    rcases (show k6 = 0 ∨ k6 = 1 by omega) with rfl | rfl
                    · rcases (show vk = 0 ∨ vk = 1 by omega) with rfl | rfl
                      · first | exact h2 | exact absurd rfl c_102 | exact absurd c_116 (by decide)
                      · first | exact h2 | exact absurd rfl c_102 | exact absurd rfl c_116
                    · rcases (show vk = 0 ∨ vk = 1 by omega) with rfl | rfl
                      · first | exact h2 | exact absurd c_102 (by decide) | exact absurd c_116 (by decide)
                      · first | exact h2 | exact absurd c_102 (by decide) | exact absurd rfl c_116
          · skip
            refine V.aload d_F_change_68 rfl ?_
            refine V.get d_F_change_70 (ft_F_142 _ (hB0.kd hi8)) (co_t hT (by decide) hi8) rfl ?_
            refine V.istore d_F_change_73 (by decide) ?_
            refine V.aload d_F_change_75 rfl ?_
            refine V.iload_n d_F_change_77 rfl ?_
            refine V.put d_F_change_78 (ft_F_142 _ (hB0.kd hi8)) (fpt_6 _ (hB0.kd hi8)) (fun _ => rfl) (fun _ => rfl) (co_t hT (by decide) hi8) (Nat.le_of_ble_eq_true rfl) ?_
            refine V.eqH (co_utr (k := 5) hT (by decide) hi8 (by decide) (by decide)) ?_
            refine V.goto (tgt := 136) d_F_change_81 (by decide) ?_
            refine V.iload d_F_change_136 rfl ?_
            refine V.iret d_F_change_138 rfl (by omega) (by omega) ?_
            exact hOk i 1 hi (by omega) rfl c_56 (by rw [c_56]; exact c_65)
      · skip
        refine V.aload d_F_change_38 rfl ?_
        refine V.get d_F_change_40 (ft_F_139 _ (hB0.kd hi8)) (co_t hT (by decide) hi8) rfl ?_
        refine V.istore d_F_change_43 (by decide) ?_
        refine V.aload d_F_change_45 rfl ?_
        refine V.iload_n d_F_change_47 rfl ?_
        refine V.put d_F_change_48 (ft_F_139 _ (hB0.kd hi8)) (fpt_5 _ (hB0.kd hi8)) (fun _ => rfl) (fun _ => rfl) (co_t hT (by decide) hi8) (Nat.le_of_ble_eq_true rfl) ?_
        refine V.eqH (co_utr (k := 4) hT (by decide) hi8 (by decide) (by decide)) ?_
        refine V.goto (tgt := 136) d_F_change_51 (by decide) ?_
        refine V.iload d_F_change_136 rfl ?_
        refine V.iret d_F_change_138 rfl (by omega) (by omega) ?_
        exact hOk i 0 hi (by omega) rfl c_26 (by rw [show y = nI 0 from c_26]; exact c_35)
  · skip
    refine V.aload_n d_F_change_8 rfl ?_
    refine V.iconst_ (nI 1) d_F_change_9 (by decide +kernel) ?_
    refine V.callV1 d_F_change_10 k_F_97_F_error_FV (co_s sc_ob) (Nat.le_of_ble_eq_true rfl) (by omega) (by omega) (c_F_error (by decide) ?_)
    refine V.iret d_F_change_13 rfl (by omega) (by omega) ?_
    rw [e0] at c_5
    exact hE (by rw [c_5, Bool.false_and, Bool.false_and])
def iok (k w : Nat) : Bool := decide (w = 0 ∨ k = w ∨ k - 3 = w)
abbrev M_F_isOfKind : MD := (⟨"FelledByNames", "isOfKind", "(LFelledByNames$Tree;I)Z"⟩, prog_1_method_54_code, 2, (some .boolean), fun _ => True)
theorem d_F_isOfKind_0 : decode prog_1_method_54_code 0 = .ok (.iload_n 1, 1) := by decide +kernel
theorem d_F_isOfKind_1 : decode prog_1_method_54_code 1 = .ok (.tableswitch 75 0 6 #[43, 45, 50, 55, 60, 65, 70], 43) := by decide +kernel
theorem d_F_isOfKind_44 : decode prog_1_method_54_code 44 = .ok (.iconst 1, 1) := by decide +kernel
theorem d_F_isOfKind_45 : decode prog_1_method_54_code 45 = .ok (.ireturn, 1) := by decide +kernel
theorem d_F_isOfKind_46 : decode prog_1_method_54_code 46 = .ok (.aload_n 0, 1) := by decide +kernel
theorem d_F_isOfKind_47 : decode prog_1_method_54_code 47 = .ok (.instanceof 329, 3) := by decide +kernel
theorem d_F_isOfKind_50 : decode prog_1_method_54_code 50 = .ok (.ireturn, 1) := by decide +kernel
theorem d_F_isOfKind_51 : decode prog_1_method_54_code 51 = .ok (.aload_n 0, 1) := by decide +kernel
theorem d_F_isOfKind_52 : decode prog_1_method_54_code 52 = .ok (.instanceof 333, 3) := by decide +kernel
theorem d_F_isOfKind_55 : decode prog_1_method_54_code 55 = .ok (.ireturn, 1) := by decide +kernel
theorem d_F_isOfKind_56 : decode prog_1_method_54_code 56 = .ok (.aload_n 0, 1) := by decide +kernel
theorem d_F_isOfKind_57 : decode prog_1_method_54_code 57 = .ok (.instanceof 336, 3) := by decide +kernel
theorem d_F_isOfKind_60 : decode prog_1_method_54_code 60 = .ok (.ireturn, 1) := by decide +kernel
theorem d_F_isOfKind_61 : decode prog_1_method_54_code 61 = .ok (.aload_n 0, 1) := by decide +kernel
theorem d_F_isOfKind_62 : decode prog_1_method_54_code 62 = .ok (.instanceof 339, 3) := by decide +kernel
theorem d_F_isOfKind_65 : decode prog_1_method_54_code 65 = .ok (.ireturn, 1) := by decide +kernel
theorem d_F_isOfKind_66 : decode prog_1_method_54_code 66 = .ok (.aload_n 0, 1) := by decide +kernel
theorem d_F_isOfKind_67 : decode prog_1_method_54_code 67 = .ok (.instanceof 342, 3) := by decide +kernel
theorem d_F_isOfKind_70 : decode prog_1_method_54_code 70 = .ok (.ireturn, 1) := by decide +kernel
theorem d_F_isOfKind_71 : decode prog_1_method_54_code 71 = .ok (.aload_n 0, 1) := by decide +kernel
theorem d_F_isOfKind_72 : decode prog_1_method_54_code 72 = .ok (.instanceof 345, 3) := by decide +kernel
theorem d_F_isOfKind_75 : decode prog_1_method_54_code 75 = .ok (.ireturn, 1) := by decide +kernel
set_option maxRecDepth 100000 in
theorem c_F_isOfKind_0 {b w : Nat} {fs : List Value} {l : Launch} {d n : Nat} {h : HP} {Q : QT} (hw6 : w ≤ 6) (hb : h b = some (.inr (6, fs))) (hQ : Q (some (.int (bi (iok 0 w)))) n h) : Ct l M_F_isOfKind d 0 0 [.ref b, .int (nI w)] n h Q := by
  refine Ct.of (fun _ => trivial) (by decide) (Nat.le_of_ble_eq_true rfl) ?_
  refine V.iload_n d_F_isOfKind_0 rfl ?_
  rcases (show w = 0 ∨ w = 1 ∨ w = 2 ∨ w = 3 ∨ w = 4 ∨ w = 5 ∨ w = 6 by omega) with rfl | rfl | rfl | rfl | rfl | rfl | rfl
  · skip
    refine V.tabIn (tgt := 44) (off := 43) d_F_isOfKind_1 (by decide +kernel) (by decide +kernel) (by decide +kernel) (by decide) ?_
    refine V.iconst_ (nI 1) d_F_isOfKind_44 (by decide +kernel) ?_
    refine V.zret d_F_isOfKind_45 rfl rfl (Nat.le_of_ble_eq_true rfl) (Nat.le_of_ble_eq_true rfl) ?_
    exact hQ
  · skip
    refine V.tabIn (tgt := 46) (off := 45) d_F_isOfKind_1 (by decide +kernel) (by decide +kernel) (by decide +kernel) (by decide) ?_
    refine V.aload_n d_F_isOfKind_46 rfl ?_
    refine V.instN (nm := "FelledByNames$Beech") d_F_isOfKind_47 (tm 512 (by decide +kernel) rfl) hb rfl (by decide +kernel) ?_
    refine V.zret d_F_isOfKind_50 rfl rfl (Nat.le_of_ble_eq_true rfl) (Nat.le_of_ble_eq_true rfl) ?_
    exact hQ
  · skip
    refine V.tabIn (tgt := 51) (off := 50) d_F_isOfKind_1 (by decide +kernel) (by decide +kernel) (by decide +kernel) (by decide) ?_
    refine V.aload_n d_F_isOfKind_51 rfl ?_
    refine V.instN (nm := "FelledByNames$Oak") d_F_isOfKind_52 (tm 527 (by decide +kernel) rfl) hb rfl (by decide +kernel) ?_
    refine V.zret d_F_isOfKind_55 rfl rfl (Nat.le_of_ble_eq_true rfl) (Nat.le_of_ble_eq_true rfl) ?_
    exact hQ
  · skip
    refine V.tabIn (tgt := 56) (off := 55) d_F_isOfKind_1 (by decide +kernel) (by decide +kernel) (by decide +kernel) (by decide) ?_
    refine V.aload_n d_F_isOfKind_56 rfl ?_
    refine V.instN (nm := "FelledByNames$Sapling") d_F_isOfKind_57 (tm 542 (by decide +kernel) rfl) hb rfl (by decide +kernel) ?_
    refine V.zret d_F_isOfKind_60 rfl rfl (Nat.le_of_ble_eq_true rfl) (Nat.le_of_ble_eq_true rfl) ?_
    exact hQ
  · skip
    refine V.tabIn (tgt := 61) (off := 60) d_F_isOfKind_1 (by decide +kernel) (by decide +kernel) (by decide +kernel) (by decide) ?_
    refine V.aload_n d_F_isOfKind_61 rfl ?_
    refine V.instN (nm := "FelledByNames$Wedged") d_F_isOfKind_62 (tm 557 (by decide +kernel) rfl) hb rfl (by decide +kernel) ?_
    refine V.zret d_F_isOfKind_65 rfl rfl (Nat.le_of_ble_eq_true rfl) (Nat.le_of_ble_eq_true rfl) ?_
    exact hQ
  · skip
    refine V.tabIn (tgt := 66) (off := 65) d_F_isOfKind_1 (by decide +kernel) (by decide +kernel) (by decide +kernel) (by decide) ?_
    refine V.aload_n d_F_isOfKind_66 rfl ?_
    refine V.instN (nm := "FelledByNames$Hollow") d_F_isOfKind_67 (tm 572 (by decide +kernel) rfl) hb rfl (by decide +kernel) ?_
    refine V.zret d_F_isOfKind_70 rfl rfl (Nat.le_of_ble_eq_true rfl) (Nat.le_of_ble_eq_true rfl) ?_
    exact hQ
  · skip
    refine V.tabIn (tgt := 71) (off := 70) d_F_isOfKind_1 (by decide +kernel) (by decide +kernel) (by decide +kernel) (by decide) ?_
    refine V.aload_n d_F_isOfKind_71 rfl ?_
    refine V.instN (nm := "FelledByNames$Hill") d_F_isOfKind_72 (tm 587 (by decide +kernel) rfl) hb rfl (by decide +kernel) ?_
    refine V.zret d_F_isOfKind_75 rfl rfl (Nat.le_of_ble_eq_true rfl) (Nat.le_of_ble_eq_true rfl) ?_
    exact hQ
set_option maxRecDepth 100000 in
theorem c_F_isOfKind_1 {b w : Nat} {fs : List Value} {l : Launch} {d n : Nat} {h : HP} {Q : QT} (hw6 : w ≤ 6) (hb : h b = some (.inr (7, fs))) (hQ : Q (some (.int (bi (iok 1 w)))) n h) : Ct l M_F_isOfKind d 0 0 [.ref b, .int (nI w)] n h Q := by
  refine Ct.of (fun _ => trivial) (by decide) (Nat.le_of_ble_eq_true rfl) ?_
  refine V.iload_n d_F_isOfKind_0 rfl ?_
  rcases (show w = 0 ∨ w = 1 ∨ w = 2 ∨ w = 3 ∨ w = 4 ∨ w = 5 ∨ w = 6 by omega) with rfl | rfl | rfl | rfl | rfl | rfl | rfl
  · skip
    refine V.tabIn (tgt := 44) (off := 43) d_F_isOfKind_1 (by decide +kernel) (by decide +kernel) (by decide +kernel) (by decide) ?_
    refine V.iconst_ (nI 1) d_F_isOfKind_44 (by decide +kernel) ?_
    refine V.zret d_F_isOfKind_45 rfl rfl (Nat.le_of_ble_eq_true rfl) (Nat.le_of_ble_eq_true rfl) ?_
    exact hQ
  · skip
    refine V.tabIn (tgt := 46) (off := 45) d_F_isOfKind_1 (by decide +kernel) (by decide +kernel) (by decide +kernel) (by decide) ?_
    refine V.aload_n d_F_isOfKind_46 rfl ?_
    refine V.instE d_F_isOfKind_47 hb rfl (tm 512 (by decide +kernel) rfl) ?_
    refine V.zret d_F_isOfKind_50 rfl rfl (Nat.le_of_ble_eq_true rfl) (Nat.le_of_ble_eq_true rfl) ?_
    exact hQ
  · skip
    refine V.tabIn (tgt := 51) (off := 50) d_F_isOfKind_1 (by decide +kernel) (by decide +kernel) (by decide +kernel) (by decide) ?_
    refine V.aload_n d_F_isOfKind_51 rfl ?_
    refine V.instN (nm := "FelledByNames$Oak") d_F_isOfKind_52 (tm 527 (by decide +kernel) rfl) hb rfl (by decide +kernel) ?_
    refine V.zret d_F_isOfKind_55 rfl rfl (Nat.le_of_ble_eq_true rfl) (Nat.le_of_ble_eq_true rfl) ?_
    exact hQ
  · skip
    refine V.tabIn (tgt := 56) (off := 55) d_F_isOfKind_1 (by decide +kernel) (by decide +kernel) (by decide +kernel) (by decide) ?_
    refine V.aload_n d_F_isOfKind_56 rfl ?_
    refine V.instN (nm := "FelledByNames$Sapling") d_F_isOfKind_57 (tm 542 (by decide +kernel) rfl) hb rfl (by decide +kernel) ?_
    refine V.zret d_F_isOfKind_60 rfl rfl (Nat.le_of_ble_eq_true rfl) (Nat.le_of_ble_eq_true rfl) ?_
    exact hQ
  · skip
    refine V.tabIn (tgt := 61) (off := 60) d_F_isOfKind_1 (by decide +kernel) (by decide +kernel) (by decide +kernel) (by decide) ?_
    refine V.aload_n d_F_isOfKind_61 rfl ?_
    refine V.instN (nm := "FelledByNames$Wedged") d_F_isOfKind_62 (tm 557 (by decide +kernel) rfl) hb rfl (by decide +kernel) ?_
    refine V.zret d_F_isOfKind_65 rfl rfl (Nat.le_of_ble_eq_true rfl) (Nat.le_of_ble_eq_true rfl) ?_
    exact hQ
  · skip
    refine V.tabIn (tgt := 66) (off := 65) d_F_isOfKind_1 (by decide +kernel) (by decide +kernel) (by decide +kernel) (by decide) ?_
    refine V.aload_n d_F_isOfKind_66 rfl ?_
    refine V.instN (nm := "FelledByNames$Hollow") d_F_isOfKind_67 (tm 572 (by decide +kernel) rfl) hb rfl (by decide +kernel) ?_
    refine V.zret d_F_isOfKind_70 rfl rfl (Nat.le_of_ble_eq_true rfl) (Nat.le_of_ble_eq_true rfl) ?_
    exact hQ
  · skip
    refine V.tabIn (tgt := 71) (off := 70) d_F_isOfKind_1 (by decide +kernel) (by decide +kernel) (by decide +kernel) (by decide) ?_
    refine V.aload_n d_F_isOfKind_71 rfl ?_
    refine V.instN (nm := "FelledByNames$Hill") d_F_isOfKind_72 (tm 587 (by decide +kernel) rfl) hb rfl (by decide +kernel) ?_
    refine V.zret d_F_isOfKind_75 rfl rfl (Nat.le_of_ble_eq_true rfl) (Nat.le_of_ble_eq_true rfl) ?_
    exact hQ
set_option maxRecDepth 100000 in
theorem c_F_isOfKind_2 {b w : Nat} {fs : List Value} {l : Launch} {d n : Nat} {h : HP} {Q : QT} (hw6 : w ≤ 6) (hb : h b = some (.inr (8, fs))) (hQ : Q (some (.int (bi (iok 2 w)))) n h) : Ct l M_F_isOfKind d 0 0 [.ref b, .int (nI w)] n h Q := by
  refine Ct.of (fun _ => trivial) (by decide) (Nat.le_of_ble_eq_true rfl) ?_
  refine V.iload_n d_F_isOfKind_0 rfl ?_
  rcases (show w = 0 ∨ w = 1 ∨ w = 2 ∨ w = 3 ∨ w = 4 ∨ w = 5 ∨ w = 6 by omega) with rfl | rfl | rfl | rfl | rfl | rfl | rfl
  · skip
    refine V.tabIn (tgt := 44) (off := 43) d_F_isOfKind_1 (by decide +kernel) (by decide +kernel) (by decide +kernel) (by decide) ?_
    refine V.iconst_ (nI 1) d_F_isOfKind_44 (by decide +kernel) ?_
    refine V.zret d_F_isOfKind_45 rfl rfl (Nat.le_of_ble_eq_true rfl) (Nat.le_of_ble_eq_true rfl) ?_
    exact hQ
  · skip
    refine V.tabIn (tgt := 46) (off := 45) d_F_isOfKind_1 (by decide +kernel) (by decide +kernel) (by decide +kernel) (by decide) ?_
    refine V.aload_n d_F_isOfKind_46 rfl ?_
    refine V.instN (nm := "FelledByNames$Beech") d_F_isOfKind_47 (tm 512 (by decide +kernel) rfl) hb rfl (by decide +kernel) ?_
    refine V.zret d_F_isOfKind_50 rfl rfl (Nat.le_of_ble_eq_true rfl) (Nat.le_of_ble_eq_true rfl) ?_
    exact hQ
  · skip
    refine V.tabIn (tgt := 51) (off := 50) d_F_isOfKind_1 (by decide +kernel) (by decide +kernel) (by decide +kernel) (by decide) ?_
    refine V.aload_n d_F_isOfKind_51 rfl ?_
    refine V.instE d_F_isOfKind_52 hb rfl (tm 527 (by decide +kernel) rfl) ?_
    refine V.zret d_F_isOfKind_55 rfl rfl (Nat.le_of_ble_eq_true rfl) (Nat.le_of_ble_eq_true rfl) ?_
    exact hQ
  · skip
    refine V.tabIn (tgt := 56) (off := 55) d_F_isOfKind_1 (by decide +kernel) (by decide +kernel) (by decide +kernel) (by decide) ?_
    refine V.aload_n d_F_isOfKind_56 rfl ?_
    refine V.instN (nm := "FelledByNames$Sapling") d_F_isOfKind_57 (tm 542 (by decide +kernel) rfl) hb rfl (by decide +kernel) ?_
    refine V.zret d_F_isOfKind_60 rfl rfl (Nat.le_of_ble_eq_true rfl) (Nat.le_of_ble_eq_true rfl) ?_
    exact hQ
  · skip
    refine V.tabIn (tgt := 61) (off := 60) d_F_isOfKind_1 (by decide +kernel) (by decide +kernel) (by decide +kernel) (by decide) ?_
    refine V.aload_n d_F_isOfKind_61 rfl ?_
    refine V.instN (nm := "FelledByNames$Wedged") d_F_isOfKind_62 (tm 557 (by decide +kernel) rfl) hb rfl (by decide +kernel) ?_
    refine V.zret d_F_isOfKind_65 rfl rfl (Nat.le_of_ble_eq_true rfl) (Nat.le_of_ble_eq_true rfl) ?_
    exact hQ
  · skip
    refine V.tabIn (tgt := 66) (off := 65) d_F_isOfKind_1 (by decide +kernel) (by decide +kernel) (by decide +kernel) (by decide) ?_
    refine V.aload_n d_F_isOfKind_66 rfl ?_
    refine V.instN (nm := "FelledByNames$Hollow") d_F_isOfKind_67 (tm 572 (by decide +kernel) rfl) hb rfl (by decide +kernel) ?_
    refine V.zret d_F_isOfKind_70 rfl rfl (Nat.le_of_ble_eq_true rfl) (Nat.le_of_ble_eq_true rfl) ?_
    exact hQ
  · skip
    refine V.tabIn (tgt := 71) (off := 70) d_F_isOfKind_1 (by decide +kernel) (by decide +kernel) (by decide +kernel) (by decide) ?_
    refine V.aload_n d_F_isOfKind_71 rfl ?_
    refine V.instN (nm := "FelledByNames$Hill") d_F_isOfKind_72 (tm 587 (by decide +kernel) rfl) hb rfl (by decide +kernel) ?_
    refine V.zret d_F_isOfKind_75 rfl rfl (Nat.le_of_ble_eq_true rfl) (Nat.le_of_ble_eq_true rfl) ?_
    exact hQ
set_option maxRecDepth 100000 in
theorem c_F_isOfKind_3 {b w : Nat} {fs : List Value} {l : Launch} {d n : Nat} {h : HP} {Q : QT} (hw6 : w ≤ 6) (hb : h b = some (.inr (9, fs))) (hQ : Q (some (.int (bi (iok 3 w)))) n h) : Ct l M_F_isOfKind d 0 0 [.ref b, .int (nI w)] n h Q := by
  refine Ct.of (fun _ => trivial) (by decide) (Nat.le_of_ble_eq_true rfl) ?_
  refine V.iload_n d_F_isOfKind_0 rfl ?_
  rcases (show w = 0 ∨ w = 1 ∨ w = 2 ∨ w = 3 ∨ w = 4 ∨ w = 5 ∨ w = 6 by omega) with rfl | rfl | rfl | rfl | rfl | rfl | rfl
  · skip
    refine V.tabIn (tgt := 44) (off := 43) d_F_isOfKind_1 (by decide +kernel) (by decide +kernel) (by decide +kernel) (by decide) ?_
    refine V.iconst_ (nI 1) d_F_isOfKind_44 (by decide +kernel) ?_
    refine V.zret d_F_isOfKind_45 rfl rfl (Nat.le_of_ble_eq_true rfl) (Nat.le_of_ble_eq_true rfl) ?_
    exact hQ
  · skip
    refine V.tabIn (tgt := 46) (off := 45) d_F_isOfKind_1 (by decide +kernel) (by decide +kernel) (by decide +kernel) (by decide) ?_
    refine V.aload_n d_F_isOfKind_46 rfl ?_
    refine V.instN (nm := "FelledByNames$Beech") d_F_isOfKind_47 (tm 512 (by decide +kernel) rfl) hb rfl (by decide +kernel) ?_
    refine V.zret d_F_isOfKind_50 rfl rfl (Nat.le_of_ble_eq_true rfl) (Nat.le_of_ble_eq_true rfl) ?_
    exact hQ
  · skip
    refine V.tabIn (tgt := 51) (off := 50) d_F_isOfKind_1 (by decide +kernel) (by decide +kernel) (by decide +kernel) (by decide) ?_
    refine V.aload_n d_F_isOfKind_51 rfl ?_
    refine V.instN (nm := "FelledByNames$Oak") d_F_isOfKind_52 (tm 527 (by decide +kernel) rfl) hb rfl (by decide +kernel) ?_
    refine V.zret d_F_isOfKind_55 rfl rfl (Nat.le_of_ble_eq_true rfl) (Nat.le_of_ble_eq_true rfl) ?_
    exact hQ
  · skip
    refine V.tabIn (tgt := 56) (off := 55) d_F_isOfKind_1 (by decide +kernel) (by decide +kernel) (by decide +kernel) (by decide) ?_
    refine V.aload_n d_F_isOfKind_56 rfl ?_
    refine V.instE d_F_isOfKind_57 hb rfl (tm 542 (by decide +kernel) rfl) ?_
    refine V.zret d_F_isOfKind_60 rfl rfl (Nat.le_of_ble_eq_true rfl) (Nat.le_of_ble_eq_true rfl) ?_
    exact hQ
  · skip
    refine V.tabIn (tgt := 61) (off := 60) d_F_isOfKind_1 (by decide +kernel) (by decide +kernel) (by decide +kernel) (by decide) ?_
    refine V.aload_n d_F_isOfKind_61 rfl ?_
    refine V.instN (nm := "FelledByNames$Wedged") d_F_isOfKind_62 (tm 557 (by decide +kernel) rfl) hb rfl (by decide +kernel) ?_
    refine V.zret d_F_isOfKind_65 rfl rfl (Nat.le_of_ble_eq_true rfl) (Nat.le_of_ble_eq_true rfl) ?_
    exact hQ
  · skip
    refine V.tabIn (tgt := 66) (off := 65) d_F_isOfKind_1 (by decide +kernel) (by decide +kernel) (by decide +kernel) (by decide) ?_
    refine V.aload_n d_F_isOfKind_66 rfl ?_
    refine V.instN (nm := "FelledByNames$Hollow") d_F_isOfKind_67 (tm 572 (by decide +kernel) rfl) hb rfl (by decide +kernel) ?_
    refine V.zret d_F_isOfKind_70 rfl rfl (Nat.le_of_ble_eq_true rfl) (Nat.le_of_ble_eq_true rfl) ?_
    exact hQ
  · skip
    refine V.tabIn (tgt := 71) (off := 70) d_F_isOfKind_1 (by decide +kernel) (by decide +kernel) (by decide +kernel) (by decide) ?_
    refine V.aload_n d_F_isOfKind_71 rfl ?_
    refine V.instN (nm := "FelledByNames$Hill") d_F_isOfKind_72 (tm 587 (by decide +kernel) rfl) hb rfl (by decide +kernel) ?_
    refine V.zret d_F_isOfKind_75 rfl rfl (Nat.le_of_ble_eq_true rfl) (Nat.le_of_ble_eq_true rfl) ?_
    exact hQ
set_option maxRecDepth 100000 in
theorem c_F_isOfKind_4 {b w : Nat} {fs : List Value} {l : Launch} {d n : Nat} {h : HP} {Q : QT} (hw6 : w ≤ 6) (hb : h b = some (.inr (10, fs))) (hQ : Q (some (.int (bi (iok 4 w)))) n h) : Ct l M_F_isOfKind d 0 0 [.ref b, .int (nI w)] n h Q := by
  refine Ct.of (fun _ => trivial) (by decide) (Nat.le_of_ble_eq_true rfl) ?_
  refine V.iload_n d_F_isOfKind_0 rfl ?_
  rcases (show w = 0 ∨ w = 1 ∨ w = 2 ∨ w = 3 ∨ w = 4 ∨ w = 5 ∨ w = 6 by omega) with rfl | rfl | rfl | rfl | rfl | rfl | rfl
  · skip
    refine V.tabIn (tgt := 44) (off := 43) d_F_isOfKind_1 (by decide +kernel) (by decide +kernel) (by decide +kernel) (by decide) ?_
    refine V.iconst_ (nI 1) d_F_isOfKind_44 (by decide +kernel) ?_
    refine V.zret d_F_isOfKind_45 rfl rfl (Nat.le_of_ble_eq_true rfl) (Nat.le_of_ble_eq_true rfl) ?_
    exact hQ
  · skip
    refine V.tabIn (tgt := 46) (off := 45) d_F_isOfKind_1 (by decide +kernel) (by decide +kernel) (by decide +kernel) (by decide) ?_
    refine V.aload_n d_F_isOfKind_46 rfl ?_
    refine V.instY (nm := "FelledByNames$Beech") d_F_isOfKind_47 (tm 512 (by decide +kernel) rfl) hb rfl (by decide +kernel) ?_
    refine V.zret d_F_isOfKind_50 rfl rfl (Nat.le_of_ble_eq_true rfl) (Nat.le_of_ble_eq_true rfl) ?_
    exact hQ
  · skip
    refine V.tabIn (tgt := 51) (off := 50) d_F_isOfKind_1 (by decide +kernel) (by decide +kernel) (by decide +kernel) (by decide) ?_
    refine V.aload_n d_F_isOfKind_51 rfl ?_
    refine V.instN (nm := "FelledByNames$Oak") d_F_isOfKind_52 (tm 527 (by decide +kernel) rfl) hb rfl (by decide +kernel) ?_
    refine V.zret d_F_isOfKind_55 rfl rfl (Nat.le_of_ble_eq_true rfl) (Nat.le_of_ble_eq_true rfl) ?_
    exact hQ
  · skip
    refine V.tabIn (tgt := 56) (off := 55) d_F_isOfKind_1 (by decide +kernel) (by decide +kernel) (by decide +kernel) (by decide) ?_
    refine V.aload_n d_F_isOfKind_56 rfl ?_
    refine V.instN (nm := "FelledByNames$Sapling") d_F_isOfKind_57 (tm 542 (by decide +kernel) rfl) hb rfl (by decide +kernel) ?_
    refine V.zret d_F_isOfKind_60 rfl rfl (Nat.le_of_ble_eq_true rfl) (Nat.le_of_ble_eq_true rfl) ?_
    exact hQ
  · skip
    refine V.tabIn (tgt := 61) (off := 60) d_F_isOfKind_1 (by decide +kernel) (by decide +kernel) (by decide +kernel) (by decide) ?_
    refine V.aload_n d_F_isOfKind_61 rfl ?_
    refine V.instE d_F_isOfKind_62 hb rfl (tm 557 (by decide +kernel) rfl) ?_
    refine V.zret d_F_isOfKind_65 rfl rfl (Nat.le_of_ble_eq_true rfl) (Nat.le_of_ble_eq_true rfl) ?_
    exact hQ
  · skip
    refine V.tabIn (tgt := 66) (off := 65) d_F_isOfKind_1 (by decide +kernel) (by decide +kernel) (by decide +kernel) (by decide) ?_
    refine V.aload_n d_F_isOfKind_66 rfl ?_
    refine V.instN (nm := "FelledByNames$Hollow") d_F_isOfKind_67 (tm 572 (by decide +kernel) rfl) hb rfl (by decide +kernel) ?_
    refine V.zret d_F_isOfKind_70 rfl rfl (Nat.le_of_ble_eq_true rfl) (Nat.le_of_ble_eq_true rfl) ?_
    exact hQ
  · skip
    refine V.tabIn (tgt := 71) (off := 70) d_F_isOfKind_1 (by decide +kernel) (by decide +kernel) (by decide +kernel) (by decide) ?_
    refine V.aload_n d_F_isOfKind_71 rfl ?_
    refine V.instN (nm := "FelledByNames$Hill") d_F_isOfKind_72 (tm 587 (by decide +kernel) rfl) hb rfl (by decide +kernel) ?_
    refine V.zret d_F_isOfKind_75 rfl rfl (Nat.le_of_ble_eq_true rfl) (Nat.le_of_ble_eq_true rfl) ?_
    exact hQ
set_option maxRecDepth 100000 in
theorem c_F_isOfKind_5 {b w : Nat} {fs : List Value} {l : Launch} {d n : Nat} {h : HP} {Q : QT} (hw6 : w ≤ 6) (hb : h b = some (.inr (11, fs))) (hQ : Q (some (.int (bi (iok 5 w)))) n h) : Ct l M_F_isOfKind d 0 0 [.ref b, .int (nI w)] n h Q := by
  refine Ct.of (fun _ => trivial) (by decide) (Nat.le_of_ble_eq_true rfl) ?_
  refine V.iload_n d_F_isOfKind_0 rfl ?_
  rcases (show w = 0 ∨ w = 1 ∨ w = 2 ∨ w = 3 ∨ w = 4 ∨ w = 5 ∨ w = 6 by omega) with rfl | rfl | rfl | rfl | rfl | rfl | rfl
  · skip
    refine V.tabIn (tgt := 44) (off := 43) d_F_isOfKind_1 (by decide +kernel) (by decide +kernel) (by decide +kernel) (by decide) ?_
    refine V.iconst_ (nI 1) d_F_isOfKind_44 (by decide +kernel) ?_
    refine V.zret d_F_isOfKind_45 rfl rfl (Nat.le_of_ble_eq_true rfl) (Nat.le_of_ble_eq_true rfl) ?_
    exact hQ
  · skip
    refine V.tabIn (tgt := 46) (off := 45) d_F_isOfKind_1 (by decide +kernel) (by decide +kernel) (by decide +kernel) (by decide) ?_
    refine V.aload_n d_F_isOfKind_46 rfl ?_
    refine V.instN (nm := "FelledByNames$Beech") d_F_isOfKind_47 (tm 512 (by decide +kernel) rfl) hb rfl (by decide +kernel) ?_
    refine V.zret d_F_isOfKind_50 rfl rfl (Nat.le_of_ble_eq_true rfl) (Nat.le_of_ble_eq_true rfl) ?_
    exact hQ
  · skip
    refine V.tabIn (tgt := 51) (off := 50) d_F_isOfKind_1 (by decide +kernel) (by decide +kernel) (by decide +kernel) (by decide) ?_
    refine V.aload_n d_F_isOfKind_51 rfl ?_
    refine V.instY (nm := "FelledByNames$Oak") d_F_isOfKind_52 (tm 527 (by decide +kernel) rfl) hb rfl (by decide +kernel) ?_
    refine V.zret d_F_isOfKind_55 rfl rfl (Nat.le_of_ble_eq_true rfl) (Nat.le_of_ble_eq_true rfl) ?_
    exact hQ
  · skip
    refine V.tabIn (tgt := 56) (off := 55) d_F_isOfKind_1 (by decide +kernel) (by decide +kernel) (by decide +kernel) (by decide) ?_
    refine V.aload_n d_F_isOfKind_56 rfl ?_
    refine V.instN (nm := "FelledByNames$Sapling") d_F_isOfKind_57 (tm 542 (by decide +kernel) rfl) hb rfl (by decide +kernel) ?_
    refine V.zret d_F_isOfKind_60 rfl rfl (Nat.le_of_ble_eq_true rfl) (Nat.le_of_ble_eq_true rfl) ?_
    exact hQ
  · skip
    refine V.tabIn (tgt := 61) (off := 60) d_F_isOfKind_1 (by decide +kernel) (by decide +kernel) (by decide +kernel) (by decide) ?_
    refine V.aload_n d_F_isOfKind_61 rfl ?_
    refine V.instN (nm := "FelledByNames$Wedged") d_F_isOfKind_62 (tm 557 (by decide +kernel) rfl) hb rfl (by decide +kernel) ?_
    refine V.zret d_F_isOfKind_65 rfl rfl (Nat.le_of_ble_eq_true rfl) (Nat.le_of_ble_eq_true rfl) ?_
    exact hQ
  · skip
    refine V.tabIn (tgt := 66) (off := 65) d_F_isOfKind_1 (by decide +kernel) (by decide +kernel) (by decide +kernel) (by decide) ?_
    refine V.aload_n d_F_isOfKind_66 rfl ?_
    refine V.instE d_F_isOfKind_67 hb rfl (tm 572 (by decide +kernel) rfl) ?_
    refine V.zret d_F_isOfKind_70 rfl rfl (Nat.le_of_ble_eq_true rfl) (Nat.le_of_ble_eq_true rfl) ?_
    exact hQ
  · skip
    refine V.tabIn (tgt := 71) (off := 70) d_F_isOfKind_1 (by decide +kernel) (by decide +kernel) (by decide +kernel) (by decide) ?_
    refine V.aload_n d_F_isOfKind_71 rfl ?_
    refine V.instN (nm := "FelledByNames$Hill") d_F_isOfKind_72 (tm 587 (by decide +kernel) rfl) hb rfl (by decide +kernel) ?_
    refine V.zret d_F_isOfKind_75 rfl rfl (Nat.le_of_ble_eq_true rfl) (Nat.le_of_ble_eq_true rfl) ?_
    exact hQ
set_option maxRecDepth 100000 in
theorem c_F_isOfKind_6 {b w : Nat} {fs : List Value} {l : Launch} {d n : Nat} {h : HP} {Q : QT} (hw6 : w ≤ 6) (hb : h b = some (.inr (12, fs))) (hQ : Q (some (.int (bi (iok 6 w)))) n h) : Ct l M_F_isOfKind d 0 0 [.ref b, .int (nI w)] n h Q := by
  refine Ct.of (fun _ => trivial) (by decide) (Nat.le_of_ble_eq_true rfl) ?_
  refine V.iload_n d_F_isOfKind_0 rfl ?_
  rcases (show w = 0 ∨ w = 1 ∨ w = 2 ∨ w = 3 ∨ w = 4 ∨ w = 5 ∨ w = 6 by omega) with rfl | rfl | rfl | rfl | rfl | rfl | rfl
  · skip
    refine V.tabIn (tgt := 44) (off := 43) d_F_isOfKind_1 (by decide +kernel) (by decide +kernel) (by decide +kernel) (by decide) ?_
    refine V.iconst_ (nI 1) d_F_isOfKind_44 (by decide +kernel) ?_
    refine V.zret d_F_isOfKind_45 rfl rfl (Nat.le_of_ble_eq_true rfl) (Nat.le_of_ble_eq_true rfl) ?_
    exact hQ
  · skip
    refine V.tabIn (tgt := 46) (off := 45) d_F_isOfKind_1 (by decide +kernel) (by decide +kernel) (by decide +kernel) (by decide) ?_
    refine V.aload_n d_F_isOfKind_46 rfl ?_
    refine V.instN (nm := "FelledByNames$Beech") d_F_isOfKind_47 (tm 512 (by decide +kernel) rfl) hb rfl (by decide +kernel) ?_
    refine V.zret d_F_isOfKind_50 rfl rfl (Nat.le_of_ble_eq_true rfl) (Nat.le_of_ble_eq_true rfl) ?_
    exact hQ
  · skip
    refine V.tabIn (tgt := 51) (off := 50) d_F_isOfKind_1 (by decide +kernel) (by decide +kernel) (by decide +kernel) (by decide) ?_
    refine V.aload_n d_F_isOfKind_51 rfl ?_
    refine V.instN (nm := "FelledByNames$Oak") d_F_isOfKind_52 (tm 527 (by decide +kernel) rfl) hb rfl (by decide +kernel) ?_
    refine V.zret d_F_isOfKind_55 rfl rfl (Nat.le_of_ble_eq_true rfl) (Nat.le_of_ble_eq_true rfl) ?_
    exact hQ
  · skip
    refine V.tabIn (tgt := 56) (off := 55) d_F_isOfKind_1 (by decide +kernel) (by decide +kernel) (by decide +kernel) (by decide) ?_
    refine V.aload_n d_F_isOfKind_56 rfl ?_
    refine V.instY (nm := "FelledByNames$Sapling") d_F_isOfKind_57 (tm 542 (by decide +kernel) rfl) hb rfl (by decide +kernel) ?_
    refine V.zret d_F_isOfKind_60 rfl rfl (Nat.le_of_ble_eq_true rfl) (Nat.le_of_ble_eq_true rfl) ?_
    exact hQ
  · skip
    refine V.tabIn (tgt := 61) (off := 60) d_F_isOfKind_1 (by decide +kernel) (by decide +kernel) (by decide +kernel) (by decide) ?_
    refine V.aload_n d_F_isOfKind_61 rfl ?_
    refine V.instN (nm := "FelledByNames$Wedged") d_F_isOfKind_62 (tm 557 (by decide +kernel) rfl) hb rfl (by decide +kernel) ?_
    refine V.zret d_F_isOfKind_65 rfl rfl (Nat.le_of_ble_eq_true rfl) (Nat.le_of_ble_eq_true rfl) ?_
    exact hQ
  · skip
    refine V.tabIn (tgt := 66) (off := 65) d_F_isOfKind_1 (by decide +kernel) (by decide +kernel) (by decide +kernel) (by decide) ?_
    refine V.aload_n d_F_isOfKind_66 rfl ?_
    refine V.instN (nm := "FelledByNames$Hollow") d_F_isOfKind_67 (tm 572 (by decide +kernel) rfl) hb rfl (by decide +kernel) ?_
    refine V.zret d_F_isOfKind_70 rfl rfl (Nat.le_of_ble_eq_true rfl) (Nat.le_of_ble_eq_true rfl) ?_
    exact hQ
  · skip
    refine V.tabIn (tgt := 71) (off := 70) d_F_isOfKind_1 (by decide +kernel) (by decide +kernel) (by decide +kernel) (by decide) ?_
    refine V.aload_n d_F_isOfKind_71 rfl ?_
    refine V.instE d_F_isOfKind_72 hb rfl (tm 587 (by decide +kernel) rfl) ?_
    refine V.zret d_F_isOfKind_75 rfl rfl (Nat.le_of_ble_eq_true rfl) (Nat.le_of_ble_eq_true rfl) ?_
    exact hQ
abbrev M_F_as : MD := (⟨"FelledByNames", "as", "(II)I"⟩, prog_1_method_11_code, 4, (some .int), fun _ => True)
theorem c_F_isOfKind {b w k : Nat} {fs : List Value} {l : Launch} {d n : Nat} {h : HP} {Q : QT} (hk : k ≤ 6) (hw6 : w ≤ 6) (hb : h b = some (.inr (6 + k, fs))) (hQ : Q (some (.int (bi (iok k w)))) n h) : Ct l M_F_isOfKind d 0 0 [.ref b, .int (nI w)] n h Q := by
  rcases (show k = 0 ∨ k = 1 ∨ k = 2 ∨ k = 3 ∨ k = 4 ∨ k = 5 ∨ k = 6 by omega) with rfl | rfl | rfl | rfl | rfl | rfl | rfl
  · exact c_F_isOfKind_0 hw6 hb hQ
  · exact c_F_isOfKind_1 hw6 hb hQ
  · exact c_F_isOfKind_2 hw6 hb hQ
  · exact c_F_isOfKind_3 hw6 hb hQ
  · exact c_F_isOfKind_4 hw6 hb hQ
  · exact c_F_isOfKind_5 hw6 hb hQ
  · exact c_F_isOfKind_6 hw6 hb hQ
theorem d_F_as_0 : decode prog_1_method_11_code 0 = .ok (.aload_n 0, 1) := by decide +kernel
theorem d_F_as_1 : decode prog_1_method_11_code 1 = .ok (.iload_n 1, 1) := by decide +kernel
theorem d_F_as_2 : decode prog_1_method_11_code 2 = .ok (.invokevirtual 152, 3) := by decide +kernel
theorem d_F_as_5 : decode prog_1_method_11_code 5 = .ok (.ifCond .eq 12, 3) := by decide +kernel
theorem d_F_as_17 : decode prog_1_method_11_code 17 = .ok (.aload_n 0, 1) := by decide +kernel
theorem d_F_as_18 : decode prog_1_method_11_code 18 = .ok (.iconst 1, 1) := by decide +kernel
theorem d_F_as_19 : decode prog_1_method_11_code 19 = .ok (.invokevirtual 97, 3) := by decide +kernel
theorem d_F_as_22 : decode prog_1_method_11_code 22 = .ok (.ireturn, 1) := by decide +kernel
theorem d_F_as_8 : decode prog_1_method_11_code 8 = .ok (.iload_n 2, 1) := by decide +kernel
theorem d_F_as_9 : decode prog_1_method_11_code 9 = .ok (.bipush 6, 2) := by decide +kernel
theorem d_F_as_11 : decode prog_1_method_11_code 11 = .ok (.invokestatic 94, 3) := by decide +kernel
theorem d_F_as_14 : decode prog_1_method_11_code 14 = .ok (.ifCond .ne 9, 3) := by decide +kernel
theorem d_F_as_23 : decode prog_1_method_11_code 23 = .ok (.aload_n 0, 1) := by decide +kernel
theorem d_F_as_24 : decode prog_1_method_11_code 24 = .ok (.getfield 39, 3) := by decide +kernel
theorem d_F_as_27 : decode prog_1_method_11_code 27 = .ok (.getfield 145, 3) := by decide +kernel
theorem d_F_as_30 : decode prog_1_method_11_code 30 = .ok (.iload_n 1, 1) := by decide +kernel
theorem d_F_as_31 : decode prog_1_method_11_code 31 = .ok (.aaload, 1) := by decide +kernel
theorem d_F_as_32 : decode prog_1_method_11_code 32 = .ok (.astore_n 3, 1) := by decide +kernel
theorem d_F_as_33 : decode prog_1_method_11_code 33 = .ok (.aload_n 3, 1) := by decide +kernel
theorem d_F_as_34 : decode prog_1_method_11_code 34 = .ok (.iload_n 2, 1) := by decide +kernel
theorem d_F_as_35 : decode prog_1_method_11_code 35 = .ok (.invokestatic 177, 3) := by decide +kernel
theorem kB_F_isOfKind : kB M_F_isOfKind 2 := ⟨tm 1 (by decide +kernel) rfl, tm 677 (by decide +kernel) rfl, ⟨by decide, by decide, by decide +kernel⟩, by decide⟩
theorem k_F_177_F_isOfKindS : kS "FelledByNames" 177 M_F_isOfKind 2 := ⟨kB_F_isOfKind, tm 675 (by decide +kernel) rfl, tm 676 (by decide +kernel) rfl⟩
theorem d_F_as_38 : decode prog_1_method_11_code 38 = .ok (.ifCond .eq 10, 3) := by decide +kernel
theorem d_F_as_48 : decode prog_1_method_11_code 48 = .ok (.aload_n 0, 1) := by decide +kernel
theorem d_F_as_49 : decode prog_1_method_11_code 49 = .ok (.iconst 5, 1) := by decide +kernel
theorem d_F_as_50 : decode prog_1_method_11_code 50 = .ok (.invokevirtual 97, 3) := by decide +kernel
theorem d_F_as_53 : decode prog_1_method_11_code 53 = .ok (.ireturn, 1) := by decide +kernel
theorem d_F_as_41 : decode prog_1_method_11_code 41 = .ok (.aload_n 3, 1) := by decide +kernel
theorem d_F_as_42 : decode prog_1_method_11_code 42 = .ok (.getfield 128, 3) := by decide +kernel
theorem d_F_as_45 : decode prog_1_method_11_code 45 = .ok (.goto 8, 3) := by decide +kernel
set_option maxRecDepth 100000 in
theorem c_F_as {N : Nat} {x y : Int32} {l : Launch} {d n : Nat} {R W Z : Nat → Nat → Int32} {T : Nat → Nat → Nat} {kn : Kn} {h0 : HP} {Q : QT} (hN : N ≤ 8) (e0 : W 0 0 = nI N) (hT : TI T kn n) (hB0 : WB (W 0)) (hE : (wi x (nI 0) (nI N - nI 1) && wi y (nI 0) (nI 6)) = false → Q (some (.int (-1000000000 - nI 1))) n (co (uA R 54 (upd (R 54) 1 (R 54 1 + nI 1))) W Z T kn h0)) (hK : ∀ i k w, i < N → W 0 (50 + 7 * i + 0) = nI k → k ≤ 6 → w ≤ 6 → x = nI i → y = nI w → ¬ (w = 0 ∨ k = w ∨ k - 3 = w) → Q (some (.int (-1000000000 - nI 5))) n (co (uA R 54 (upd (R 54) 5 (R 54 5 + nI 1))) W Z T kn h0)) (hOk : ∀ i k w, i < N → W 0 (50 + 7 * i + 0) = nI k → k ≤ 6 → w ≤ 6 → x = nI i → y = nI w → (w = 0 ∨ k = w ∨ k - 3 = w) → Q (some (.int (W 0 (50 + 7 * i + 1)))) n (co R W Z T kn h0)) : Ct l M_F_as (d + 2) 0 0 [.ref 0, .int x, .int y] n (co R W Z T kn h0) Q := by
  refine Ct.of (fun _ => trivial) (by decide) (Nat.le_of_ble_eq_true rfl) ?_
  refine V.aload_n d_F_as_0 rfl ?_
  refine V.iload_n d_F_as_1 rfl ?_
  refine V.callV1 d_F_as_2 k_F_152_F_isTree_FV (co_s sc_ob) (Nat.le_of_ble_eq_true rfl) (by omega) (by omega) (c_F_isTree ?_)
  refine V.ifeqB (tgt := 17) d_F_as_5 (by decide) (fun c_5 => ?_) (fun c_5 => ?_)
  · skip
    refine V.aload_n d_F_as_17 rfl ?_
    refine V.iconst_ (nI 1) d_F_as_18 (by decide +kernel) ?_
    refine V.callV1 d_F_as_19 k_F_97_F_error_FV (co_s sc_ob) (Nat.le_of_ble_eq_true rfl) (by omega) (by omega) (c_F_error (by decide) ?_)
    refine V.iret d_F_as_22 rfl (by omega) (by omega) ?_
    rw [e0] at c_5
    exact hE (by simp only [c_5, Bool.and_false, Bool.false_and, Bool.and_true, Bool.true_and])
  · skip
    refine V.iload_n d_F_as_8 rfl ?_
    refine V.bipush_ (nI 6) d_F_as_9 (by decide +kernel) ?_
    refine V.callS2 d_F_as_11 k_F_94_F_withinS (Nat.le_of_ble_eq_true rfl) (by omega) (by omega) (c_F_within ?_)
    refine V.ifneB (tgt := 23) d_F_as_14 (by decide) (fun c_14 => ?_) (fun c_14 => ?_)
    · skip
      rw [e0] at c_5
      obtain ⟨i, hi, rfl⟩ := tre_nat hN c_5
      have hi8 : i < 8 := by omega
      obtain ⟨w, hw6, rfl⟩ := wi_nat (k := 6) (by decide) c_14
      obtain ⟨ek, bk⟩ := (hB0.k0 hi8).t (by decide)
      refine V.aload_n d_F_as_23 rfl ?_
      refine V.get d_F_as_24 f_F_39_F (co_s sc_ob) rfl ?_
      refine V.get d_F_as_27 f_F_145_World (co_s (sc_wd (wb_ds 0 (by decide)).1)) rfl ?_
      refine V.iload_n d_F_as_30 rfl ?_
      refine V.aald d_F_as_31 (Or.inl rfl) (co_s (sc_tr (wb_ds 0 (by decide)).2.2.2.1)) (vp_in_nI (by omega) (by omega)) (by rw [icl (by omega)]; exact if_pos (by omega)) ?_
      refine V.astore_n d_F_as_32 (by decide) ?_
      refine V.aload_n d_F_as_33 rfl ?_
      refine V.iload_n d_F_as_34 rfl ?_
      refine V.callS2 d_F_as_35 k_F_177_F_isOfKindS (Nat.le_of_ble_eq_true rfl) (by omega) (by omega) (c_F_isOfKind (hB0.kd hi8) hw6 (co_t hT (by decide) hi8) ?_)
      refine V.ifeqB (tgt := 48) d_F_as_38 (by decide) (fun c_38 => ?_) (fun c_38 => ?_)
      · skip
        refine V.aload_n d_F_as_48 rfl ?_
        refine V.iconst_ (nI 5) d_F_as_49 (by decide +kernel) ?_
        refine V.callV1 d_F_as_50 k_F_97_F_error_FV (co_s sc_ob) (Nat.le_of_ble_eq_true rfl) (by omega) (by omega) (c_F_error (by decide) ?_)
        refine V.iret d_F_as_53 rfl (by omega) (by omega) ?_
        first | exact hOk i _ w hi ek bk hw6 rfl rfl (of_decide_eq_true c_38) | exact hK i _ w hi ek bk hw6 rfl rfl (of_decide_eq_false c_38)
      · skip
        refine V.aload_n d_F_as_41 rfl ?_
        refine V.get d_F_as_42 (ft_F_128 _ (hB0.kd hi8)) (co_t hT (by decide) hi8) rfl ?_
        refine V.goto (tgt := 53) d_F_as_45 (by decide) ?_
        refine V.iret d_F_as_53 rfl (by omega) (by omega) ?_
        first | exact hOk i _ w hi ek bk hw6 rfl rfl (of_decide_eq_true c_38) | exact hK i _ w hi ek bk hw6 rfl rfl (of_decide_eq_false c_38)
    · skip
      refine V.aload_n d_F_as_17 rfl ?_
      refine V.iconst_ (nI 1) d_F_as_18 (by decide +kernel) ?_
      refine V.callV1 d_F_as_19 k_F_97_F_error_FV (co_s sc_ob) (Nat.le_of_ble_eq_true rfl) (by omega) (by omega) (c_F_error (by decide) ?_)
      refine V.iret d_F_as_22 rfl (by omega) (by omega) ?_
      rw [e0] at c_5
      exact hE (by simp only [c_5, c_14, Bool.and_false, Bool.false_and, Bool.and_true, Bool.true_and])
abbrev M_F_tree : MD := (⟨"FelledByNames", "tree", "(IIII)I"⟩, prog_1_method_7_code, 7, (some .int), fun _ => True)
theorem d_F_tree_0 : decode prog_1_method_7_code 0 = .ok (.iload_n 2, 1) := by decide +kernel
theorem d_F_tree_1 : decode prog_1_method_7_code 1 = .ok (.ifCond .lt 21, 3) := by decide +kernel
theorem d_F_tree_22 : decode prog_1_method_7_code 22 = .ok (.iconst 0, 1) := by decide +kernel
theorem d_F_tree_23 : decode prog_1_method_7_code 23 = .ok (.istore 5, 2) := by decide +kernel
theorem d_F_tree_25 : decode prog_1_method_7_code 25 = .ok (.iload_n 1, 1) := by decide +kernel
theorem d_F_tree_26 : decode prog_1_method_7_code 26 = .ok (.bipush 69, 2) := by decide +kernel
theorem d_F_tree_28 : decode prog_1_method_7_code 28 = .ok (.invokestatic 94, 3) := by decide +kernel
theorem d_F_tree_31 : decode prog_1_method_7_code 31 = .ok (.ifCond .eq 27, 3) := by decide +kernel
theorem d_F_tree_58 : decode prog_1_method_7_code 58 = .ok (.aload_n 0, 1) := by decide +kernel
theorem d_F_tree_59 : decode prog_1_method_7_code 59 = .ok (.iconst 1, 1) := by decide +kernel
theorem d_F_tree_60 : decode prog_1_method_7_code 60 = .ok (.invokevirtual 97, 3) := by decide +kernel
theorem d_F_tree_63 : decode prog_1_method_7_code 63 = .ok (.ireturn, 1) := by decide +kernel
theorem d_F_tree_34 : decode prog_1_method_7_code 34 = .ok (.iload 5, 2) := by decide +kernel
theorem d_F_tree_36 : decode prog_1_method_7_code 36 = .ok (.ifCond .eq 22, 3) := by decide +kernel
theorem d_F_tree_4 : decode prog_1_method_7_code 4 = .ok (.iload_n 2, 1) := by decide +kernel
theorem d_F_tree_5 : decode prog_1_method_7_code 5 = .ok (.bipush 10, 2) := by decide +kernel
theorem d_F_tree_7 : decode prog_1_method_7_code 7 = .ok (.idiv, 1) := by decide +kernel
theorem d_F_tree_8 : decode prog_1_method_7_code 8 = .ok (.iload_n 2, 1) := by decide +kernel
theorem d_F_tree_9 : decode prog_1_method_7_code 9 = .ok (.bipush 10, 2) := by decide +kernel
theorem d_F_tree_11 : decode prog_1_method_7_code 11 = .ok (.irem, 1) := by decide +kernel
theorem d_F_tree_12 : decode prog_1_method_7_code 12 = .ok (.invokestatic 90, 3) := by decide +kernel
theorem d_F_tree_15 : decode prog_1_method_7_code 15 = .ok (.ifCond .eq 7, 3) := by decide +kernel
theorem d_F_tree_18 : decode prog_1_method_7_code 18 = .ok (.iconst 1, 1) := by decide +kernel
theorem d_F_tree_19 : decode prog_1_method_7_code 19 = .ok (.goto 4, 3) := by decide +kernel
theorem d_F_tree_39 : decode prog_1_method_7_code 39 = .ok (.iload_n 3, 1) := by decide +kernel
theorem d_F_tree_40 : decode prog_1_method_7_code 40 = .ok (.bipush 15, 2) := by decide +kernel
theorem d_F_tree_42 : decode prog_1_method_7_code 42 = .ok (.invokestatic 94, 3) := by decide +kernel
theorem d_F_tree_45 : decode prog_1_method_7_code 45 = .ok (.ifCond .eq 13, 3) := by decide +kernel
theorem d_F_tree_48 : decode prog_1_method_7_code 48 = .ok (.iload 4, 2) := by decide +kernel
theorem d_F_tree_50 : decode prog_1_method_7_code 50 = .ok (.bipush 99, 2) := by decide +kernel
theorem d_F_tree_52 : decode prog_1_method_7_code 52 = .ok (.invokestatic 94, 3) := by decide +kernel
theorem d_F_tree_55 : decode prog_1_method_7_code 55 = .ok (.ifCond .ne 9, 3) := by decide +kernel
theorem d_F_tree_64 : decode prog_1_method_7_code 64 = .ok (.aload_n 0, 1) := by decide +kernel
theorem d_F_tree_65 : decode prog_1_method_7_code 65 = .ok (.getfield 39, 3) := by decide +kernel
theorem d_F_tree_68 : decode prog_1_method_7_code 68 = .ok (.getfield 121, 3) := by decide +kernel
theorem d_F_tree_71 : decode prog_1_method_7_code 71 = .ok (.bipush 8, 2) := by decide +kernel
theorem d_F_tree_73 : decode prog_1_method_7_code 73 = .ok (.if_icmp .lt 9, 3) := by decide +kernel
theorem d_F_tree_82 : decode prog_1_method_7_code 82 = .ok (.iload_n 1, 1) := by decide +kernel
theorem d_F_tree_83 : decode prog_1_method_7_code 83 = .ok (.bipush 10, 2) := by decide +kernel
theorem d_F_tree_85 : decode prog_1_method_7_code 85 = .ok (.idiv, 1) := by decide +kernel
theorem d_F_tree_86 : decode prog_1_method_7_code 86 = .ok (.aload_n 0, 1) := by decide +kernel
theorem d_F_tree_87 : decode prog_1_method_7_code 87 = .ok (.getfield 39, 3) := by decide +kernel
theorem d_F_tree_90 : decode prog_1_method_7_code 90 = .ok (.getfield 121, 3) := by decide +kernel
theorem d_F_tree_93 : decode prog_1_method_7_code 93 = .ok (.invokestatic 124, 3) := by decide +kernel
theorem k_F_124_F_newTreeS : kS "FelledByNames" 124 M_F_newTree 2 := ⟨kB_F_newTree, tm 509 (by decide +kernel) rfl, tm 510 (by decide +kernel) rfl⟩
theorem d_F_tree_96 : decode prog_1_method_7_code 96 = .ok (.astore 6, 2) := by decide +kernel
theorem d_F_tree_98 : decode prog_1_method_7_code 98 = .ok (.aload 6, 2) := by decide +kernel
theorem d_F_tree_100 : decode prog_1_method_7_code 100 = .ok (.iload_n 1, 1) := by decide +kernel
theorem d_F_tree_101 : decode prog_1_method_7_code 101 = .ok (.bipush 10, 2) := by decide +kernel
theorem d_F_tree_103 : decode prog_1_method_7_code 103 = .ok (.irem, 1) := by decide +kernel
theorem d_F_tree_104 : decode prog_1_method_7_code 104 = .ok (.putfield 128, 3) := by decide +kernel
theorem d_F_tree_107 : decode prog_1_method_7_code 107 = .ok (.aload 6, 2) := by decide +kernel
theorem d_F_tree_109 : decode prog_1_method_7_code 109 = .ok (.iload_n 2, 1) := by decide +kernel
theorem d_F_tree_110 : decode prog_1_method_7_code 110 = .ok (.bipush 10, 2) := by decide +kernel
theorem d_F_tree_112 : decode prog_1_method_7_code 112 = .ok (.idiv, 1) := by decide +kernel
theorem d_F_tree_113 : decode prog_1_method_7_code 113 = .ok (.putfield 133, 3) := by decide +kernel
theorem d_F_tree_116 : decode prog_1_method_7_code 116 = .ok (.aload 6, 2) := by decide +kernel
theorem d_F_tree_118 : decode prog_1_method_7_code 118 = .ok (.iload_n 2, 1) := by decide +kernel
theorem d_F_tree_119 : decode prog_1_method_7_code 119 = .ok (.bipush 10, 2) := by decide +kernel
theorem d_F_tree_121 : decode prog_1_method_7_code 121 = .ok (.irem, 1) := by decide +kernel
theorem d_F_tree_122 : decode prog_1_method_7_code 122 = .ok (.putfield 136, 3) := by decide +kernel
theorem d_F_tree_125 : decode prog_1_method_7_code 125 = .ok (.aload 6, 2) := by decide +kernel
theorem d_F_tree_127 : decode prog_1_method_7_code 127 = .ok (.iload_n 3, 1) := by decide +kernel
theorem d_F_tree_128 : decode prog_1_method_7_code 128 = .ok (.putfield 139, 3) := by decide +kernel
theorem d_F_tree_131 : decode prog_1_method_7_code 131 = .ok (.aload 6, 2) := by decide +kernel
theorem d_F_tree_133 : decode prog_1_method_7_code 133 = .ok (.iload 4, 2) := by decide +kernel
theorem d_F_tree_135 : decode prog_1_method_7_code 135 = .ok (.putfield 142, 3) := by decide +kernel
theorem d_F_tree_138 : decode prog_1_method_7_code 138 = .ok (.aload_n 0, 1) := by decide +kernel
theorem d_F_tree_139 : decode prog_1_method_7_code 139 = .ok (.getfield 39, 3) := by decide +kernel
theorem d_F_tree_142 : decode prog_1_method_7_code 142 = .ok (.getfield 145, 3) := by decide +kernel
theorem d_F_tree_145 : decode prog_1_method_7_code 145 = .ok (.aload 6, 2) := by decide +kernel
theorem d_F_tree_147 : decode prog_1_method_7_code 147 = .ok (.getfield 149, 3) := by decide +kernel
theorem f_F_149_Tree : fok "FelledByNames" 149 6 1 := ⟨R_Tree, F_Tree, 8, "FelledByNames$Tree", rfl, i_Tree, by decide, tm 126 (by decide +kernel) rfl, Or.inl rfl, t_Tree, t_Tree_ok, n_Tree⟩
theorem f_F_149_Beech : fok "FelledByNames" 149 7 1 := ⟨R_Beech, F_Beech, 8, "FelledByNames$Tree", rfl, i_Beech, by decide, tm 126 (by decide +kernel) rfl, Or.inl rfl, t_Beech, t_Beech_ok, n_Beech⟩
theorem f_F_149_Oak : fok "FelledByNames" 149 8 1 := ⟨R_Oak, F_Oak, 8, "FelledByNames$Tree", rfl, i_Oak, by decide, tm 126 (by decide +kernel) rfl, Or.inl rfl, t_Oak, t_Oak_ok, n_Oak⟩
theorem f_F_149_Sapling : fok "FelledByNames" 149 9 1 := ⟨R_Sapling, F_Sapling, 8, "FelledByNames$Tree", rfl, i_Sapling, by decide, tm 126 (by decide +kernel) rfl, Or.inl rfl, t_Sapling, t_Sapling_ok, n_Sapling⟩
theorem f_F_149_Wedged : fok "FelledByNames" 149 10 1 := ⟨R_Wedged, F_Wedged, 8, "FelledByNames$Tree", rfl, i_Wedged, by decide, tm 126 (by decide +kernel) rfl, Or.inl rfl, t_Wedged, t_Wedged_ok, n_Wedged⟩
theorem f_F_149_Hollow : fok "FelledByNames" 149 11 1 := ⟨R_Hollow, F_Hollow, 8, "FelledByNames$Tree", rfl, i_Hollow, by decide, tm 126 (by decide +kernel) rfl, Or.inl rfl, t_Hollow, t_Hollow_ok, n_Hollow⟩
theorem f_F_149_Hill : fok "FelledByNames" 149 12 1 := ⟨R_Hill, F_Hill, 8, "FelledByNames$Tree", rfl, i_Hill, by decide, tm 126 (by decide +kernel) rfl, Or.inl rfl, t_Hill, t_Hill_ok, n_Hill⟩
theorem ft_F_149 : ∀ c, c ≤ 6 → fok "FelledByNames" 149 (6 + c) 1 := fun c hc => by
  rcases (show c = 0 ∨ c = 1 ∨ c = 2 ∨ c = 3 ∨ c = 4 ∨ c = 5 ∨ c = 6 by omega) with rfl | rfl | rfl | rfl | rfl | rfl | rfl
  · exact f_F_149_Tree
  · exact f_F_149_Beech
  · exact f_F_149_Oak
  · exact f_F_149_Sapling
  · exact f_F_149_Wedged
  · exact f_F_149_Hollow
  · exact f_F_149_Hill
theorem d_F_tree_150 : decode prog_1_method_7_code 150 = .ok (.aload 6, 2) := by decide +kernel
theorem d_F_tree_152 : decode prog_1_method_7_code 152 = .ok (.aastore, 1) := by decide +kernel
theorem d_F_tree_153 : decode prog_1_method_7_code 153 = .ok (.aload_n 0, 1) := by decide +kernel
theorem d_F_tree_154 : decode prog_1_method_7_code 154 = .ok (.getfield 39, 3) := by decide +kernel
theorem d_F_tree_157 : decode prog_1_method_7_code 157 = .ok (.dup, 1) := by decide +kernel
theorem d_F_tree_158 : decode prog_1_method_7_code 158 = .ok (.getfield 121, 3) := by decide +kernel
theorem d_F_tree_161 : decode prog_1_method_7_code 161 = .ok (.iconst 1, 1) := by decide +kernel
theorem d_F_tree_162 : decode prog_1_method_7_code 162 = .ok (.iadd, 1) := by decide +kernel
theorem d_F_tree_163 : decode prog_1_method_7_code 163 = .ok (.putfield 121, 3) := by decide +kernel
theorem d_F_tree_166 : decode prog_1_method_7_code 166 = .ok (.aload 6, 2) := by decide +kernel
theorem d_F_tree_168 : decode prog_1_method_7_code 168 = .ok (.getfield 149, 3) := by decide +kernel
theorem d_F_tree_171 : decode prog_1_method_7_code 171 = .ok (.ireturn, 1) := by decide +kernel
theorem d_F_tree_76 : decode prog_1_method_7_code 76 = .ok (.aload_n 0, 1) := by decide +kernel
theorem d_F_tree_77 : decode prog_1_method_7_code 77 = .ok (.iconst 4, 1) := by decide +kernel
theorem d_F_tree_78 : decode prog_1_method_7_code 78 = .ok (.invokevirtual 97, 3) := by decide +kernel
theorem d_F_tree_81 : decode prog_1_method_7_code 81 = .ok (.ireturn, 1) := by decide +kernel
set_option maxRecDepth 100000 in
theorem c_F_tree {N : Nat} {x y v u : Int32} {l : Launch} {d n : Nat} {R W Z : Nat → Nat → Int32} {T : Nat → Nat → Nat} {kn : Kn} {h0 : HP} {Q : QT} (hN : N ≤ 8) (e0 : W 0 0 = nI N) (hT : TI T kn n) (hB0 : WB (W 0)) (hh0 : ∀ a, ¬ (88 ≤ a ∧ a < 104) → h0 a = none) (hE : (wi x (nI 0) (nI 69) && wi y (nI 0) (nI 99) && two (y / nI 10) (irm y (nI 10)) && wi v (nI 0) (nI 15) && wi u (nI 0) (nI 99)) = false → Q (some (.int (-1000000000 - nI 1))) n (co (uA R 54 (upd (R 54) 1 (R 54 1 + nI 1))) W Z T kn h0)) (hF : wi x (nI 0) (nI 69) = true → wi y (nI 0) (nI 99) = true → two (y / nI 10) (irm y (nI 10)) = true → wi v (nI 0) (nI 15) = true → wi u (nI 0) (nI 99) = true → N = 8 → Q (some (.int (-1000000000 - nI 4))) n (co (uA R 54 (upd (R 54) 4 (R 54 4 + nI 1))) W Z T kn h0)) (hOk : ∀ a b, a ≤ 69 → b ≤ 99 → x = nI a → y = nI b → two (nI (b / 10)) (nI (b % 10)) = true → wi v (nI 0) (nI 15) = true → wi u (nI 0) (nI 99) = true → N < 8 → Q (some (.int (nI N))) (n + 1) (co R (uW W 0 (upd (upd (upd (upd (upd (upd (upd (upd (W 0) (50 + 7 * N + 0) (nI (a / 10))) (50 + 7 * N + 1) (nI (a % 10))) (50 + 7 * N + 2) (nI (b / 10))) (50 + 7 * N + 3) (nI (b % 10))) (50 + 7 * N + 4) v) (50 + 7 * N + 5) u) (50 + 7 * N + 6) (nI 1)) 0 (nI (N + 1)))) Z (uT T 0 N n) kn h0)) : Ct l M_F_tree (d + 5) 1 8 [.ref 0, .int x, .int y, .int v, .int u] n (co R W Z T kn h0) Q := by
  refine Ct.of (fun _ => trivial) (by decide) (Nat.le_of_ble_eq_true rfl) ?_
  refine V.iload_n d_F_tree_0 rfl ?_
  refine V.if_lt (tgt := 22) d_F_tree_1 (by decide) (fun c_1 => ?_) (fun c_1 => ?_)
  · skip
    refine V.iconst_ (nI 0) d_F_tree_22 (by decide +kernel) ?_
    refine V.istore d_F_tree_23 (by decide) ?_
    refine V.iload_n d_F_tree_25 rfl ?_
    refine V.bipush_ (nI 69) d_F_tree_26 (by decide +kernel) ?_
    refine V.callS2 d_F_tree_28 k_F_94_F_withinS (Nat.le_of_ble_eq_true rfl) (by omega) (by omega) (c_F_within ?_)
    refine V.ifeqB (tgt := 58) d_F_tree_31 (by decide) (fun c_31 => ?_) (fun c_31 => ?_)
    · skip
      refine V.aload_n d_F_tree_58 rfl ?_
      refine V.iconst_ (nI 1) d_F_tree_59 (by decide +kernel) ?_
      refine V.callV1 d_F_tree_60 k_F_97_F_error_FV (co_s sc_ob) (Nat.le_of_ble_eq_true rfl) (by omega) (by omega) (c_F_error (by decide) ?_)
      refine V.iret d_F_tree_63 rfl (by omega) (by omega) ?_
      have c1 : wi y (nI 0) (nI 99) = false := by unfold wi; rw [decide_eq_false (fun z => Int32.not_lt.mpr z c_1 : ¬ nI 0 ≤ y), Bool.false_and]
      exact hE (by simp only [c1, Bool.and_false, Bool.false_and])
    · skip
      refine V.iload d_F_tree_34 rfl ?_
      refine V.if_eq (tgt := 58) d_F_tree_36 (by decide) (fun c_36 => ?_) (fun c_36 => ?_)
      · skip
        refine V.aload_n d_F_tree_58 rfl ?_
        refine V.iconst_ (nI 1) d_F_tree_59 (by decide +kernel) ?_
        refine V.callV1 d_F_tree_60 k_F_97_F_error_FV (co_s sc_ob) (Nat.le_of_ble_eq_true rfl) (by omega) (by omega) (c_F_error (by decide) ?_)
        refine V.iret d_F_tree_63 rfl (by omega) (by omega) ?_
        have c1 : wi y (nI 0) (nI 99) = false := by unfold wi; rw [decide_eq_false (fun z => Int32.not_lt.mpr z c_1 : ¬ nI 0 ≤ y), Bool.false_and]
        exact hE (by simp only [c1, Bool.and_false, Bool.false_and])
      · skip
        exact absurd rfl c_36
  · skip
    refine V.iload_n d_F_tree_4 rfl ?_
    refine V.bipush_ (nI 10) d_F_tree_5 (by decide +kernel) ?_
    refine V.idiv d_F_tree_7 (by decide +kernel) ?_
    refine V.iload_n d_F_tree_8 rfl ?_
    refine V.bipush_ (nI 10) d_F_tree_9 (by decide +kernel) ?_
    refine V.irem d_F_tree_11 (by decide +kernel) ?_
    refine V.callS2 d_F_tree_12 k_F_90_F_areTwoS (Nat.le_of_ble_eq_true rfl) (by omega) (by omega) (c_F_areTwo ?_)
    refine V.ifeqB (tgt := 22) d_F_tree_15 (by decide) (fun c_15 => ?_) (fun c_15 => ?_)
    · skip
      refine V.iconst_ (nI 0) d_F_tree_22 (by decide +kernel) ?_
      refine V.istore d_F_tree_23 (by decide) ?_
      refine V.iload_n d_F_tree_25 rfl ?_
      refine V.bipush_ (nI 69) d_F_tree_26 (by decide +kernel) ?_
      refine V.callS2 d_F_tree_28 k_F_94_F_withinS (Nat.le_of_ble_eq_true rfl) (by omega) (by omega) (c_F_within ?_)
      refine V.ifeqB (tgt := 58) d_F_tree_31 (by decide) (fun c_31 => ?_) (fun c_31 => ?_)
      · skip
        refine V.aload_n d_F_tree_58 rfl ?_
        refine V.iconst_ (nI 1) d_F_tree_59 (by decide +kernel) ?_
        refine V.callV1 d_F_tree_60 k_F_97_F_error_FV (co_s sc_ob) (Nat.le_of_ble_eq_true rfl) (by omega) (by omega) (c_F_error (by decide) ?_)
        refine V.iret d_F_tree_63 rfl (by omega) (by omega) ?_
        have c15 : two (y / nI 10) (irm y (nI 10)) = false := c_15
        exact hE (by simp only [c15, Bool.and_false, Bool.false_and])
      · skip
        refine V.iload d_F_tree_34 rfl ?_
        refine V.if_eq (tgt := 58) d_F_tree_36 (by decide) (fun c_36 => ?_) (fun c_36 => ?_)
        · skip
          refine V.aload_n d_F_tree_58 rfl ?_
          refine V.iconst_ (nI 1) d_F_tree_59 (by decide +kernel) ?_
          refine V.callV1 d_F_tree_60 k_F_97_F_error_FV (co_s sc_ob) (Nat.le_of_ble_eq_true rfl) (by omega) (by omega) (c_F_error (by decide) ?_)
          refine V.iret d_F_tree_63 rfl (by omega) (by omega) ?_
          have c15 : two (y / nI 10) (irm y (nI 10)) = false := c_15
          exact hE (by simp only [c15, Bool.and_false, Bool.false_and])
        · skip
          exact absurd rfl c_36
    · skip
      refine V.iconst_ (nI 1) d_F_tree_18 (by decide +kernel) ?_
      refine V.goto (tgt := 23) d_F_tree_19 (by decide) ?_
      refine V.istore d_F_tree_23 (by decide) ?_
      refine V.iload_n d_F_tree_25 rfl ?_
      refine V.bipush_ (nI 69) d_F_tree_26 (by decide +kernel) ?_
      refine V.callS2 d_F_tree_28 k_F_94_F_withinS (Nat.le_of_ble_eq_true rfl) (by omega) (by omega) (c_F_within ?_)
      refine V.ifeqB (tgt := 58) d_F_tree_31 (by decide) (fun c_31 => ?_) (fun c_31 => ?_)
      · skip
        refine V.aload_n d_F_tree_58 rfl ?_
        refine V.iconst_ (nI 1) d_F_tree_59 (by decide +kernel) ?_
        refine V.callV1 d_F_tree_60 k_F_97_F_error_FV (co_s sc_ob) (Nat.le_of_ble_eq_true rfl) (by omega) (by omega) (c_F_error (by decide) ?_)
        refine V.iret d_F_tree_63 rfl (by omega) (by omega) ?_
        exact hE (by simp only [c_31, Bool.and_false, Bool.false_and])
      · skip
        refine V.iload d_F_tree_34 rfl ?_
        refine V.if_eq (tgt := 58) d_F_tree_36 (by decide) (fun c_36 => ?_) (fun c_36 => ?_)
        · skip
          exact absurd c_36 (by decide)
        · skip
          refine V.iload_n d_F_tree_39 rfl ?_
          refine V.bipush_ (nI 15) d_F_tree_40 (by decide +kernel) ?_
          refine V.callS2 d_F_tree_42 k_F_94_F_withinS (Nat.le_of_ble_eq_true rfl) (by omega) (by omega) (c_F_within ?_)
          refine V.ifeqB (tgt := 58) d_F_tree_45 (by decide) (fun c_45 => ?_) (fun c_45 => ?_)
          · skip
            refine V.aload_n d_F_tree_58 rfl ?_
            refine V.iconst_ (nI 1) d_F_tree_59 (by decide +kernel) ?_
            refine V.callV1 d_F_tree_60 k_F_97_F_error_FV (co_s sc_ob) (Nat.le_of_ble_eq_true rfl) (by omega) (by omega) (c_F_error (by decide) ?_)
            refine V.iret d_F_tree_63 rfl (by omega) (by omega) ?_
            exact hE (by simp only [c_45, Bool.and_false, Bool.false_and])
          · skip
            refine V.iload d_F_tree_48 rfl ?_
            refine V.bipush_ (nI 99) d_F_tree_50 (by decide +kernel) ?_
            refine V.callS2 d_F_tree_52 k_F_94_F_withinS (Nat.le_of_ble_eq_true rfl) (by omega) (by omega) (c_F_within ?_)
            refine V.ifneB (tgt := 64) d_F_tree_55 (by decide) (fun c_55 => ?_) (fun c_55 => ?_)
            · skip
              have c15 : two (y / nI 10) (irm y (nI 10)) = true := c_15
              have hy99 : wi y (nI 0) (nI 99) = true := by
                obtain ⟨b, hb, rfl⟩ := nI_of c_1
                have e1 : nI b / nI 10 = nI (b / 10) := pk_div hb (by decide) (by decide)
                rw [e1] at c15
                unfold two at c15
                rw [Bool.and_eq_true, Bool.and_eq_true] at c15
                obtain ⟨j, hj, ej⟩ := wi_nat (k := 5) (by decide) c15.1.1
                have := (nI_eq (by omega) (by omega)).mp ej
                rw [wi_ofN (by decide) (by omega) (by decide), decide_eq_true (Nat.zero_le _), decide_eq_true (show b ≤ 99 by omega)]
                rfl
              refine V.aload_n d_F_tree_64 rfl ?_
              refine V.get d_F_tree_65 f_F_39_F (co_s sc_ob) rfl ?_
              refine V.get d_F_tree_68 f_F_121_World (co_s (sc_wd (wb_ds 0 (by decide)).1)) rfl ?_
              refine V.top (y := nI N) (e0) ?_
              refine V.bipush_ (nI 8) d_F_tree_71 (by decide +kernel) ?_
              refine V.ltN (tgt := 82) d_F_tree_73 (by decide) (by omega) (by omega) (fun c_73 => ?_) (fun c_73 => ?_)
              · skip
                obtain ⟨a, ha, rfl⟩ := wi_nat (k := 69) (by decide) c_31
                obtain ⟨b, hb, rfl⟩ := wi_nat (k := 99) (by decide) hy99
                have hk6 : a / 10 ≤ 6 := by omega
                have hN8 : N < 8 := by omega
                have h104 := hT.2.2.2
                refine V.iload_n d_F_tree_82 rfl ?_
                refine V.bipush_ (nI 10) d_F_tree_83 (by decide +kernel) ?_
                refine V.divN d_F_tree_85 (by omega) (by omega) (by omega) ?_
                refine V.aload_n d_F_tree_86 rfl ?_
                refine V.get d_F_tree_87 f_F_39_F (co_s sc_ob) rfl ?_
                refine V.get d_F_tree_90 f_F_121_World (co_s (sc_wd (wb_ds 0 (by decide)).1)) rfl ?_
                refine V.top (y := nI N) (e0) ?_
                refine V.callS2 d_F_tree_93 k_F_124_F_newTreeS (Nat.le_of_ble_eq_true rfl) (by omega) (by omega) (c_F_newTree (k := a / 10) (i := N) (by omega) ?_)
                refine V.astore d_F_tree_96 (by decide) ?_
                refine V.aload d_F_tree_98 rfl ?_
                refine V.iload_n d_F_tree_100 rfl ?_
                refine V.bipush_ (nI 10) d_F_tree_101 (by decide +kernel) ?_
                refine V.remN d_F_tree_103 (by omega) (by omega) (by omega) ?_
                refine V.put d_F_tree_104 (ft_F_128 _ hk6) (fpt_2 _ hk6) (fun _ => rfl) (fun _ => rfl) up_s (Nat.le_of_ble_eq_true rfl) ?_
                refine V.eqH up_uu ?_
                refine V.aload d_F_tree_107 rfl ?_
                refine V.iload_n d_F_tree_109 rfl ?_
                refine V.bipush_ (nI 10) d_F_tree_110 (by decide +kernel) ?_
                refine V.divN d_F_tree_112 (by omega) (by omega) (by omega) ?_
                refine V.put d_F_tree_113 (ft_F_133 _ hk6) (fpt_3 _ hk6) (fun _ => rfl) (fun _ => rfl) up_s (Nat.le_of_ble_eq_true rfl) ?_
                refine V.eqH up_uu ?_
                refine V.aload d_F_tree_116 rfl ?_
                refine V.iload_n d_F_tree_118 rfl ?_
                refine V.bipush_ (nI 10) d_F_tree_119 (by decide +kernel) ?_
                refine V.remN d_F_tree_121 (by omega) (by omega) (by omega) ?_
                refine V.put d_F_tree_122 (ft_F_136 _ hk6) (fpt_4 _ hk6) (fun _ => rfl) (fun _ => rfl) up_s (Nat.le_of_ble_eq_true rfl) ?_
                refine V.eqH up_uu ?_
                refine V.aload d_F_tree_125 rfl ?_
                refine V.iload_n d_F_tree_127 rfl ?_
                refine V.put d_F_tree_128 (ft_F_139 _ hk6) (fpt_5 _ hk6) (fun _ => rfl) (fun _ => rfl) up_s (Nat.le_of_ble_eq_true rfl) ?_
                refine V.eqH up_uu ?_
                refine V.aload d_F_tree_131 rfl ?_
                refine V.iload d_F_tree_133 rfl ?_
                refine V.put d_F_tree_135 (ft_F_142 _ hk6) (fpt_6 _ hk6) (fun _ => rfl) (fun _ => rfl) up_s (Nat.le_of_ble_eq_true rfl) ?_
                refine V.eqH up_uu ?_
                refine V.aload_n d_F_tree_138 rfl ?_
                refine V.get d_F_tree_139 f_F_39_F ((up_n (show _ ≠ n by (try unfold wb); (try rw [if_pos rfl]); omega)).trans (co_s sc_ob)) rfl ?_
                refine V.get d_F_tree_142 f_F_145_World ((up_n (show _ ≠ n by (try unfold wb); (try rw [if_pos rfl]); omega)).trans (co_s (sc_wd (wb_ds 0 (by decide)).1))) rfl ?_
                refine V.aload d_F_tree_145 rfl ?_
                refine V.get d_F_tree_147 (ft_F_149 _ hk6) up_s rfl ?_
                refine V.aload d_F_tree_150 rfl ?_
                refine V.aast (cn := "FelledByNames$Tree") d_F_tree_152 (Or.inl ⟨rfl, rfl⟩) ((up_n (show wb 0 + 3 ≠ n by unfold wb; rw [if_pos rfl]; omega)).trans (co_s (sc_tr (wb_ds 0 (by decide)).2.2.2.1))) up_s (kcls_ok _ hk6) (kcls_tr _ hk6) (vp_in_nI (by omega) (by omega)) ?_
                have eD : ∀ j, j < 50 + 7 * N ∨ 50 + 7 * N + 7 ≤ j → (upd (upd (upd (upd (upd (upd (upd (W 0) (50 + 7 * N + 0) (nI (a / 10))) (50 + 7 * N + 1) (nI (a % 10))) (50 + 7 * N + 2) (nI (b / 10))) (50 + 7 * N + 3) (nI (b % 10))) (50 + 7 * N + 4) v) (50 + 7 * N + 5) u) (50 + 7 * N + 6) (nI 1)) j = W 0 j := fun j hj => by rw [pk_un (by omega), pk_un (by omega), pk_un (by omega), pk_un (by omega), pk_un (by omega), pk_un (by omega), pk_un (by omega)]
                have eT : trc (uW W 0 (upd (upd (upd (upd (upd (upd (upd (W 0) (50 + 7 * N + 0) (nI (a / 10))) (50 + 7 * N + 1) (nI (a % 10))) (50 + 7 * N + 2) (nI (b / 10))) (50 + 7 * N + 3) (nI (b % 10))) (50 + 7 * N + 4) v) (50 + 7 * N + 5) u) (50 + 7 * N + 6) (nI 1))) 0 N = .inr (6 + a / 10, [.int (nI (a / 10)), .int (nI N), .int (nI (a % 10)), .int (nI (b / 10)), .int (nI (b % 10)), .int v, .int u, .int (nI 1)]) := by
                  have q0 : (upd (upd (upd (upd (upd (upd (upd (W 0) (50 + 7 * N + 0) (nI (a / 10))) (50 + 7 * N + 1) (nI (a % 10))) (50 + 7 * N + 2) (nI (b / 10))) (50 + 7 * N + 3) (nI (b % 10))) (50 + 7 * N + 4) v) (50 + 7 * N + 5) u) (50 + 7 * N + 6) (nI 1)) (50 + 7 * N + 0) = nI (a / 10) := by rw [pk_un (by omega), pk_un (by omega), pk_un (by omega), pk_un (by omega), pk_un (by omega), pk_un (by omega), pk_us]
                  have q1 : (upd (upd (upd (upd (upd (upd (upd (W 0) (50 + 7 * N + 0) (nI (a / 10))) (50 + 7 * N + 1) (nI (a % 10))) (50 + 7 * N + 2) (nI (b / 10))) (50 + 7 * N + 3) (nI (b % 10))) (50 + 7 * N + 4) v) (50 + 7 * N + 5) u) (50 + 7 * N + 6) (nI 1)) (50 + 7 * N + 1) = nI (a % 10) := by rw [pk_un (by omega), pk_un (by omega), pk_un (by omega), pk_un (by omega), pk_un (by omega), pk_us]
                  have q2 : (upd (upd (upd (upd (upd (upd (upd (W 0) (50 + 7 * N + 0) (nI (a / 10))) (50 + 7 * N + 1) (nI (a % 10))) (50 + 7 * N + 2) (nI (b / 10))) (50 + 7 * N + 3) (nI (b % 10))) (50 + 7 * N + 4) v) (50 + 7 * N + 5) u) (50 + 7 * N + 6) (nI 1)) (50 + 7 * N + 2) = nI (b / 10) := by rw [pk_un (by omega), pk_un (by omega), pk_un (by omega), pk_un (by omega), pk_us]
                  have q3 : (upd (upd (upd (upd (upd (upd (upd (W 0) (50 + 7 * N + 0) (nI (a / 10))) (50 + 7 * N + 1) (nI (a % 10))) (50 + 7 * N + 2) (nI (b / 10))) (50 + 7 * N + 3) (nI (b % 10))) (50 + 7 * N + 4) v) (50 + 7 * N + 5) u) (50 + 7 * N + 6) (nI 1)) (50 + 7 * N + 3) = nI (b % 10) := by rw [pk_un (by omega), pk_un (by omega), pk_un (by omega), pk_us]
                  have q4 : (upd (upd (upd (upd (upd (upd (upd (W 0) (50 + 7 * N + 0) (nI (a / 10))) (50 + 7 * N + 1) (nI (a % 10))) (50 + 7 * N + 2) (nI (b / 10))) (50 + 7 * N + 3) (nI (b % 10))) (50 + 7 * N + 4) v) (50 + 7 * N + 5) u) (50 + 7 * N + 6) (nI 1)) (50 + 7 * N + 4) = v := by rw [pk_un (by omega), pk_un (by omega), pk_us]
                  have q5 : (upd (upd (upd (upd (upd (upd (upd (W 0) (50 + 7 * N + 0) (nI (a / 10))) (50 + 7 * N + 1) (nI (a % 10))) (50 + 7 * N + 2) (nI (b / 10))) (50 + 7 * N + 3) (nI (b % 10))) (50 + 7 * N + 4) v) (50 + 7 * N + 5) u) (50 + 7 * N + 6) (nI 1)) (50 + 7 * N + 5) = u := by rw [pk_un (by omega), pk_us]
                  have q6 : (upd (upd (upd (upd (upd (upd (upd (W 0) (50 + 7 * N + 0) (nI (a / 10))) (50 + 7 * N + 1) (nI (a % 10))) (50 + 7 * N + 2) (nI (b / 10))) (50 + 7 * N + 3) (nI (b % 10))) (50 + 7 * N + 4) v) (50 + 7 * N + 5) u) (50 + 7 * N + 6) (nI 1)) (50 + 7 * N + 6) = nI 1 := by rw [pk_us]
                  unfold trc trl tN
                  rw [uW_s, q0, icl (by omega), q1, q2, q3, q4, q5, q6]
                refine V.hp (h' := co R (uW W 0 (upd (upd (upd (upd (upd (upd (upd (W 0) (50 + 7 * N + 0) (nI (a / 10))) (50 + 7 * N + 1) (nI (a % 10))) (50 + 7 * N + 2) (nI (b / 10))) (50 + 7 * N + 3) (nI (b % 10))) (50 + 7 * N + 4) v) (50 + 7 * N + 5) u) (50 + 7 * N + 6) (nI 1))) Z (uT T 0 N n) kn h0) (fun q e h => ?_) ?_
                · have g := co_ntG eD hT (by decide) hN8 hh0 q e h
                  rw [eT] at g
                  exact g
                refine V.aload_n d_F_tree_153 rfl ?_
                refine V.get d_F_tree_154 f_F_39_F (co_s sc_ob) rfl ?_
                refine V.dup rfl d_F_tree_157 ?_
                refine V.get d_F_tree_158 f_F_121_World (co_s (sc_wd (wb_ds 0 (by decide)).1)) rfl ?_
                refine V.top (y := nI N) (by rw [uW_s, pk_un (by omega), pk_un (by omega), pk_un (by omega), pk_un (by omega), pk_un (by omega), pk_un (by omega), pk_un (by omega)]; exact e0) ?_
                refine V.iconst_ (nI 1) d_F_tree_161 (by decide +kernel) ?_
                refine V.addN d_F_tree_162 ?_
                refine V.put d_F_tree_163 f_F_121_World fp_World_5 (fun _ => rfl) (fun _ => rfl) (co_s (sc_wd (wb_ds 0 (by decide)).1)) (Nat.le_of_ble_eq_true rfl) ?_
                refine V.eqH (co_uwd (w := 0) (j := 0) (by decide) (by decide)) ?_
                refine V.aload d_F_tree_166 rfl ?_
                have g := co_t (R := R) (W := uW (uW W 0 (upd (upd (upd (upd (upd (upd (upd (W 0) (50 + 7 * N + 0) (nI (a / 10))) (50 + 7 * N + 1) (nI (a % 10))) (50 + 7 * N + 2) (nI (b / 10))) (50 + 7 * N + 3) (nI (b % 10))) (50 + 7 * N + 4) v) (50 + 7 * N + 5) u) (50 + 7 * N + 6) (nI 1))) 0 (upd (uW W 0 (upd (upd (upd (upd (upd (upd (upd (W 0) (50 + 7 * N + 0) (nI (a / 10))) (50 + 7 * N + 1) (nI (a % 10))) (50 + 7 * N + 2) (nI (b / 10))) (50 + 7 * N + 3) (nI (b % 10))) (50 + 7 * N + 4) v) (50 + 7 * N + 5) u) (50 + 7 * N + 6) (nI 1)) 0) 0 (nI (N + 1)))) (Z := Z) (h0 := h0) (hT.nt (w := 0) (i := N) (by decide) hN8) (w := 0) (i := N) (by decide) hN8
                rw [uT_s] at g
                unfold trc trl at g
                have hk7 : tN ((uW (uW W 0 (upd (upd (upd (upd (upd (upd (upd (W 0) (50 + 7 * N + 0) (nI (a / 10))) (50 + 7 * N + 1) (nI (a % 10))) (50 + 7 * N + 2) (nI (b / 10))) (50 + 7 * N + 3) (nI (b % 10))) (50 + 7 * N + 4) v) (50 + 7 * N + 5) u) (50 + 7 * N + 6) (nI 1))) 0 (upd (uW W 0 (upd (upd (upd (upd (upd (upd (upd (W 0) (50 + 7 * N + 0) (nI (a / 10))) (50 + 7 * N + 1) (nI (a % 10))) (50 + 7 * N + 2) (nI (b / 10))) (50 + 7 * N + 3) (nI (b % 10))) (50 + 7 * N + 4) v) (50 + 7 * N + 5) u) (50 + 7 * N + 6) (nI 1)) 0) 0 (nI (N + 1)))) 0) (50 + 7 * N + 0) ≤ 6 := by unfold tN; rw [uW_s, pk_un (by omega), uW_s, pk_un (by omega), pk_un (by omega), pk_un (by omega), pk_un (by omega), pk_un (by omega), pk_un (by omega), pk_us, icl (by omega)]; exact hk6
                refine V.get d_F_tree_168 (ft_F_149 _ hk7) g rfl ?_
                have c15b : two (nI (b / 10)) (nI (b % 10)) = true := by
                  have e1 : nI b / nI 10 = nI (b / 10) := pk_div (by omega) (by decide) (by decide)
                  have e2 : irm (nI b) (nI 10) = nI (b % 10) := pk_rem (by omega) (by decide) (by decide)
                  rw [e1, e2] at c15
                  exact c15
                refine V.iret d_F_tree_171 rfl (by omega) (by omega) ?_
                rw [uW_uu, uW_s]
                exact hOk a b ha hb rfl rfl c15b c_45 c_55 hN8
              · skip
                refine V.aload_n d_F_tree_76 rfl ?_
                refine V.iconst_ (nI 4) d_F_tree_77 (by decide +kernel) ?_
                refine V.callV1 d_F_tree_78 k_F_97_F_error_FV (co_s sc_ob) (Nat.le_of_ble_eq_true rfl) (by omega) (by omega) (c_F_error (by decide) ?_)
                refine V.iret d_F_tree_81 rfl (by omega) (by omega) ?_
                exact hF c_31 hy99 c15 c_45 c_55 (by omega)
            · skip
              refine V.aload_n d_F_tree_58 rfl ?_
              refine V.iconst_ (nI 1) d_F_tree_59 (by decide +kernel) ?_
              refine V.callV1 d_F_tree_60 k_F_97_F_error_FV (co_s sc_ob) (Nat.le_of_ble_eq_true rfl) (by omega) (by omega) (c_F_error (by decide) ?_)
              refine V.iret d_F_tree_63 rfl (by omega) (by omega) ?_
              exact hE (by simp only [c_55, Bool.and_false, Bool.false_and])
