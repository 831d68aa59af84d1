abbrev mfl0 : List Value := [.null, .null, .null, .int 0, .null, .int 0, .int 0, .int 0, .int 0, .int 0, .int 0, .null, .null, .int 0, .null, .null, .null, .null, .int 0, .null, .int 0, .int 0, .null, .null, .null, .null]
def D0 : Nat → Int32 := fun j => if 8 ≤ j ∧ j < 44 ∧ ¬ (j - 8) / 6 = (j - 8) % 6 then nI 20 else if j = 2 then nI 15 else if j = 5 then nI 1 else nI 0
def D00 (k : Nat) : Nat → Int32 := fun j => if 8 ≤ j ∧ j < 8 + k ∧ ¬ (j - 8) / 6 = (j - 8) % 6 then nI 20 else nI 0
theorem D00_0 : (fun _ => 0 : Nat → Int32) = D00 0 := by
  funext j
  unfold D00
  rw [if_neg (by omega)]
  rfl
theorem D00_s (k : Nat) : D00 (k + 1) = upd (D00 k) (8 + k) (if k / 6 = k % 6 then nI 0 else nI 20) := by
  funext j
  unfold D00 upd
  by_cases hj : j = 8 + k
  · subst hj
    rw [if_pos rfl, show 8 + k - 8 = k by omega]
    by_cases hk : k / 6 = k % 6
    · rw [if_pos hk, if_neg (fun z => z.2.2 hk)]
    · rw [if_neg hk, if_pos ⟨by omega, by omega, hk⟩]
  · rw [if_neg hj]
    show _ = if 8 ≤ j ∧ j < 8 + k ∧ ¬ (j - 8) / 6 = (j - 8) % 6 then nI 20 else nI 0
    by_cases h1 : 8 ≤ j ∧ j < 8 + k ∧ ¬ (j - 8) / 6 = (j - 8) % 6
    · rw [if_pos h1, if_pos ⟨h1.1, by omega, h1.2.2⟩]
    · rw [if_neg h1, if_neg (fun z => h1 ⟨z.1, by omega, z.2.2⟩)]
theorem D0_eq : upd (upd (D00 36) 2 (nI 15)) 5 (nI 1) = D0 := by
  funext j
  unfold D0 D00 upd
  by_cases h5 : j = 5
  · subst h5; rfl
  · rw [if_neg h5]
    by_cases h2 : j = 2
    · subst h2; rfl
    · rw [if_neg h2, if_neg h2, if_neg h5]
abbrev M_Mo_init : MD := (⟨"FelledByNamesModel", "<init>", "()V"⟩, prog_14_method_1_code, 2, none, fun _ => True)
theorem d_Mo_init_0 : decode prog_14_method_1_code 0 = .ok (.aload_n 0, 1) := by decide +kernel
theorem d_Mo_init_1 : decode prog_14_method_1_code 1 = .ok (.invokespecial 1, 3) := by decide +kernel
theorem d_Mo_init_4 : decode prog_14_method_1_code 4 = .ok (.aload_n 0, 1) := by decide +kernel
theorem d_Mo_init_5 : decode prog_14_method_1_code 5 = .ok (.sipush 278, 3) := by decide +kernel
theorem d_Mo_init_8 : decode prog_14_method_1_code 8 = .ok (.newarray .int, 2) := by decide +kernel
theorem d_Mo_init_10 : decode prog_14_method_1_code 10 = .ok (.putfield 7, 3) := by decide +kernel
theorem fF_Mo_Mo_0 : fpF "FelledByNamesModel" 5 0 (.array .int) := ⟨_, _, _, rfl, rfl, rfl, by decide +kernel⟩
theorem d_Mo_init_13 : decode prog_14_method_1_code 13 = .ok (.aload_n 0, 1) := by decide +kernel
theorem d_Mo_init_14 : decode prog_14_method_1_code 14 = .ok (.sipush 278, 3) := by decide +kernel
theorem d_Mo_init_17 : decode prog_14_method_1_code 17 = .ok (.newarray .int, 2) := by decide +kernel
theorem d_Mo_init_19 : decode prog_14_method_1_code 19 = .ok (.putfield 13, 3) := by decide +kernel
theorem fF_Mo_Mo_1 : fpF "FelledByNamesModel" 5 1 (.array .int) := ⟨_, _, _, rfl, rfl, rfl, by decide +kernel⟩
theorem d_Mo_init_22 : decode prog_14_method_1_code 22 = .ok (.aload_n 0, 1) := by decide +kernel
theorem d_Mo_init_23 : decode prog_14_method_1_code 23 = .ok (.bipush 106, 2) := by decide +kernel
theorem d_Mo_init_25 : decode prog_14_method_1_code 25 = .ok (.newarray .int, 2) := by decide +kernel
theorem d_Mo_init_27 : decode prog_14_method_1_code 27 = .ok (.putfield 16, 3) := by decide +kernel
theorem fF_Mo_Mo_2 : fpF "FelledByNamesModel" 5 2 (.array .int) := ⟨_, _, _, rfl, rfl, rfl, by decide +kernel⟩
theorem d_Mo_init_30 : decode prog_14_method_1_code 30 = .ok (.aload_n 0, 1) := by decide +kernel
theorem d_Mo_init_31 : decode prog_14_method_1_code 31 = .ok (.bipush 6, 2) := by decide +kernel
theorem d_Mo_init_33 : decode prog_14_method_1_code 33 = .ok (.newarray .int, 2) := by decide +kernel
theorem d_Mo_init_35 : decode prog_14_method_1_code 35 = .ok (.putfield 19, 3) := by decide +kernel
theorem fF_Mo_Mo_4 : fpF "FelledByNamesModel" 5 4 (.array .int) := ⟨_, _, _, rfl, rfl, rfl, by decide +kernel⟩
theorem d_Mo_init_38 : decode prog_14_method_1_code 38 = .ok (.aload_n 0, 1) := by decide +kernel
theorem d_Mo_init_39 : decode prog_14_method_1_code 39 = .ok (.iconst 3, 1) := by decide +kernel
theorem d_Mo_init_40 : decode prog_14_method_1_code 40 = .ok (.newarray .int, 2) := by decide +kernel
theorem d_Mo_init_42 : decode prog_14_method_1_code 42 = .ok (.putfield 22, 3) := by decide +kernel
theorem fF_Mo_Mo_11 : fpF "FelledByNamesModel" 5 11 (.array .int) := ⟨_, _, _, rfl, rfl, rfl, by decide +kernel⟩
theorem d_Mo_init_45 : decode prog_14_method_1_code 45 = .ok (.aload_n 0, 1) := by decide +kernel
theorem d_Mo_init_46 : decode prog_14_method_1_code 46 = .ok (.bipush 60, 2) := by decide +kernel
theorem d_Mo_init_48 : decode prog_14_method_1_code 48 = .ok (.newarray .int, 2) := by decide +kernel
theorem d_Mo_init_50 : decode prog_14_method_1_code 50 = .ok (.putfield 25, 3) := by decide +kernel
theorem fF_Mo_Mo_12 : fpF "FelledByNamesModel" 5 12 (.array .int) := ⟨_, _, _, rfl, rfl, rfl, by decide +kernel⟩
theorem d_Mo_init_53 : decode prog_14_method_1_code 53 = .ok (.aload_n 0, 1) := by decide +kernel
theorem d_Mo_init_54 : decode prog_14_method_1_code 54 = .ok (.bipush 60, 2) := by decide +kernel
theorem d_Mo_init_56 : decode prog_14_method_1_code 56 = .ok (.newarray .int, 2) := by decide +kernel
theorem d_Mo_init_58 : decode prog_14_method_1_code 58 = .ok (.putfield 28, 3) := by decide +kernel
theorem fF_Mo_Mo_14 : fpF "FelledByNamesModel" 5 14 (.array .int) := ⟨_, _, _, rfl, rfl, rfl, by decide +kernel⟩
theorem d_Mo_init_61 : decode prog_14_method_1_code 61 = .ok (.aload_n 0, 1) := by decide +kernel
theorem d_Mo_init_62 : decode prog_14_method_1_code 62 = .ok (.bipush 9, 2) := by decide +kernel
theorem d_Mo_init_64 : decode prog_14_method_1_code 64 = .ok (.newarray .int, 2) := by decide +kernel
theorem d_Mo_init_66 : decode prog_14_method_1_code 66 = .ok (.putfield 31, 3) := by decide +kernel
theorem fF_Mo_Mo_15 : fpF "FelledByNamesModel" 5 15 (.array .int) := ⟨_, _, _, rfl, rfl, rfl, by decide +kernel⟩
theorem d_Mo_init_69 : decode prog_14_method_1_code 69 = .ok (.aload_n 0, 1) := by decide +kernel
theorem d_Mo_init_70 : decode prog_14_method_1_code 70 = .ok (.bipush 9, 2) := by decide +kernel
theorem d_Mo_init_72 : decode prog_14_method_1_code 72 = .ok (.newarray .int, 2) := by decide +kernel
theorem d_Mo_init_74 : decode prog_14_method_1_code 74 = .ok (.putfield 34, 3) := by decide +kernel
theorem fF_Mo_Mo_16 : fpF "FelledByNamesModel" 5 16 (.array .int) := ⟨_, _, _, rfl, rfl, rfl, by decide +kernel⟩
theorem d_Mo_init_77 : decode prog_14_method_1_code 77 = .ok (.aload_n 0, 1) := by decide +kernel
theorem d_Mo_init_78 : decode prog_14_method_1_code 78 = .ok (.bipush 8, 2) := by decide +kernel
theorem d_Mo_init_80 : decode prog_14_method_1_code 80 = .ok (.newarray .int, 2) := by decide +kernel
theorem d_Mo_init_82 : decode prog_14_method_1_code 82 = .ok (.putfield 37, 3) := by decide +kernel
theorem fF_Mo_Mo_17 : fpF "FelledByNamesModel" 5 17 (.array .int) := ⟨_, _, _, rfl, rfl, rfl, by decide +kernel⟩
theorem d_Mo_init_85 : decode prog_14_method_1_code 85 = .ok (.aload_n 0, 1) := by decide +kernel
theorem d_Mo_init_86 : decode prog_14_method_1_code 86 = .ok (.bipush 40, 2) := by decide +kernel
theorem d_Mo_init_88 : decode prog_14_method_1_code 88 = .ok (.newarray .int, 2) := by decide +kernel
theorem d_Mo_init_90 : decode prog_14_method_1_code 90 = .ok (.putfield 40, 3) := by decide +kernel
theorem fF_Mo_Mo_19 : fpF "FelledByNamesModel" 5 19 (.array .int) := ⟨_, _, _, rfl, rfl, rfl, by decide +kernel⟩
theorem d_Mo_init_93 : decode prog_14_method_1_code 93 = .ok (.aload_n 0, 1) := by decide +kernel
theorem d_Mo_init_94 : decode prog_14_method_1_code 94 = .ok (.iconst 4, 1) := by decide +kernel
theorem d_Mo_init_95 : decode prog_14_method_1_code 95 = .ok (.newarray .int, 2) := by decide +kernel
theorem d_Mo_init_97 : decode prog_14_method_1_code 97 = .ok (.putfield 43, 3) := by decide +kernel
theorem fF_Mo_Mo_22 : fpF "FelledByNamesModel" 5 22 (.array .int) := ⟨_, _, _, rfl, rfl, rfl, by decide +kernel⟩
theorem d_Mo_init_100 : decode prog_14_method_1_code 100 = .ok (.aload_n 0, 1) := by decide +kernel
theorem d_Mo_init_101 : decode prog_14_method_1_code 101 = .ok (.iconst 4, 1) := by decide +kernel
theorem d_Mo_init_102 : decode prog_14_method_1_code 102 = .ok (.newarray .int, 2) := by decide +kernel
theorem d_Mo_init_104 : decode prog_14_method_1_code 104 = .ok (.putfield 46, 3) := by decide +kernel
theorem fF_Mo_Mo_23 : fpF "FelledByNamesModel" 5 23 (.array .int) := ⟨_, _, _, rfl, rfl, rfl, by decide +kernel⟩
theorem d_Mo_init_107 : decode prog_14_method_1_code 107 = .ok (.aload_n 0, 1) := by decide +kernel
theorem d_Mo_init_108 : decode prog_14_method_1_code 108 = .ok (.sipush 160, 3) := by decide +kernel
theorem d_Mo_init_111 : decode prog_14_method_1_code 111 = .ok (.newarray .int, 2) := by decide +kernel
theorem d_Mo_init_113 : decode prog_14_method_1_code 113 = .ok (.putfield 49, 3) := by decide +kernel
theorem fF_Mo_Mo_24 : fpF "FelledByNamesModel" 5 24 (.array .int) := ⟨_, _, _, rfl, rfl, rfl, by decide +kernel⟩
theorem d_Mo_init_116 : decode prog_14_method_1_code 116 = .ok (.aload_n 0, 1) := by decide +kernel
theorem d_Mo_init_117 : decode prog_14_method_1_code 117 = .ok (.bipush 40, 2) := by decide +kernel
theorem d_Mo_init_119 : decode prog_14_method_1_code 119 = .ok (.newarray .int, 2) := by decide +kernel
theorem d_Mo_init_121 : decode prog_14_method_1_code 121 = .ok (.putfield 52, 3) := by decide +kernel
theorem fF_Mo_Mo_25 : fpF "FelledByNamesModel" 5 25 (.array .int) := ⟨_, _, _, rfl, rfl, rfl, by decide +kernel⟩
theorem d_Mo_init_124 : decode prog_14_method_1_code 124 = .ok (.iconst 0, 1) := by decide +kernel
theorem d_Mo_init_125 : decode prog_14_method_1_code 125 = .ok (.istore_n 1, 1) := by decide +kernel
theorem d_Mo_init_126 : decode prog_14_method_1_code 126 = .ok (.iload_n 1, 1) := by decide +kernel
theorem d_Mo_init_127 : decode prog_14_method_1_code 127 = .ok (.bipush 36, 2) := by decide +kernel
theorem d_Mo_init_129 : decode prog_14_method_1_code 129 = .ok (.if_icmp .ge 35, 3) := by decide +kernel
theorem d_Mo_init_164 : decode prog_14_method_1_code 164 = .ok (.aload_n 0, 1) := by decide +kernel
theorem d_Mo_init_165 : decode prog_14_method_1_code 165 = .ok (.getfield 7, 3) := by decide +kernel
theorem d_Mo_init_168 : decode prog_14_method_1_code 168 = .ok (.iconst 2, 1) := by decide +kernel
theorem d_Mo_init_169 : decode prog_14_method_1_code 169 = .ok (.bipush 15, 2) := by decide +kernel
theorem d_Mo_init_171 : decode prog_14_method_1_code 171 = .ok (.iastore, 1) := by decide +kernel
theorem d_Mo_init_172 : decode prog_14_method_1_code 172 = .ok (.aload_n 0, 1) := by decide +kernel
theorem d_Mo_init_173 : decode prog_14_method_1_code 173 = .ok (.getfield 7, 3) := by decide +kernel
theorem d_Mo_init_176 : decode prog_14_method_1_code 176 = .ok (.iconst 5, 1) := by decide +kernel
theorem d_Mo_init_177 : decode prog_14_method_1_code 177 = .ok (.iconst 1, 1) := by decide +kernel
theorem d_Mo_init_178 : decode prog_14_method_1_code 178 = .ok (.iastore, 1) := by decide +kernel
theorem d_Mo_init_179 : decode prog_14_method_1_code 179 = .ok (.return_, 1) := by decide +kernel
theorem d_Mo_init_132 : decode prog_14_method_1_code 132 = .ok (.aload_n 0, 1) := by decide +kernel
theorem d_Mo_init_133 : decode prog_14_method_1_code 133 = .ok (.getfield 7, 3) := by decide +kernel
theorem d_Mo_init_136 : decode prog_14_method_1_code 136 = .ok (.bipush 8, 2) := by decide +kernel
theorem d_Mo_init_138 : decode prog_14_method_1_code 138 = .ok (.iload_n 1, 1) := by decide +kernel
theorem d_Mo_init_139 : decode prog_14_method_1_code 139 = .ok (.iadd, 1) := by decide +kernel
theorem d_Mo_init_140 : decode prog_14_method_1_code 140 = .ok (.iload_n 1, 1) := by decide +kernel
theorem d_Mo_init_141 : decode prog_14_method_1_code 141 = .ok (.bipush 6, 2) := by decide +kernel
theorem d_Mo_init_143 : decode prog_14_method_1_code 143 = .ok (.idiv, 1) := by decide +kernel
theorem d_Mo_init_144 : decode prog_14_method_1_code 144 = .ok (.iload_n 1, 1) := by decide +kernel
theorem d_Mo_init_145 : decode prog_14_method_1_code 145 = .ok (.bipush 6, 2) := by decide +kernel
theorem d_Mo_init_147 : decode prog_14_method_1_code 147 = .ok (.irem, 1) := by decide +kernel
theorem d_Mo_init_148 : decode prog_14_method_1_code 148 = .ok (.if_icmp .ne 7, 3) := by decide +kernel
theorem d_Mo_init_155 : decode prog_14_method_1_code 155 = .ok (.bipush 20, 2) := by decide +kernel
theorem d_Mo_init_157 : decode prog_14_method_1_code 157 = .ok (.iastore, 1) := by decide +kernel
theorem d_Mo_init_158 : decode prog_14_method_1_code 158 = .ok (.iinc 1 1, 3) := by decide +kernel
theorem d_Mo_init_161 : decode prog_14_method_1_code 161 = .ok (.goto (-35), 3) := by decide +kernel
theorem d_Mo_init_151 : decode prog_14_method_1_code 151 = .ok (.iconst 0, 1) := by decide +kernel
theorem d_Mo_init_152 : decode prog_14_method_1_code 152 = .ok (.goto 5, 3) := by decide +kernel
set_option maxRecDepth 100000 in
theorem mo_begin {q : Nat} (h : HP) : up (up (up (up (up (up (up (up (up (up (up (up (up (up (up (up (up (up (up (up (up (up (up (up (up (up (up (up (up (up (up h q (.inr (5, mfl0))) (q + 1 + 0) (.inl (0, 278, .inl (fun _ => 0)))) q (.inr (5, (mfl0).set 0 (.ref (q + 1 + 0))))) (q + 1 + 1) (.inl (0, 278, .inl (fun _ => 0)))) q (.inr (5, ((mfl0).set 0 (.ref (q + 1 + 0))).set 1 (.ref (q + 1 + 1))))) (q + 1 + 2) (.inl (0, 106, .inl (fun _ => 0)))) q (.inr (5, (((mfl0).set 0 (.ref (q + 1 + 0))).set 1 (.ref (q + 1 + 1))).set 2 (.ref (q + 1 + 2))))) (q + 1 + 3) (.inl (0, 6, .inl (fun _ => 0)))) q (.inr (5, ((((mfl0).set 0 (.ref (q + 1 + 0))).set 1 (.ref (q + 1 + 1))).set 2 (.ref (q + 1 + 2))).set 4 (.ref (q + 1 + 3))))) (q + 1 + 4) (.inl (0, 3, .inl (fun _ => 0)))) q (.inr (5, (((((mfl0).set 0 (.ref (q + 1 + 0))).set 1 (.ref (q + 1 + 1))).set 2 (.ref (q + 1 + 2))).set 4 (.ref (q + 1 + 3))).set 11 (.ref (q + 1 + 4))))) (q + 1 + 5) (.inl (0, 60, .inl (fun _ => 0)))) q (.inr (5, ((((((mfl0).set 0 (.ref (q + 1 + 0))).set 1 (.ref (q + 1 + 1))).set 2 (.ref (q + 1 + 2))).set 4 (.ref (q + 1 + 3))).set 11 (.ref (q + 1 + 4))).set 12 (.ref (q + 1 + 5))))) (q + 1 + 6) (.inl (0, 60, .inl (fun _ => 0)))) q (.inr (5, (((((((mfl0).set 0 (.ref (q + 1 + 0))).set 1 (.ref (q + 1 + 1))).set 2 (.ref (q + 1 + 2))).set 4 (.ref (q + 1 + 3))).set 11 (.ref (q + 1 + 4))).set 12 (.ref (q + 1 + 5))).set 14 (.ref (q + 1 + 6))))) (q + 1 + 7) (.inl (0, 9, .inl (fun _ => 0)))) q (.inr (5, ((((((((mfl0).set 0 (.ref (q + 1 + 0))).set 1 (.ref (q + 1 + 1))).set 2 (.ref (q + 1 + 2))).set 4 (.ref (q + 1 + 3))).set 11 (.ref (q + 1 + 4))).set 12 (.ref (q + 1 + 5))).set 14 (.ref (q + 1 + 6))).set 15 (.ref (q + 1 + 7))))) (q + 1 + 8) (.inl (0, 9, .inl (fun _ => 0)))) q (.inr (5, (((((((((mfl0).set 0 (.ref (q + 1 + 0))).set 1 (.ref (q + 1 + 1))).set 2 (.ref (q + 1 + 2))).set 4 (.ref (q + 1 + 3))).set 11 (.ref (q + 1 + 4))).set 12 (.ref (q + 1 + 5))).set 14 (.ref (q + 1 + 6))).set 15 (.ref (q + 1 + 7))).set 16 (.ref (q + 1 + 8))))) (q + 1 + 9) (.inl (0, 8, .inl (fun _ => 0)))) q (.inr (5, ((((((((((mfl0).set 0 (.ref (q + 1 + 0))).set 1 (.ref (q + 1 + 1))).set 2 (.ref (q + 1 + 2))).set 4 (.ref (q + 1 + 3))).set 11 (.ref (q + 1 + 4))).set 12 (.ref (q + 1 + 5))).set 14 (.ref (q + 1 + 6))).set 15 (.ref (q + 1 + 7))).set 16 (.ref (q + 1 + 8))).set 17 (.ref (q + 1 + 9))))) (q + 1 + 10) (.inl (0, 40, .inl (fun _ => 0)))) q (.inr (5, (((((((((((mfl0).set 0 (.ref (q + 1 + 0))).set 1 (.ref (q + 1 + 1))).set 2 (.ref (q + 1 + 2))).set 4 (.ref (q + 1 + 3))).set 11 (.ref (q + 1 + 4))).set 12 (.ref (q + 1 + 5))).set 14 (.ref (q + 1 + 6))).set 15 (.ref (q + 1 + 7))).set 16 (.ref (q + 1 + 8))).set 17 (.ref (q + 1 + 9))).set 19 (.ref (q + 1 + 10))))) (q + 1 + 11) (.inl (0, 4, .inl (fun _ => 0)))) q (.inr (5, ((((((((((((mfl0).set 0 (.ref (q + 1 + 0))).set 1 (.ref (q + 1 + 1))).set 2 (.ref (q + 1 + 2))).set 4 (.ref (q + 1 + 3))).set 11 (.ref (q + 1 + 4))).set 12 (.ref (q + 1 + 5))).set 14 (.ref (q + 1 + 6))).set 15 (.ref (q + 1 + 7))).set 16 (.ref (q + 1 + 8))).set 17 (.ref (q + 1 + 9))).set 19 (.ref (q + 1 + 10))).set 22 (.ref (q + 1 + 11))))) (q + 1 + 12) (.inl (0, 4, .inl (fun _ => 0)))) q (.inr (5, (((((((((((((mfl0).set 0 (.ref (q + 1 + 0))).set 1 (.ref (q + 1 + 1))).set 2 (.ref (q + 1 + 2))).set 4 (.ref (q + 1 + 3))).set 11 (.ref (q + 1 + 4))).set 12 (.ref (q + 1 + 5))).set 14 (.ref (q + 1 + 6))).set 15 (.ref (q + 1 + 7))).set 16 (.ref (q + 1 + 8))).set 17 (.ref (q + 1 + 9))).set 19 (.ref (q + 1 + 10))).set 22 (.ref (q + 1 + 11))).set 23 (.ref (q + 1 + 12))))) (q + 1 + 13) (.inl (0, 160, .inl (fun _ => 0)))) q (.inr (5, ((((((((((((((mfl0).set 0 (.ref (q + 1 + 0))).set 1 (.ref (q + 1 + 1))).set 2 (.ref (q + 1 + 2))).set 4 (.ref (q + 1 + 3))).set 11 (.ref (q + 1 + 4))).set 12 (.ref (q + 1 + 5))).set 14 (.ref (q + 1 + 6))).set 15 (.ref (q + 1 + 7))).set 16 (.ref (q + 1 + 8))).set 17 (.ref (q + 1 + 9))).set 19 (.ref (q + 1 + 10))).set 22 (.ref (q + 1 + 11))).set 23 (.ref (q + 1 + 12))).set 24 (.ref (q + 1 + 13))))) (q + 1 + 14) (.inl (0, 40, .inl (fun _ => 0)))) q (.inr (5, (((((((((((((((mfl0).set 0 (.ref (q + 1 + 0))).set 1 (.ref (q + 1 + 1))).set 2 (.ref (q + 1 + 2))).set 4 (.ref (q + 1 + 3))).set 11 (.ref (q + 1 + 4))).set 12 (.ref (q + 1 + 5))).set 14 (.ref (q + 1 + 6))).set 15 (.ref (q + 1 + 7))).set 16 (.ref (q + 1 + 8))).set 17 (.ref (q + 1 + 9))).set 19 (.ref (q + 1 + 10))).set 22 (.ref (q + 1 + 11))).set 23 (.ref (q + 1 + 12))).set 24 (.ref (q + 1 + 13))).set 25 (.ref (q + 1 + 14)))) = mo q (D00 0) (fun _ _ => 0) (fun _ => 0) h := by
  rw [← D00_0]
  funext a
  by_cases hq : a = q
  · subst hq; rw [up_s, mo_o]; rfl
  · simp only [up_n hq]
    by_cases h14 : a = q + 1 + 14
    · subst h14; rw [up_s]; rw [mo_a 14 (by decide) (by decide)]; rfl
    · rw [up_n h14]
      try rw [up_n hq]
      by_cases h13 : a = q + 1 + 13
      · subst h13; rw [up_s]; rw [mo_a 13 (by decide) (by decide)]; rfl
      · rw [up_n h13]
        try rw [up_n hq]
        by_cases h12 : a = q + 1 + 12
        · subst h12; rw [up_s]; rw [mo_a 12 (by decide) (by decide)]; rfl
        · rw [up_n h12]
          try rw [up_n hq]
          by_cases h11 : a = q + 1 + 11
          · subst h11; rw [up_s]; rw [mo_a 11 (by decide) (by decide)]; rfl
          · rw [up_n h11]
            try rw [up_n hq]
            by_cases h10 : a = q + 1 + 10
            · subst h10; rw [up_s]; rw [mo_a 10 (by decide) (by decide)]; rfl
            · rw [up_n h10]
              try rw [up_n hq]
              by_cases h9 : a = q + 1 + 9
              · subst h9; rw [up_s]; rw [mo_a 9 (by decide) (by decide)]; rfl
              · rw [up_n h9]
                try rw [up_n hq]
                by_cases h8 : a = q + 1 + 8
                · subst h8; rw [up_s]; rw [mo_a 8 (by decide) (by decide)]; rfl
                · rw [up_n h8]
                  try rw [up_n hq]
                  by_cases h7 : a = q + 1 + 7
                  · subst h7; rw [up_s]; rw [mo_a 7 (by decide) (by decide)]; rfl
                  · rw [up_n h7]
                    try rw [up_n hq]
                    by_cases h6 : a = q + 1 + 6
                    · subst h6; rw [up_s]; rw [mo_a 6 (by decide) (by decide)]; rfl
                    · rw [up_n h6]
                      try rw [up_n hq]
                      by_cases h5 : a = q + 1 + 5
                      · subst h5; rw [up_s]; rw [mo_a 5 (by decide) (by decide)]; rfl
                      · rw [up_n h5]
                        try rw [up_n hq]
                        by_cases h4 : a = q + 1 + 4
                        · subst h4; rw [up_s]; rw [mo_a 4 (by decide) (by decide)]; rfl
                        · rw [up_n h4]
                          try rw [up_n hq]
                          by_cases h3 : a = q + 1 + 3
                          · subst h3; rw [up_s]; rw [mo_a 3 (by decide) (by decide)]; rfl
                          · rw [up_n h3]
                            try rw [up_n hq]
                            by_cases h2 : a = q + 1 + 2
                            · subst h2; rw [up_s]; rw [mo_a 2 (by decide) (by decide)]; rfl
                            · rw [up_n h2]
                              try rw [up_n hq]
                              by_cases h1 : a = q + 1 + 1
                              · subst h1; rw [up_s]; rw [mo_a 1 (by decide) (by decide)]; rfl
                              · rw [up_n h1]
                                try rw [up_n hq]
                                by_cases h0 : a = q + 1 + 0
                                · subst h0; rw [up_s]; rw [mo_d]
                                · rw [up_n h0]
                                  try rw [up_n hq]
                                  rw [mo_x (by omega)]
set_option maxRecDepth 100000 in
theorem c_Mo_init {l : Launch} {d q : Nat} {h : HP} {Q : QT} (hQ : Q none (q + 16) (mo q D0 (fun _ _ => 0) (fun _ => 0) h)) : Ct l M_Mo_init (d + 1) 15 1065 [.ref q] (q + 1) (up h q (.inr (5, mfl0))) Q := by
  refine Ct.of (fun _ => trivial) (by decide) (Nat.le_of_ble_eq_true rfl) ?_
  refine V.aload_n d_Mo_init_0 rfl ?_
  refine V.objInit d_Mo_init_1 ⟨tm 1058 (by decide +kernel) rfl, tm 29 (by decide +kernel) rfl, tm 30 (by decide +kernel) rfl⟩ (Nat.le_of_ble_eq_true rfl) ?_
  refine V.aload_n d_Mo_init_4 rfl ?_
  refine V.sipush_ (nI 278) d_Mo_init_5 (by decide +kernel) ?_
  refine V.newarr d_Mo_init_8 (Or.inl ⟨rfl, rfl, rfl⟩) rfl (by decide) (tm 58 (by decide +kernel) rfl) (by omega) (by omega) ?_
  refine V.putF d_Mo_init_10 f_Mo_7_Mo fF_Mo_Mo_0 rfl (fun _ => rfl) (fun _ => rfl) ((up_n (by omega)).trans up_s) (Nat.le_of_ble_eq_true rfl) ?_
  refine V.aload_n d_Mo_init_13 rfl ?_
  refine V.sipush_ (nI 278) d_Mo_init_14 (by decide +kernel) ?_
  refine V.newarr d_Mo_init_17 (Or.inl ⟨rfl, rfl, rfl⟩) rfl (by decide) (tm 58 (by decide +kernel) rfl) (by omega) (by omega) ?_
  refine V.putF d_Mo_init_19 f_Mo_13_Mo fF_Mo_Mo_1 rfl (fun _ => rfl) (fun _ => rfl) ((up_n (by omega)).trans up_s) (Nat.le_of_ble_eq_true rfl) ?_
  refine V.aload_n d_Mo_init_22 rfl ?_
  refine V.bipush_ (nI 106) d_Mo_init_23 (by decide +kernel) ?_
  refine V.newarr d_Mo_init_25 (Or.inl ⟨rfl, rfl, rfl⟩) rfl (by decide) (tm 58 (by decide +kernel) rfl) (by omega) (by omega) ?_
  refine V.putF d_Mo_init_27 f_Mo_16_Mo fF_Mo_Mo_2 rfl (fun _ => rfl) (fun _ => rfl) ((up_n (by omega)).trans up_s) (Nat.le_of_ble_eq_true rfl) ?_
  refine V.aload_n d_Mo_init_30 rfl ?_
  refine V.bipush_ (nI 6) d_Mo_init_31 (by decide +kernel) ?_
  refine V.newarr d_Mo_init_33 (Or.inl ⟨rfl, rfl, rfl⟩) rfl (by decide) (tm 58 (by decide +kernel) rfl) (by omega) (by omega) ?_
  refine V.putF d_Mo_init_35 f_Mo_19_Mo fF_Mo_Mo_4 rfl (fun _ => rfl) (fun _ => rfl) ((up_n (by omega)).trans up_s) (Nat.le_of_ble_eq_true rfl) ?_
  refine V.aload_n d_Mo_init_38 rfl ?_
  refine V.iconst_ (nI 3) d_Mo_init_39 (by decide +kernel) ?_
  refine V.newarr d_Mo_init_40 (Or.inl ⟨rfl, rfl, rfl⟩) rfl (by decide) (tm 58 (by decide +kernel) rfl) (by omega) (by omega) ?_
  refine V.putF d_Mo_init_42 f_Mo_22_Mo fF_Mo_Mo_11 rfl (fun _ => rfl) (fun _ => rfl) ((up_n (by omega)).trans up_s) (Nat.le_of_ble_eq_true rfl) ?_
  refine V.aload_n d_Mo_init_45 rfl ?_
  refine V.bipush_ (nI 60) d_Mo_init_46 (by decide +kernel) ?_
  refine V.newarr d_Mo_init_48 (Or.inl ⟨rfl, rfl, rfl⟩) rfl (by decide) (tm 58 (by decide +kernel) rfl) (by omega) (by omega) ?_
  refine V.putF d_Mo_init_50 f_Mo_25_Mo fF_Mo_Mo_12 rfl (fun _ => rfl) (fun _ => rfl) ((up_n (by omega)).trans up_s) (Nat.le_of_ble_eq_true rfl) ?_
  refine V.aload_n d_Mo_init_53 rfl ?_
  refine V.bipush_ (nI 60) d_Mo_init_54 (by decide +kernel) ?_
  refine V.newarr d_Mo_init_56 (Or.inl ⟨rfl, rfl, rfl⟩) rfl (by decide) (tm 58 (by decide +kernel) rfl) (by omega) (by omega) ?_
  refine V.putF d_Mo_init_58 f_Mo_28_Mo fF_Mo_Mo_14 rfl (fun _ => rfl) (fun _ => rfl) ((up_n (by omega)).trans up_s) (Nat.le_of_ble_eq_true rfl) ?_
  refine V.aload_n d_Mo_init_61 rfl ?_
  refine V.bipush_ (nI 9) d_Mo_init_62 (by decide +kernel) ?_
  refine V.newarr d_Mo_init_64 (Or.inl ⟨rfl, rfl, rfl⟩) rfl (by decide) (tm 58 (by decide +kernel) rfl) (by omega) (by omega) ?_
  refine V.putF d_Mo_init_66 f_Mo_31_Mo fF_Mo_Mo_15 rfl (fun _ => rfl) (fun _ => rfl) ((up_n (by omega)).trans up_s) (Nat.le_of_ble_eq_true rfl) ?_
  refine V.aload_n d_Mo_init_69 rfl ?_
  refine V.bipush_ (nI 9) d_Mo_init_70 (by decide +kernel) ?_
  refine V.newarr d_Mo_init_72 (Or.inl ⟨rfl, rfl, rfl⟩) rfl (by decide) (tm 58 (by decide +kernel) rfl) (by omega) (by omega) ?_
  refine V.putF d_Mo_init_74 f_Mo_34_Mo fF_Mo_Mo_16 rfl (fun _ => rfl) (fun _ => rfl) ((up_n (by omega)).trans up_s) (Nat.le_of_ble_eq_true rfl) ?_
  refine V.aload_n d_Mo_init_77 rfl ?_
  refine V.bipush_ (nI 8) d_Mo_init_78 (by decide +kernel) ?_
  refine V.newarr d_Mo_init_80 (Or.inl ⟨rfl, rfl, rfl⟩) rfl (by decide) (tm 58 (by decide +kernel) rfl) (by omega) (by omega) ?_
  refine V.putF d_Mo_init_82 f_Mo_37_Mo fF_Mo_Mo_17 rfl (fun _ => rfl) (fun _ => rfl) ((up_n (by omega)).trans up_s) (Nat.le_of_ble_eq_true rfl) ?_
  refine V.aload_n d_Mo_init_85 rfl ?_
  refine V.bipush_ (nI 40) d_Mo_init_86 (by decide +kernel) ?_
  refine V.newarr d_Mo_init_88 (Or.inl ⟨rfl, rfl, rfl⟩) rfl (by decide) (tm 58 (by decide +kernel) rfl) (by omega) (by omega) ?_
  refine V.putF d_Mo_init_90 f_Mo_40_Mo fF_Mo_Mo_19 rfl (fun _ => rfl) (fun _ => rfl) ((up_n (by omega)).trans up_s) (Nat.le_of_ble_eq_true rfl) ?_
  refine V.aload_n d_Mo_init_93 rfl ?_
  refine V.iconst_ (nI 4) d_Mo_init_94 (by decide +kernel) ?_
  refine V.newarr d_Mo_init_95 (Or.inl ⟨rfl, rfl, rfl⟩) rfl (by decide) (tm 58 (by decide +kernel) rfl) (by omega) (by omega) ?_
  refine V.putF d_Mo_init_97 f_Mo_43_Mo fF_Mo_Mo_22 rfl (fun _ => rfl) (fun _ => rfl) ((up_n (by omega)).trans up_s) (Nat.le_of_ble_eq_true rfl) ?_
  refine V.aload_n d_Mo_init_100 rfl ?_
  refine V.iconst_ (nI 4) d_Mo_init_101 (by decide +kernel) ?_
  refine V.newarr d_Mo_init_102 (Or.inl ⟨rfl, rfl, rfl⟩) rfl (by decide) (tm 58 (by decide +kernel) rfl) (by omega) (by omega) ?_
  refine V.putF d_Mo_init_104 f_Mo_46_Mo fF_Mo_Mo_23 rfl (fun _ => rfl) (fun _ => rfl) ((up_n (by omega)).trans up_s) (Nat.le_of_ble_eq_true rfl) ?_
  refine V.aload_n d_Mo_init_107 rfl ?_
  refine V.sipush_ (nI 160) d_Mo_init_108 (by decide +kernel) ?_
  refine V.newarr d_Mo_init_111 (Or.inl ⟨rfl, rfl, rfl⟩) rfl (by decide) (tm 58 (by decide +kernel) rfl) (by omega) (by omega) ?_
  refine V.putF d_Mo_init_113 f_Mo_49_Mo fF_Mo_Mo_24 rfl (fun _ => rfl) (fun _ => rfl) ((up_n (by omega)).trans up_s) (Nat.le_of_ble_eq_true rfl) ?_
  refine V.aload_n d_Mo_init_116 rfl ?_
  refine V.bipush_ (nI 40) d_Mo_init_117 (by decide +kernel) ?_
  refine V.newarr d_Mo_init_119 (Or.inl ⟨rfl, rfl, rfl⟩) rfl (by decide) (tm 58 (by decide +kernel) rfl) (by omega) (by omega) ?_
  refine V.putF d_Mo_init_121 f_Mo_52_Mo fF_Mo_Mo_25 rfl (fun _ => rfl) (fun _ => rfl) ((up_n (by omega)).trans up_s) (Nat.le_of_ble_eq_true rfl) ?_
  refine V.eqH (h' := mo q (D00 0) (fun _ _ => 0) (fun _ => 0) h) (mo_begin _) ?_
  refine V.iconst_ (nI 0) d_Mo_init_124 (by decide +kernel) ?_
  refine V.istore_n d_Mo_init_125 (by decide) ?_
  refine V.lc (ls' := [(0, .ref q), (1, .int (nI 0))]) rfl ?_
  refine up_to (G := fun k => V l M_Mo_init (d + 1) 15 1065 126 [(0, .ref q), (1, .int (nI k))] [] (q + 16) (mo q (D00 k) (fun _ _ => 0) (fun _ => 0) h) 15 1065 Q) (36) ?_ (fun k hk hn => ?_) 0 (by omega)
  · skip
    refine V.iload_n d_Mo_init_126 rfl ?_
    refine V.bipush_ (nI 36) d_Mo_init_127 (by decide +kernel) ?_
    refine V.geN (tgt := 164) d_Mo_init_129 (by decide) (by omega) (by omega) (fun c_129 => ?_) (fun c_129 => ?_)
    · skip
      refine V.aload_n d_Mo_init_164 rfl ?_
      refine V.get d_Mo_init_165 f_Mo_7_Mo mo_o rfl ?_
      refine V.iconst_ (nI 2) d_Mo_init_168 (by decide +kernel) ?_
      refine V.bipush_ (nI 15) d_Mo_init_169 (by decide +kernel) ?_
      refine V.mstd d_Mo_init_171 (by omega) ?_
      refine V.aload_n d_Mo_init_172 rfl ?_
      refine V.get d_Mo_init_173 f_Mo_7_Mo mo_o rfl ?_
      refine V.iconst_ (nI 5) d_Mo_init_176 (by decide +kernel) ?_
      refine V.iconst_ (nI 1) d_Mo_init_177 (by decide +kernel) ?_
      refine V.mstd d_Mo_init_178 (by omega) ?_
      refine V.vret d_Mo_init_179 rfl (Nat.le_of_ble_eq_true rfl) (Nat.le_of_ble_eq_true rfl) ?_
      rw [D0_eq]
      exact hQ
    · skip
      exact absurd c_129 (by omega)
  · skip
    rw [D00_s] at hn
    refine V.iload_n d_Mo_init_126 rfl ?_
    refine V.bipush_ (nI 36) d_Mo_init_127 (by decide +kernel) ?_
    refine V.geN (tgt := 164) d_Mo_init_129 (by decide) (by omega) (by omega) (fun c_129 => ?_) (fun c_129 => ?_)
    · skip
      exact absurd c_129 (by omega)
    · skip
      refine V.aload_n d_Mo_init_132 rfl ?_
      refine V.get d_Mo_init_133 f_Mo_7_Mo mo_o rfl ?_
      refine V.bipush_ (nI 8) d_Mo_init_136 (by decide +kernel) ?_
      refine V.iload_n d_Mo_init_138 rfl ?_
      refine V.addN d_Mo_init_139 ?_
      refine V.iload_n d_Mo_init_140 rfl ?_
      refine V.bipush_ (nI 6) d_Mo_init_141 (by decide +kernel) ?_
      refine V.divN d_Mo_init_143 (by omega) (by omega) (by omega) ?_
      refine V.iload_n d_Mo_init_144 rfl ?_
      refine V.bipush_ (nI 6) d_Mo_init_145 (by decide +kernel) ?_
      refine V.remN d_Mo_init_147 (by omega) (by omega) (by omega) ?_
      refine V.neN (tgt := 155) d_Mo_init_148 (by decide) (by omega) (by omega) (fun c_148 => ?_) (fun c_148 => ?_)
      · skip
        refine V.bipush_ (nI 20) d_Mo_init_155 (by decide +kernel) ?_
        refine V.mstd d_Mo_init_157 (by omega) ?_
        refine V.incN d_Mo_init_158 rfl (by decide) ?_
        refine V.goto (tgt := 126) d_Mo_init_161 (by decide) ?_
        first
        | (rw [if_pos c_148] at hn; exact V.lc rfl hn)
        | (rw [if_neg c_148] at hn; exact V.lc rfl hn)
      · skip
        refine V.iconst_ (nI 0) d_Mo_init_151 (by decide +kernel) ?_
        refine V.goto (tgt := 157) d_Mo_init_152 (by decide) ?_
        refine V.mstd d_Mo_init_157 (by omega) ?_
        refine V.incN d_Mo_init_158 rfl (by decide) ?_
        refine V.goto (tgt := 126) d_Mo_init_161 (by decide) ?_
        first
        | (rw [if_pos c_148] at hn; exact V.lc rfl hn)
        | (rw [if_neg c_148] at hn; exact V.lc rfl hn)
