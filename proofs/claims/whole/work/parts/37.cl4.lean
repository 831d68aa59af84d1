theorem txa_ds : ∀ u, u < 2 → ds (4 + 6 * u + 1) = Ds.ar 50 ∧ ds (6 + 6 * u + 1) = Ds.ar 50 := by decide +kernel
abbrev M_Text_joined : MD := (⟨"FelledByNames$Text", "joined", "(III)I"⟩, prog_9_method_15_code, 3, (some .int), fun _ => True)
theorem d_Text_joined_0 : decode prog_9_method_15_code 0 = .ok (.iload_n 0, 1) := by decide +kernel
theorem d_Text_joined_1 : decode prog_9_method_15_code 1 = .ok (.lookupswitch 168 #[(38, 97), (42, 152), (43, 144), (45, 148), (47, 156), (60, 111), (61, 122), (62, 133), (124, 83)], 83) := by decide +kernel
theorem d_Text_joined_98 : decode prog_9_method_15_code 98 = .ok (.iload_n 1, 1) := by decide +kernel
theorem d_Text_joined_99 : decode prog_9_method_15_code 99 = .ok (.ifCond .eq 11, 3) := by decide +kernel
theorem d_Text_joined_110 : decode prog_9_method_15_code 110 = .ok (.iconst 0, 1) := by decide +kernel
theorem d_Text_joined_111 : decode prog_9_method_15_code 111 = .ok (.ireturn, 1) := by decide +kernel
theorem d_Text_joined_102 : decode prog_9_method_15_code 102 = .ok (.iload_n 2, 1) := by decide +kernel
theorem d_Text_joined_103 : decode prog_9_method_15_code 103 = .ok (.ifCond .eq 7, 3) := by decide +kernel
theorem d_Text_joined_106 : decode prog_9_method_15_code 106 = .ok (.iconst 1, 1) := by decide +kernel
theorem d_Text_joined_107 : decode prog_9_method_15_code 107 = .ok (.goto 4, 3) := by decide +kernel
theorem d_Text_joined_153 : decode prog_9_method_15_code 153 = .ok (.iload_n 1, 1) := by decide +kernel
theorem d_Text_joined_154 : decode prog_9_method_15_code 154 = .ok (.iload_n 2, 1) := by decide +kernel
theorem d_Text_joined_155 : decode prog_9_method_15_code 155 = .ok (.imul, 1) := by decide +kernel
theorem d_Text_joined_156 : decode prog_9_method_15_code 156 = .ok (.ireturn, 1) := by decide +kernel
theorem d_Text_joined_145 : decode prog_9_method_15_code 145 = .ok (.iload_n 1, 1) := by decide +kernel
theorem d_Text_joined_146 : decode prog_9_method_15_code 146 = .ok (.iload_n 2, 1) := by decide +kernel
theorem d_Text_joined_147 : decode prog_9_method_15_code 147 = .ok (.iadd, 1) := by decide +kernel
theorem d_Text_joined_148 : decode prog_9_method_15_code 148 = .ok (.ireturn, 1) := by decide +kernel
theorem d_Text_joined_149 : decode prog_9_method_15_code 149 = .ok (.iload_n 1, 1) := by decide +kernel
theorem d_Text_joined_150 : decode prog_9_method_15_code 150 = .ok (.iload_n 2, 1) := by decide +kernel
theorem d_Text_joined_151 : decode prog_9_method_15_code 151 = .ok (.isub, 1) := by decide +kernel
theorem d_Text_joined_152 : decode prog_9_method_15_code 152 = .ok (.ireturn, 1) := by decide +kernel
theorem d_Text_joined_157 : decode prog_9_method_15_code 157 = .ok (.iload_n 2, 1) := by decide +kernel
theorem d_Text_joined_158 : decode prog_9_method_15_code 158 = .ok (.ifCond .ne 7, 3) := by decide +kernel
theorem d_Text_joined_165 : decode prog_9_method_15_code 165 = .ok (.iload_n 1, 1) := by decide +kernel
theorem d_Text_joined_166 : decode prog_9_method_15_code 166 = .ok (.iload_n 2, 1) := by decide +kernel
theorem d_Text_joined_167 : decode prog_9_method_15_code 167 = .ok (.idiv, 1) := by decide +kernel
theorem d_Text_joined_168 : decode prog_9_method_15_code 168 = .ok (.ireturn, 1) := by decide +kernel
theorem d_Text_joined_161 : decode prog_9_method_15_code 161 = .ok (.iconst 0, 1) := by decide +kernel
theorem d_Text_joined_162 : decode prog_9_method_15_code 162 = .ok (.goto 6, 3) := by decide +kernel
theorem d_Text_joined_112 : decode prog_9_method_15_code 112 = .ok (.iload_n 1, 1) := by decide +kernel
theorem d_Text_joined_113 : decode prog_9_method_15_code 113 = .ok (.iload_n 2, 1) := by decide +kernel
theorem d_Text_joined_114 : decode prog_9_method_15_code 114 = .ok (.if_icmp .ge 7, 3) := by decide +kernel
theorem d_Text_joined_121 : decode prog_9_method_15_code 121 = .ok (.iconst 0, 1) := by decide +kernel
theorem d_Text_joined_122 : decode prog_9_method_15_code 122 = .ok (.ireturn, 1) := by decide +kernel
theorem d_Text_joined_117 : decode prog_9_method_15_code 117 = .ok (.iconst 1, 1) := by decide +kernel
theorem d_Text_joined_118 : decode prog_9_method_15_code 118 = .ok (.goto 4, 3) := by decide +kernel
theorem d_Text_joined_123 : decode prog_9_method_15_code 123 = .ok (.iload_n 1, 1) := by decide +kernel
theorem d_Text_joined_124 : decode prog_9_method_15_code 124 = .ok (.iload_n 2, 1) := by decide +kernel
theorem d_Text_joined_125 : decode prog_9_method_15_code 125 = .ok (.if_icmp .ne 7, 3) := by decide +kernel
theorem d_Text_joined_132 : decode prog_9_method_15_code 132 = .ok (.iconst 0, 1) := by decide +kernel
theorem d_Text_joined_133 : decode prog_9_method_15_code 133 = .ok (.ireturn, 1) := by decide +kernel
theorem d_Text_joined_128 : decode prog_9_method_15_code 128 = .ok (.iconst 1, 1) := by decide +kernel
theorem d_Text_joined_129 : decode prog_9_method_15_code 129 = .ok (.goto 4, 3) := by decide +kernel
theorem d_Text_joined_134 : decode prog_9_method_15_code 134 = .ok (.iload_n 1, 1) := by decide +kernel
theorem d_Text_joined_135 : decode prog_9_method_15_code 135 = .ok (.iload_n 2, 1) := by decide +kernel
theorem d_Text_joined_136 : decode prog_9_method_15_code 136 = .ok (.if_icmp .le 7, 3) := by decide +kernel
theorem d_Text_joined_143 : decode prog_9_method_15_code 143 = .ok (.iconst 0, 1) := by decide +kernel
theorem d_Text_joined_144 : decode prog_9_method_15_code 144 = .ok (.ireturn, 1) := by decide +kernel
theorem d_Text_joined_139 : decode prog_9_method_15_code 139 = .ok (.iconst 1, 1) := by decide +kernel
theorem d_Text_joined_140 : decode prog_9_method_15_code 140 = .ok (.goto 4, 3) := by decide +kernel
theorem d_Text_joined_84 : decode prog_9_method_15_code 84 = .ok (.iload_n 1, 1) := by decide +kernel
theorem d_Text_joined_85 : decode prog_9_method_15_code 85 = .ok (.ifCond .ne 7, 3) := by decide +kernel
theorem d_Text_joined_92 : decode prog_9_method_15_code 92 = .ok (.iconst 1, 1) := by decide +kernel
theorem d_Text_joined_93 : decode prog_9_method_15_code 93 = .ok (.goto 4, 3) := by decide +kernel
theorem d_Text_joined_97 : decode prog_9_method_15_code 97 = .ok (.ireturn, 1) := by decide +kernel
theorem d_Text_joined_88 : decode prog_9_method_15_code 88 = .ok (.iload_n 2, 1) := by decide +kernel
theorem d_Text_joined_89 : decode prog_9_method_15_code 89 = .ok (.ifCond .eq 7, 3) := by decide +kernel
theorem d_Text_joined_96 : decode prog_9_method_15_code 96 = .ok (.iconst 0, 1) := by decide +kernel
theorem d_Text_joined_169 : decode prog_9_method_15_code 169 = .ok (.iload_n 2, 1) := by decide +kernel
theorem d_Text_joined_170 : decode prog_9_method_15_code 170 = .ok (.ifCond .ne 7, 3) := by decide +kernel
theorem d_Text_joined_177 : decode prog_9_method_15_code 177 = .ok (.iload_n 1, 1) := by decide +kernel
theorem d_Text_joined_178 : decode prog_9_method_15_code 178 = .ok (.iload_n 2, 1) := by decide +kernel
theorem d_Text_joined_179 : decode prog_9_method_15_code 179 = .ok (.irem, 1) := by decide +kernel
theorem d_Text_joined_180 : decode prog_9_method_15_code 180 = .ok (.ireturn, 1) := by decide +kernel
theorem d_Text_joined_173 : decode prog_9_method_15_code 173 = .ok (.iconst 0, 1) := by decide +kernel
theorem d_Text_joined_174 : decode prog_9_method_15_code 174 = .ok (.goto 6, 3) := by decide +kernel
set_option maxRecDepth 100000 in
theorem c_Text_joined {w x y : Int32} {l : Launch} {d n : Nat} {h : HP} {Q : QT} (hQ : Q (some (.int (dn w x y))) n h) : Ct l M_Text_joined d 0 0 [.int w, .int x, .int y] n h Q := by
  refine Ct.of (fun _ => trivial) (by decide) (Nat.le_of_ble_eq_true rfl) ?_
  unfold dn at hQ
  refine V.iload_n d_Text_joined_0 rfl ?_
  by_cases e38 : w = nI 38
  · subst e38
    refine V.lookup (tgt := 98) (off := 97) d_Text_joined_1 (by decide +kernel) (by decide +kernel) (by decide) ?_
    rw [if_pos rfl] at hQ
    refine V.iload_n d_Text_joined_98 rfl ?_
    refine V.if_eq (tgt := 110) d_Text_joined_99 (by decide) (fun c_99 => ?_) (fun c_99 => ?_)
    · skip
      refine V.iconst_ (nI 0) d_Text_joined_110 (by decide +kernel) ?_
      refine V.iret d_Text_joined_111 rfl (Nat.le_of_ble_eq_true rfl) (Nat.le_of_ble_eq_true rfl) ?_
      first | exact hQ | (rw [if_pos (by first | exact ⟨c_99, c_103⟩ | exact Or.inl c_85 | exact Or.inr c_89 | exact c_125 | exact Int32.not_le.mp c_114 | exact Int32.not_le.mp c_136 | exact c_158 | exact c_170)] at hQ; exact hQ) | (rw [if_neg (by first | exact fun z => z.1 c_99 | exact fun z => z.2 c_103 | exact fun z => z.elim (fun y => y c_85) (fun y => y c_89) | exact c_125 | exact Int32.not_lt.mpr c_114 | exact Int32.not_lt.mpr c_136 | exact c_158 | exact c_170)] at hQ; exact hQ)
    · skip
      refine V.iload_n d_Text_joined_102 rfl ?_
      refine V.if_eq (tgt := 110) d_Text_joined_103 (by decide) (fun c_103 => ?_) (fun c_103 => ?_)
      · skip
        refine V.iconst_ (nI 0) d_Text_joined_110 (by decide +kernel) ?_
        refine V.iret d_Text_joined_111 rfl (Nat.le_of_ble_eq_true rfl) (Nat.le_of_ble_eq_true rfl) ?_
        first | exact hQ | (rw [if_pos (by first | exact ⟨c_99, c_103⟩ | exact Or.inl c_85 | exact Or.inr c_89 | exact c_125 | exact Int32.not_le.mp c_114 | exact Int32.not_le.mp c_136 | exact c_158 | exact c_170)] at hQ; exact hQ) | (rw [if_neg (by first | exact fun z => z.1 c_99 | exact fun z => z.2 c_103 | exact fun z => z.elim (fun y => y c_85) (fun y => y c_89) | exact c_125 | exact Int32.not_lt.mpr c_114 | exact Int32.not_lt.mpr c_136 | exact c_158 | exact c_170)] at hQ; exact hQ)
      · skip
        refine V.iconst_ (nI 1) d_Text_joined_106 (by decide +kernel) ?_
        refine V.goto (tgt := 111) d_Text_joined_107 (by decide) ?_
        refine V.iret d_Text_joined_111 rfl (Nat.le_of_ble_eq_true rfl) (Nat.le_of_ble_eq_true rfl) ?_
        first | exact hQ | (rw [if_pos (by first | exact ⟨c_99, c_103⟩ | exact Or.inl c_85 | exact Or.inr c_89 | exact c_125 | exact Int32.not_le.mp c_114 | exact Int32.not_le.mp c_136 | exact c_158 | exact c_170)] at hQ; exact hQ) | (rw [if_neg (by first | exact fun z => z.1 c_99 | exact fun z => z.2 c_103 | exact fun z => z.elim (fun y => y c_85) (fun y => y c_89) | exact c_125 | exact Int32.not_lt.mpr c_114 | exact Int32.not_lt.mpr c_136 | exact c_158 | exact c_170)] at hQ; exact hQ)
  rw [if_neg e38] at hQ
  by_cases e42 : w = nI 42
  · subst e42
    refine V.lookup (tgt := 153) (off := 152) d_Text_joined_1 (by decide +kernel) (by decide +kernel) (by decide) ?_
    rw [if_pos rfl] at hQ
    refine V.iload_n d_Text_joined_153 rfl ?_
    refine V.iload_n d_Text_joined_154 rfl ?_
    refine V.imul d_Text_joined_155 ?_
    refine V.iret d_Text_joined_156 rfl (Nat.le_of_ble_eq_true rfl) (Nat.le_of_ble_eq_true rfl) ?_
    first | exact hQ | (rw [if_pos (by first | exact ⟨c_99, c_103⟩ | exact Or.inl c_85 | exact Or.inr c_89 | exact c_125 | exact Int32.not_le.mp c_114 | exact Int32.not_le.mp c_136 | exact c_158 | exact c_170)] at hQ; exact hQ) | (rw [if_neg (by first | exact fun z => z.1 c_99 | exact fun z => z.2 c_103 | exact fun z => z.elim (fun y => y c_85) (fun y => y c_89) | exact c_125 | exact Int32.not_lt.mpr c_114 | exact Int32.not_lt.mpr c_136 | exact c_158 | exact c_170)] at hQ; exact hQ)
  rw [if_neg e42] at hQ
  by_cases e43 : w = nI 43
  · subst e43
    refine V.lookup (tgt := 145) (off := 144) d_Text_joined_1 (by decide +kernel) (by decide +kernel) (by decide) ?_
    rw [if_pos rfl] at hQ
    refine V.iload_n d_Text_joined_145 rfl ?_
    refine V.iload_n d_Text_joined_146 rfl ?_
    refine V.iadd d_Text_joined_147 ?_
    refine V.iret d_Text_joined_148 rfl (Nat.le_of_ble_eq_true rfl) (Nat.le_of_ble_eq_true rfl) ?_
    first | exact hQ | (rw [if_pos (by first | exact ⟨c_99, c_103⟩ | exact Or.inl c_85 | exact Or.inr c_89 | exact c_125 | exact Int32.not_le.mp c_114 | exact Int32.not_le.mp c_136 | exact c_158 | exact c_170)] at hQ; exact hQ) | (rw [if_neg (by first | exact fun z => z.1 c_99 | exact fun z => z.2 c_103 | exact fun z => z.elim (fun y => y c_85) (fun y => y c_89) | exact c_125 | exact Int32.not_lt.mpr c_114 | exact Int32.not_lt.mpr c_136 | exact c_158 | exact c_170)] at hQ; exact hQ)
  rw [if_neg e43] at hQ
  by_cases e45 : w = nI 45
  · subst e45
    refine V.lookup (tgt := 149) (off := 148) d_Text_joined_1 (by decide +kernel) (by decide +kernel) (by decide) ?_
    rw [if_pos rfl] at hQ
    refine V.iload_n d_Text_joined_149 rfl ?_
    refine V.iload_n d_Text_joined_150 rfl ?_
    refine V.isub d_Text_joined_151 ?_
    refine V.iret d_Text_joined_152 rfl (Nat.le_of_ble_eq_true rfl) (Nat.le_of_ble_eq_true rfl) ?_
    first | exact hQ | (rw [if_pos (by first | exact ⟨c_99, c_103⟩ | exact Or.inl c_85 | exact Or.inr c_89 | exact c_125 | exact Int32.not_le.mp c_114 | exact Int32.not_le.mp c_136 | exact c_158 | exact c_170)] at hQ; exact hQ) | (rw [if_neg (by first | exact fun z => z.1 c_99 | exact fun z => z.2 c_103 | exact fun z => z.elim (fun y => y c_85) (fun y => y c_89) | exact c_125 | exact Int32.not_lt.mpr c_114 | exact Int32.not_lt.mpr c_136 | exact c_158 | exact c_170)] at hQ; exact hQ)
  rw [if_neg e45] at hQ
  by_cases e47 : w = nI 47
  · subst e47
    refine V.lookup (tgt := 157) (off := 156) d_Text_joined_1 (by decide +kernel) (by decide +kernel) (by decide) ?_
    rw [if_pos rfl] at hQ
    refine V.iload_n d_Text_joined_157 rfl ?_
    refine V.if_ne (tgt := 165) d_Text_joined_158 (by decide) (fun c_158 => ?_) (fun c_158 => ?_)
    · skip
      refine V.iload_n d_Text_joined_165 rfl ?_
      refine V.iload_n d_Text_joined_166 rfl ?_
      refine V.idiv d_Text_joined_167 c_158 ?_
      refine V.iret d_Text_joined_168 rfl (Nat.le_of_ble_eq_true rfl) (Nat.le_of_ble_eq_true rfl) ?_
      first | exact hQ | (rw [if_pos (by first | exact ⟨c_99, c_103⟩ | exact Or.inl c_85 | exact Or.inr c_89 | exact c_125 | exact Int32.not_le.mp c_114 | exact Int32.not_le.mp c_136 | exact c_158 | exact c_170)] at hQ; exact hQ) | (rw [if_neg (by first | exact fun z => z.1 c_99 | exact fun z => z.2 c_103 | exact fun z => z.elim (fun y => y c_85) (fun y => y c_89) | exact c_125 | exact Int32.not_lt.mpr c_114 | exact Int32.not_lt.mpr c_136 | exact c_158 | exact c_170)] at hQ; exact hQ)
    · skip
      refine V.iconst_ (nI 0) d_Text_joined_161 (by decide +kernel) ?_
      refine V.goto (tgt := 168) d_Text_joined_162 (by decide) ?_
      refine V.iret d_Text_joined_168 rfl (Nat.le_of_ble_eq_true rfl) (Nat.le_of_ble_eq_true rfl) ?_
      first | exact hQ | (rw [if_pos (by first | exact ⟨c_99, c_103⟩ | exact Or.inl c_85 | exact Or.inr c_89 | exact c_125 | exact Int32.not_le.mp c_114 | exact Int32.not_le.mp c_136 | exact c_158 | exact c_170)] at hQ; exact hQ) | (rw [if_neg (by first | exact fun z => z.1 c_99 | exact fun z => z.2 c_103 | exact fun z => z.elim (fun y => y c_85) (fun y => y c_89) | exact c_125 | exact Int32.not_lt.mpr c_114 | exact Int32.not_lt.mpr c_136 | exact c_158 | exact c_170)] at hQ; exact hQ)
  rw [if_neg e47] at hQ
  by_cases e60 : w = nI 60
  · subst e60
    refine V.lookup (tgt := 112) (off := 111) d_Text_joined_1 (by decide +kernel) (by decide +kernel) (by decide) ?_
    rw [if_pos rfl] at hQ
    refine V.iload_n d_Text_joined_112 rfl ?_
    refine V.iload_n d_Text_joined_113 rfl ?_
    refine V.icmp_ge (tgt := 121) d_Text_joined_114 (by decide) (fun c_114 => ?_) (fun c_114 => ?_)
    · skip
      refine V.iconst_ (nI 0) d_Text_joined_121 (by decide +kernel) ?_
      refine V.iret d_Text_joined_122 rfl (Nat.le_of_ble_eq_true rfl) (Nat.le_of_ble_eq_true rfl) ?_
      first | exact hQ | (rw [if_pos (by first | exact ⟨c_99, c_103⟩ | exact Or.inl c_85 | exact Or.inr c_89 | exact c_125 | exact Int32.not_le.mp c_114 | exact Int32.not_le.mp c_136 | exact c_158 | exact c_170)] at hQ; exact hQ) | (rw [if_neg (by first | exact fun z => z.1 c_99 | exact fun z => z.2 c_103 | exact fun z => z.elim (fun y => y c_85) (fun y => y c_89) | exact c_125 | exact Int32.not_lt.mpr c_114 | exact Int32.not_lt.mpr c_136 | exact c_158 | exact c_170)] at hQ; exact hQ)
    · skip
      refine V.iconst_ (nI 1) d_Text_joined_117 (by decide +kernel) ?_
      refine V.goto (tgt := 122) d_Text_joined_118 (by decide) ?_
      refine V.iret d_Text_joined_122 rfl (Nat.le_of_ble_eq_true rfl) (Nat.le_of_ble_eq_true rfl) ?_
      first | exact hQ | (rw [if_pos (by first | exact ⟨c_99, c_103⟩ | exact Or.inl c_85 | exact Or.inr c_89 | exact c_125 | exact Int32.not_le.mp c_114 | exact Int32.not_le.mp c_136 | exact c_158 | exact c_170)] at hQ; exact hQ) | (rw [if_neg (by first | exact fun z => z.1 c_99 | exact fun z => z.2 c_103 | exact fun z => z.elim (fun y => y c_85) (fun y => y c_89) | exact c_125 | exact Int32.not_lt.mpr c_114 | exact Int32.not_lt.mpr c_136 | exact c_158 | exact c_170)] at hQ; exact hQ)
  rw [if_neg e60] at hQ
  by_cases e61 : w = nI 61
  · subst e61
    refine V.lookup (tgt := 123) (off := 122) d_Text_joined_1 (by decide +kernel) (by decide +kernel) (by decide) ?_
    rw [if_pos rfl] at hQ
    refine V.iload_n d_Text_joined_123 rfl ?_
    refine V.iload_n d_Text_joined_124 rfl ?_
    refine V.icmp_ne (tgt := 132) d_Text_joined_125 (by decide) (fun c_125 => ?_) (fun c_125 => ?_)
    · skip
      refine V.iconst_ (nI 0) d_Text_joined_132 (by decide +kernel) ?_
      refine V.iret d_Text_joined_133 rfl (Nat.le_of_ble_eq_true rfl) (Nat.le_of_ble_eq_true rfl) ?_
      first | exact hQ | (rw [if_pos (by first | exact ⟨c_99, c_103⟩ | exact Or.inl c_85 | exact Or.inr c_89 | exact c_125 | exact Int32.not_le.mp c_114 | exact Int32.not_le.mp c_136 | exact c_158 | exact c_170)] at hQ; exact hQ) | (rw [if_neg (by first | exact fun z => z.1 c_99 | exact fun z => z.2 c_103 | exact fun z => z.elim (fun y => y c_85) (fun y => y c_89) | exact c_125 | exact Int32.not_lt.mpr c_114 | exact Int32.not_lt.mpr c_136 | exact c_158 | exact c_170)] at hQ; exact hQ)
    · skip
      refine V.iconst_ (nI 1) d_Text_joined_128 (by decide +kernel) ?_
      refine V.goto (tgt := 133) d_Text_joined_129 (by decide) ?_
      refine V.iret d_Text_joined_133 rfl (Nat.le_of_ble_eq_true rfl) (Nat.le_of_ble_eq_true rfl) ?_
      first | exact hQ | (rw [if_pos (by first | exact ⟨c_99, c_103⟩ | exact Or.inl c_85 | exact Or.inr c_89 | exact c_125 | exact Int32.not_le.mp c_114 | exact Int32.not_le.mp c_136 | exact c_158 | exact c_170)] at hQ; exact hQ) | (rw [if_neg (by first | exact fun z => z.1 c_99 | exact fun z => z.2 c_103 | exact fun z => z.elim (fun y => y c_85) (fun y => y c_89) | exact c_125 | exact Int32.not_lt.mpr c_114 | exact Int32.not_lt.mpr c_136 | exact c_158 | exact c_170)] at hQ; exact hQ)
  rw [if_neg e61] at hQ
  by_cases e62 : w = nI 62
  · subst e62
    refine V.lookup (tgt := 134) (off := 133) d_Text_joined_1 (by decide +kernel) (by decide +kernel) (by decide) ?_
    rw [if_pos rfl] at hQ
    refine V.iload_n d_Text_joined_134 rfl ?_
    refine V.iload_n d_Text_joined_135 rfl ?_
    refine V.icmp_le (tgt := 143) d_Text_joined_136 (by decide) (fun c_136 => ?_) (fun c_136 => ?_)
    · skip
      refine V.iconst_ (nI 0) d_Text_joined_143 (by decide +kernel) ?_
      refine V.iret d_Text_joined_144 rfl (Nat.le_of_ble_eq_true rfl) (Nat.le_of_ble_eq_true rfl) ?_
      first | exact hQ | (rw [if_pos (by first | exact ⟨c_99, c_103⟩ | exact Or.inl c_85 | exact Or.inr c_89 | exact c_125 | exact Int32.not_le.mp c_114 | exact Int32.not_le.mp c_136 | exact c_158 | exact c_170)] at hQ; exact hQ) | (rw [if_neg (by first | exact fun z => z.1 c_99 | exact fun z => z.2 c_103 | exact fun z => z.elim (fun y => y c_85) (fun y => y c_89) | exact c_125 | exact Int32.not_lt.mpr c_114 | exact Int32.not_lt.mpr c_136 | exact c_158 | exact c_170)] at hQ; exact hQ)
    · skip
      refine V.iconst_ (nI 1) d_Text_joined_139 (by decide +kernel) ?_
      refine V.goto (tgt := 144) d_Text_joined_140 (by decide) ?_
      refine V.iret d_Text_joined_144 rfl (Nat.le_of_ble_eq_true rfl) (Nat.le_of_ble_eq_true rfl) ?_
      first | exact hQ | (rw [if_pos (by first | exact ⟨c_99, c_103⟩ | exact Or.inl c_85 | exact Or.inr c_89 | exact c_125 | exact Int32.not_le.mp c_114 | exact Int32.not_le.mp c_136 | exact c_158 | exact c_170)] at hQ; exact hQ) | (rw [if_neg (by first | exact fun z => z.1 c_99 | exact fun z => z.2 c_103 | exact fun z => z.elim (fun y => y c_85) (fun y => y c_89) | exact c_125 | exact Int32.not_lt.mpr c_114 | exact Int32.not_lt.mpr c_136 | exact c_158 | exact c_170)] at hQ; exact hQ)
  rw [if_neg e62] at hQ
  by_cases e124 : w = nI 124
  · subst e124
    refine V.lookup (tgt := 84) (off := 83) d_Text_joined_1 (by decide +kernel) (by decide +kernel) (by decide) ?_
    rw [if_pos rfl] at hQ
    refine V.iload_n d_Text_joined_84 rfl ?_
    refine V.if_ne (tgt := 92) d_Text_joined_85 (by decide) (fun c_85 => ?_) (fun c_85 => ?_)
    · skip
      refine V.iconst_ (nI 1) d_Text_joined_92 (by decide +kernel) ?_
      refine V.goto (tgt := 97) d_Text_joined_93 (by decide) ?_
      refine V.iret d_Text_joined_97 rfl (Nat.le_of_ble_eq_true rfl) (Nat.le_of_ble_eq_true rfl) ?_
      first | exact hQ | (rw [if_pos (by first | exact ⟨c_99, c_103⟩ | exact Or.inl c_85 | exact Or.inr c_89 | exact c_125 | exact Int32.not_le.mp c_114 | exact Int32.not_le.mp c_136 | exact c_158 | exact c_170)] at hQ; exact hQ) | (rw [if_neg (by first | exact fun z => z.1 c_99 | exact fun z => z.2 c_103 | exact fun z => z.elim (fun y => y c_85) (fun y => y c_89) | exact c_125 | exact Int32.not_lt.mpr c_114 | exact Int32.not_lt.mpr c_136 | exact c_158 | exact c_170)] at hQ; exact hQ)
    · skip
      refine V.iload_n d_Text_joined_88 rfl ?_
      refine V.if_eq (tgt := 96) d_Text_joined_89 (by decide) (fun c_89 => ?_) (fun c_89 => ?_)
      · skip
        refine V.iconst_ (nI 0) d_Text_joined_96 (by decide +kernel) ?_
        refine V.iret d_Text_joined_97 rfl (Nat.le_of_ble_eq_true rfl) (Nat.le_of_ble_eq_true rfl) ?_
        first | exact hQ | (rw [if_pos (by first | exact ⟨c_99, c_103⟩ | exact Or.inl c_85 | exact Or.inr c_89 | exact c_125 | exact Int32.not_le.mp c_114 | exact Int32.not_le.mp c_136 | exact c_158 | exact c_170)] at hQ; exact hQ) | (rw [if_neg (by first | exact fun z => z.1 c_99 | exact fun z => z.2 c_103 | exact fun z => z.elim (fun y => y c_85) (fun y => y c_89) | exact c_125 | exact Int32.not_lt.mpr c_114 | exact Int32.not_lt.mpr c_136 | exact c_158 | exact c_170)] at hQ; exact hQ)
      · skip
        refine V.iconst_ (nI 1) d_Text_joined_92 (by decide +kernel) ?_
        refine V.goto (tgt := 97) d_Text_joined_93 (by decide) ?_
        refine V.iret d_Text_joined_97 rfl (Nat.le_of_ble_eq_true rfl) (Nat.le_of_ble_eq_true rfl) ?_
        first | exact hQ | (rw [if_pos (by first | exact ⟨c_99, c_103⟩ | exact Or.inl c_85 | exact Or.inr c_89 | exact c_125 | exact Int32.not_le.mp c_114 | exact Int32.not_le.mp c_136 | exact c_158 | exact c_170)] at hQ; exact hQ) | (rw [if_neg (by first | exact fun z => z.1 c_99 | exact fun z => z.2 c_103 | exact fun z => z.elim (fun y => y c_85) (fun y => y c_89) | exact c_125 | exact Int32.not_lt.mpr c_114 | exact Int32.not_lt.mpr c_136 | exact c_158 | exact c_170)] at hQ; exact hQ)
  rw [if_neg e124] at hQ
  refine V.lookup (tgt := 169) (off := 168) d_Text_joined_1 (by decide +kernel) (by refine (lv_osw e38 (by decide +kernel)).trans ?_; refine (lv_osw e42 (by decide +kernel)).trans ?_; refine (lv_osw e43 (by decide +kernel)).trans ?_; refine (lv_osw e45 (by decide +kernel)).trans ?_; refine (lv_osw e47 (by decide +kernel)).trans ?_; refine (lv_osw e60 (by decide +kernel)).trans ?_; refine (lv_osw e61 (by decide +kernel)).trans ?_; refine (lv_osw e62 (by decide +kernel)).trans ?_; refine (lv_osw e124 (by decide +kernel)).trans ?_; rfl) (by decide) ?_
  refine V.iload_n d_Text_joined_169 rfl ?_
  refine V.if_ne (tgt := 177) d_Text_joined_170 (by decide) (fun c_170 => ?_) (fun c_170 => ?_)
  · skip
    refine V.iload_n d_Text_joined_177 rfl ?_
    refine V.iload_n d_Text_joined_178 rfl ?_
    refine V.irem d_Text_joined_179 c_170 ?_
    refine V.iret d_Text_joined_180 rfl (Nat.le_of_ble_eq_true rfl) (Nat.le_of_ble_eq_true rfl) ?_
    first | exact hQ | (rw [if_pos (by first | exact ⟨c_99, c_103⟩ | exact Or.inl c_85 | exact Or.inr c_89 | exact c_125 | exact Int32.not_le.mp c_114 | exact Int32.not_le.mp c_136 | exact c_158 | exact c_170)] at hQ; exact hQ) | (rw [if_neg (by first | exact fun z => z.1 c_99 | exact fun z => z.2 c_103 | exact fun z => z.elim (fun y => y c_85) (fun y => y c_89) | exact c_125 | exact Int32.not_lt.mpr c_114 | exact Int32.not_lt.mpr c_136 | exact c_158 | exact c_170)] at hQ; exact hQ)
  · skip
    refine V.iconst_ (nI 0) d_Text_joined_173 (by decide +kernel) ?_
    refine V.goto (tgt := 180) d_Text_joined_174 (by decide) ?_
    refine V.iret d_Text_joined_180 rfl (Nat.le_of_ble_eq_true rfl) (Nat.le_of_ble_eq_true rfl) ?_
    first | exact hQ | (rw [if_pos (by first | exact ⟨c_99, c_103⟩ | exact Or.inl c_85 | exact Or.inr c_89 | exact c_125 | exact Int32.not_le.mp c_114 | exact Int32.not_le.mp c_136 | exact c_158 | exact c_170)] at hQ; exact hQ) | (rw [if_neg (by first | exact fun z => z.1 c_99 | exact fun z => z.2 c_103 | exact fun z => z.elim (fun y => y c_85) (fun y => y c_89) | exact c_125 | exact Int32.not_lt.mpr c_114 | exact Int32.not_lt.mpr c_136 | exact c_158 | exact c_170)] at hQ; exact hQ)
abbrev M_Text_named : MD := (⟨"FelledByNames$Text", "named", "(IIII)I"⟩, prog_9_method_14_code, 4, (some .int), fun _ => True)
theorem d_Text_named_0 : decode prog_9_method_14_code 0 = .ok (.iload_n 0, 1) := by decide +kernel
theorem d_Text_named_1 : decode prog_9_method_14_code 1 = .ok (.ifCond .ne 7, 3) := by decide +kernel
theorem d_Text_named_8 : decode prog_9_method_14_code 8 = .ok (.iload_n 0, 1) := by decide +kernel
theorem d_Text_named_9 : decode prog_9_method_14_code 9 = .ok (.iconst 1, 1) := by decide +kernel
theorem d_Text_named_10 : decode prog_9_method_14_code 10 = .ok (.if_icmp .ne 7, 3) := by decide +kernel
theorem d_Text_named_17 : decode prog_9_method_14_code 17 = .ok (.iload_n 3, 1) := by decide +kernel
theorem d_Text_named_18 : decode prog_9_method_14_code 18 = .ok (.ireturn, 1) := by decide +kernel
theorem d_Text_named_13 : decode prog_9_method_14_code 13 = .ok (.iload_n 2, 1) := by decide +kernel
theorem d_Text_named_14 : decode prog_9_method_14_code 14 = .ok (.goto 4, 3) := by decide +kernel
theorem d_Text_named_4 : decode prog_9_method_14_code 4 = .ok (.iload_n 1, 1) := by decide +kernel
theorem d_Text_named_5 : decode prog_9_method_14_code 5 = .ok (.goto 13, 3) := by decide +kernel
set_option maxRecDepth 100000 in
theorem c_Text_named {j : Nat} {a b c : Int32} {l : Launch} {d n : Nat} {h : HP} {Q : QT} (hj : j < 1000) (hQ : Q (some (.int (vnm a b c j))) n h) : Ct l M_Text_named d 0 0 [.int (nI j), .int a, .int b, .int c] n h Q := by
  refine Ct.of (fun _ => trivial) (by decide) (Nat.le_of_ble_eq_true rfl) ?_
  refine V.iload_n d_Text_named_0 rfl ?_
  refine V.if_ne (tgt := 8) d_Text_named_1 (by decide) (fun c_1 => ?_) (fun c_1 => ?_)
  · skip
    refine V.iload_n d_Text_named_8 rfl ?_
    refine V.iconst_ (nI 1) d_Text_named_9 (by decide +kernel) ?_
    refine V.neN (tgt := 17) d_Text_named_10 (by decide) (by omega) (by omega) (fun c_10 => ?_) (fun c_10 => ?_)
    · skip
      refine V.iload_n d_Text_named_17 rfl ?_
      refine V.iret d_Text_named_18 rfl (Nat.le_of_ble_eq_true rfl) (Nat.le_of_ble_eq_true rfl) ?_
      unfold vnm at hQ
      first
      | (rw [if_pos ((nI_eq (by omega) (by decide)).mp (show nI j = nI 0 from c_1))] at hQ; exact hQ)
      | (rw [if_neg (fun z => c_1 (by rw [z]; rfl)), if_pos c_10] at hQ; exact hQ)
      | (rw [if_neg (fun z => c_1 (by rw [z]; rfl)), if_neg c_10] at hQ; exact hQ)
    · skip
      refine V.iload_n d_Text_named_13 rfl ?_
      refine V.goto (tgt := 18) d_Text_named_14 (by decide) ?_
      refine V.iret d_Text_named_18 rfl (Nat.le_of_ble_eq_true rfl) (Nat.le_of_ble_eq_true rfl) ?_
      unfold vnm at hQ
      first
      | (rw [if_pos ((nI_eq (by omega) (by decide)).mp (show nI j = nI 0 from c_1))] at hQ; exact hQ)
      | (rw [if_neg (fun z => c_1 (by rw [z]; rfl)), if_pos c_10] at hQ; exact hQ)
      | (rw [if_neg (fun z => c_1 (by rw [z]; rfl)), if_neg c_10] at hQ; exact hQ)
  · skip
    refine V.iload_n d_Text_named_4 rfl ?_
    refine V.goto (tgt := 18) d_Text_named_5 (by decide) ?_
    refine V.iret d_Text_named_18 rfl (Nat.le_of_ble_eq_true rfl) (Nat.le_of_ble_eq_true rfl) ?_
    unfold vnm at hQ
    first
    | (rw [if_pos ((nI_eq (by omega) (by decide)).mp (show nI j = nI 0 from c_1))] at hQ; exact hQ)
    | (rw [if_neg (fun z => c_1 (by rw [z]; rfl)), if_pos c_10] at hQ; exact hQ)
    | (rw [if_neg (fun z => c_1 (by rw [z]; rfl)), if_neg c_10] at hQ; exact hQ)
theorem lh_ok {u : Nat} (hu : u < 2) : lwv u ≤ hgv u := by rcases (show u = 0 ∨ u = 1 by omega) with rfl | rfl <;> decide +kernel
abbrev M_Text_gives : MD := (⟨"FelledByNames$Text", "gives", "(III)I"⟩, prog_9_method_13_code, 7, (some .int), fun _ => True)
theorem d_Text_gives_0 : decode prog_9_method_13_code 0 = .ok (.iconst 0, 1) := by decide +kernel
theorem d_Text_gives_1 : decode prog_9_method_13_code 1 = .ok (.istore 4, 2) := by decide +kernel
theorem d_Text_gives_3 : decode prog_9_method_13_code 3 = .ok (.iconst 0, 1) := by decide +kernel
theorem d_Text_gives_4 : decode prog_9_method_13_code 4 = .ok (.istore 5, 2) := by decide +kernel
theorem d_Text_gives_6 : decode prog_9_method_13_code 6 = .ok (.iload 5, 2) := by decide +kernel
theorem d_Text_gives_8 : decode prog_9_method_13_code 8 = .ok (.aload_n 0, 1) := by decide +kernel
theorem d_Text_gives_9 : decode prog_9_method_13_code 9 = .ok (.getfield 16, 3) := by decide +kernel
theorem f_Text_16_Text : fok "FelledByNames$Text" 16 3 0 := ⟨R_Text, F_Text, 11, "FelledByNames$Text", rfl, i_Text, by decide, tm 68 (by decide +kernel) rfl, Or.inl rfl, t_Text, t_Text_ok, n_Text⟩
theorem d_Text_gives_12 : decode prog_9_method_13_code 12 = .ok (.getfield 89, 3) := by decide +kernel
theorem f_Text_89_Row : fok "FelledByNames$Text" 89 1 1 := ⟨R_Row, F_Row, 2, "FelledByNames$Row", rfl, i_Row, by decide, tm 49 (by decide +kernel) rfl, Or.inl rfl, t_Row, t_Row_ok, n_Row⟩
theorem d_Text_gives_15 : decode prog_9_method_13_code 15 = .ok (.if_icmp .ge 162, 3) := by decide +kernel
theorem d_Text_gives_177 : decode prog_9_method_13_code 177 = .ok (.aload_n 0, 1) := by decide +kernel
theorem d_Text_gives_178 : decode prog_9_method_13_code 178 = .ok (.getfield 48, 3) := by decide +kernel
theorem f_Text_48_Text : fok "FelledByNames$Text" 48 3 3 := ⟨R_Text, F_Text, 11, "FelledByNames$Text", rfl, i_Text, by decide, tm 72 (by decide +kernel) rfl, Or.inl rfl, t_Text, t_Text_ok, n_Text⟩
theorem d_Text_gives_181 : decode prog_9_method_13_code 181 = .ok (.aload_n 0, 1) := by decide +kernel
theorem d_Text_gives_182 : decode prog_9_method_13_code 182 = .ok (.getfield 51, 3) := by decide +kernel
theorem f_Text_51_Text : fok "FelledByNames$Text" 51 3 4 := ⟨R_Text, F_Text, 11, "FelledByNames$Text", rfl, i_Text, by decide, tm 73 (by decide +kernel) rfl, Or.inl rfl, t_Text, t_Text_ok, n_Text⟩
theorem d_Text_gives_185 : decode prog_9_method_13_code 185 = .ok (.aload_n 0, 1) := by decide +kernel
theorem d_Text_gives_186 : decode prog_9_method_13_code 186 = .ok (.getfield 23, 3) := by decide +kernel
theorem f_Text_23_Text : fok "FelledByNames$Text" 23 3 6 := ⟨R_Text, F_Text, 11, "FelledByNames$Text", rfl, i_Text, by decide, tm 75 (by decide +kernel) rfl, Or.inl rfl, t_Text, t_Text_ok, n_Text⟩
theorem d_Text_gives_189 : decode prog_9_method_13_code 189 = .ok (.iconst 0, 1) := by decide +kernel
theorem d_Text_gives_190 : decode prog_9_method_13_code 190 = .ok (.iaload, 1) := by decide +kernel
theorem d_Text_gives_191 : decode prog_9_method_13_code 191 = .ok (.invokestatic 146, 3) := by decide +kernel
theorem d_Text_gives_194 : decode prog_9_method_13_code 194 = .ok (.invokestatic 152, 3) := by decide +kernel
theorem d_Text_gives_197 : decode prog_9_method_13_code 197 = .ok (.ireturn, 1) := by decide +kernel
theorem d_Text_gives_18 : decode prog_9_method_13_code 18 = .ok (.aload_n 0, 1) := by decide +kernel
theorem d_Text_gives_19 : decode prog_9_method_13_code 19 = .ok (.getfield 16, 3) := by decide +kernel
theorem d_Text_gives_22 : decode prog_9_method_13_code 22 = .ok (.getfield 135, 3) := by decide +kernel
theorem f_Text_135_Row : fok "FelledByNames$Text" 135 1 0 := ⟨R_Row, F_Row, 2, "FelledByNames$Row", rfl, i_Row, by decide, tm 44 (by decide +kernel) rfl, Or.inl rfl, t_Row, t_Row_ok, n_Row⟩
theorem d_Text_gives_25 : decode prog_9_method_13_code 25 = .ok (.iload 5, 2) := by decide +kernel
theorem d_Text_gives_27 : decode prog_9_method_13_code 27 = .ok (.iaload, 1) := by decide +kernel
theorem d_Text_gives_28 : decode prog_9_method_13_code 28 = .ok (.istore 6, 2) := by decide +kernel
theorem d_Text_gives_30 : decode prog_9_method_13_code 30 = .ok (.iload 6, 2) := by decide +kernel
theorem d_Text_gives_32 : decode prog_9_method_13_code 32 = .ok (.sipush 20000, 3) := by decide +kernel
theorem d_Text_gives_35 : decode prog_9_method_13_code 35 = .ok (.if_icmp .ge 51, 3) := by decide +kernel
theorem d_Text_gives_86 : decode prog_9_method_13_code 86 = .ok (.iload 6, 2) := by decide +kernel
theorem d_Text_gives_88 : decode prog_9_method_13_code 88 = .ok (.sipush 20033, 3) := by decide +kernel
theorem d_Text_gives_91 : decode prog_9_method_13_code 91 = .ok (.if_icmp .ne 37, 3) := by decide +kernel
theorem d_Text_gives_128 : decode prog_9_method_13_code 128 = .ok (.iload 4, 2) := by decide +kernel
theorem d_Text_gives_130 : decode prog_9_method_13_code 130 = .ok (.iconst 1, 1) := by decide +kernel
theorem d_Text_gives_131 : decode prog_9_method_13_code 131 = .ok (.if_icmp .le 40, 3) := by decide +kernel
theorem d_Text_gives_134 : decode prog_9_method_13_code 134 = .ok (.iinc 4 (-1), 3) := by decide +kernel
theorem d_Text_gives_137 : decode prog_9_method_13_code 137 = .ok (.aload_n 0, 1) := by decide +kernel
theorem d_Text_gives_138 : decode prog_9_method_13_code 138 = .ok (.getfield 23, 3) := by decide +kernel
theorem d_Text_gives_141 : decode prog_9_method_13_code 141 = .ok (.iload 4, 2) := by decide +kernel
theorem d_Text_gives_143 : decode prog_9_method_13_code 143 = .ok (.iconst 1, 1) := by decide +kernel
theorem d_Text_gives_144 : decode prog_9_method_13_code 144 = .ok (.isub, 1) := by decide +kernel
theorem d_Text_gives_145 : decode prog_9_method_13_code 145 = .ok (.iload 6, 2) := by decide +kernel
theorem d_Text_gives_147 : decode prog_9_method_13_code 147 = .ok (.sipush 20000, 3) := by decide +kernel
theorem d_Text_gives_150 : decode prog_9_method_13_code 150 = .ok (.isub, 1) := by decide +kernel
theorem d_Text_gives_151 : decode prog_9_method_13_code 151 = .ok (.aload_n 0, 1) := by decide +kernel
theorem d_Text_gives_152 : decode prog_9_method_13_code 152 = .ok (.getfield 23, 3) := by decide +kernel
theorem d_Text_gives_155 : decode prog_9_method_13_code 155 = .ok (.iload 4, 2) := by decide +kernel
theorem d_Text_gives_157 : decode prog_9_method_13_code 157 = .ok (.iconst 1, 1) := by decide +kernel
theorem d_Text_gives_158 : decode prog_9_method_13_code 158 = .ok (.isub, 1) := by decide +kernel
theorem d_Text_gives_159 : decode prog_9_method_13_code 159 = .ok (.iaload, 1) := by decide +kernel
theorem d_Text_gives_160 : decode prog_9_method_13_code 160 = .ok (.aload_n 0, 1) := by decide +kernel
theorem d_Text_gives_161 : decode prog_9_method_13_code 161 = .ok (.getfield 23, 3) := by decide +kernel
theorem d_Text_gives_164 : decode prog_9_method_13_code 164 = .ok (.iload 4, 2) := by decide +kernel
theorem d_Text_gives_166 : decode prog_9_method_13_code 166 = .ok (.iaload, 1) := by decide +kernel
theorem d_Text_gives_167 : decode prog_9_method_13_code 167 = .ok (.invokestatic 142, 3) := by decide +kernel
theorem kB_Text_joined : kB M_Text_joined 3 := ⟨tm 4 (by decide +kernel) rfl, tm 702 (by decide +kernel) rfl, ⟨by decide, by decide, by decide +kernel⟩, by decide⟩
theorem k_Text_142_Text_joinedS : kS "FelledByNames$Text" 142 M_Text_joined 3 := ⟨kB_Text_joined, tm 700 (by decide +kernel) rfl, tm 701 (by decide +kernel) rfl⟩
theorem d_Text_gives_170 : decode prog_9_method_13_code 170 = .ok (.iastore, 1) := by decide +kernel
theorem d_Text_gives_171 : decode prog_9_method_13_code 171 = .ok (.iinc 5 1, 3) := by decide +kernel
theorem d_Text_gives_174 : decode prog_9_method_13_code 174 = .ok (.goto (-168), 3) := by decide +kernel
theorem d_Text_gives_94 : decode prog_9_method_13_code 94 = .ok (.iload 4, 2) := by decide +kernel
theorem d_Text_gives_96 : decode prog_9_method_13_code 96 = .ok (.ifCond .le 32, 3) := by decide +kernel
theorem d_Text_gives_99 : decode prog_9_method_13_code 99 = .ok (.aload_n 0, 1) := by decide +kernel
theorem d_Text_gives_100 : decode prog_9_method_13_code 100 = .ok (.getfield 23, 3) := by decide +kernel
theorem d_Text_gives_103 : decode prog_9_method_13_code 103 = .ok (.iload 4, 2) := by decide +kernel
theorem d_Text_gives_105 : decode prog_9_method_13_code 105 = .ok (.iconst 1, 1) := by decide +kernel
theorem d_Text_gives_106 : decode prog_9_method_13_code 106 = .ok (.isub, 1) := by decide +kernel
theorem d_Text_gives_107 : decode prog_9_method_13_code 107 = .ok (.aload_n 0, 1) := by decide +kernel
theorem d_Text_gives_108 : decode prog_9_method_13_code 108 = .ok (.getfield 23, 3) := by decide +kernel
theorem d_Text_gives_111 : decode prog_9_method_13_code 111 = .ok (.iload 4, 2) := by decide +kernel
theorem d_Text_gives_113 : decode prog_9_method_13_code 113 = .ok (.iconst 1, 1) := by decide +kernel
theorem d_Text_gives_114 : decode prog_9_method_13_code 114 = .ok (.isub, 1) := by decide +kernel
theorem d_Text_gives_115 : decode prog_9_method_13_code 115 = .ok (.iaload, 1) := by decide +kernel
theorem d_Text_gives_116 : decode prog_9_method_13_code 116 = .ok (.ifCond .ne 7, 3) := by decide +kernel
theorem d_Text_gives_123 : decode prog_9_method_13_code 123 = .ok (.iconst 0, 1) := by decide +kernel
theorem d_Text_gives_124 : decode prog_9_method_13_code 124 = .ok (.iastore, 1) := by decide +kernel
theorem d_Text_gives_125 : decode prog_9_method_13_code 125 = .ok (.goto 46, 3) := by decide +kernel
theorem d_Text_gives_119 : decode prog_9_method_13_code 119 = .ok (.iconst 1, 1) := by decide +kernel
theorem d_Text_gives_120 : decode prog_9_method_13_code 120 = .ok (.goto 4, 3) := by decide +kernel
theorem d_Text_gives_38 : decode prog_9_method_13_code 38 = .ok (.iload 4, 2) := by decide +kernel
theorem d_Text_gives_40 : decode prog_9_method_13_code 40 = .ok (.aload_n 0, 1) := by decide +kernel
theorem d_Text_gives_41 : decode prog_9_method_13_code 41 = .ok (.getfield 23, 3) := by decide +kernel
theorem d_Text_gives_44 : decode prog_9_method_13_code 44 = .ok (.arraylength, 1) := by decide +kernel
theorem d_Text_gives_45 : decode prog_9_method_13_code 45 = .ok (.if_icmp .ge 41, 3) := by decide +kernel
theorem d_Text_gives_48 : decode prog_9_method_13_code 48 = .ok (.aload_n 0, 1) := by decide +kernel
theorem d_Text_gives_49 : decode prog_9_method_13_code 49 = .ok (.getfield 23, 3) := by decide +kernel
theorem d_Text_gives_52 : decode prog_9_method_13_code 52 = .ok (.iload 4, 2) := by decide +kernel
theorem d_Text_gives_54 : decode prog_9_method_13_code 54 = .ok (.iload 6, 2) := by decide +kernel
theorem d_Text_gives_56 : decode prog_9_method_13_code 56 = .ok (.sipush 10000, 3) := by decide +kernel
theorem d_Text_gives_59 : decode prog_9_method_13_code 59 = .ok (.if_icmp .ge 8, 3) := by decide +kernel
theorem d_Text_gives_67 : decode prog_9_method_13_code 67 = .ok (.iload 6, 2) := by decide +kernel
theorem d_Text_gives_69 : decode prog_9_method_13_code 69 = .ok (.sipush 10000, 3) := by decide +kernel
theorem d_Text_gives_72 : decode prog_9_method_13_code 72 = .ok (.isub, 1) := by decide +kernel
theorem d_Text_gives_73 : decode prog_9_method_13_code 73 = .ok (.iload_n 1, 1) := by decide +kernel
theorem d_Text_gives_74 : decode prog_9_method_13_code 74 = .ok (.iload_n 2, 1) := by decide +kernel
theorem d_Text_gives_75 : decode prog_9_method_13_code 75 = .ok (.iload_n 3, 1) := by decide +kernel
theorem d_Text_gives_76 : decode prog_9_method_13_code 76 = .ok (.invokestatic 138, 3) := by decide +kernel
theorem kB_Text_named : kB M_Text_named 4 := ⟨tm 4 (by decide +kernel) rfl, tm 699 (by decide +kernel) rfl, ⟨by decide, by decide, by decide +kernel⟩, by decide⟩
theorem k_Text_138_Text_namedS : kS "FelledByNames$Text" 138 M_Text_named 4 := ⟨kB_Text_named, tm 697 (by decide +kernel) rfl, tm 698 (by decide +kernel) rfl⟩
theorem d_Text_gives_79 : decode prog_9_method_13_code 79 = .ok (.iastore, 1) := by decide +kernel
theorem d_Text_gives_80 : decode prog_9_method_13_code 80 = .ok (.iinc 4 1, 3) := by decide +kernel
theorem d_Text_gives_83 : decode prog_9_method_13_code 83 = .ok (.goto 88, 3) := by decide +kernel
theorem d_Text_gives_62 : decode prog_9_method_13_code 62 = .ok (.iload 6, 2) := by decide +kernel
theorem d_Text_gives_64 : decode prog_9_method_13_code 64 = .ok (.goto 15, 3) := by decide +kernel
set_option maxRecDepth 100000 in
theorem c_Text_gives {u len : Nat} {Wc : Nat → Nat} {a b c : Int32} {l : Launch} {d n : Nat} {R W Z : Nat → Nat → Int32} {T : Nat → Nat → Nat} {kn : Kn} {h0 : HP} {Q : QT} (hu : u < 2) (hX : Wf Wc len) (hz : Z (4 + 6 * u) 1 = nI len) (hC : ∀ k, k < len → R (4 + 6 * u + 1) k = nI (Wc k)) (hQ : ∀ P : Nat → Int32, Q (some (.int (hld (evc a b c Wc len) (lwv u) (hgv u)))) n (co (uA R (8 + 6 * u) P) W Z T kn h0)) : Ct l M_Text_gives (d + 2) 0 0 [.ref (3 + 6 * u), .int a, .int b, .int c] n (co R W Z T kn h0) Q := by
  refine Ct.of (fun _ => trivial) (by decide) (Nat.le_of_ble_eq_true rfl) ?_
  obtain ⟨hl50, hok, htop⟩ := hX
  refine V.iconst_ (nI 0) d_Text_gives_0 (by decide +kernel) ?_
  refine V.istore d_Text_gives_1 (by decide) ?_
  refine V.iconst_ (nI 0) d_Text_gives_3 (by decide +kernel) ?_
  refine V.istore d_Text_gives_4 (by decide) ?_
  refine V.lc (ls' := [(0, .ref (3 + 6 * u)), (1, .int a), (2, .int b), (3, .int c), (4, .int (nI (tops Wc 0))), (5, .int (nI 0))]) rfl ?_
  refine V.eqH (h' := co (uA R (8 + 6 * u) (exs a b c Wc 0 (R (8 + 6 * u))).2) W Z T kn h0) (by exact congrArg (fun x => co x W Z T kn h0) (uA_id (A := R) (k := 8 + 6 * u)).symm) ?_
  refine up_to (G := fun k => V l M_Text_gives (d + 2) 0 0 6 [(0, .ref (3 + 6 * u)), (1, .int a), (2, .int b), (3, .int c), (4, .int (nI (tops Wc k))), (5, .int (nI k))] [] n (co (uA R (8 + 6 * u) (exs a b c Wc k (R (8 + 6 * u))).2) W Z T kn h0) 0 0 Q) (len) ?_ (fun k hk hn => ?_) 0 (by omega)
  · skip
    refine V.iload d_Text_gives_6 rfl ?_
    refine V.aload_n d_Text_gives_8 rfl ?_
    refine V.get d_Text_gives_9 f_Text_16_Text (co_s (sc_tx (tx_ds u hu).1)) rfl ?_
    refine V.get d_Text_gives_12 f_Text_89_Row (co_s (sc_rw (tx_ds u hu).2.1)) rfl ?_
    refine V.top (y := nI (len)) hz ?_
    refine V.geN (tgt := 177) d_Text_gives_15 (by decide) (by omega) (by omega) (fun c_15 => ?_) (fun c_15 => ?_)
    · skip
      refine V.aload_n d_Text_gives_177 rfl ?_
      refine V.get d_Text_gives_178 f_Text_48_Text (co_s (sc_tx (tx_ds u hu).1)) rfl ?_
      refine V.aload_n d_Text_gives_181 rfl ?_
      refine V.get d_Text_gives_182 f_Text_51_Text (co_s (sc_tx (tx_ds u hu).1)) rfl ?_
      refine V.aload_n d_Text_gives_185 rfl ?_
      refine V.get d_Text_gives_186 f_Text_23_Text (co_s (sc_tx (tx_ds u hu).1)) rfl ?_
      refine V.iconst_ (nI 0) d_Text_gives_189 (by decide +kernel) ?_
      refine V.ialdN d_Text_gives_190 (co_s (sc_ar (tx_ds u hu).2.2.2.2.2)) (by omega) (by omega) ?_
      rw [uA_s, exs_any hok (R (8 + 6 * u)) (fun _ => 0) len (Nat.le_refl _) 0 (by omega)]
      refine V.mmin d_Text_gives_191 (tm 703 (by decide +kernel) rfl) (Nat.le_of_ble_eq_true rfl) (by omega) (by omega) ?_
      refine V.mmax d_Text_gives_194 (tm 704 (by decide +kernel) rfl) (Nat.le_of_ble_eq_true rfl) (by omega) (by omega) ?_
      refine V.iret d_Text_gives_197 rfl (Nat.le_of_ble_eq_true rfl) (Nat.le_of_ble_eq_true rfl) ?_
      rw [clamp_hld (lh_ok hu)]
      exact hQ _
    · skip
      exact absurd c_15 (by omega)
  · skip
    obtain ⟨o1, o2, o3, o4⟩ := hok k hk
    have htl := tops_le Wc k
    refine V.iload d_Text_gives_6 rfl ?_
    refine V.aload_n d_Text_gives_8 rfl ?_
    refine V.get d_Text_gives_9 f_Text_16_Text (co_s (sc_tx (tx_ds u hu).1)) rfl ?_
    refine V.get d_Text_gives_12 f_Text_89_Row (co_s (sc_rw (tx_ds u hu).2.1)) rfl ?_
    refine V.top (y := nI (len)) hz ?_
    refine V.geN (tgt := 177) d_Text_gives_15 (by decide) (by omega) (by omega) (fun c_15 => ?_) (fun c_15 => ?_)
    · skip
      exact absurd c_15 (by omega)
    · skip
      refine V.aload_n d_Text_gives_18 rfl ?_
      refine V.get d_Text_gives_19 f_Text_16_Text (co_s (sc_tx (tx_ds u hu).1)) rfl ?_
      refine V.get d_Text_gives_22 f_Text_135_Row (co_s (sc_rw (tx_ds u hu).2.1)) rfl ?_
      refine V.iload d_Text_gives_25 rfl ?_
      refine V.ialdN d_Text_gives_27 (co_s (sc_ar (txa_ds u hu).1)) (by omega) (by omega) ?_
      refine V.top (y := nI (Wc k)) (by rw [uA_n (by omega)]; exact hC k hk) ?_
      refine V.istore d_Text_gives_28 (by decide) ?_
      refine V.iload d_Text_gives_30 rfl ?_
      refine V.sipush_ (nI 20000) d_Text_gives_32 (by decide +kernel) ?_
      refine V.geN (tgt := 86) d_Text_gives_35 (by decide) (by omega) (by omega) (fun c_35 => ?_) (fun c_35 => ?_)
      · skip
        refine V.iload d_Text_gives_86 rfl ?_
        refine V.sipush_ (nI 20033) d_Text_gives_88 (by decide +kernel) ?_
        refine V.neN (tgt := 128) d_Text_gives_91 (by decide) (by omega) (by omega) (fun c_91 => ?_) (fun c_91 => ?_)
        · skip
          refine V.iload d_Text_gives_128 rfl ?_
          refine V.iconst_ (nI 1) d_Text_gives_130 (by decide +kernel) ?_
          refine V.leN (tgt := 171) d_Text_gives_131 (by decide) (by omega) (by omega) (fun c_131 => ?_) (fun c_131 => ?_)
          · skip
            exact absurd c_131 (by have := o3 c_35 c_91; omega)
          · skip
            have o3' := o3 c_35 c_91
            refine V.decN d_Text_gives_134 rfl (by omega) (by decide) ?_
            refine V.aload_n d_Text_gives_137 rfl ?_
            refine V.get d_Text_gives_138 f_Text_23_Text (co_s (sc_tx (tx_ds u hu).1)) rfl ?_
            refine V.iload d_Text_gives_141 rfl ?_
            refine V.iconst_ (nI 1) d_Text_gives_143 (by decide +kernel) ?_
            refine V.subN d_Text_gives_144 (by omega) ?_
            refine V.iload d_Text_gives_145 rfl ?_
            refine V.sipush_ (nI 20000) d_Text_gives_147 (by decide +kernel) ?_
            refine V.subN d_Text_gives_150 (by omega) ?_
            refine V.aload_n d_Text_gives_151 rfl ?_
            refine V.get d_Text_gives_152 f_Text_23_Text (co_s (sc_tx (tx_ds u hu).1)) rfl ?_
            refine V.iload d_Text_gives_155 rfl ?_
            refine V.iconst_ (nI 1) d_Text_gives_157 (by decide +kernel) ?_
            refine V.subN d_Text_gives_158 (by omega) ?_
            refine V.ialdN d_Text_gives_159 (co_s (sc_ar (tx_ds u hu).2.2.2.2.2)) (by omega) (by omega) ?_
            rw [uA_s]
            refine V.aload_n d_Text_gives_160 rfl ?_
            refine V.get d_Text_gives_161 f_Text_23_Text (co_s (sc_tx (tx_ds u hu).1)) rfl ?_
            refine V.iload d_Text_gives_164 rfl ?_
            refine V.ialdN d_Text_gives_166 (co_s (sc_ar (tx_ds u hu).2.2.2.2.2)) (by omega) (by omega) ?_
            rw [uA_s]
            refine V.callS3 d_Text_gives_167 k_Text_142_Text_joinedS (Nat.le_of_ble_eq_true rfl) (by omega) (by omega) (c_Text_joined ?_)
            refine V.iastN d_Text_gives_170 (co_s (sc_ar (tx_ds u hu).2.2.2.2.2)) (by omega) (by omega) ?_
            refine V.eqH (co_uR (tx_ds u hu).2.2.2.2.2) ?_
            refine V.incN d_Text_gives_171 rfl (by decide) ?_
            refine V.goto (tgt := 6) d_Text_gives_174 (by decide) ?_
            first
            | exact absurd c_45 (by omega)
            | exact absurd c_96 (by
                have := o2 c_91
                exact Int32.not_le.mpr ((nI_ltI (a := 0) (by decide) (by omega)).mpr (by omega)))
            | exact absurd c_131 (by have := o3 c_35 c_91; omega)
            | (simp only [uA_uu, uA_s]; rw [(exs_num c_59).1, (exs_num (a := a) (b := b) (c := c) (P := R (8 + 6 * u)) c_59).2] at hn; exact V.lc rfl hn)
            | (simp only [uA_uu, uA_s]; rw [(exs_nam c_59 c_35).1, (exs_nam (a := a) (b := b) (c := c) (P := R (8 + 6 * u)) c_59 c_35).2] at hn; exact V.lc rfl hn)
            | (simp only [uA_uu, uA_s]; rw [(exs_not c_91).1, (exs_not (a := a) (b := b) (c := c) (P := R (8 + 6 * u)) c_91).2] at hn; first | (rw [if_pos c_116] at hn; exact V.lc rfl hn) | (rw [if_neg c_116] at hn; exact V.lc rfl hn))
            | (simp only [uA_uu, uA_s]; rw [(exs_bin c_35 c_91).1, (exs_bin (a := a) (b := b) (c := c) (P := R (8 + 6 * u)) c_35 c_91).2] at hn; exact V.lc rfl hn)
        · skip
          refine V.iload d_Text_gives_94 rfl ?_
          refine V.if_le (tgt := 128) d_Text_gives_96 (by decide) (fun c_96 => ?_) (fun c_96 => ?_)
          · skip
            exact absurd c_96 (by
              have := o2 c_91
              exact Int32.not_le.mpr ((nI_ltI (a := 0) (by decide) (by omega)).mpr (by omega)))
          · skip
            have o2' := o2 c_91
            refine V.aload_n d_Text_gives_99 rfl ?_
            refine V.get d_Text_gives_100 f_Text_23_Text (co_s (sc_tx (tx_ds u hu).1)) rfl ?_
            refine V.iload d_Text_gives_103 rfl ?_
            refine V.iconst_ (nI 1) d_Text_gives_105 (by decide +kernel) ?_
            refine V.subN d_Text_gives_106 (by omega) ?_
            refine V.aload_n d_Text_gives_107 rfl ?_
            refine V.get d_Text_gives_108 f_Text_23_Text (co_s (sc_tx (tx_ds u hu).1)) rfl ?_
            refine V.iload d_Text_gives_111 rfl ?_
            refine V.iconst_ (nI 1) d_Text_gives_113 (by decide +kernel) ?_
            refine V.subN d_Text_gives_114 (by omega) ?_
            refine V.ialdN d_Text_gives_115 (co_s (sc_ar (tx_ds u hu).2.2.2.2.2)) (by omega) (by omega) ?_
            rw [uA_s]
            refine V.if_ne (tgt := 123) d_Text_gives_116 (by decide) (fun c_116 => ?_) (fun c_116 => ?_)
            · skip
              refine V.iconst_ (nI 0) d_Text_gives_123 (by decide +kernel) ?_
              refine V.iastN d_Text_gives_124 (co_s (sc_ar (tx_ds u hu).2.2.2.2.2)) (by omega) (by omega) ?_
              refine V.eqH (co_uR (tx_ds u hu).2.2.2.2.2) ?_
              refine V.goto (tgt := 171) d_Text_gives_125 (by decide) ?_
              refine V.incN d_Text_gives_171 rfl (by decide) ?_
              refine V.goto (tgt := 6) d_Text_gives_174 (by decide) ?_
              first
              | exact absurd c_45 (by omega)
              | exact absurd c_96 (by
                  have := o2 c_91
                  exact Int32.not_le.mpr ((nI_ltI (a := 0) (by decide) (by omega)).mpr (by omega)))
              | exact absurd c_131 (by have := o3 c_35 c_91; omega)
              | (simp only [uA_uu, uA_s]; rw [(exs_num c_59).1, (exs_num (a := a) (b := b) (c := c) (P := R (8 + 6 * u)) c_59).2] at hn; exact V.lc rfl hn)
              | (simp only [uA_uu, uA_s]; rw [(exs_nam c_59 c_35).1, (exs_nam (a := a) (b := b) (c := c) (P := R (8 + 6 * u)) c_59 c_35).2] at hn; exact V.lc rfl hn)
              | (simp only [uA_uu, uA_s]; rw [(exs_not c_91).1, (exs_not (a := a) (b := b) (c := c) (P := R (8 + 6 * u)) c_91).2] at hn; first | (rw [if_pos c_116] at hn; exact V.lc rfl hn) | (rw [if_neg c_116] at hn; exact V.lc rfl hn))
              | (simp only [uA_uu, uA_s]; rw [(exs_bin c_35 c_91).1, (exs_bin (a := a) (b := b) (c := c) (P := R (8 + 6 * u)) c_35 c_91).2] at hn; exact V.lc rfl hn)
            · skip
              refine V.iconst_ (nI 1) d_Text_gives_119 (by decide +kernel) ?_
              refine V.goto (tgt := 124) d_Text_gives_120 (by decide) ?_
              refine V.iastN d_Text_gives_124 (co_s (sc_ar (tx_ds u hu).2.2.2.2.2)) (by omega) (by omega) ?_
              refine V.eqH (co_uR (tx_ds u hu).2.2.2.2.2) ?_
              refine V.goto (tgt := 171) d_Text_gives_125 (by decide) ?_
              refine V.incN d_Text_gives_171 rfl (by decide) ?_
              refine V.goto (tgt := 6) d_Text_gives_174 (by decide) ?_
              first
              | exact absurd c_45 (by omega)
              | exact absurd c_96 (by
                  have := o2 c_91
                  exact Int32.not_le.mpr ((nI_ltI (a := 0) (by decide) (by omega)).mpr (by omega)))
              | exact absurd c_131 (by have := o3 c_35 c_91; omega)
              | (simp only [uA_uu, uA_s]; rw [(exs_num c_59).1, (exs_num (a := a) (b := b) (c := c) (P := R (8 + 6 * u)) c_59).2] at hn; exact V.lc rfl hn)
              | (simp only [uA_uu, uA_s]; rw [(exs_nam c_59 c_35).1, (exs_nam (a := a) (b := b) (c := c) (P := R (8 + 6 * u)) c_59 c_35).2] at hn; exact V.lc rfl hn)
              | (simp only [uA_uu, uA_s]; rw [(exs_not c_91).1, (exs_not (a := a) (b := b) (c := c) (P := R (8 + 6 * u)) c_91).2] at hn; first | (rw [if_pos c_116] at hn; exact V.lc rfl hn) | (rw [if_neg c_116] at hn; exact V.lc rfl hn))
              | (simp only [uA_uu, uA_s]; rw [(exs_bin c_35 c_91).1, (exs_bin (a := a) (b := b) (c := c) (P := R (8 + 6 * u)) c_35 c_91).2] at hn; exact V.lc rfl hn)
      · skip
        refine V.iload d_Text_gives_38 rfl ?_
        refine V.aload_n d_Text_gives_40 rfl ?_
        refine V.get d_Text_gives_41 f_Text_23_Text (co_s (sc_tx (tx_ds u hu).1)) rfl ?_
        refine V.alen d_Text_gives_44 (co_s (sc_ar (tx_ds u hu).2.2.2.2.2)) (by decide) ?_
        refine V.geN (tgt := 86) d_Text_gives_45 (by decide) (by omega) (by omega) (fun c_45 => ?_) (fun c_45 => ?_)
        · skip
          exact absurd c_45 (by omega)
        · skip
          refine V.aload_n d_Text_gives_48 rfl ?_
          refine V.get d_Text_gives_49 f_Text_23_Text (co_s (sc_tx (tx_ds u hu).1)) rfl ?_
          refine V.iload d_Text_gives_52 rfl ?_
          refine V.iload d_Text_gives_54 rfl ?_
          refine V.sipush_ (nI 10000) d_Text_gives_56 (by decide +kernel) ?_
          refine V.geN (tgt := 67) d_Text_gives_59 (by decide) (by omega) (by omega) (fun c_59 => ?_) (fun c_59 => ?_)
          · skip
            have o1' := o1 c_35
            refine V.iload d_Text_gives_67 rfl ?_
            refine V.sipush_ (nI 10000) d_Text_gives_69 (by decide +kernel) ?_
            refine V.subN d_Text_gives_72 (by omega) ?_
            refine V.iload_n d_Text_gives_73 rfl ?_
            refine V.iload_n d_Text_gives_74 rfl ?_
            refine V.iload_n d_Text_gives_75 rfl ?_
            refine V.callS4 d_Text_gives_76 k_Text_138_Text_namedS (Nat.le_of_ble_eq_true rfl) (by omega) (by omega) (c_Text_named (by omega) ?_)
            refine V.iastN d_Text_gives_79 (co_s (sc_ar (tx_ds u hu).2.2.2.2.2)) (by omega) (by omega) ?_
            refine V.eqH (co_uR (tx_ds u hu).2.2.2.2.2) ?_
            refine V.incN d_Text_gives_80 rfl (by decide) ?_
            refine V.goto (tgt := 171) d_Text_gives_83 (by decide) ?_
            refine V.incN d_Text_gives_171 rfl (by decide) ?_
            refine V.goto (tgt := 6) d_Text_gives_174 (by decide) ?_
            first
            | exact absurd c_45 (by omega)
            | exact absurd c_96 (by
                have := o2 c_91
                exact Int32.not_le.mpr ((nI_ltI (a := 0) (by decide) (by omega)).mpr (by omega)))
            | exact absurd c_131 (by have := o3 c_35 c_91; omega)
            | (simp only [uA_uu, uA_s]; rw [(exs_num c_59).1, (exs_num (a := a) (b := b) (c := c) (P := R (8 + 6 * u)) c_59).2] at hn; exact V.lc rfl hn)
            | (simp only [uA_uu, uA_s]; rw [(exs_nam c_59 c_35).1, (exs_nam (a := a) (b := b) (c := c) (P := R (8 + 6 * u)) c_59 c_35).2] at hn; exact V.lc rfl hn)
            | (simp only [uA_uu, uA_s]; rw [(exs_not c_91).1, (exs_not (a := a) (b := b) (c := c) (P := R (8 + 6 * u)) c_91).2] at hn; first | (rw [if_pos c_116] at hn; exact V.lc rfl hn) | (rw [if_neg c_116] at hn; exact V.lc rfl hn))
            | (simp only [uA_uu, uA_s]; rw [(exs_bin c_35 c_91).1, (exs_bin (a := a) (b := b) (c := c) (P := R (8 + 6 * u)) c_35 c_91).2] at hn; exact V.lc rfl hn)
          · skip
            refine V.iload d_Text_gives_62 rfl ?_
            refine V.goto (tgt := 79) d_Text_gives_64 (by decide) ?_
            refine V.iastN d_Text_gives_79 (co_s (sc_ar (tx_ds u hu).2.2.2.2.2)) (by omega) (by omega) ?_
            refine V.eqH (co_uR (tx_ds u hu).2.2.2.2.2) ?_
            refine V.incN d_Text_gives_80 rfl (by decide) ?_
            refine V.goto (tgt := 171) d_Text_gives_83 (by decide) ?_
            refine V.incN d_Text_gives_171 rfl (by decide) ?_
            refine V.goto (tgt := 6) d_Text_gives_174 (by decide) ?_
            first
            | exact absurd c_45 (by omega)
            | exact absurd c_96 (by
                have := o2 c_91
                exact Int32.not_le.mpr ((nI_ltI (a := 0) (by decide) (by omega)).mpr (by omega)))
            | exact absurd c_131 (by have := o3 c_35 c_91; omega)
            | (simp only [uA_uu, uA_s]; rw [(exs_num c_59).1, (exs_num (a := a) (b := b) (c := c) (P := R (8 + 6 * u)) c_59).2] at hn; exact V.lc rfl hn)
            | (simp only [uA_uu, uA_s]; rw [(exs_nam c_59 c_35).1, (exs_nam (a := a) (b := b) (c := c) (P := R (8 + 6 * u)) c_59 c_35).2] at hn; exact V.lc rfl hn)
            | (simp only [uA_uu, uA_s]; rw [(exs_not c_91).1, (exs_not (a := a) (b := b) (c := c) (P := R (8 + 6 * u)) c_91).2] at hn; first | (rw [if_pos c_116] at hn; exact V.lc rfl hn) | (rw [if_neg c_116] at hn; exact V.lc rfl hn))
            | (simp only [uA_uu, uA_s]; rw [(exs_bin c_35 c_91).1, (exs_bin (a := a) (b := b) (c := c) (P := R (8 + 6 * u)) c_35 c_91).2] at hn; exact V.lc rfl hn)
