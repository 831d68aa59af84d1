def wvc (Wc : Nat → Nat) (len : Nat) (x y z : Int32) : Int32 := hld (evc x y z Wc len) (nI 0) (nI 99)
theorem wvc_nat {Wc : Nat → Nat} {len : Nat} (a b c : Int32) : ∃ k, k ≤ 99 ∧ wvc Wc len a b c = nI k := hld_nat (by decide)
def hitb (D : Nat → Int32) (t p : Nat) : Bool := decide (plN D t < p) && decide (p ≤ plN D t + rcN D t) && decide (p < 16)
def hitF (D : Nat → Int32) (t : Nat) (f : Nat → Int32) : Nat → Int32 := fun p => if hitb D t p = true then f p + nI 1 else f p
def hts (D : Nat → Int32) : List Nat → (Nat → Int32) → Nat → Int32
  | [], f => f
  | t :: L, f => hts D L (hitF D t f)
theorem hts_app {D : Nat → Int32} : ∀ (a b : List Nat) (f : Nat → Int32), hts D (a ++ b) f = hts D b (hts D a f) := by
  intro a
  induction a with
  | nil => intro b f; rfl
  | cons t a ih => intro b f; exact ih b (hitF D t f)
theorem hitb_c {D E : Nat → Int32} {t p : Nat} (h : ∀ j, j ≠ 3 → j ≠ 4 → (j < 50 ∨ ¬ (j - 50) % 7 = 6) → E j = D j) : hitb E t p = hitb D t p := by
  unfold hitb rcN plN tN
  rw [h _ (by omega) (by omega) (by omega), h _ (by omega) (by omega) (by omega), h _ (by omega) (by omega) (by omega)]
theorem hts_c {D E : Nat → Int32} (h : ∀ j, j ≠ 3 → j ≠ 4 → (j < 50 ∨ ¬ (j - 50) % 7 = 6) → E j = D j) : ∀ (L : List Nat) (f : Nat → Int32), hts E L f = hts D L f := by
  intro L
  induction L with
  | nil => intro f; rfl
  | cons t L ih =>
    intro f
    show hts E L (hitF E t f) = hts D L (hitF D t f)
    rw [ih]
    congr 1
    funext p
    unfold hitF
    rw [hitb_c h]
def hitU (a k : Nat) (f : Nat → Int32) : Nat → Int32 := fun p => if a < p ∧ p < k then f p + nI 1 else f p
theorem hitU_0 {a : Nat} {f : Nat → Int32} : hitU a (a + 1) f = f := by funext p; exact if_neg (by omega)
theorem hitU_s {a k : Nat} {f : Nat → Int32} (h : a < k) : upd (hitU a k f) k (hitU a k f k + nI 1) = hitU a (k + 1) f := by
  funext p
  unfold hitU
  by_cases hp : p = k
  · subst hp; rw [pk_us, if_neg (by omega), if_pos (by omega)]
  · rw [pk_un hp]
    by_cases h1 : a < p ∧ p < k
    · rw [if_pos h1, if_pos (by omega)]
    · rw [if_neg h1, if_neg (by omega)]
theorem hitU_F {D : Nat → Int32} {i : Nat} {f : Nat → Int32} : hitU (plN D i) (min (plN D i + rcN D i) 15 + 1) f = hitF D i f := by
  funext p
  unfold hitU hitF hitb
  by_cases h : plN D i < p ∧ p < min (plN D i + rcN D i) 15 + 1
  · rw [if_pos h, if_pos (by simp only [Bool.and_eq_true, decide_eq_true_eq]; omega)]
  · rw [if_neg h, if_neg (by simp only [Bool.and_eq_true, decide_eq_true_eq]; omega)]
theorem mi_min {a b : Nat} (ha : a < 2 ^ 31) (hb : b < 2 ^ 31) : mi (nI a) (nI b) = nI (min a b) := by
  unfold mi
  by_cases h : b < a
  · rw [if_pos ((nI_ltI hb ha).mpr h), Nat.min_eq_right (by omega)]
  · rw [if_neg (fun z => h ((nI_ltI hb ha).mp z)), Nat.min_eq_left (by omega)]
theorem gd_eq {D E : Nat → Int32} {i : Nat} {x y : Int32} (h6 : E (50 + 7 * i + 6) = nI 0) (h4 : E 4 = x) (h3 : E 3 = y) (ho : ∀ j, j ≠ 3 → j ≠ 4 → j ≠ 50 + 7 * i + 6 → E j = D j) : E = upd (upd (upd D 4 x) 3 y) (50 + 7 * i + 6) (nI 0) := by
  funext j
  by_cases a : j = 50 + 7 * i + 6
  · subst a; rw [pk_us]; exact h6
  · rw [pk_un a]
    by_cases b : j = 3
    · subst b; rw [pk_us]; exact h3
    · rw [pk_un b]
      by_cases c : j = 4
      · subst c; rw [pk_us]; exact h4
      · rw [pk_un c]; exact ho j b c a
theorem gdn_keep {wv : Int32 → Int32 → Int32 → Int32} {D : Nat → Int32} {i j : Nat} (h3 : j ≠ 3) (h4 : j ≠ 4) (hj : j < 50 ∨ ¬ (j - 50) % 7 = 6) : gdn wv D i j = D j := by
  unfold gdn
  rw [pk_un (by omega), pk_un h3, pk_un h4]
abbrev M_World_fall : MD := (⟨"FelledByNames$World", "fall", "(LFelledByNames$Tree;I)V"⟩, prog_12_method_13_code, 7, none, fun _ => True)
theorem d_World_fall_130 : decode prog_12_method_13_code 130 = .ok (.iconst 0, 1) := by decide +kernel
theorem d_World_fall_131 : decode prog_12_method_13_code 131 = .ok (.istore 4, 2) := by decide +kernel
theorem d_World_fall_133 : decode prog_12_method_13_code 133 = .ok (.iload 4, 2) := by decide +kernel
theorem d_World_fall_135 : decode prog_12_method_13_code 135 = .ok (.aload_n 0, 1) := by decide +kernel
theorem d_World_fall_136 : decode prog_12_method_13_code 136 = .ok (.getfield 24, 3) := by decide +kernel
theorem d_World_fall_139 : decode prog_12_method_13_code 139 = .ok (.if_icmp .ge 86, 3) := by decide +kernel
theorem d_World_fall_225 : decode prog_12_method_13_code 225 = .ok (.return_, 1) := by decide +kernel
theorem d_World_fall_142 : decode prog_12_method_13_code 142 = .ok (.iload_n 2, 1) := by decide +kernel
theorem d_World_fall_143 : decode prog_12_method_13_code 143 = .ok (.bipush 8, 2) := by decide +kernel
theorem d_World_fall_145 : decode prog_12_method_13_code 145 = .ok (.if_icmp .ge 80, 3) := by decide +kernel
theorem d_World_fall_0 : decode prog_12_method_13_code 0 = .ok (.aload_n 1, 1) := by decide +kernel
theorem d_World_fall_1 : decode prog_12_method_13_code 1 = .ok (.iconst 0, 1) := by decide +kernel
theorem d_World_fall_2 : decode prog_12_method_13_code 2 = .ok (.putfield 110, 3) := by decide +kernel
theorem d_World_fall_5 : decode prog_12_method_13_code 5 = .ok (.aload_n 0, 1) := by decide +kernel
theorem d_World_fall_6 : decode prog_12_method_13_code 6 = .ok (.getfield 48, 3) := by decide +kernel
theorem f_World_48_World : fok "FelledByNames$World" 48 4 11 := ⟨R_World, F_World, 14, "FelledByNames$World", rfl, i_World, by decide, tm 195 (by decide +kernel) rfl, Or.inl rfl, t_World, t_World_ok, n_World⟩
theorem d_World_fall_9 : decode prog_12_method_13_code 9 = .ok (.aload_n 1, 1) := by decide +kernel
theorem d_World_fall_10 : decode prog_12_method_13_code 10 = .ok (.getfield 167, 3) := by decide +kernel
theorem f_World_167_Tree : fok "FelledByNames$World" 167 6 1 := ⟨R_Tree, F_Tree, 8, "FelledByNames$Tree", rfl, i_Tree, by decide, tm 127 (by decide +kernel) rfl, Or.inl rfl, t_Tree, t_Tree_ok, n_Tree⟩
theorem f_World_167_Beech : fok "FelledByNames$World" 167 7 1 := ⟨R_Beech, F_Beech, 8, "FelledByNames$Tree", rfl, i_Beech, by decide, tm 127 (by decide +kernel) rfl, Or.inl rfl, t_Beech, t_Beech_ok, n_Beech⟩
theorem f_World_167_Oak : fok "FelledByNames$World" 167 8 1 := ⟨R_Oak, F_Oak, 8, "FelledByNames$Tree", rfl, i_Oak, by decide, tm 127 (by decide +kernel) rfl, Or.inl rfl, t_Oak, t_Oak_ok, n_Oak⟩
theorem f_World_167_Sapling : fok "FelledByNames$World" 167 9 1 := ⟨R_Sapling, F_Sapling, 8, "FelledByNames$Tree", rfl, i_Sapling, by decide, tm 127 (by decide +kernel) rfl, Or.inl rfl, t_Sapling, t_Sapling_ok, n_Sapling⟩
theorem f_World_167_Wedged : fok "FelledByNames$World" 167 10 1 := ⟨R_Wedged, F_Wedged, 8, "FelledByNames$Tree", rfl, i_Wedged, by decide, tm 127 (by decide +kernel) rfl, Or.inl rfl, t_Wedged, t_Wedged_ok, n_Wedged⟩
theorem f_World_167_Hollow : fok "FelledByNames$World" 167 11 1 := ⟨R_Hollow, F_Hollow, 8, "FelledByNames$Tree", rfl, i_Hollow, by decide, tm 127 (by decide +kernel) rfl, Or.inl rfl, t_Hollow, t_Hollow_ok, n_Hollow⟩
theorem f_World_167_Hill : fok "FelledByNames$World" 167 12 1 := ⟨R_Hill, F_Hill, 8, "FelledByNames$Tree", rfl, i_Hill, by decide, tm 127 (by decide +kernel) rfl, Or.inl rfl, t_Hill, t_Hill_ok, n_Hill⟩
theorem ft_World_167 : ∀ c, c ≤ 6 → fok "FelledByNames$World" 167 (6 + c) 1 := fun c hc => by
  rcases (show c = 0 ∨ c = 1 ∨ c = 2 ∨ c = 3 ∨ c = 4 ∨ c = 5 ∨ c = 6 by omega) with rfl | rfl | rfl | rfl | rfl | rfl | rfl
  · exact f_World_167_Tree
  · exact f_World_167_Beech
  · exact f_World_167_Oak
  · exact f_World_167_Sapling
  · exact f_World_167_Wedged
  · exact f_World_167_Hollow
  · exact f_World_167_Hill
theorem d_World_fall_13 : decode prog_12_method_13_code 13 = .ok (.invokevirtual 68, 3) := by decide +kernel
theorem k_World_68_Row_add_RowV : kV "FelledByNames$World" 68 1 M_Row_add 1 := ⟨kB_Row_add, tm 169 (by decide +kernel) rfl, tm 170 (by decide +kernel) rfl, tm 171 (by decide +kernel) rfl, _, rfl, rfl⟩
theorem d_World_fall_16 : decode prog_12_method_13_code 16 = .ok (.aload_n 0, 1) := by decide +kernel
theorem d_World_fall_17 : decode prog_12_method_13_code 17 = .ok (.aload_n 0, 1) := by decide +kernel
theorem d_World_fall_18 : decode prog_12_method_13_code 18 = .ok (.getfield 37, 3) := by decide +kernel
theorem f_World_37_World : fok "FelledByNames$World" 37 4 9 := ⟨R_World, F_World, 14, "FelledByNames$World", rfl, i_World, by decide, tm 191 (by decide +kernel) rfl, Or.inl rfl, t_World, t_World_ok, n_World⟩
theorem d_World_fall_21 : decode prog_12_method_13_code 21 = .ok (.aload_n 0, 1) := by decide +kernel
theorem d_World_fall_22 : decode prog_12_method_13_code 22 = .ok (.getfield 62, 3) := by decide +kernel
theorem f_World_62_World : fok "FelledByNames$World" 62 4 1 := ⟨R_World, F_World, 14, "FelledByNames$World", rfl, i_World, by decide, tm 176 (by decide +kernel) rfl, Or.inl rfl, t_World, t_World_ok, n_World⟩
theorem d_World_fall_25 : decode prog_12_method_13_code 25 = .ok (.aload_n 1, 1) := by decide +kernel
theorem d_World_fall_26 : decode prog_12_method_13_code 26 = .ok (.getfield 129, 3) := by decide +kernel
theorem f_World_129_Tree : fok "FelledByNames$World" 129 6 6 := ⟨R_Tree, F_Tree, 8, "FelledByNames$Tree", rfl, i_Tree, by decide, tm 148 (by decide +kernel) rfl, Or.inl rfl, t_Tree, t_Tree_ok, n_Tree⟩
theorem f_World_129_Beech : fok "FelledByNames$World" 129 7 6 := ⟨R_Beech, F_Beech, 8, "FelledByNames$Tree", rfl, i_Beech, by decide, tm 148 (by decide +kernel) rfl, Or.inl rfl, t_Beech, t_Beech_ok, n_Beech⟩
theorem f_World_129_Oak : fok "FelledByNames$World" 129 8 6 := ⟨R_Oak, F_Oak, 8, "FelledByNames$Tree", rfl, i_Oak, by decide, tm 148 (by decide +kernel) rfl, Or.inl rfl, t_Oak, t_Oak_ok, n_Oak⟩
theorem f_World_129_Sapling : fok "FelledByNames$World" 129 9 6 := ⟨R_Sapling, F_Sapling, 8, "FelledByNames$Tree", rfl, i_Sapling, by decide, tm 148 (by decide +kernel) rfl, Or.inl rfl, t_Sapling, t_Sapling_ok, n_Sapling⟩
theorem f_World_129_Wedged : fok "FelledByNames$World" 129 10 6 := ⟨R_Wedged, F_Wedged, 8, "FelledByNames$Tree", rfl, i_Wedged, by decide, tm 148 (by decide +kernel) rfl, Or.inl rfl, t_Wedged, t_Wedged_ok, n_Wedged⟩
theorem f_World_129_Hollow : fok "FelledByNames$World" 129 11 6 := ⟨R_Hollow, F_Hollow, 8, "FelledByNames$Tree", rfl, i_Hollow, by decide, tm 148 (by decide +kernel) rfl, Or.inl rfl, t_Hollow, t_Hollow_ok, n_Hollow⟩
theorem f_World_129_Hill : fok "FelledByNames$World" 129 12 6 := ⟨R_Hill, F_Hill, 8, "FelledByNames$Tree", rfl, i_Hill, by decide, tm 148 (by decide +kernel) rfl, Or.inl rfl, t_Hill, t_Hill_ok, n_Hill⟩
theorem ft_World_129 : ∀ c, c ≤ 6 → fok "FelledByNames$World" 129 (6 + c) 6 := fun c hc => by
  rcases (show c = 0 ∨ c = 1 ∨ c = 2 ∨ c = 3 ∨ c = 4 ∨ c = 5 ∨ c = 6 by omega) with rfl | rfl | rfl | rfl | rfl | rfl | rfl
  · exact f_World_129_Tree
  · exact f_World_129_Beech
  · exact f_World_129_Oak
  · exact f_World_129_Sapling
  · exact f_World_129_Wedged
  · exact f_World_129_Hollow
  · exact f_World_129_Hill
theorem d_World_fall_29 : decode prog_12_method_13_code 29 = .ok (.aload_n 1, 1) := by decide +kernel
theorem d_World_fall_30 : decode prog_12_method_13_code 30 = .ok (.getfield 170, 3) := by decide +kernel
theorem f_World_170_Tree : fok "FelledByNames$World" 170 6 2 := ⟨R_Tree, F_Tree, 8, "FelledByNames$Tree", rfl, i_Tree, by decide, tm 134 (by decide +kernel) rfl, Or.inl rfl, t_Tree, t_Tree_ok, n_Tree⟩
theorem f_World_170_Beech : fok "FelledByNames$World" 170 7 2 := ⟨R_Beech, F_Beech, 8, "FelledByNames$Tree", rfl, i_Beech, by decide, tm 134 (by decide +kernel) rfl, Or.inl rfl, t_Beech, t_Beech_ok, n_Beech⟩
theorem f_World_170_Oak : fok "FelledByNames$World" 170 8 2 := ⟨R_Oak, F_Oak, 8, "FelledByNames$Tree", rfl, i_Oak, by decide, tm 134 (by decide +kernel) rfl, Or.inl rfl, t_Oak, t_Oak_ok, n_Oak⟩
theorem f_World_170_Sapling : fok "FelledByNames$World" 170 9 2 := ⟨R_Sapling, F_Sapling, 8, "FelledByNames$Tree", rfl, i_Sapling, by decide, tm 134 (by decide +kernel) rfl, Or.inl rfl, t_Sapling, t_Sapling_ok, n_Sapling⟩
theorem f_World_170_Wedged : fok "FelledByNames$World" 170 10 2 := ⟨R_Wedged, F_Wedged, 8, "FelledByNames$Tree", rfl, i_Wedged, by decide, tm 134 (by decide +kernel) rfl, Or.inl rfl, t_Wedged, t_Wedged_ok, n_Wedged⟩
theorem f_World_170_Hollow : fok "FelledByNames$World" 170 11 2 := ⟨R_Hollow, F_Hollow, 8, "FelledByNames$Tree", rfl, i_Hollow, by decide, tm 134 (by decide +kernel) rfl, Or.inl rfl, t_Hollow, t_Hollow_ok, n_Hollow⟩
theorem f_World_170_Hill : fok "FelledByNames$World" 170 12 2 := ⟨R_Hill, F_Hill, 8, "FelledByNames$Tree", rfl, i_Hill, by decide, tm 134 (by decide +kernel) rfl, Or.inl rfl, t_Hill, t_Hill_ok, n_Hill⟩
theorem ft_World_170 : ∀ c, c ≤ 6 → fok "FelledByNames$World" 170 (6 + c) 2 := fun c hc => by
  rcases (show c = 0 ∨ c = 1 ∨ c = 2 ∨ c = 3 ∨ c = 4 ∨ c = 5 ∨ c = 6 by omega) with rfl | rfl | rfl | rfl | rfl | rfl | rfl
  · exact f_World_170_Tree
  · exact f_World_170_Beech
  · exact f_World_170_Oak
  · exact f_World_170_Sapling
  · exact f_World_170_Wedged
  · exact f_World_170_Hollow
  · exact f_World_170_Hill
theorem d_World_fall_33 : decode prog_12_method_13_code 33 = .ok (.aload_n 1, 1) := by decide +kernel
theorem d_World_fall_34 : decode prog_12_method_13_code 34 = .ok (.getfield 173, 3) := by decide +kernel
theorem f_World_173_Tree : fok "FelledByNames$World" 173 6 5 := ⟨R_Tree, F_Tree, 8, "FelledByNames$Tree", rfl, i_Tree, by decide, tm 143 (by decide +kernel) rfl, Or.inl rfl, t_Tree, t_Tree_ok, n_Tree⟩
theorem f_World_173_Beech : fok "FelledByNames$World" 173 7 5 := ⟨R_Beech, F_Beech, 8, "FelledByNames$Tree", rfl, i_Beech, by decide, tm 143 (by decide +kernel) rfl, Or.inl rfl, t_Beech, t_Beech_ok, n_Beech⟩
theorem f_World_173_Oak : fok "FelledByNames$World" 173 8 5 := ⟨R_Oak, F_Oak, 8, "FelledByNames$Tree", rfl, i_Oak, by decide, tm 143 (by decide +kernel) rfl, Or.inl rfl, t_Oak, t_Oak_ok, n_Oak⟩
theorem f_World_173_Sapling : fok "FelledByNames$World" 173 9 5 := ⟨R_Sapling, F_Sapling, 8, "FelledByNames$Tree", rfl, i_Sapling, by decide, tm 143 (by decide +kernel) rfl, Or.inl rfl, t_Sapling, t_Sapling_ok, n_Sapling⟩
theorem f_World_173_Wedged : fok "FelledByNames$World" 173 10 5 := ⟨R_Wedged, F_Wedged, 8, "FelledByNames$Tree", rfl, i_Wedged, by decide, tm 143 (by decide +kernel) rfl, Or.inl rfl, t_Wedged, t_Wedged_ok, n_Wedged⟩
theorem f_World_173_Hollow : fok "FelledByNames$World" 173 11 5 := ⟨R_Hollow, F_Hollow, 8, "FelledByNames$Tree", rfl, i_Hollow, by decide, tm 143 (by decide +kernel) rfl, Or.inl rfl, t_Hollow, t_Hollow_ok, n_Hollow⟩
theorem f_World_173_Hill : fok "FelledByNames$World" 173 12 5 := ⟨R_Hill, F_Hill, 8, "FelledByNames$Tree", rfl, i_Hill, by decide, tm 143 (by decide +kernel) rfl, Or.inl rfl, t_Hill, t_Hill_ok, n_Hill⟩
theorem ft_World_173 : ∀ c, c ≤ 6 → fok "FelledByNames$World" 173 (6 + c) 5 := fun c hc => by
  rcases (show c = 0 ∨ c = 1 ∨ c = 2 ∨ c = 3 ∨ c = 4 ∨ c = 5 ∨ c = 6 by omega) with rfl | rfl | rfl | rfl | rfl | rfl | rfl
  · exact f_World_173_Tree
  · exact f_World_173_Beech
  · exact f_World_173_Oak
  · exact f_World_173_Sapling
  · exact f_World_173_Wedged
  · exact f_World_173_Hollow
  · exact f_World_173_Hill
theorem d_World_fall_37 : decode prog_12_method_13_code 37 = .ok (.invokevirtual 176, 3) := by decide +kernel
theorem k_World_176_Text_gives_TextV : kV "FelledByNames$World" 176 3 M_Text_gives 3 := ⟨kB_Text_gives, tm 756 (by decide +kernel) rfl, tm 694 (by decide +kernel) rfl, tm 695 (by decide +kernel) rfl, _, rfl, rfl⟩
theorem d_World_fall_40 : decode prog_12_method_13_code 40 = .ok (.iadd, 1) := by decide +kernel
theorem d_World_fall_41 : decode prog_12_method_13_code 41 = .ok (.ldc 179, 2) := by decide +kernel
theorem d_World_fall_43 : decode prog_12_method_13_code 43 = .ok (.invokestatic 136, 3) := by decide +kernel
theorem d_World_fall_46 : decode prog_12_method_13_code 46 = .ok (.putfield 37, 3) := by decide +kernel
theorem fp_World_9 : fpk 4 9 (.int) := ⟨_, _, _, rfl, rfl, by decide +kernel⟩
theorem d_World_fall_49 : decode prog_12_method_13_code 49 = .ok (.aload_n 1, 1) := by decide +kernel
theorem d_World_fall_50 : decode prog_12_method_13_code 50 = .ok (.getfield 173, 3) := by decide +kernel
theorem d_World_fall_53 : decode prog_12_method_13_code 53 = .ok (.aload_n 1, 1) := by decide +kernel
theorem d_World_fall_54 : decode prog_12_method_13_code 54 = .ok (.invokevirtual 180, 3) := by decide +kernel
theorem kB_Tree_reaches : kB M_Tree_reaches 0 := ⟨tm 6 (by decide +kernel) rfl, tm 651 (by decide +kernel) rfl, ⟨by decide, by decide, by decide +kernel⟩, by decide⟩
theorem k_World_180_Tree_reaches_TreeU : kU "FelledByNames$World" 180 6 "FelledByNames$Tree" ⟨"FelledByNames$Tree", "reaches", "()I"⟩ M_Tree_reaches 0 := ⟨kB_Tree_reaches, tm 758 (by decide +kernel) rfl, tm 642 (by decide +kernel) rfl, ⟨by decide, by decide⟩, tm 640 (by decide +kernel) rfl, ⟨prog_10_method_5_code, 1, (some .int), tm 651 (by decide +kernel) rfl⟩, by decide +kernel, tm 640 (by decide +kernel) rfl, _, rfl, tm 641 (by decide +kernel) rfl⟩
theorem k_World_180_Tree_reaches_BeechU : kU "FelledByNames$World" 180 7 "FelledByNames$Tree" ⟨"FelledByNames$Tree", "reaches", "()I"⟩ M_Tree_reaches 0 := ⟨kB_Tree_reaches, tm 758 (by decide +kernel) rfl, tm 642 (by decide +kernel) rfl, ⟨by decide, by decide⟩, tm 640 (by decide +kernel) rfl, ⟨prog_10_method_5_code, 1, (some .int), tm 651 (by decide +kernel) rfl⟩, by decide +kernel, tm 640 (by decide +kernel) rfl, _, rfl, tm 643 (by decide +kernel) rfl⟩
theorem k_World_180_Tree_reaches_OakU : kU "FelledByNames$World" 180 8 "FelledByNames$Tree" ⟨"FelledByNames$Tree", "reaches", "()I"⟩ M_Tree_reaches 0 := ⟨kB_Tree_reaches, tm 758 (by decide +kernel) rfl, tm 642 (by decide +kernel) rfl, ⟨by decide, by decide⟩, tm 640 (by decide +kernel) rfl, ⟨prog_10_method_5_code, 1, (some .int), tm 651 (by decide +kernel) rfl⟩, by decide +kernel, tm 640 (by decide +kernel) rfl, _, rfl, tm 648 (by decide +kernel) rfl⟩
theorem k_World_180_Tree_reaches_SaplingU : kU "FelledByNames$World" 180 9 "FelledByNames$Tree" ⟨"FelledByNames$Tree", "reaches", "()I"⟩ M_Tree_reaches 0 := ⟨kB_Tree_reaches, tm 758 (by decide +kernel) rfl, tm 642 (by decide +kernel) rfl, ⟨by decide, by decide⟩, tm 640 (by decide +kernel) rfl, ⟨prog_10_method_5_code, 1, (some .int), tm 651 (by decide +kernel) rfl⟩, by decide +kernel, tm 640 (by decide +kernel) rfl, _, rfl, tm 649 (by decide +kernel) rfl⟩
theorem k_World_180_Tree_reaches_WedgedU : kU "FelledByNames$World" 180 10 "FelledByNames$Tree" ⟨"FelledByNames$Tree", "reaches", "()I"⟩ M_Tree_reaches 0 := ⟨kB_Tree_reaches, tm 758 (by decide +kernel) rfl, tm 642 (by decide +kernel) rfl, ⟨by decide, by decide⟩, tm 640 (by decide +kernel) rfl, ⟨prog_10_method_5_code, 1, (some .int), tm 651 (by decide +kernel) rfl⟩, by decide +kernel, tm 640 (by decide +kernel) rfl, _, rfl, tm 650 (by decide +kernel) rfl⟩
theorem kB_Hollow_reaches : kB M_Hollow_reaches 0 := ⟨tm 20 (by decide +kernel) rfl, tm 647 (by decide +kernel) rfl, ⟨by decide, by decide, by decide +kernel⟩, by decide⟩
theorem k_World_180_Hollow_reaches_HollowU : kU "FelledByNames$World" 180 11 "FelledByNames$Tree" ⟨"FelledByNames$Tree", "reaches", "()I"⟩ M_Hollow_reaches 0 := ⟨kB_Hollow_reaches, tm 758 (by decide +kernel) rfl, tm 642 (by decide +kernel) rfl, ⟨by decide, by decide⟩, tm 640 (by decide +kernel) rfl, ⟨prog_10_method_5_code, 1, (some .int), tm 651 (by decide +kernel) rfl⟩, by decide +kernel, tm 646 (by decide +kernel) rfl, _, rfl, tm 645 (by decide +kernel) rfl⟩
theorem k_World_180_Tree_reaches_HillU : kU "FelledByNames$World" 180 12 "FelledByNames$Tree" ⟨"FelledByNames$Tree", "reaches", "()I"⟩ M_Tree_reaches 0 := ⟨kB_Tree_reaches, tm 758 (by decide +kernel) rfl, tm 642 (by decide +kernel) rfl, ⟨by decide, by decide⟩, tm 640 (by decide +kernel) rfl, ⟨prog_10_method_5_code, 1, (some .int), tm 651 (by decide +kernel) rfl⟩, by decide +kernel, tm 640 (by decide +kernel) rfl, _, rfl, tm 644 (by decide +kernel) rfl⟩
theorem vs_World_180 {l : Launch} {M : MD} {d mc ms pc : Nat} {ls : List (Nat × Value)} {st : List Value} {n c s w i : Nat} {R W Z : Nat → Nat → Int32} {T : Nat → Nat → Nat} {kn : Kn} {h0 : HP} {Q : QT} (hd : decode M.2.1 pc = .ok (.invokevirtual 180, 3)) (hM0 : M.1.cls = "FelledByNames$World") (hT : TI T kn n) (hw : w < 3) (hi : i < 8) (hK : tN (W w) (50 + 7 * i + 0) ≤ 6) (hs8 : (st.map fun v => v.category).sum ≤ 8) (hc0 : c ≤ mc) (hs0 : s ≤ ms) (kk : V l M (d + 1) mc ms (pc + 3) ls (.int (rcv (tN (W w) (50 + 7 * i + 0)) (W w (50 + 7 * i + 5))) :: st) n (co R W Z T kn h0) c s Q) : V l M (d + 1) mc ms pc ls (.ref (T w i) :: st) n (co R W Z T kn h0) c s Q := by
  have hb0 := co_t (R := R) (W := W) (Z := Z) (h0 := h0) hT hw hi
  unfold trc at hb0
  have hK0 := hK
  generalize hk : (tN (W w) (50 + 7 * i + 0)) = k at hK hb0 kk
  rcases (show k = 0 ∨ k = 1 ∨ k = 2 ∨ k = 3 ∨ k = 4 ∨ k = 5 ∨ k = 6 by omega) with rfl | rfl | rfl | rfl | rfl | rfl | rfl
  · refine V.callU (M := M) (vs := []) (by exact hd) (by rw [hM0]; exact k_World_180_Tree_reaches_TreeU) hb0 rfl rfl hs8 (by omega) (by omega) (c_Tree_reaches (x := 0) (d := d + 0) hT hw hi hK0 ?_)
    first | exact kk | (rw [hk]; exact kk)
  · refine V.callU (M := M) (vs := []) (by exact hd) (by rw [hM0]; exact k_World_180_Tree_reaches_BeechU) hb0 rfl rfl hs8 (by omega) (by omega) (c_Tree_reaches (x := 0) (d := d + 0) hT hw hi hK0 ?_)
    first | exact kk | (rw [hk]; exact kk)
  · refine V.callU (M := M) (vs := []) (by exact hd) (by rw [hM0]; exact k_World_180_Tree_reaches_OakU) hb0 rfl rfl hs8 (by omega) (by omega) (c_Tree_reaches (x := 0) (d := d + 0) hT hw hi hK0 ?_)
    first | exact kk | (rw [hk]; exact kk)
  · refine V.callU (M := M) (vs := []) (by exact hd) (by rw [hM0]; exact k_World_180_Tree_reaches_SaplingU) hb0 rfl rfl hs8 (by omega) (by omega) (c_Tree_reaches (x := 0) (d := d + 0) hT hw hi hK0 ?_)
    first | exact kk | (rw [hk]; exact kk)
  · refine V.callU (M := M) (vs := []) (by exact hd) (by rw [hM0]; exact k_World_180_Tree_reaches_WedgedU) hb0 rfl rfl hs8 (by omega) (by omega) (c_Tree_reaches (x := 0) (d := d + 0) hT hw hi hK0 ?_)
    first | exact kk | (rw [hk]; exact kk)
  · refine V.callU (M := M) (vs := []) (by exact hd) (by rw [hM0]; exact k_World_180_Hollow_reaches_HollowU) hb0 rfl rfl hs8 (by omega) (by omega) (c_Hollow_reaches (x := 0) (d := d + 0) hT hw hi hK0 ?_)
    first | exact kk | (rw [hk]; exact kk)
  · refine V.callU (M := M) (vs := []) (by exact hd) (by rw [hM0]; exact k_World_180_Tree_reaches_HillU) hb0 rfl rfl hs8 (by omega) (by omega) (c_Tree_reaches (x := 0) (d := d + 0) hT hw hi hK0 ?_)
    first | exact kk | (rw [hk]; exact kk)
theorem d_World_fall_57 : decode prog_12_method_13_code 57 = .ok (.iadd, 1) := by decide +kernel
theorem d_World_fall_58 : decode prog_12_method_13_code 58 = .ok (.bipush 15, 2) := by decide +kernel
theorem d_World_fall_60 : decode prog_12_method_13_code 60 = .ok (.invokestatic 136, 3) := by decide +kernel
theorem d_World_fall_63 : decode prog_12_method_13_code 63 = .ok (.istore_n 3, 1) := by decide +kernel
theorem d_World_fall_64 : decode prog_12_method_13_code 64 = .ok (.aload_n 1, 1) := by decide +kernel
theorem d_World_fall_65 : decode prog_12_method_13_code 65 = .ok (.getfield 173, 3) := by decide +kernel
theorem d_World_fall_68 : decode prog_12_method_13_code 68 = .ok (.iconst 1, 1) := by decide +kernel
theorem d_World_fall_69 : decode prog_12_method_13_code 69 = .ok (.iadd, 1) := by decide +kernel
theorem d_World_fall_70 : decode prog_12_method_13_code 70 = .ok (.istore 4, 2) := by decide +kernel
theorem d_World_fall_72 : decode prog_12_method_13_code 72 = .ok (.iload 4, 2) := by decide +kernel
theorem d_World_fall_74 : decode prog_12_method_13_code 74 = .ok (.iload_n 3, 1) := by decide +kernel
theorem d_World_fall_75 : decode prog_12_method_13_code 75 = .ok (.if_icmp .gt 20, 3) := by decide +kernel
theorem d_World_fall_95 : decode prog_12_method_13_code 95 = .ok (.aload_n 0, 1) := by decide +kernel
theorem d_World_fall_96 : decode prog_12_method_13_code 96 = .ok (.getfield 31, 3) := by decide +kernel
theorem f_World_31_World : fok "FelledByNames$World" 31 4 7 := ⟨R_World, F_World, 14, "FelledByNames$World", rfl, i_World, by decide, tm 187 (by decide +kernel) rfl, Or.inl rfl, t_World, t_World_ok, n_World⟩
theorem d_World_fall_99 : decode prog_12_method_13_code 99 = .ok (.aload_n 1, 1) := by decide +kernel
theorem d_World_fall_100 : decode prog_12_method_13_code 100 = .ok (.getfield 173, 3) := by decide +kernel
theorem d_World_fall_103 : decode prog_12_method_13_code 103 = .ok (.if_icmp .le 27, 3) := by decide +kernel
theorem d_World_fall_106 : decode prog_12_method_13_code 106 = .ok (.aload_n 0, 1) := by decide +kernel
theorem d_World_fall_107 : decode prog_12_method_13_code 107 = .ok (.getfield 31, 3) := by decide +kernel
theorem d_World_fall_110 : decode prog_12_method_13_code 110 = .ok (.iload_n 3, 1) := by decide +kernel
theorem d_World_fall_111 : decode prog_12_method_13_code 111 = .ok (.if_icmp .gt 19, 3) := by decide +kernel
theorem d_World_fall_114 : decode prog_12_method_13_code 114 = .ok (.aload_n 0, 1) := by decide +kernel
theorem d_World_fall_115 : decode prog_12_method_13_code 115 = .ok (.aload_n 0, 1) := by decide +kernel
theorem d_World_fall_116 : decode prog_12_method_13_code 116 = .ok (.getfield 34, 3) := by decide +kernel
theorem f_World_34_World : fok "FelledByNames$World" 34 4 8 := ⟨R_World, F_World, 14, "FelledByNames$World", rfl, i_World, by decide, tm 189 (by decide +kernel) rfl, Or.inl rfl, t_World, t_World_ok, n_World⟩
theorem d_World_fall_119 : decode prog_12_method_13_code 119 = .ok (.iconst 1, 1) := by decide +kernel
theorem d_World_fall_120 : decode prog_12_method_13_code 120 = .ok (.iadd, 1) := by decide +kernel
theorem d_World_fall_121 : decode prog_12_method_13_code 121 = .ok (.sipush 999, 3) := by decide +kernel
theorem d_World_fall_124 : decode prog_12_method_13_code 124 = .ok (.invokestatic 136, 3) := by decide +kernel
theorem d_World_fall_127 : decode prog_12_method_13_code 127 = .ok (.putfield 34, 3) := by decide +kernel
theorem fp_World_8 : fpk 4 8 (.int) := ⟨_, _, _, rfl, rfl, by decide +kernel⟩
theorem d_World_fall_78 : decode prog_12_method_13_code 78 = .ok (.aload_n 0, 1) := by decide +kernel
theorem d_World_fall_79 : decode prog_12_method_13_code 79 = .ok (.getfield 52, 3) := by decide +kernel
theorem f_World_52_World : fok "FelledByNames$World" 52 4 12 := ⟨R_World, F_World, 14, "FelledByNames$World", rfl, i_World, by decide, tm 197 (by decide +kernel) rfl, Or.inl rfl, t_World, t_World_ok, n_World⟩
theorem d_World_fall_82 : decode prog_12_method_13_code 82 = .ok (.iload 4, 2) := by decide +kernel
theorem d_World_fall_84 : decode prog_12_method_13_code 84 = .ok (.dup2, 1) := by decide +kernel
theorem d_World_fall_85 : decode prog_12_method_13_code 85 = .ok (.iaload, 1) := by decide +kernel
theorem d_World_fall_86 : decode prog_12_method_13_code 86 = .ok (.iconst 1, 1) := by decide +kernel
theorem d_World_fall_87 : decode prog_12_method_13_code 87 = .ok (.iadd, 1) := by decide +kernel
theorem d_World_fall_88 : decode prog_12_method_13_code 88 = .ok (.iastore, 1) := by decide +kernel
theorem d_World_fall_89 : decode prog_12_method_13_code 89 = .ok (.iinc 4 1, 3) := by decide +kernel
theorem d_World_fall_92 : decode prog_12_method_13_code 92 = .ok (.goto (-20), 3) := by decide +kernel
set_option maxRecDepth 100000 in
theorem c_World_fall0 {l : Launch} {y w N len : Nat} {Wc : Nat → Nat} (hw : w < 3) (hX : Wf Wc len) {i sz : Nat} {R W Z : Nat → Nat → Int32} {T : Nat → Nat → Nat} {kn : Kn} {h0 : HP} {n : Nat} {Q : QT} (hiN : i < N) (hN : N ≤ 8) (e0 : W w 0 = nI N) (hT : TI T kn n) (hB : WB (W w)) (hz : Z (4 + 6 * 1) 1 = nI len) (hC : ∀ k, k < len → R (4 + 6 * 1 + 1) k = nI (Wc k)) (hst : W w (50 + 7 * i + 6) = nI 1) (hsz : Z (wb w + 4) 1 = nI sz) (hcs : sz + cst (W w) N ≤ 8) (hQ : (∀ (R1 W1 Z1 : Nat → Nat → Int32), (∀ a, a ≠ 14 → a ≠ wb w + 5 → a ≠ wb w + 6 → R1 a = R a) → (∀ b j, ¬ (b = wb w + 4 ∧ j = 1) → Z1 b j = Z b j) → (∀ v, v ≠ w → W1 v = W v) → W1 w = (fl (wvc Wc len) N 0 i (W w, [])).1 → R1 (wb w + 5) = wrl (R (wb w + 5)) sz (fl (wvc Wc len) N 0 i (W w, [])).2 → Z1 (wb w + 4) 1 = nI (sz + (fl (wvc Wc len) N 0 i (W w, [])).2.length) → R1 (wb w + 6) = hts (W w) (fl (wvc Wc len) N 0 i (W w, [])).2 (R (wb w + 6)) → Q none n (co R1 W1 Z1 T kn h0))) : Ct l M_World_fall (y + 3) 0 0 [.ref (wb w), .ref (T w i), .int (nI (8 - 0))] n (co R W Z T kn h0) Q := by
  refine Ct.of (fun _ => trivial) (by decide) (Nat.le_of_ble_eq_true rfl) ?_
  have hi : i < 8 := by omega
  have hwb := wb_big w
  have hcp := cst_pos hiN hst
  obtain ⟨ep, bp⟩ := (hB.k4 hi).t (by decide)
  obtain ⟨erv, -, br⟩ := rcv_rch hB hi
  have ep' : W w (50 + 7 * i + 4) = nI (plN (W w) i) := ep
  have bp' : plN (W w) i ≤ 15 := bp
  obtain ⟨ef, bf⟩ := hB.f.t (by decide)
  have key : ∀ (R1 W1 Z1 : Nat → Nat → Int32), (∀ a, a ≠ 14 → a ≠ wb w + 5 → a ≠ wb w + 6 → R1 a = R a) → (∀ b j, ¬ (b = wb w + 4 ∧ j = 1) → Z1 b j = Z b j) → (∀ v, v ≠ w → W1 v = W v) → W1 w = gdn (wvc Wc len) (W w) i → R1 (wb w + 5) = wrl (R (wb w + 5)) sz [i] → Z1 (wb w + 4) 1 = nI (sz + [i].length) → R1 (wb w + 6) = hts (W w) [i] (R (wb w + 6)) → V l M_World_fall (y + 3) 0 0 130 [(0, .ref (wb w)), (1, .ref (T w i)), (2, .int (nI (8 - 0))), (3, .int (nI (min (plN (W w) i + rcN (W w) i) 15)))] [] n (co R1 W1 Z1 T kn h0) 0 0 Q := by
    intro R1 W1 Z1 hR1 hZ1 hV1 hW1 hr5 hz4 hr6
    refine V.iconst_ (nI 0) d_World_fall_130 (by decide +kernel) ?_
    refine V.istore d_World_fall_131 (by decide) ?_
    refine V.iload d_World_fall_133 rfl ?_
    refine V.aload_n d_World_fall_135 rfl ?_
    refine V.get d_World_fall_136 f_World_24_World (co_s (sc_wd (wb_ds w hw).1)) rfl ?_
    refine V.top (y := nI N) (by rw [hW1, gdn_lo (by omega) hi]; exact e0) ?_
    refine V.geN (tgt := 225) d_World_fall_139 (by decide) (by omega) (by omega) (fun c_139 => ?_) (fun c_139 => ?_)
    · skip
      refine V.vret d_World_fall_225 rfl (by omega) (by omega) ?_
      exact hQ R1 W1 Z1 hR1 hZ1 hV1 hW1 hr5 hz4 hr6
    · skip
      refine V.iload_n d_World_fall_142 rfl ?_
      refine V.bipush_ (nI 8) d_World_fall_143 (by decide +kernel) ?_
      refine V.geN (tgt := 225) d_World_fall_145 (by decide) (by omega) (by omega) (fun c_145 => ?_) (fun c_145 => ?_)
      · skip
        refine V.vret d_World_fall_225 rfl (by omega) (by omega) ?_
        exact hQ R1 W1 Z1 hR1 hZ1 hV1 hW1 hr5 hz4 hr6
      · skip
        exact absurd c_145 (by omega)
  refine V.aload_n d_World_fall_0 rfl ?_
  refine V.iconst_ (nI 0) d_World_fall_1 (by decide +kernel) ?_
  refine V.put d_World_fall_2 (ft_World_110 _ (hB.kd hi)) (fpt_7 _ (hB.kd hi)) (fun _ => rfl) (fun _ => rfl) (co_t hT hw hi) (Nat.le_of_ble_eq_true rfl) ?_
  refine V.eqH (co_utr (k := 6) hT hw hi (by decide) (by decide)) ?_
  refine V.absW (fun Wa hWa => ?_)
  have ea : Wa w = upd (W w) (50 + 7 * i + 6) (nI 0) := by rw [hWa, uW_s]
  have hBa : WB (Wa w) := by rw [ea]; exact hB.u6 hi ⟨0, by omega, rfl⟩
  refine V.aload_n d_World_fall_5 rfl ?_
  refine V.get d_World_fall_6 f_World_48_World (co_s (sc_wd (wb_ds w hw).1)) rfl ?_
  refine V.aload_n d_World_fall_9 rfl ?_
  refine V.get d_World_fall_10 (ft_World_167 _ (hBa.kd hi)) (co_t hT hw hi) rfl ?_
  refine V.callV1 d_World_fall_13 k_World_68_Row_add_RowV (co_s (sc_rw (wb_ds w hw).2.2.2.2.1)) (Nat.le_of_ble_eq_true rfl) (by omega) (by omega) (c_Row_add (a := wb w + 4) (N := 8) (sz := sz) (wb_ds w hw).2.2.2.2.1 (wb_ds w hw).2.2.2.2.2.1 hsz (by omega) (by decide) (fun _ => ?_) (fun z => absurd z (by omega)))
  refine V.absR (fun Ra hRa => ?_)
  refine V.absZ (fun Za hZa => ?_)
  refine V.aload_n d_World_fall_16 rfl ?_
  refine V.aload_n d_World_fall_17 rfl ?_
  refine V.get d_World_fall_18 f_World_37_World (co_s (sc_wd (wb_ds w hw).1)) rfl ?_
  refine V.aload_n d_World_fall_21 rfl ?_
  refine V.get d_World_fall_22 f_World_62_World (co_s (sc_wd (wb_ds w hw).1)) rfl ?_
  refine V.aload_n d_World_fall_25 rfl ?_
  refine V.get d_World_fall_26 (ft_World_129 _ (hBa.kd hi)) (co_t hT hw hi) rfl ?_
  refine V.aload_n d_World_fall_29 rfl ?_
  refine V.get d_World_fall_30 (ft_World_170 _ (hBa.kd hi)) (co_t hT hw hi) rfl ?_
  refine V.aload_n d_World_fall_33 rfl ?_
  refine V.get d_World_fall_34 (ft_World_173 _ (hBa.kd hi)) (co_t hT hw hi) rfl ?_
  refine V.callV3 d_World_fall_37 k_World_176_Text_gives_TextV (co_s (sc_tx (tx_ds 1 (by decide)).1)) (Nat.le_of_ble_eq_true rfl) (by omega) (by omega) (c_Text_gives (u := 1) (by decide) hX (by rw [hZa, uZ_n (by omega)]; exact hz) (fun k hk => by rw [hRa, uA_n (by omega)]; exact hC k hk) (fun P => ?_))
  refine V.absR (fun Rb hRb => ?_)
  refine V.top (y := wvc Wc len (W w (50 + 7 * i + 5)) (W w (50 + 7 * i + 1)) (W w (50 + 7 * i + 4))) (by rw [ea, pk_un (by omega), pk_un (by omega), pk_un (by omega)]; rfl) ?_
  refine V.iadd d_World_fall_40 ?_
  refine V.ldc (v := 99999) d_World_fall_41 (tm 757 (by decide +kernel) rfl) ?_
  refine V.top (y := nI 99999) rfl ?_
  refine V.mmin d_World_fall_43 (tm 745 (by decide +kernel) rfl) (Nat.le_of_ble_eq_true rfl) (by omega) (by omega) ?_
  refine V.put d_World_fall_46 f_World_37_World fp_World_9 (fun _ => rfl) (fun _ => rfl) (co_s (sc_wd (wb_ds w hw).1)) (Nat.le_of_ble_eq_true rfl) ?_
  refine V.eqH (co_uwd (w := w) (j := 4) hw (by decide)) ?_
  refine V.absW (fun Wb hWb => ?_)
  have eb : Wb w = upd (upd (W w) (50 + 7 * i + 6) (nI 0)) 4 (mi (W w 4 + wvc Wc len (W w (50 + 7 * i + 5)) (W w (50 + 7 * i + 1)) (W w (50 + 7 * i + 4))) (nI 99999)) := by rw [hWb, uW_s, ea, pk_un (show 4 ≠ 50 + 7 * i + 6 by omega)]
  have hkb : ∀ j, j ≠ 4 → j ≠ 50 + 7 * i + 6 → Wb w j = W w j := fun j h1 h2 => by rw [eb, pk_un h1, pk_un h2]
  have hBb : WB (Wb w) := by
    rw [eb]
    refine WB.u (hB.u6 hi ⟨0, by omega, rfl⟩) (fun _ => ?_)
    obtain ⟨g, hg, eg⟩ := wvc_nat (Wc := Wc) (len := len) (W w (50 + 7 * i + 5)) (W w (50 + 7 * i + 1)) (W w (50 + 7 * i + 4))
    obtain ⟨e4, b4⟩ := hB.wo.t (by decide)
    rw [eg, e4, nI_add, mi_min (by omega) (by decide)]
    exact ⟨_, Nat.min_le_right _ _, rfl⟩
  refine V.aload_n d_World_fall_49 rfl ?_
  refine V.get d_World_fall_50 (ft_World_173 _ (hBb.kd hi)) (co_t hT hw hi) rfl ?_
  refine V.top (y := nI (plN (W w) i)) (by rw [hkb _ (by omega) (by omega)]; exact ep') ?_
  refine V.aload_n d_World_fall_53 rfl ?_
  refine vs_World_180 d_World_fall_54 rfl hT hw hi (hBb.kd hi) (Nat.le_of_ble_eq_true rfl) (by omega) (by omega) ?_
  refine V.top (y := nI (rcN (W w) i)) (by rw [hkb _ (by omega) (by omega), show tN (Wb w) (50 + 7 * i + 0) = tN (W w) (50 + 7 * i + 0) by unfold tN; rw [hkb _ (by omega) (by omega)]]; exact erv) ?_
  refine V.addN d_World_fall_57 ?_
  refine V.bipush_ (nI 15) d_World_fall_58 (by decide +kernel) ?_
  refine V.mmin d_World_fall_60 (tm 745 (by decide +kernel) rfl) (Nat.le_of_ble_eq_true rfl) (by omega) (by omega) ?_
  refine V.top (y := nI (min (plN (W w) i + rcN (W w) i) 15)) (mi_min (by omega) (by decide)) ?_
  refine V.istore_n d_World_fall_63 (by decide) ?_
  refine V.aload_n d_World_fall_64 rfl ?_
  refine V.get d_World_fall_65 (ft_World_173 _ (hBb.kd hi)) (co_t hT hw hi) rfl ?_
  refine V.top (y := nI (plN (W w) i)) (by rw [hkb _ (by omega) (by omega)]; exact ep') ?_
  refine V.iconst_ (nI 1) d_World_fall_68 (by decide +kernel) ?_
  refine V.addN d_World_fall_69 ?_
  refine V.istore d_World_fall_70 (by decide) ?_
  refine V.eqH (h' := co (uA Rb (wb w + 6) (hitU (plN (W w) i) (plN (W w) i + 1) (Rb (wb w + 6)))) Wb Za T kn h0) (by rw [hitU_0, uA_id]) ?_
  refine V.lc (ls' := [(0, .ref (wb w)), (1, .ref (T w i)), (2, .int (nI (8 - 0))), (3, .int (nI (min (plN (W w) i + rcN (W w) i) 15))), (4, .int (nI ((plN (W w) i + 1))))]) rfl ?_
  refine up_to (G := fun k => plN (W w) i < k → V l M_World_fall (y + 3) 0 0 72 [(0, .ref (wb w)), (1, .ref (T w i)), (2, .int (nI (8 - 0))), (3, .int (nI (min (plN (W w) i + rcN (W w) i) 15))), (4, .int (nI (k)))] [] n (co (uA Rb (wb w + 6) (hitU (plN (W w) i) k (Rb (wb w + 6)))) Wb Za T kn h0) 0 0 Q) (min (plN (W w) i + rcN (W w) i) 15 + 1) ?_ (fun k hk hn => ?_) (plN (W w) i + 1) (by omega) (by omega)
  · skip
    intro hpk
    refine V.iload d_World_fall_72 rfl ?_
    refine V.iload_n d_World_fall_74 rfl ?_
    refine V.gtN (tgt := 95) d_World_fall_75 (by decide) (by omega) (by omega) (fun c_75 => ?_) (fun c_75 => ?_)
    · skip
      refine V.aload_n d_World_fall_95 rfl ?_
      refine V.get d_World_fall_96 f_World_31_World (co_s (sc_wd (wb_ds w hw).1)) rfl ?_
      refine V.top (y := nI (tN (W w) 2)) (by rw [hkb _ (by omega) (by omega)]; exact ef) ?_
      refine V.aload_n d_World_fall_99 rfl ?_
      refine V.get d_World_fall_100 (ft_World_173 _ (hBb.kd hi)) (co_t hT hw hi) rfl ?_
      refine V.top (y := nI (plN (W w) i)) (by rw [hkb _ (by omega) (by omega)]; exact ep') ?_
      refine V.leN (tgt := 130) d_World_fall_103 (by decide) (by omega) (by omega) (fun c_103 => ?_) (fun c_103 => ?_)
      · skip
        have eW : Wb w = gdn (wvc Wc len) (W w) i := by
          rw [gdn_N hB hi wvc_nat, if_neg (show ¬ (plN (W w) i < tN (W w) 2 ∧ tN (W w) 2 ≤ plN (W w) i + rcN (W w) i) by omega)]
          exact gd_eq (by rw [eb, pk_un (by omega), pk_us]) (by rw [eb, pk_us]) (hkb 3 (by omega) (by omega)) (fun j h1 h2 h3 => hkb j h2 h3)
        have eR5 : uA Rb (wb w + 6) (hitU (plN (W w) i) (min (plN (W w) i + rcN (W w) i) 15 + 1) (Rb (wb w + 6))) (wb w + 5) = wrl (R (wb w + 5)) sz [i] := by
          rw [uA_n (by omega), hRb, uA_n (by omega), hRa]
          show uA R (wb w + 5) (upd (R (wb w + 5)) sz (nI i)) (wb w + 5) = wrf (R (wb w + 5)) sz i
          rw [uA_s]
          exact (if_pos (by omega)).symm
        have eR6 : uA Rb (wb w + 6) (hitU (plN (W w) i) (min (plN (W w) i + rcN (W w) i) 15 + 1) (Rb (wb w + 6))) (wb w + 6) = hts (W w) [i] (R (wb w + 6)) := by
          rw [uA_s, hitU_F, hRb, uA_n (by omega), hRa, uA_n (by omega)]
          rfl
        exact V.lc rfl (key _ Wb _ (fun a h1 h2 h3 => by rw [uA_n h3, hRb, uA_n h1, hRa, uA_n h2]) (fun b j h => by rw [hZa, uZ_n h]) (fun v hv => by rw [hWb, uW_n hv, hWa, uW_n hv]) eW eR5 (by rw [hZa, uZ_s]; rfl) eR6)
      · skip
        refine V.aload_n d_World_fall_106 rfl ?_
        refine V.get d_World_fall_107 f_World_31_World (co_s (sc_wd (wb_ds w hw).1)) rfl ?_
        refine V.top (y := nI (tN (W w) 2)) (by rw [hkb _ (by omega) (by omega)]; exact ef) ?_
        refine V.iload_n d_World_fall_110 rfl ?_
        refine V.gtN (tgt := 130) d_World_fall_111 (by decide) (by omega) (by omega) (fun c_111 => ?_) (fun c_111 => ?_)
        · skip
          have eW : Wb w = gdn (wvc Wc len) (W w) i := by
            rw [gdn_N hB hi wvc_nat, if_neg (show ¬ (plN (W w) i < tN (W w) 2 ∧ tN (W w) 2 ≤ plN (W w) i + rcN (W w) i) by omega)]
            exact gd_eq (by rw [eb, pk_un (by omega), pk_us]) (by rw [eb, pk_us]) (hkb 3 (by omega) (by omega)) (fun j h1 h2 h3 => hkb j h2 h3)
          have eR5 : uA Rb (wb w + 6) (hitU (plN (W w) i) (min (plN (W w) i + rcN (W w) i) 15 + 1) (Rb (wb w + 6))) (wb w + 5) = wrl (R (wb w + 5)) sz [i] := by
            rw [uA_n (by omega), hRb, uA_n (by omega), hRa]
            show uA R (wb w + 5) (upd (R (wb w + 5)) sz (nI i)) (wb w + 5) = wrf (R (wb w + 5)) sz i
            rw [uA_s]
            exact (if_pos (by omega)).symm
          have eR6 : uA Rb (wb w + 6) (hitU (plN (W w) i) (min (plN (W w) i + rcN (W w) i) 15 + 1) (Rb (wb w + 6))) (wb w + 6) = hts (W w) [i] (R (wb w + 6)) := by
            rw [uA_s, hitU_F, hRb, uA_n (by omega), hRa, uA_n (by omega)]
            rfl
          exact V.lc rfl (key _ Wb _ (fun a h1 h2 h3 => by rw [uA_n h3, hRb, uA_n h1, hRa, uA_n h2]) (fun b j h => by rw [hZa, uZ_n h]) (fun v hv => by rw [hWb, uW_n hv, hWa, uW_n hv]) eW eR5 (by rw [hZa, uZ_s]; rfl) eR6)
        · skip
          refine V.aload_n d_World_fall_114 rfl ?_
          refine V.aload_n d_World_fall_115 rfl ?_
          refine V.get d_World_fall_116 f_World_34_World (co_s (sc_wd (wb_ds w hw).1)) rfl ?_
          refine V.iconst_ (nI 1) d_World_fall_119 (by decide +kernel) ?_
          refine V.iadd d_World_fall_120 ?_
          refine V.sipush_ (nI 999) d_World_fall_121 (by decide +kernel) ?_
          refine V.mmin d_World_fall_124 (tm 745 (by decide +kernel) rfl) (Nat.le_of_ble_eq_true rfl) (by omega) (by omega) ?_
          refine V.put d_World_fall_127 f_World_34_World fp_World_8 (fun _ => rfl) (fun _ => rfl) (co_s (sc_wd (wb_ds w hw).1)) (Nat.le_of_ble_eq_true rfl) ?_
          refine V.eqH (co_uwd (w := w) (j := 3) hw (by decide)) ?_
          refine V.absW (fun Wd hWd => ?_)
          have ed : Wd w = upd (Wb w) 3 (mi (W w 3 + nI 1) (nI 999)) := by rw [hWd, uW_s, hkb 3 (by omega) (by omega)]
          have eW : Wd w = gdn (wvc Wc len) (W w) i := by
            rw [gdn_N hB hi wvc_nat, if_pos (show plN (W w) i < tN (W w) 2 ∧ tN (W w) 2 ≤ plN (W w) i + rcN (W w) i by omega)]
            exact gd_eq (by rw [ed, pk_un (by omega), eb, pk_un (by omega), pk_us]) (by rw [ed, pk_un (by omega), eb, pk_us]) (by rw [ed, pk_us]) (fun j h1 h2 h3 => by rw [ed, pk_un h1, hkb j h2 h3])
          have eR5 : uA Rb (wb w + 6) (hitU (plN (W w) i) (min (plN (W w) i + rcN (W w) i) 15 + 1) (Rb (wb w + 6))) (wb w + 5) = wrl (R (wb w + 5)) sz [i] := by
            rw [uA_n (by omega), hRb, uA_n (by omega), hRa]
            show uA R (wb w + 5) (upd (R (wb w + 5)) sz (nI i)) (wb w + 5) = wrf (R (wb w + 5)) sz i
            rw [uA_s]
            exact (if_pos (by omega)).symm
          have eR6 : uA Rb (wb w + 6) (hitU (plN (W w) i) (min (plN (W w) i + rcN (W w) i) 15 + 1) (Rb (wb w + 6))) (wb w + 6) = hts (W w) [i] (R (wb w + 6)) := by
            rw [uA_s, hitU_F, hRb, uA_n (by omega), hRa, uA_n (by omega)]
            rfl
          exact V.lc rfl (key _ Wd _ (fun a h1 h2 h3 => by rw [uA_n h3, hRb, uA_n h1, hRa, uA_n h2]) (fun b j h => by rw [hZa, uZ_n h]) (fun v hv => by rw [hWd, uW_n hv, hWb, uW_n hv, hWa, uW_n hv]) eW eR5 (by rw [hZa, uZ_s]; rfl) eR6)
    · skip
      exact absurd c_75 (by omega)
  · skip
    intro hpk
    refine V.iload d_World_fall_72 rfl ?_
    refine V.iload_n d_World_fall_74 rfl ?_
    refine V.gtN (tgt := 95) d_World_fall_75 (by decide) (by omega) (by omega) (fun c_75 => ?_) (fun c_75 => ?_)
    · skip
      exact absurd c_75 (by omega)
    · skip
      refine V.aload_n d_World_fall_78 rfl ?_
      refine V.get d_World_fall_79 f_World_52_World (co_s (sc_wd (wb_ds w hw).1)) rfl ?_
      refine V.iload d_World_fall_82 rfl ?_
      refine V.dup2 rfl rfl d_World_fall_84 ?_
      refine V.ialdN d_World_fall_85 (co_s (sc_ar (wb_ds w hw).2.2.2.2.2.2.1)) (by omega) (by omega) ?_
      refine V.iconst_ (nI 1) d_World_fall_86 (by decide +kernel) ?_
      refine V.iadd d_World_fall_87 ?_
      refine V.iastN d_World_fall_88 (co_s (sc_ar (wb_ds w hw).2.2.2.2.2.2.1)) (by omega) (by omega) ?_
      refine V.eqH (co_uR (wb_ds w hw).2.2.2.2.2.2.1) ?_
      refine V.incN d_World_fall_89 rfl (by decide) ?_
      refine V.goto (tgt := 72) d_World_fall_92 (by decide) ?_
      simp only [uA_uu, uA_s]
      rw [hitU_s hpk]
      exact V.lc rfl (hn (by omega))
theorem d_World_fall_148 : decode prog_12_method_13_code 148 = .ok (.aload_n 0, 1) := by decide +kernel
theorem d_World_fall_149 : decode prog_12_method_13_code 149 = .ok (.getfield 20, 3) := by decide +kernel
theorem d_World_fall_152 : decode prog_12_method_13_code 152 = .ok (.iload 4, 2) := by decide +kernel
theorem d_World_fall_154 : decode prog_12_method_13_code 154 = .ok (.aaload, 1) := by decide +kernel
theorem d_World_fall_155 : decode prog_12_method_13_code 155 = .ok (.astore 5, 2) := by decide +kernel
theorem d_World_fall_157 : decode prog_12_method_13_code 157 = .ok (.aload 5, 2) := by decide +kernel
theorem d_World_fall_159 : decode prog_12_method_13_code 159 = .ok (.getfield 173, 3) := by decide +kernel
theorem d_World_fall_162 : decode prog_12_method_13_code 162 = .ok (.aload_n 1, 1) := by decide +kernel
theorem d_World_fall_163 : decode prog_12_method_13_code 163 = .ok (.getfield 173, 3) := by decide +kernel
theorem d_World_fall_166 : decode prog_12_method_13_code 166 = .ok (.if_icmp .le 16, 3) := by decide +kernel
theorem d_World_fall_182 : decode prog_12_method_13_code 182 = .ok (.iconst 0, 1) := by decide +kernel
theorem d_World_fall_183 : decode prog_12_method_13_code 183 = .ok (.istore 6, 2) := by decide +kernel
theorem d_World_fall_185 : decode prog_12_method_13_code 185 = .ok (.aload 5, 2) := by decide +kernel
theorem d_World_fall_187 : decode prog_12_method_13_code 187 = .ok (.getfield 110, 3) := by decide +kernel
theorem d_World_fall_190 : decode prog_12_method_13_code 190 = .ok (.ifCond .eq 29, 3) := by decide +kernel
theorem d_World_fall_219 : decode prog_12_method_13_code 219 = .ok (.iinc 4 1, 3) := by decide +kernel
theorem d_World_fall_222 : decode prog_12_method_13_code 222 = .ok (.goto (-89), 3) := by decide +kernel
theorem d_World_fall_193 : decode prog_12_method_13_code 193 = .ok (.iload 6, 2) := by decide +kernel
theorem d_World_fall_195 : decode prog_12_method_13_code 195 = .ok (.ifCond .eq 24, 3) := by decide +kernel
theorem d_World_fall_169 : decode prog_12_method_13_code 169 = .ok (.aload 5, 2) := by decide +kernel
theorem d_World_fall_171 : decode prog_12_method_13_code 171 = .ok (.getfield 173, 3) := by decide +kernel
theorem d_World_fall_174 : decode prog_12_method_13_code 174 = .ok (.iload_n 3, 1) := by decide +kernel
theorem d_World_fall_175 : decode prog_12_method_13_code 175 = .ok (.if_icmp .gt 7, 3) := by decide +kernel
theorem d_World_fall_178 : decode prog_12_method_13_code 178 = .ok (.iconst 1, 1) := by decide +kernel
theorem d_World_fall_179 : decode prog_12_method_13_code 179 = .ok (.goto 4, 3) := by decide +kernel
theorem d_World_fall_198 : decode prog_12_method_13_code 198 = .ok (.aload 5, 2) := by decide +kernel
theorem d_World_fall_200 : decode prog_12_method_13_code 200 = .ok (.getfield 129, 3) := by decide +kernel
theorem d_World_fall_203 : decode prog_12_method_13_code 203 = .ok (.aload_n 1, 1) := by decide +kernel
theorem d_World_fall_204 : decode prog_12_method_13_code 204 = .ok (.getfield 129, 3) := by decide +kernel
theorem d_World_fall_207 : decode prog_12_method_13_code 207 = .ok (.if_icmp .ge 12, 3) := by decide +kernel
theorem d_World_fall_210 : decode prog_12_method_13_code 210 = .ok (.aload_n 0, 1) := by decide +kernel
theorem d_World_fall_211 : decode prog_12_method_13_code 211 = .ok (.aload 5, 2) := by decide +kernel
theorem d_World_fall_213 : decode prog_12_method_13_code 213 = .ok (.iload_n 2, 1) := by decide +kernel
theorem d_World_fall_214 : decode prog_12_method_13_code 214 = .ok (.iconst 1, 1) := by decide +kernel
theorem d_World_fall_215 : decode prog_12_method_13_code 215 = .ok (.iadd, 1) := by decide +kernel
theorem d_World_fall_216 : decode prog_12_method_13_code 216 = .ok (.invokevirtual 145, 3) := by decide +kernel
theorem kB_World_fall : kB M_World_fall 2 := ⟨tm 5 (by decide +kernel) rfl, tm 755 (by decide +kernel) rfl, ⟨by decide, by decide, by decide +kernel⟩, by decide⟩
theorem k_World_145_World_fall_WorldV : kV "FelledByNames$World" 145 4 M_World_fall 2 := ⟨kB_World_fall, tm 752 (by decide +kernel) rfl, tm 754 (by decide +kernel) rfl, tp 10 (by decide +kernel) rfl, _, rfl, rfl⟩
set_option maxRecDepth 100000 in
theorem c_World_fallS {l : Launch} {y w N len f : Nat} {Wc : Nat → Nat} (hw : w < 3) (hX : Wf Wc len) (hf : f + 1 ≤ 7) (IH : ∀ (i sz : Nat) (R W Z : Nat → Nat → Int32) (T : Nat → Nat → Nat) (kn : Kn) (h0 : HP) (n : Nat) (Q : QT), (i < N) → (N ≤ 8) → (W w 0 = nI N) → (TI T kn n) → (WB (W w)) → (Z (4 + 6 * 1) 1 = nI len) → (∀ k, k < len → R (4 + 6 * 1 + 1) k = nI (Wc k)) → (W w (50 + 7 * i + 6) = nI 1) → (Z (wb w + 4) 1 = nI sz) → (sz + cst (W w) N ≤ 8) → (∀ (R1 W1 Z1 : Nat → Nat → Int32), (∀ a, a ≠ 14 → a ≠ wb w + 5 → a ≠ wb w + 6 → R1 a = R a) → (∀ b j, ¬ (b = wb w + 4 ∧ j = 1) → Z1 b j = Z b j) → (∀ v, v ≠ w → W1 v = W v) → W1 w = (fl (wvc Wc len) N f i (W w, [])).1 → R1 (wb w + 5) = wrl (R (wb w + 5)) sz (fl (wvc Wc len) N f i (W w, [])).2 → Z1 (wb w + 4) 1 = nI (sz + (fl (wvc Wc len) N f i (W w, [])).2.length) → R1 (wb w + 6) = hts (W w) (fl (wvc Wc len) N f i (W w, [])).2 (R (wb w + 6)) → Q none n (co R1 W1 Z1 T kn h0)) → Ct l M_World_fall (y + 2) 0 0 [.ref (wb w), .ref (T w i), .int (nI (8 - f))] n (co R W Z T kn h0) Q) {i sz : Nat} {R W Z : Nat → Nat → Int32} {T : Nat → Nat → Nat} {kn : Kn} {h0 : HP} {n : Nat} {Q : QT} (hiN : i < N) (hN : N ≤ 8) (e0 : W w 0 = nI N) (hT : TI T kn n) (hB : WB (W w)) (hz : Z (4 + 6 * 1) 1 = nI len) (hC : ∀ k, k < len → R (4 + 6 * 1 + 1) k = nI (Wc k)) (hst : W w (50 + 7 * i + 6) = nI 1) (hsz : Z (wb w + 4) 1 = nI sz) (hcs : sz + cst (W w) N ≤ 8) (hQ : (∀ (R1 W1 Z1 : Nat → Nat → Int32), (∀ a, a ≠ 14 → a ≠ wb w + 5 → a ≠ wb w + 6 → R1 a = R a) → (∀ b j, ¬ (b = wb w + 4 ∧ j = 1) → Z1 b j = Z b j) → (∀ v, v ≠ w → W1 v = W v) → W1 w = (fl (wvc Wc len) N (f + 1) i (W w, [])).1 → R1 (wb w + 5) = wrl (R (wb w + 5)) sz (fl (wvc Wc len) N (f + 1) i (W w, [])).2 → Z1 (wb w + 4) 1 = nI (sz + (fl (wvc Wc len) N (f + 1) i (W w, [])).2.length) → R1 (wb w + 6) = hts (W w) (fl (wvc Wc len) N (f + 1) i (W w, [])).2 (R (wb w + 6)) → Q none n (co R1 W1 Z1 T kn h0))) : Ct l M_World_fall (y + 3) 0 0 [.ref (wb w), .ref (T w i), .int (nI (8 - (f + 1)))] n (co R W Z T kn h0) Q := by
  refine Ct.of (fun _ => trivial) (by decide) (Nat.le_of_ble_eq_true rfl) ?_
  have hi : i < 8 := by omega
  have hwb := wb_big w
  have hcp := cst_pos hiN hst
  obtain ⟨ep, bp⟩ := (hB.k4 hi).t (by decide)
  obtain ⟨erv, -, br⟩ := rcv_rch hB hi
  have ep' : W w (50 + 7 * i + 4) = nI (plN (W w) i) := ep
  have bp' : plN (W w) i ≤ 15 := bp
  obtain ⟨ef, bf⟩ := hB.f.t (by decide)
  have key : ∀ (R1 W1 Z1 : Nat → Nat → Int32) (X : XX), (∀ a, a ≠ 14 → a ≠ wb w + 5 → a ≠ wb w + 6 → R1 a = R a) → (∀ b j, ¬ (b = wb w + 4 ∧ j = 1) → Z1 b j = Z b j) → (∀ v, v ≠ w → W1 v = W v) → W1 w = X.1 → R1 (wb w + 5) = wrl (R (wb w + 5)) sz X.2 → Z1 (wb w + 4) 1 = nI (sz + X.2.length) → R1 (wb w + 6) = hts (W w) X.2 (R (wb w + 6)) → itf (gst (wvc Wc len) N f i) (N - 0) 0 X = fl (wvc Wc len) N (f + 1) i (W w, []) → WB X.1 → (∀ j, j ≠ 3 → j ≠ 4 → (j < 50 ∨ ¬ (j - 50) % 7 = 6) → X.1 j = W w j) → X.2.length + cst X.1 N = cst (W w) N → V l M_World_fall (y + 3) 0 0 130 [(0, .ref (wb w)), (1, .ref (T w i)), (2, .int (nI (8 - (f + 1)))), (3, .int (nI (min (plN (W w) i + rcN (W w) i) 15)))] [] n (co R1 W1 Z1 T kn h0) 0 0 Q := by
    intro R1 W1 Z1 X hR1 hZ1 hV1 hW1 hr5 hz4 hr6 hfl hBX hkX hcX
    refine V.iconst_ (nI 0) d_World_fall_130 (by decide +kernel) ?_
    refine V.istore d_World_fall_131 (by decide) ?_
    refine V.lc (ls' := [(0, .ref (wb w)), (1, .ref (T w i)), (2, .int (nI (8 - (f + 1)))), (3, .int (nI (min (plN (W w) i + rcN (W w) i) 15))), (4, .int (nI 0))]) rfl ?_
    refine up_to (G := fun k => ∀ (R1 W1 Z1 : Nat → Nat → Int32) (X : XX), (∀ a, a ≠ 14 → a ≠ wb w + 5 → a ≠ wb w + 6 → R1 a = R a) → (∀ b j, ¬ (b = wb w + 4 ∧ j = 1) → Z1 b j = Z b j) → (∀ v, v ≠ w → W1 v = W v) → W1 w = X.1 → R1 (wb w + 5) = wrl (R (wb w + 5)) sz X.2 → Z1 (wb w + 4) 1 = nI (sz + X.2.length) → R1 (wb w + 6) = hts (W w) X.2 (R (wb w + 6)) → itf (gst (wvc Wc len) N f i) (N - k) k X = fl (wvc Wc len) N (f + 1) i (W w, []) → WB X.1 → (∀ j, j ≠ 3 → j ≠ 4 → (j < 50 ∨ ¬ (j - 50) % 7 = 6) → X.1 j = W w j) → X.2.length + cst X.1 N = cst (W w) N → V l M_World_fall (y + 3) 0 0 133 [(0, .ref (wb w)), (1, .ref (T w i)), (2, .int (nI (8 - (f + 1)))), (3, .int (nI (min (plN (W w) i + rcN (W w) i) 15))), (4, .int (nI k))] [] n (co R1 W1 Z1 T kn h0) 0 0 Q) (N) ?_ (fun k hk hn => ?_) 0 (by omega) R1 W1 Z1 X hR1 hZ1 hV1 hW1 hr5 hz4 hr6 hfl hBX hkX hcX
    · skip
      intro R1 W1 Z1 X hR1 hZ1 hV1 hW1 hr5 hz4 hr6 hfl hBX hkX hcX
      refine V.iload d_World_fall_133 rfl ?_
      refine V.aload_n d_World_fall_135 rfl ?_
      refine V.get d_World_fall_136 f_World_24_World (co_s (sc_wd (wb_ds w hw).1)) rfl ?_
      refine V.top (y := nI N) (by rw [hW1, hkX _ (by omega) (by omega) (by omega)]; exact e0) ?_
      refine V.geN (tgt := 225) d_World_fall_139 (by decide) (by omega) (by omega) (fun c_139 => ?_) (fun c_139 => ?_)
      · skip
        refine V.vret d_World_fall_225 rfl (by omega) (by omega) ?_
        have hFX : X = fl (wvc Wc len) N (f + 1) i (W w, []) := by
          rw [← hfl, Nat.sub_self]
          rfl
        rw [← hFX] at hQ
        exact hQ R1 W1 Z1 hR1 hZ1 hV1 hW1 hr5 hz4 hr6
      · skip
        refine V.iload_n d_World_fall_142 rfl ?_
        refine V.bipush_ (nI 8) d_World_fall_143 (by decide +kernel) ?_
        refine V.geN (tgt := 225) d_World_fall_145 (by decide) (by omega) (by omega) (fun c_145 => ?_) (fun c_145 => ?_)
        · skip
          exact absurd c_145 (by omega)
        · skip
          exact absurd c_139 (by omega)
    · skip
      intro R1 W1 Z1 X hR1 hZ1 hV1 hW1 hr5 hz4 hr6 hfl hBX hkX hcX
      have hk8 : k < 8 := by omega
      have hB1 : WB (W1 w) := by rw [hW1]; exact hBX
      have p1 : plN (W1 w) i = plN (W w) i := by unfold plN tN; rw [hW1, hkX _ (by omega) (by omega) (by omega)]
      have p2 : rcN (W1 w) i = rcN (W w) i := by unfold rcN tN; rw [hW1, hkX _ (by omega) (by omega) (by omega), hkX _ (by omega) (by omega) (by omega)]
      obtain ⟨ek4, bk4⟩ := (hB1.k4 hk8).t (by decide)
      obtain ⟨ei4, bi4⟩ := (hB1.k4 hi).t (by decide)
      obtain ⟨ek5, bk5⟩ := (hB1.k5 hk8).t (by decide)
      obtain ⟨ei5, bi5⟩ := (hB1.k5 hi).t (by decide)
      have ek4' : W1 w (50 + 7 * k + 4) = nI (plN (W1 w) k) := ek4
      have ei4' : W1 w (50 + 7 * i + 4) = nI (plN (W1 w) i) := ei4
      have ek5' : W1 w (50 + 7 * k + 5) = nI (hgN (W1 w) k) := ek5
      have ei5' : W1 w (50 + 7 * i + 5) = nI (hgN (W1 w) i) := ei5
      have bk4' : plN (W1 w) k ≤ 15 := bk4
      have bi4' : plN (W1 w) i ≤ 15 := bi4
      have bk5' : hgN (W1 w) k ≤ 99 := bk5
      have bi5' : hgN (W1 w) i ≤ 99 := bi5
      have hfl2 : itf (gst (wvc Wc len) N f i) (N - (k + 1)) (k + 1) (gst (wvc Wc len) N f i k X) = fl (wvc Wc len) N (f + 1) i (W w, []) := by
        rw [← hfl, show N - k = (N - (k + 1)) + 1 by omega]
        rfl
      refine V.iload d_World_fall_133 rfl ?_
      refine V.aload_n d_World_fall_135 rfl ?_
      refine V.get d_World_fall_136 f_World_24_World (co_s (sc_wd (wb_ds w hw).1)) rfl ?_
      refine V.top (y := nI N) (by rw [hW1, hkX _ (by omega) (by omega) (by omega)]; exact e0) ?_
      refine V.geN (tgt := 225) d_World_fall_139 (by decide) (by omega) (by omega) (fun c_139 => ?_) (fun c_139 => ?_)
      · skip
        exact absurd c_139 (by omega)
      · skip
        refine V.iload_n d_World_fall_142 rfl ?_
        refine V.bipush_ (nI 8) d_World_fall_143 (by decide +kernel) ?_
        refine V.geN (tgt := 225) d_World_fall_145 (by decide) (by omega) (by omega) (fun c_145 => ?_) (fun c_145 => ?_)
        · skip
          exact absurd c_145 (by omega)
        · skip
          refine V.aload_n d_World_fall_148 rfl ?_
          refine V.get d_World_fall_149 f_World_20_World (co_s (sc_wd (wb_ds w hw).1)) rfl ?_
          refine V.iload d_World_fall_152 rfl ?_
          refine V.aald (b := T w k) d_World_fall_154 (Or.inl rfl) (co_s (sc_tr (wb_ds w hw).2.2.2.1)) (vp_in_nI (by omega) (by omega)) (by rw [icl (by omega)]; exact if_pos (by omega)) ?_
          refine V.astore d_World_fall_155 (by decide) ?_
          refine V.aload d_World_fall_157 rfl ?_
          refine V.get d_World_fall_159 (ft_World_173 _ (hB1.kd hk8)) (co_t hT hw hk8) rfl ?_
          refine V.top (y := nI (plN (W1 w) k)) (ek4') ?_
          refine V.aload_n d_World_fall_162 rfl ?_
          refine V.get d_World_fall_163 (ft_World_173 _ (hB1.kd hi)) (co_t hT hw hi) rfl ?_
          refine V.top (y := nI (plN (W1 w) i)) (ei4') ?_
          refine V.leN (tgt := 182) d_World_fall_166 (by decide) (by omega) (by omega) (fun c_166 => ?_) (fun c_166 => ?_)
          · skip
            refine V.iconst_ (nI 0) d_World_fall_182 (by decide +kernel) ?_
            refine V.istore d_World_fall_183 (by decide) ?_
            refine V.aload d_World_fall_185 rfl ?_
            refine V.get d_World_fall_187 (ft_World_110 _ (hB1.kd hk8)) (co_t hT hw hk8) rfl ?_
            refine V.if_eq (tgt := 219) d_World_fall_190 (by decide) (fun c_190 => ?_) (fun c_190 => ?_)
            · skip
              refine V.incN d_World_fall_219 rfl (by decide) ?_
              refine V.goto (tgt := 133) d_World_fall_222 (by decide) ?_
              have hc : cnd (W1 w) i k = false := by
                rw [cnd_N hB1 hi hk8]
                refine Bool.eq_false_iff.mpr (fun z => ?_)
                simp only [Bool.and_eq_true, decide_eq_true_eq] at z
                obtain ⟨⟨z1, z2, z3⟩, z4⟩ := z
                first
                | omega
                | exact absurd z1 (by rw [c_190]; decide)
              rw [hW1] at hc
              have eg : gst (wvc Wc len) N f i k X = X := if_neg (by rw [hc]; decide)
              rw [eg] at hfl2
              exact V.lc rfl (hn R1 W1 Z1 X hR1 hZ1 hV1 hW1 hr5 hz4 hr6 hfl2 hBX hkX hcX)
            · skip
              refine V.iload d_World_fall_193 rfl ?_
              refine V.if_eq (tgt := 219) d_World_fall_195 (by decide) (fun c_195 => ?_) (fun c_195 => ?_)
              · skip
                refine V.incN d_World_fall_219 rfl (by decide) ?_
                refine V.goto (tgt := 133) d_World_fall_222 (by decide) ?_
                have hc : cnd (W1 w) i k = false := by
                  rw [cnd_N hB1 hi hk8]
                  refine Bool.eq_false_iff.mpr (fun z => ?_)
                  simp only [Bool.and_eq_true, decide_eq_true_eq] at z
                  obtain ⟨⟨z1, z2, z3⟩, z4⟩ := z
                  first
                  | omega
                  | exact absurd z1 (by rw [c_190]; decide)
                rw [hW1] at hc
                have eg : gst (wvc Wc len) N f i k X = X := if_neg (by rw [hc]; decide)
                rw [eg] at hfl2
                exact V.lc rfl (hn R1 W1 Z1 X hR1 hZ1 hV1 hW1 hr5 hz4 hr6 hfl2 hBX hkX hcX)
              · skip
                exact absurd rfl c_195
          · skip
            refine V.aload d_World_fall_169 rfl ?_
            refine V.get d_World_fall_171 (ft_World_173 _ (hB1.kd hk8)) (co_t hT hw hk8) rfl ?_
            refine V.top (y := nI (plN (W1 w) k)) (ek4') ?_
            refine V.iload_n d_World_fall_174 rfl ?_
            refine V.gtN (tgt := 182) d_World_fall_175 (by decide) (by omega) (by omega) (fun c_175 => ?_) (fun c_175 => ?_)
            · skip
              refine V.iconst_ (nI 0) d_World_fall_182 (by decide +kernel) ?_
              refine V.istore d_World_fall_183 (by decide) ?_
              refine V.aload d_World_fall_185 rfl ?_
              refine V.get d_World_fall_187 (ft_World_110 _ (hB1.kd hk8)) (co_t hT hw hk8) rfl ?_
              refine V.if_eq (tgt := 219) d_World_fall_190 (by decide) (fun c_190 => ?_) (fun c_190 => ?_)
              · skip
                refine V.incN d_World_fall_219 rfl (by decide) ?_
                refine V.goto (tgt := 133) d_World_fall_222 (by decide) ?_
                have hc : cnd (W1 w) i k = false := by
                  rw [cnd_N hB1 hi hk8]
                  refine Bool.eq_false_iff.mpr (fun z => ?_)
                  simp only [Bool.and_eq_true, decide_eq_true_eq] at z
                  obtain ⟨⟨z1, z2, z3⟩, z4⟩ := z
                  first
                  | omega
                  | exact absurd z1 (by rw [c_190]; decide)
                rw [hW1] at hc
                have eg : gst (wvc Wc len) N f i k X = X := if_neg (by rw [hc]; decide)
                rw [eg] at hfl2
                exact V.lc rfl (hn R1 W1 Z1 X hR1 hZ1 hV1 hW1 hr5 hz4 hr6 hfl2 hBX hkX hcX)
              · skip
                refine V.iload d_World_fall_193 rfl ?_
                refine V.if_eq (tgt := 219) d_World_fall_195 (by decide) (fun c_195 => ?_) (fun c_195 => ?_)
                · skip
                  refine V.incN d_World_fall_219 rfl (by decide) ?_
                  refine V.goto (tgt := 133) d_World_fall_222 (by decide) ?_
                  have hc : cnd (W1 w) i k = false := by
                    rw [cnd_N hB1 hi hk8]
                    refine Bool.eq_false_iff.mpr (fun z => ?_)
                    simp only [Bool.and_eq_true, decide_eq_true_eq] at z
                    obtain ⟨⟨z1, z2, z3⟩, z4⟩ := z
                    first
                    | omega
                    | exact absurd z1 (by rw [c_190]; decide)
                  rw [hW1] at hc
                  have eg : gst (wvc Wc len) N f i k X = X := if_neg (by rw [hc]; decide)
                  rw [eg] at hfl2
                  exact V.lc rfl (hn R1 W1 Z1 X hR1 hZ1 hV1 hW1 hr5 hz4 hr6 hfl2 hBX hkX hcX)
                · skip
                  exact absurd rfl c_195
            · skip
              refine V.iconst_ (nI 1) d_World_fall_178 (by decide +kernel) ?_
              refine V.goto (tgt := 183) d_World_fall_179 (by decide) ?_
              refine V.istore d_World_fall_183 (by decide) ?_
              refine V.aload d_World_fall_185 rfl ?_
              refine V.get d_World_fall_187 (ft_World_110 _ (hB1.kd hk8)) (co_t hT hw hk8) rfl ?_
              refine V.if_eq (tgt := 219) d_World_fall_190 (by decide) (fun c_190 => ?_) (fun c_190 => ?_)
              · skip
                refine V.incN d_World_fall_219 rfl (by decide) ?_
                refine V.goto (tgt := 133) d_World_fall_222 (by decide) ?_
                have hc : cnd (W1 w) i k = false := by
                  rw [cnd_N hB1 hi hk8]
                  refine Bool.eq_false_iff.mpr (fun z => ?_)
                  simp only [Bool.and_eq_true, decide_eq_true_eq] at z
                  obtain ⟨⟨z1, z2, z3⟩, z4⟩ := z
                  first
                  | omega
                  | exact absurd z1 (by rw [c_190]; decide)
                rw [hW1] at hc
                have eg : gst (wvc Wc len) N f i k X = X := if_neg (by rw [hc]; decide)
                rw [eg] at hfl2
                exact V.lc rfl (hn R1 W1 Z1 X hR1 hZ1 hV1 hW1 hr5 hz4 hr6 hfl2 hBX hkX hcX)
              · skip
                refine V.iload d_World_fall_193 rfl ?_
                refine V.if_eq (tgt := 219) d_World_fall_195 (by decide) (fun c_195 => ?_) (fun c_195 => ?_)
                · skip
                  exact absurd c_195 (by decide)
                · skip
                  refine V.aload d_World_fall_198 rfl ?_
                  refine V.get d_World_fall_200 (ft_World_129 _ (hB1.kd hk8)) (co_t hT hw hk8) rfl ?_
                  refine V.top (y := nI (hgN (W1 w) k)) (ek5') ?_
                  refine V.aload_n d_World_fall_203 rfl ?_
                  refine V.get d_World_fall_204 (ft_World_129 _ (hB1.kd hi)) (co_t hT hw hi) rfl ?_
                  refine V.top (y := nI (hgN (W1 w) i)) (ei5') ?_
                  refine V.geN (tgt := 219) d_World_fall_207 (by decide) (by omega) (by omega) (fun c_207 => ?_) (fun c_207 => ?_)
                  · skip
                    refine V.incN d_World_fall_219 rfl (by decide) ?_
                    refine V.goto (tgt := 133) d_World_fall_222 (by decide) ?_
                    have hc : cnd (W1 w) i k = false := by
                      rw [cnd_N hB1 hi hk8]
                      refine Bool.eq_false_iff.mpr (fun z => ?_)
                      simp only [Bool.and_eq_true, decide_eq_true_eq] at z
                      obtain ⟨⟨z1, z2, z3⟩, z4⟩ := z
                      first
                      | omega
                      | exact absurd z1 (by rw [c_190]; decide)
                    rw [hW1] at hc
                    have eg : gst (wvc Wc len) N f i k X = X := if_neg (by rw [hc]; decide)
                    rw [eg] at hfl2
                    exact V.lc rfl (hn R1 W1 Z1 X hR1 hZ1 hV1 hW1 hr5 hz4 hr6 hfl2 hBX hkX hcX)
                  · skip
                    refine V.aload_n d_World_fall_210 rfl ?_
                    refine V.aload d_World_fall_211 rfl ?_
                    refine V.iload_n d_World_fall_213 rfl ?_
                    refine V.iconst_ (nI 1) d_World_fall_214 (by decide +kernel) ?_
                    refine V.addN d_World_fall_215 ?_
                    refine V.top (y := nI (8 - f)) (congrArg nI (by omega)) ?_
                    have hst1 : W1 w (50 + 7 * k + 6) = nI 1 := by
                      obtain ⟨k6, b6, e6⟩ := hB1.k6 hk8
                      rw [e6] at c_190 ⊢
                      rcases (show k6 = 0 ∨ k6 = 1 by omega) with rfl | rfl
                      · exact absurd rfl c_190
                      · rfl
                    have hc : cnd (W1 w) i k = true := by
                      rw [cnd_N hB1 hi hk8]
                      simp only [Bool.and_eq_true, decide_eq_true_eq]
                      exact ⟨⟨hst1, by omega, by omega⟩, by omega⟩
                    have hcc := cst_pos (D := W1 w) hk hst1
                    refine V.callV2 d_World_fall_216 k_World_145_World_fall_WorldV (co_s (sc_wd (wb_ds w hw).1)) (Nat.le_of_ble_eq_true rfl) (by omega) (by omega) (IH k (sz + X.2.length) R1 W1 Z1 T kn h0 n _ hk hN (by rw [hW1, hkX _ (by omega) (by omega) (by omega)]; exact e0) hT hB1 (by rw [hZ1 _ _ (by omega)]; exact hz) (fun k hk => by rw [hR1 _ (by omega) (by omega) (by omega)]; exact hC k hk) hst1 hz4 (by rw [hW1]; omega) (fun R2 W2 Z2 hR2 hZ2 hV2 hW2 hr52 hz42 hr62 => ?_))
                    refine V.incN d_World_fall_219 rfl (by decide) ?_
                    refine V.goto (tgt := 133) d_World_fall_222 (by decide) ?_
                    have ekX : W1 w = X.1 := hW1
                    have eg : gst (wvc Wc len) N f i k X = ((fl (wvc Wc len) N f k (W1 w, [])).1, X.2 ++ (fl (wvc Wc len) N f k (W1 w, [])).2) := by
                      have e1 : gst (wvc Wc len) N f i k X = fl (wvc Wc len) N f k X := if_pos (by rw [← hW1]; exact hc)
                      rw [e1]
                      have e2 := fl_acc (wv := wvc Wc len) (N := N) f k X.1 X.2 []
                      rw [List.append_nil] at e2
                      rw [hW1]
                      exact e2
                    have hB2 : WB (fl (wvc Wc len) N f k (W1 w, [])).1 := WB.fl hN f k (W1 w, []) hk hB1
                    have hcn := fl_cnt (wv := wvc Wc len) (N := N) f k (W1 w, []) hk hst1
                    rw [eg] at hfl2
                    refine V.lc rfl (hn R2 W2 Z2 ((fl (wvc Wc len) N f k (W1 w, [])).1, X.2 ++ (fl (wvc Wc len) N f k (W1 w, [])).2) (fun a h1 h2 h3 => by rw [hR2 a h1 h2 h3]; exact hR1 a h1 h2 h3) (fun b j h => by rw [hZ2 b j h]; exact hZ1 b j h) (fun v hv => by rw [hV2 v hv]; exact hV1 v hv) hW2 ?_ ?_ ?_ hfl2 hB2 ?_ ?_)
                    · rw [hr52, hr5]; exact (wrl_cat _ _ _ _).symm
                    · rw [hz42, List.length_append, Nat.add_assoc]
                    · rw [hr62, hr6, hts_app, hts_c (D := W w) (E := W1 w) (fun j h1 h2 h3 => by rw [hW1]; exact hkX j h1 h2 h3)]
                    · intro j h1 h2 h3
                      show (fl (wvc Wc len) N f k (W1 w, [])).1 j = W w j
                      rw [fl_keep h1 h2 h3, ← hkX j h1 h2 h3, ← hW1]
                    · show (X.2 ++ (fl (wvc Wc len) N f k (W1 w, [])).2).length + cst (fl (wvc Wc len) N f k (W1 w, [])).1 N = cst (W w) N
                      rw [List.length_append, ← hcX]
                      have hcn' : (fl (wvc Wc len) N f k (W1 w, [])).2.length + cst (fl (wvc Wc len) N f k (W1 w, [])).1 N = 0 + cst (W1 w) N := hcn
                      rw [hW1] at hcn' ⊢
                      omega
  refine V.aload_n d_World_fall_0 rfl ?_
  refine V.iconst_ (nI 0) d_World_fall_1 (by decide +kernel) ?_
  refine V.put d_World_fall_2 (ft_World_110 _ (hB.kd hi)) (fpt_7 _ (hB.kd hi)) (fun _ => rfl) (fun _ => rfl) (co_t hT hw hi) (Nat.le_of_ble_eq_true rfl) ?_
  refine V.eqH (co_utr (k := 6) hT hw hi (by decide) (by decide)) ?_
  refine V.absW (fun Wa hWa => ?_)
  have ea : Wa w = upd (W w) (50 + 7 * i + 6) (nI 0) := by rw [hWa, uW_s]
  have hBa : WB (Wa w) := by rw [ea]; exact hB.u6 hi ⟨0, by omega, rfl⟩
  refine V.aload_n d_World_fall_5 rfl ?_
  refine V.get d_World_fall_6 f_World_48_World (co_s (sc_wd (wb_ds w hw).1)) rfl ?_
  refine V.aload_n d_World_fall_9 rfl ?_
  refine V.get d_World_fall_10 (ft_World_167 _ (hBa.kd hi)) (co_t hT hw hi) rfl ?_
  refine V.callV1 d_World_fall_13 k_World_68_Row_add_RowV (co_s (sc_rw (wb_ds w hw).2.2.2.2.1)) (Nat.le_of_ble_eq_true rfl) (by omega) (by omega) (c_Row_add (a := wb w + 4) (N := 8) (sz := sz) (wb_ds w hw).2.2.2.2.1 (wb_ds w hw).2.2.2.2.2.1 hsz (by omega) (by decide) (fun _ => ?_) (fun z => absurd z (by omega)))
  refine V.absR (fun Ra hRa => ?_)
  refine V.absZ (fun Za hZa => ?_)
  refine V.aload_n d_World_fall_16 rfl ?_
  refine V.aload_n d_World_fall_17 rfl ?_
  refine V.get d_World_fall_18 f_World_37_World (co_s (sc_wd (wb_ds w hw).1)) rfl ?_
  refine V.aload_n d_World_fall_21 rfl ?_
  refine V.get d_World_fall_22 f_World_62_World (co_s (sc_wd (wb_ds w hw).1)) rfl ?_
  refine V.aload_n d_World_fall_25 rfl ?_
  refine V.get d_World_fall_26 (ft_World_129 _ (hBa.kd hi)) (co_t hT hw hi) rfl ?_
  refine V.aload_n d_World_fall_29 rfl ?_
  refine V.get d_World_fall_30 (ft_World_170 _ (hBa.kd hi)) (co_t hT hw hi) rfl ?_
  refine V.aload_n d_World_fall_33 rfl ?_
  refine V.get d_World_fall_34 (ft_World_173 _ (hBa.kd hi)) (co_t hT hw hi) rfl ?_
  refine V.callV3 d_World_fall_37 k_World_176_Text_gives_TextV (co_s (sc_tx (tx_ds 1 (by decide)).1)) (Nat.le_of_ble_eq_true rfl) (by omega) (by omega) (c_Text_gives (u := 1) (by decide) hX (by rw [hZa, uZ_n (by omega)]; exact hz) (fun k hk => by rw [hRa, uA_n (by omega)]; exact hC k hk) (fun P => ?_))
  refine V.absR (fun Rb hRb => ?_)
  refine V.top (y := wvc Wc len (W w (50 + 7 * i + 5)) (W w (50 + 7 * i + 1)) (W w (50 + 7 * i + 4))) (by rw [ea, pk_un (by omega), pk_un (by omega), pk_un (by omega)]; rfl) ?_
  refine V.iadd d_World_fall_40 ?_
  refine V.ldc (v := 99999) d_World_fall_41 (tm 757 (by decide +kernel) rfl) ?_
  refine V.top (y := nI 99999) rfl ?_
  refine V.mmin d_World_fall_43 (tm 745 (by decide +kernel) rfl) (Nat.le_of_ble_eq_true rfl) (by omega) (by omega) ?_
  refine V.put d_World_fall_46 f_World_37_World fp_World_9 (fun _ => rfl) (fun _ => rfl) (co_s (sc_wd (wb_ds w hw).1)) (Nat.le_of_ble_eq_true rfl) ?_
  refine V.eqH (co_uwd (w := w) (j := 4) hw (by decide)) ?_
  refine V.absW (fun Wb hWb => ?_)
  have eb : Wb w = upd (upd (W w) (50 + 7 * i + 6) (nI 0)) 4 (mi (W w 4 + wvc Wc len (W w (50 + 7 * i + 5)) (W w (50 + 7 * i + 1)) (W w (50 + 7 * i + 4))) (nI 99999)) := by rw [hWb, uW_s, ea, pk_un (show 4 ≠ 50 + 7 * i + 6 by omega)]
  have hkb : ∀ j, j ≠ 4 → j ≠ 50 + 7 * i + 6 → Wb w j = W w j := fun j h1 h2 => by rw [eb, pk_un h1, pk_un h2]
  have hBb : WB (Wb w) := by
    rw [eb]
    refine WB.u (hB.u6 hi ⟨0, by omega, rfl⟩) (fun _ => ?_)
    obtain ⟨g, hg, eg⟩ := wvc_nat (Wc := Wc) (len := len) (W w (50 + 7 * i + 5)) (W w (50 + 7 * i + 1)) (W w (50 + 7 * i + 4))
    obtain ⟨e4, b4⟩ := hB.wo.t (by decide)
    rw [eg, e4, nI_add, mi_min (by omega) (by decide)]
    exact ⟨_, Nat.min_le_right _ _, rfl⟩
  refine V.aload_n d_World_fall_49 rfl ?_
  refine V.get d_World_fall_50 (ft_World_173 _ (hBb.kd hi)) (co_t hT hw hi) rfl ?_
  refine V.top (y := nI (plN (W w) i)) (by rw [hkb _ (by omega) (by omega)]; exact ep') ?_
  refine V.aload_n d_World_fall_53 rfl ?_
  refine vs_World_180 d_World_fall_54 rfl hT hw hi (hBb.kd hi) (Nat.le_of_ble_eq_true rfl) (by omega) (by omega) ?_
  refine V.top (y := nI (rcN (W w) i)) (by rw [hkb _ (by omega) (by omega), show tN (Wb w) (50 + 7 * i + 0) = tN (W w) (50 + 7 * i + 0) by unfold tN; rw [hkb _ (by omega) (by omega)]]; exact erv) ?_
  refine V.addN d_World_fall_57 ?_
  refine V.bipush_ (nI 15) d_World_fall_58 (by decide +kernel) ?_
  refine V.mmin d_World_fall_60 (tm 745 (by decide +kernel) rfl) (Nat.le_of_ble_eq_true rfl) (by omega) (by omega) ?_
  refine V.top (y := nI (min (plN (W w) i + rcN (W w) i) 15)) (mi_min (by omega) (by decide)) ?_
  refine V.istore_n d_World_fall_63 (by decide) ?_
  refine V.aload_n d_World_fall_64 rfl ?_
  refine V.get d_World_fall_65 (ft_World_173 _ (hBb.kd hi)) (co_t hT hw hi) rfl ?_
  refine V.top (y := nI (plN (W w) i)) (by rw [hkb _ (by omega) (by omega)]; exact ep') ?_
  refine V.iconst_ (nI 1) d_World_fall_68 (by decide +kernel) ?_
  refine V.addN d_World_fall_69 ?_
  refine V.istore d_World_fall_70 (by decide) ?_
  refine V.eqH (h' := co (uA Rb (wb w + 6) (hitU (plN (W w) i) (plN (W w) i + 1) (Rb (wb w + 6)))) Wb Za T kn h0) (by rw [hitU_0, uA_id]) ?_
  refine V.lc (ls' := [(0, .ref (wb w)), (1, .ref (T w i)), (2, .int (nI (8 - (f + 1)))), (3, .int (nI (min (plN (W w) i + rcN (W w) i) 15))), (4, .int (nI ((plN (W w) i + 1))))]) rfl ?_
  refine up_to (G := fun k => plN (W w) i < k → V l M_World_fall (y + 3) 0 0 72 [(0, .ref (wb w)), (1, .ref (T w i)), (2, .int (nI (8 - (f + 1)))), (3, .int (nI (min (plN (W w) i + rcN (W w) i) 15))), (4, .int (nI (k)))] [] n (co (uA Rb (wb w + 6) (hitU (plN (W w) i) k (Rb (wb w + 6)))) Wb Za T kn h0) 0 0 Q) (min (plN (W w) i + rcN (W w) i) 15 + 1) ?_ (fun k hk hn => ?_) (plN (W w) i + 1) (by omega) (by omega)
  · skip
    intro hpk
    refine V.iload d_World_fall_72 rfl ?_
    refine V.iload_n d_World_fall_74 rfl ?_
    refine V.gtN (tgt := 95) d_World_fall_75 (by decide) (by omega) (by omega) (fun c_75 => ?_) (fun c_75 => ?_)
    · skip
      refine V.aload_n d_World_fall_95 rfl ?_
      refine V.get d_World_fall_96 f_World_31_World (co_s (sc_wd (wb_ds w hw).1)) rfl ?_
      refine V.top (y := nI (tN (W w) 2)) (by rw [hkb _ (by omega) (by omega)]; exact ef) ?_
      refine V.aload_n d_World_fall_99 rfl ?_
      refine V.get d_World_fall_100 (ft_World_173 _ (hBb.kd hi)) (co_t hT hw hi) rfl ?_
      refine V.top (y := nI (plN (W w) i)) (by rw [hkb _ (by omega) (by omega)]; exact ep') ?_
      refine V.leN (tgt := 130) d_World_fall_103 (by decide) (by omega) (by omega) (fun c_103 => ?_) (fun c_103 => ?_)
      · skip
        have eW : Wb w = gdn (wvc Wc len) (W w) i := by
          rw [gdn_N hB hi wvc_nat, if_neg (show ¬ (plN (W w) i < tN (W w) 2 ∧ tN (W w) 2 ≤ plN (W w) i + rcN (W w) i) by omega)]
          exact gd_eq (by rw [eb, pk_un (by omega), pk_us]) (by rw [eb, pk_us]) (hkb 3 (by omega) (by omega)) (fun j h1 h2 h3 => hkb j h2 h3)
        have eR5 : uA Rb (wb w + 6) (hitU (plN (W w) i) (min (plN (W w) i + rcN (W w) i) 15 + 1) (Rb (wb w + 6))) (wb w + 5) = wrl (R (wb w + 5)) sz [i] := by
          rw [uA_n (by omega), hRb, uA_n (by omega), hRa]
          show uA R (wb w + 5) (upd (R (wb w + 5)) sz (nI i)) (wb w + 5) = wrf (R (wb w + 5)) sz i
          rw [uA_s]
          exact (if_pos (by omega)).symm
        have eR6 : uA Rb (wb w + 6) (hitU (plN (W w) i) (min (plN (W w) i + rcN (W w) i) 15 + 1) (Rb (wb w + 6))) (wb w + 6) = hts (W w) [i] (R (wb w + 6)) := by
          rw [uA_s, hitU_F, hRb, uA_n (by omega), hRa, uA_n (by omega)]
          rfl
        refine V.lc rfl (key _ Wb _ (gdn (wvc Wc len) (W w) i, [i]) (fun a h1 h2 h3 => by rw [uA_n h3, hRb, uA_n h1, hRa, uA_n h2]) (fun b j h => by rw [hZa, uZ_n h]) (fun v hv => by rw [hWb, uW_n hv, hWa, uW_n hv]) eW eR5 (by rw [hZa, uZ_s]; rfl) eR6 rfl (hB.gd hi) (fun j h1 h2 h3 => gdn_keep h1 h2 h3) ?_)
        have hcg := cst_gdn (wv := wvc Wc len) hst N
        rw [if_pos hiN] at hcg
        show 1 + cst (gdn (wvc Wc len) (W w) i) N = cst (W w) N
        omega
      · skip
        refine V.aload_n d_World_fall_106 rfl ?_
        refine V.get d_World_fall_107 f_World_31_World (co_s (sc_wd (wb_ds w hw).1)) rfl ?_
        refine V.top (y := nI (tN (W w) 2)) (by rw [hkb _ (by omega) (by omega)]; exact ef) ?_
        refine V.iload_n d_World_fall_110 rfl ?_
        refine V.gtN (tgt := 130) d_World_fall_111 (by decide) (by omega) (by omega) (fun c_111 => ?_) (fun c_111 => ?_)
        · skip
          have eW : Wb w = gdn (wvc Wc len) (W w) i := by
            rw [gdn_N hB hi wvc_nat, if_neg (show ¬ (plN (W w) i < tN (W w) 2 ∧ tN (W w) 2 ≤ plN (W w) i + rcN (W w) i) by omega)]
            exact gd_eq (by rw [eb, pk_un (by omega), pk_us]) (by rw [eb, pk_us]) (hkb 3 (by omega) (by omega)) (fun j h1 h2 h3 => hkb j h2 h3)
          have eR5 : uA Rb (wb w + 6) (hitU (plN (W w) i) (min (plN (W w) i + rcN (W w) i) 15 + 1) (Rb (wb w + 6))) (wb w + 5) = wrl (R (wb w + 5)) sz [i] := by
            rw [uA_n (by omega), hRb, uA_n (by omega), hRa]
            show uA R (wb w + 5) (upd (R (wb w + 5)) sz (nI i)) (wb w + 5) = wrf (R (wb w + 5)) sz i
            rw [uA_s]
            exact (if_pos (by omega)).symm
          have eR6 : uA Rb (wb w + 6) (hitU (plN (W w) i) (min (plN (W w) i + rcN (W w) i) 15 + 1) (Rb (wb w + 6))) (wb w + 6) = hts (W w) [i] (R (wb w + 6)) := by
            rw [uA_s, hitU_F, hRb, uA_n (by omega), hRa, uA_n (by omega)]
            rfl
          refine V.lc rfl (key _ Wb _ (gdn (wvc Wc len) (W w) i, [i]) (fun a h1 h2 h3 => by rw [uA_n h3, hRb, uA_n h1, hRa, uA_n h2]) (fun b j h => by rw [hZa, uZ_n h]) (fun v hv => by rw [hWb, uW_n hv, hWa, uW_n hv]) eW eR5 (by rw [hZa, uZ_s]; rfl) eR6 rfl (hB.gd hi) (fun j h1 h2 h3 => gdn_keep h1 h2 h3) ?_)
          have hcg := cst_gdn (wv := wvc Wc len) hst N
          rw [if_pos hiN] at hcg
          show 1 + cst (gdn (wvc Wc len) (W w) i) N = cst (W w) N
          omega
        · skip
          refine V.aload_n d_World_fall_114 rfl ?_
          refine V.aload_n d_World_fall_115 rfl ?_
          refine V.get d_World_fall_116 f_World_34_World (co_s (sc_wd (wb_ds w hw).1)) rfl ?_
          refine V.iconst_ (nI 1) d_World_fall_119 (by decide +kernel) ?_
          refine V.iadd d_World_fall_120 ?_
          refine V.sipush_ (nI 999) d_World_fall_121 (by decide +kernel) ?_
          refine V.mmin d_World_fall_124 (tm 745 (by decide +kernel) rfl) (Nat.le_of_ble_eq_true rfl) (by omega) (by omega) ?_
          refine V.put d_World_fall_127 f_World_34_World fp_World_8 (fun _ => rfl) (fun _ => rfl) (co_s (sc_wd (wb_ds w hw).1)) (Nat.le_of_ble_eq_true rfl) ?_
          refine V.eqH (co_uwd (w := w) (j := 3) hw (by decide)) ?_
          refine V.absW (fun Wd hWd => ?_)
          have ed : Wd w = upd (Wb w) 3 (mi (W w 3 + nI 1) (nI 999)) := by rw [hWd, uW_s, hkb 3 (by omega) (by omega)]
          have eW : Wd w = gdn (wvc Wc len) (W w) i := by
            rw [gdn_N hB hi wvc_nat, if_pos (show plN (W w) i < tN (W w) 2 ∧ tN (W w) 2 ≤ plN (W w) i + rcN (W w) i by omega)]
            exact gd_eq (by rw [ed, pk_un (by omega), eb, pk_un (by omega), pk_us]) (by rw [ed, pk_un (by omega), eb, pk_us]) (by rw [ed, pk_us]) (fun j h1 h2 h3 => by rw [ed, pk_un h1, hkb j h2 h3])
          have eR5 : uA Rb (wb w + 6) (hitU (plN (W w) i) (min (plN (W w) i + rcN (W w) i) 15 + 1) (Rb (wb w + 6))) (wb w + 5) = wrl (R (wb w + 5)) sz [i] := by
            rw [uA_n (by omega), hRb, uA_n (by omega), hRa]
            show uA R (wb w + 5) (upd (R (wb w + 5)) sz (nI i)) (wb w + 5) = wrf (R (wb w + 5)) sz i
            rw [uA_s]
            exact (if_pos (by omega)).symm
          have eR6 : uA Rb (wb w + 6) (hitU (plN (W w) i) (min (plN (W w) i + rcN (W w) i) 15 + 1) (Rb (wb w + 6))) (wb w + 6) = hts (W w) [i] (R (wb w + 6)) := by
            rw [uA_s, hitU_F, hRb, uA_n (by omega), hRa, uA_n (by omega)]
            rfl
          refine V.lc rfl (key _ Wd _ (gdn (wvc Wc len) (W w) i, [i]) (fun a h1 h2 h3 => by rw [uA_n h3, hRb, uA_n h1, hRa, uA_n h2]) (fun b j h => by rw [hZa, uZ_n h]) (fun v hv => by rw [hWd, uW_n hv, hWb, uW_n hv, hWa, uW_n hv]) eW eR5 (by rw [hZa, uZ_s]; rfl) eR6 rfl (hB.gd hi) (fun j h1 h2 h3 => gdn_keep h1 h2 h3) ?_)
          have hcg := cst_gdn (wv := wvc Wc len) hst N
          rw [if_pos hiN] at hcg
          show 1 + cst (gdn (wvc Wc len) (W w) i) N = cst (W w) N
          omega
    · skip
      exact absurd c_75 (by omega)
  · skip
    intro hpk
    refine V.iload d_World_fall_72 rfl ?_
    refine V.iload_n d_World_fall_74 rfl ?_
    refine V.gtN (tgt := 95) d_World_fall_75 (by decide) (by omega) (by omega) (fun c_75 => ?_) (fun c_75 => ?_)
    · skip
      exact absurd c_75 (by omega)
    · skip
      refine V.aload_n d_World_fall_78 rfl ?_
      refine V.get d_World_fall_79 f_World_52_World (co_s (sc_wd (wb_ds w hw).1)) rfl ?_
      refine V.iload d_World_fall_82 rfl ?_
      refine V.dup2 rfl rfl d_World_fall_84 ?_
      refine V.ialdN d_World_fall_85 (co_s (sc_ar (wb_ds w hw).2.2.2.2.2.2.1)) (by omega) (by omega) ?_
      refine V.iconst_ (nI 1) d_World_fall_86 (by decide +kernel) ?_
      refine V.iadd d_World_fall_87 ?_
      refine V.iastN d_World_fall_88 (co_s (sc_ar (wb_ds w hw).2.2.2.2.2.2.1)) (by omega) (by omega) ?_
      refine V.eqH (co_uR (wb_ds w hw).2.2.2.2.2.2.1) ?_
      refine V.incN d_World_fall_89 rfl (by decide) ?_
      refine V.goto (tgt := 72) d_World_fall_92 (by decide) ?_
      simp only [uA_uu, uA_s]
      rw [hitU_s hpk]
      exact V.lc rfl (hn (by omega))
theorem c_World_fall {l : Launch} {w N len : Nat} {Wc : Nat → Nat} (hw : w < 3) (hX : Wf Wc len) : ∀ (f y : Nat), f ≤ 7 → f + 3 ≤ y → ∀ (i sz : Nat) (R W Z : Nat → Nat → Int32) (T : Nat → Nat → Nat) (kn : Kn) (h0 : HP) (n : Nat) (Q : QT), (i < N) → (N ≤ 8) → (W w 0 = nI N) → (TI T kn n) → (WB (W w)) → (Z (4 + 6 * 1) 1 = nI len) → (∀ k, k < len → R (4 + 6 * 1 + 1) k = nI (Wc k)) → (W w (50 + 7 * i + 6) = nI 1) → (Z (wb w + 4) 1 = nI sz) → (sz + cst (W w) N ≤ 8) → (∀ (R1 W1 Z1 : Nat → Nat → Int32), (∀ a, a ≠ 14 → a ≠ wb w + 5 → a ≠ wb w + 6 → R1 a = R a) → (∀ b j, ¬ (b = wb w + 4 ∧ j = 1) → Z1 b j = Z b j) → (∀ v, v ≠ w → W1 v = W v) → W1 w = (fl (wvc Wc len) N f i (W w, [])).1 → R1 (wb w + 5) = wrl (R (wb w + 5)) sz (fl (wvc Wc len) N f i (W w, [])).2 → Z1 (wb w + 4) 1 = nI (sz + (fl (wvc Wc len) N f i (W w, [])).2.length) → R1 (wb w + 6) = hts (W w) (fl (wvc Wc len) N f i (W w, [])).2 (R (wb w + 6)) → Q none n (co R1 W1 Z1 T kn h0)) → Ct l M_World_fall y 0 0 [.ref (wb w), .ref (T w i), .int (nI (8 - f))] n (co R W Z T kn h0) Q := by
  intro f
  induction f with
  | zero =>
    intro y _ hy i sz R W Z T kn h0 n Q hiN hN e0 hT hB hz hC hst hsz hcs hQ
    obtain ⟨y', rfl⟩ : ∃ y', y = y' + 3 := ⟨y - 3, by omega⟩
    exact c_World_fall0 hw hX hiN hN e0 hT hB hz hC hst hsz hcs hQ
  | succ f ih =>
    intro y hf hy i sz R W Z T kn h0 n Q hiN hN e0 hT hB hz hC hst hsz hcs hQ
    obtain ⟨y', rfl⟩ : ∃ y', y = y' + 3 := ⟨y - 3, by omega⟩
    exact c_World_fallS hw hX hf (ih (y' + 2) (by omega) (by omega)) hiN hN e0 hT hB hz hC hst hsz hcs hQ
