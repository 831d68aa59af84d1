/-- the words that keep: what every contract here takes along -/
def tb : List Cond := lw_tbl.filter goodWord
theorem tb_of {w : Cond} (h : w ∈ lw_tbl) (g : goodWord w = true) : w ∈ tb := List.mem_filter.mpr ⟨h, g⟩
theorem tm {w : Cond} (i : Nat) (h : tables_1[i]? = some w) (g : goodWord w = true) : w ∈ tb := tb_of (List.mem_append_right _ (List.mem_of_getElem? h)) g
theorem tp {w : Cond} (i : Nat) (h : (k2_sels lw_privs)[i]? = some w) (g : goodWord w = true) : w ∈ tb := tb_of (List.mem_append_left _ (List.mem_of_getElem? h)) g
theorem tb_good : ∀ w ∈ tb, goodWord w = true := fun w h => (List.mem_filter.mp h).2
theorem u_wsIn {C : String} {T : u_T} {N : Nat} (g : ∀ k, k < N → u_lay C T k ∈ tb) : ∀ w ∈ u_ws C T N, w ∈ tb := by
  intro w hw
  obtain ⟨k, hk, rfl⟩ := List.mem_map.mp hw
  exact g k (List.mem_range.mp hk)

def R_F : String := "FelledByNames"
def F_F : u_T := fun k => match k with
  | 0 => ("FelledByNames", "tape", "LFelledByNames$Row;", true)
  | 1 => ("FelledByNames", "cools", "LFelledByNames$Text;", true)
  | 2 => ("FelledByNames", "woods", "LFelledByNames$Text;", true)
  | 3 => ("FelledByNames", "now", "LFelledByNames$World;", true)
  | 4 => ("FelledByNames", "thought", "LFelledByNames$World;", true)
  | 5 => ("FelledByNames", "waiting", "LFelledByNames$Row;", true)
  | 6 => ("FelledByNames", "bodies", "LFelledByNames$Row;", true)
  | 7 => ("FelledByNames", "sheets", "[LFelledByNames$Sheet;", true)
  | 8 => ("FelledByNames", "errors", "[I", true)
  | 9 => ("FelledByNames", "keptWorld", "LFelledByNames$World;", true)
  | 10 => ("FelledByNames", "keptTape", "LFelledByNames$Row;", true)
  | 11 => ("FelledByNames", "keptWaiting", "LFelledByNames$Row;", true)
  | 12 => ("FelledByNames", "keptCools", "LFelledByNames$Row;", true)
  | 13 => ("FelledByNames", "keptWoods", "LFelledByNames$Row;", true)
  | _ => ("FelledByNames", "images", "I", false)
def t_F : Nat → FieldType := fun k => match k with
  | 0 => .object "FelledByNames$Row"
  | 1 => .object "FelledByNames$Text"
  | 2 => .object "FelledByNames$Text"
  | 3 => .object "FelledByNames$World"
  | 4 => .object "FelledByNames$World"
  | 5 => .object "FelledByNames$Row"
  | 6 => .object "FelledByNames$Row"
  | 7 => .array (.object "FelledByNames$Sheet")
  | 8 => .array .int
  | 9 => .object "FelledByNames$World"
  | 10 => .object "FelledByNames$Row"
  | 11 => .object "FelledByNames$Row"
  | 12 => .object "FelledByNames$Row"
  | 13 => .object "FelledByNames$Row"
  | _ => .int
theorem n_F : ∀ a, a < 15 → ∀ b, b < 15 → a ≠ b → (F_F a).2.1 ≠ (F_F b).2.1 := by decide +kernel
theorem t_F_ok : ∀ k, k < 15 → parseFieldDescriptor (F_F k).2.2.1 = some (t_F k) := by decide +kernel
theorem i_F : ∀ w ∈ u_ws R_F F_F 15, w ∈ tb := by
  refine u_wsIn (fun k hk => ?_)
  match k, hk with
  | 0, _ => exact tm 439 (by decide +kernel) rfl
  | 1, _ => exact tm 441 (by decide +kernel) rfl
  | 2, _ => exact tm 443 (by decide +kernel) rfl
  | 3, _ => exact tm 445 (by decide +kernel) rfl
  | 4, _ => exact tm 447 (by decide +kernel) rfl
  | 5, _ => exact tm 449 (by decide +kernel) rfl
  | 6, _ => exact tm 451 (by decide +kernel) rfl
  | 7, _ => exact tm 453 (by decide +kernel) rfl
  | 8, _ => exact tm 455 (by decide +kernel) rfl
  | 9, _ => exact tm 457 (by decide +kernel) rfl
  | 10, _ => exact tm 459 (by decide +kernel) rfl
  | 11, _ => exact tm 461 (by decide +kernel) rfl
  | 12, _ => exact tm 463 (by decide +kernel) rfl
  | 13, _ => exact tm 465 (by decide +kernel) rfl
  | 14, _ => exact tm 467 (by decide +kernel) rfl
  | k + 15, hk => exact absurd hk (by omega)
def R_Row : String := "FelledByNames$Row"
def F_Row : u_T := fun k => match k with
  | 0 => ("FelledByNames$Row", "at", "[I", true)
  | _ => ("FelledByNames$Row", "size", "I", false)
def t_Row : Nat → FieldType := fun k => match k with
  | 0 => .array .int
  | _ => .int
theorem n_Row : ∀ a, a < 2 → ∀ b, b < 2 → a ≠ b → (F_Row a).2.1 ≠ (F_Row b).2.1 := by decide +kernel
theorem t_Row_ok : ∀ k, k < 2 → parseFieldDescriptor (F_Row k).2.2.1 = some (t_Row k) := by decide +kernel
theorem i_Row : ∀ w ∈ u_ws R_Row F_Row 2, w ∈ tb := by
  refine u_wsIn (fun k hk => ?_)
  match k, hk with
  | 0, _ => exact tm 53 (by decide +kernel) rfl
  | 1, _ => exact tm 55 (by decide +kernel) rfl
  | k + 2, hk => exact absurd hk (by omega)
def R_Sheet : String := "FelledByNames$Sheet"
def F_Sheet : u_T := fun k => match k with
  | 0 => ("FelledByNames$Row", "at", "[I", true)
  | 1 => ("FelledByNames$Row", "size", "I", false)
  | _ => ("FelledByNames$Sheet", "bits", "I", false)
def t_Sheet : Nat → FieldType := fun k => match k with
  | 0 => .array .int
  | 1 => .int
  | _ => .int
theorem n_Sheet : ∀ a, a < 3 → ∀ b, b < 3 → a ≠ b → (F_Sheet a).2.1 ≠ (F_Sheet b).2.1 := by decide +kernel
theorem t_Sheet_ok : ∀ k, k < 3 → parseFieldDescriptor (F_Sheet k).2.2.1 = some (t_Sheet k) := by decide +kernel
theorem i_Sheet : ∀ w ∈ u_ws R_Sheet F_Sheet 3, w ∈ tb := by
  refine u_wsIn (fun k hk => ?_)
  match k, hk with
  | 0, _ => exact tm 421 (by decide +kernel) rfl
  | 1, _ => exact tm 422 (by decide +kernel) rfl
  | 2, _ => exact tm 419 (by decide +kernel) rfl
  | k + 3, hk => exact absurd hk (by omega)
def R_Text : String := "FelledByNames$Text"
def F_Text : u_T := fun k => match k with
  | 0 => ("FelledByNames$Text", "code", "LFelledByNames$Row;", true)
  | 1 => ("FelledByNames$Text", "tape", "LFelledByNames$Row;", true)
  | 2 => ("FelledByNames$Text", "names", "Ljava/lang/String;", true)
  | 3 => ("FelledByNames$Text", "low", "I", true)
  | 4 => ("FelledByNames$Text", "high", "I", true)
  | 5 => ("FelledByNames$Text", "draft", "LFelledByNames$Row;", true)
  | 6 => ("FelledByNames$Text", "stack", "[I", true)
  | 7 => ("FelledByNames$Text", "place", "I", false)
  | 8 => ("FelledByNames$Text", "open", "I", false)
  | 9 => ("FelledByNames$Text", "fault", "I", false)
  | _ => ("FelledByNames$Text", "known", "[B", false)
def t_Text : Nat → FieldType := fun k => match k with
  | 0 => .object "FelledByNames$Row"
  | 1 => .object "FelledByNames$Row"
  | 2 => .object "java/lang/String"
  | 3 => .int
  | 4 => .int
  | 5 => .object "FelledByNames$Row"
  | 6 => .array .int
  | 7 => .int
  | 8 => .int
  | 9 => .int
  | _ => .array .byte
theorem n_Text : ∀ a, a < 11 → ∀ b, b < 11 → a ≠ b → (F_Text a).2.1 ≠ (F_Text b).2.1 := by decide +kernel
theorem t_Text_ok : ∀ k, k < 11 → parseFieldDescriptor (F_Text k).2.2.1 = some (t_Text k) := by decide +kernel
theorem i_Text : ∀ w ∈ u_ws R_Text F_Text 11, w ∈ tb := by
  refine u_wsIn (fun k hk => ?_)
  match k, hk with
  | 0, _ => exact tm 80 (by decide +kernel) rfl
  | 1, _ => exact tm 82 (by decide +kernel) rfl
  | 2, _ => exact tm 84 (by decide +kernel) rfl
  | 3, _ => exact tm 86 (by decide +kernel) rfl
  | 4, _ => exact tm 88 (by decide +kernel) rfl
  | 5, _ => exact tm 90 (by decide +kernel) rfl
  | 6, _ => exact tm 92 (by decide +kernel) rfl
  | 7, _ => exact tm 94 (by decide +kernel) rfl
  | 8, _ => exact tm 96 (by decide +kernel) rfl
  | 9, _ => exact tm 98 (by decide +kernel) rfl
  | 10, _ => exact tm 100 (by decide +kernel) rfl
  | k + 11, hk => exact absurd hk (by omega)
def R_World : String := "FelledByNames$World"
def F_World : u_T := fun k => match k with
  | 0 => ("FelledByNames$World", "cools", "LFelledByNames$Text;", true)
  | 1 => ("FelledByNames$World", "woods", "LFelledByNames$Text;", true)
  | 2 => ("FelledByNames$World", "holds", "[I", true)
  | 3 => ("FelledByNames$World", "talk", "[I", true)
  | 4 => ("FelledByNames$World", "trees", "[LFelledByNames$Tree;", true)
  | 5 => ("FelledByNames$World", "treeCount", "I", false)
  | 6 => ("FelledByNames$World", "day", "I", false)
  | 7 => ("FelledByNames$World", "fence", "I", false)
  | 8 => ("FelledByNames$World", "harm", "I", false)
  | 9 => ("FelledByNames$World", "wood", "I", false)
  | 10 => ("FelledByNames$World", "z", "I", false)
  | 11 => ("FelledByNames$World", "fell", "LFelledByNames$Row;", true)
  | 12 => ("FelledByNames$World", "hits", "[I", true)
  | _ => ("FelledByNames$World", "pairs", "LFelledByNames$Row;", true)
def t_World : Nat → FieldType := fun k => match k with
  | 0 => .object "FelledByNames$Text"
  | 1 => .object "FelledByNames$Text"
  | 2 => .array .int
  | 3 => .array .int
  | 4 => .array (.object "FelledByNames$Tree")
  | 5 => .int
  | 6 => .int
  | 7 => .int
  | 8 => .int
  | 9 => .int
  | 10 => .int
  | 11 => .object "FelledByNames$Row"
  | 12 => .array .int
  | _ => .object "FelledByNames$Row"
theorem n_World : ∀ a, a < 14 → ∀ b, b < 14 → a ≠ b → (F_World a).2.1 ≠ (F_World b).2.1 := by decide +kernel
theorem t_World_ok : ∀ k, k < 14 → parseFieldDescriptor (F_World k).2.2.1 = some (t_World k) := by decide +kernel
theorem i_World : ∀ w ∈ u_ws R_World F_World 14, w ∈ tb := by
  refine u_wsIn (fun k hk => ?_)
  match k, hk with
  | 0, _ => exact tm 200 (by decide +kernel) rfl
  | 1, _ => exact tm 202 (by decide +kernel) rfl
  | 2, _ => exact tm 204 (by decide +kernel) rfl
  | 3, _ => exact tm 206 (by decide +kernel) rfl
  | 4, _ => exact tm 208 (by decide +kernel) rfl
  | 5, _ => exact tm 210 (by decide +kernel) rfl
  | 6, _ => exact tm 212 (by decide +kernel) rfl
  | 7, _ => exact tm 214 (by decide +kernel) rfl
  | 8, _ => exact tm 216 (by decide +kernel) rfl
  | 9, _ => exact tm 218 (by decide +kernel) rfl
  | 10, _ => exact tm 220 (by decide +kernel) rfl
  | 11, _ => exact tm 222 (by decide +kernel) rfl
  | 12, _ => exact tm 224 (by decide +kernel) rfl
  | 13, _ => exact tm 226 (by decide +kernel) rfl
  | k + 14, hk => exact absurd hk (by omega)
def R_Mo : String := "FelledByNamesModel"
def F_Mo : u_T := fun k => match k with
  | 0 => ("FelledByNamesModel", "d", "[I", true)
  | 1 => ("FelledByNamesModel", "kept", "[I", true)
  | 2 => ("FelledByNamesModel", "aside", "[I", true)
  | 3 => ("FelledByNamesModel", "images", "I", false)
  | 4 => ("FelledByNamesModel", "found", "[I", true)
  | 5 => ("FelledByNamesModel", "base", "I", false)
  | 6 => ("FelledByNamesModel", "at", "I", false)
  | 7 => ("FelledByNamesModel", "size", "I", false)
  | 8 => ("FelledByNamesModel", "fault", "I", false)
  | 9 => ("FelledByNamesModel", "opened", "I", false)
  | 10 => ("FelledByNamesModel", "isWood", "Z", false)
  | 11 => ("FelledByNamesModel", "names", "[I", true)
  | 12 => ("FelledByNamesModel", "code", "[I", true)
  | 13 => ("FelledByNamesModel", "coded", "I", false)
  | 14 => ("FelledByNamesModel", "pile", "[I", true)
  | 15 => ("FelledByNamesModel", "pile0", "[I", true)
  | 16 => ("FelledByNamesModel", "looks", "[I", true)
  | 17 => ("FelledByNamesModel", "fell", "[I", true)
  | 18 => ("FelledByNamesModel", "fellMany", "I", false)
  | 19 => ("FelledByNamesModel", "traced", "[I", true)
  | 20 => ("FelledByNamesModel", "traceMany", "I", false)
  | 21 => ("FelledByNamesModel", "who", "I", false)
  | 22 => ("FelledByNamesModel", "bitsOf", "[I", true)
  | 23 => ("FelledByNamesModel", "sizeOf", "[I", true)
  | 24 => ("FelledByNamesModel", "number", "[I", true)
  | _ => ("FelledByNamesModel", "lifted", "[I", true)
def t_Mo : Nat → FieldType := fun k => match k with
  | 0 => .array .int
  | 1 => .array .int
  | 2 => .array .int
  | 3 => .int
  | 4 => .array .int
  | 5 => .int
  | 6 => .int
  | 7 => .int
  | 8 => .int
  | 9 => .int
  | 10 => .boolean
  | 11 => .array .int
  | 12 => .array .int
  | 13 => .int
  | 14 => .array .int
  | 15 => .array .int
  | 16 => .array .int
  | 17 => .array .int
  | 18 => .int
  | 19 => .array .int
  | 20 => .int
  | 21 => .int
  | 22 => .array .int
  | 23 => .array .int
  | 24 => .array .int
  | _ => .array .int
theorem n_Mo : ∀ a, a < 26 → ∀ b, b < 26 → a ≠ b → (F_Mo a).2.1 ≠ (F_Mo b).2.1 := by decide +kernel
theorem t_Mo_ok : ∀ k, k < 26 → parseFieldDescriptor (F_Mo k).2.2.1 = some (t_Mo k) := by decide +kernel
theorem i_Mo : ∀ w ∈ u_ws R_Mo F_Mo 26, w ∈ tb := by
  refine u_wsIn (fun k hk => ?_)
  match k, hk with
  | 0, _ => exact tm 1085 (by decide +kernel) rfl
  | 1, _ => exact tm 1087 (by decide +kernel) rfl
  | 2, _ => exact tm 1089 (by decide +kernel) rfl
  | 3, _ => exact tm 1091 (by decide +kernel) rfl
  | 4, _ => exact tm 1093 (by decide +kernel) rfl
  | 5, _ => exact tm 1095 (by decide +kernel) rfl
  | 6, _ => exact tm 1097 (by decide +kernel) rfl
  | 7, _ => exact tm 1099 (by decide +kernel) rfl
  | 8, _ => exact tm 1101 (by decide +kernel) rfl
  | 9, _ => exact tm 1103 (by decide +kernel) rfl
  | 10, _ => exact tm 1105 (by decide +kernel) rfl
  | 11, _ => exact tm 1107 (by decide +kernel) rfl
  | 12, _ => exact tm 1109 (by decide +kernel) rfl
  | 13, _ => exact tm 1111 (by decide +kernel) rfl
  | 14, _ => exact tm 1113 (by decide +kernel) rfl
  | 15, _ => exact tm 1115 (by decide +kernel) rfl
  | 16, _ => exact tm 1117 (by decide +kernel) rfl
  | 17, _ => exact tm 1119 (by decide +kernel) rfl
  | 18, _ => exact tm 1121 (by decide +kernel) rfl
  | 19, _ => exact tm 1123 (by decide +kernel) rfl
  | 20, _ => exact tm 1125 (by decide +kernel) rfl
  | 21, _ => exact tm 1127 (by decide +kernel) rfl
  | 22, _ => exact tm 1129 (by decide +kernel) rfl
  | 23, _ => exact tm 1131 (by decide +kernel) rfl
  | 24, _ => exact tm 1133 (by decide +kernel) rfl
  | 25, _ => exact tm 1135 (by decide +kernel) rfl
  | k + 26, hk => exact absurd hk (by omega)
def R_Tree : String := "FelledByNames$Tree"
def F_Tree : u_T := fun k => match k with
  | 0 => ("FelledByNames$Tree", "kind", "I", true)
  | 1 => ("FelledByNames$Tree", "number", "I", true)
  | 2 => ("FelledByNames$Tree", "m", "I", false)
  | 3 => ("FelledByNames$Tree", "one", "I", false)
  | 4 => ("FelledByNames$Tree", "other", "I", false)
  | 5 => ("FelledByNames$Tree", "place", "I", false)
  | 6 => ("FelledByNames$Tree", "height", "I", false)
  | _ => ("FelledByNames$Tree", "standing", "Z", false)
def t_Tree : Nat → FieldType := fun k => match k with
  | 0 => .int
  | 1 => .int
  | 2 => .int
  | 3 => .int
  | 4 => .int
  | 5 => .int
  | 6 => .int
  | _ => .boolean
theorem n_Tree : ∀ a, a < 8 → ∀ b, b < 8 → a ≠ b → (F_Tree a).2.1 ≠ (F_Tree b).2.1 := by decide +kernel
theorem t_Tree_ok : ∀ k, k < 8 → parseFieldDescriptor (F_Tree k).2.2.1 = some (t_Tree k) := by decide +kernel
theorem i_Tree : ∀ w ∈ u_ws R_Tree F_Tree 8, w ∈ tb := by
  refine u_wsIn (fun k hk => ?_)
  match k, hk with
  | 0, _ => exact tm 152 (by decide +kernel) rfl
  | 1, _ => exact tm 154 (by decide +kernel) rfl
  | 2, _ => exact tm 156 (by decide +kernel) rfl
  | 3, _ => exact tm 158 (by decide +kernel) rfl
  | 4, _ => exact tm 160 (by decide +kernel) rfl
  | 5, _ => exact tm 162 (by decide +kernel) rfl
  | 6, _ => exact tm 164 (by decide +kernel) rfl
  | 7, _ => exact tm 166 (by decide +kernel) rfl
  | k + 8, hk => exact absurd hk (by omega)
def R_Beech : String := "FelledByNames$Beech"
def F_Beech : u_T := fun k => match k with
  | 0 => ("FelledByNames$Tree", "kind", "I", true)
  | 1 => ("FelledByNames$Tree", "number", "I", true)
  | 2 => ("FelledByNames$Tree", "m", "I", false)
  | 3 => ("FelledByNames$Tree", "one", "I", false)
  | 4 => ("FelledByNames$Tree", "other", "I", false)
  | 5 => ("FelledByNames$Tree", "place", "I", false)
  | 6 => ("FelledByNames$Tree", "height", "I", false)
  | _ => ("FelledByNames$Tree", "standing", "Z", false)
def t_Beech : Nat → FieldType := fun k => match k with
  | 0 => .int
  | 1 => .int
  | 2 => .int
  | 3 => .int
  | 4 => .int
  | 5 => .int
  | 6 => .int
  | _ => .boolean
theorem n_Beech : ∀ a, a < 8 → ∀ b, b < 8 → a ≠ b → (F_Beech a).2.1 ≠ (F_Beech b).2.1 := by decide +kernel
theorem t_Beech_ok : ∀ k, k < 8 → parseFieldDescriptor (F_Beech k).2.2.1 = some (t_Beech k) := by decide +kernel
theorem i_Beech : ∀ w ∈ u_ws R_Beech F_Beech 8, w ∈ tb := by
  refine u_wsIn (fun k hk => ?_)
  match k, hk with
  | 0, _ => exact tm 518 (by decide +kernel) rfl
  | 1, _ => exact tm 519 (by decide +kernel) rfl
  | 2, _ => exact tm 520 (by decide +kernel) rfl
  | 3, _ => exact tm 521 (by decide +kernel) rfl
  | 4, _ => exact tm 522 (by decide +kernel) rfl
  | 5, _ => exact tm 523 (by decide +kernel) rfl
  | 6, _ => exact tm 524 (by decide +kernel) rfl
  | 7, _ => exact tm 525 (by decide +kernel) rfl
  | k + 8, hk => exact absurd hk (by omega)
def R_Oak : String := "FelledByNames$Oak"
def F_Oak : u_T := fun k => match k with
  | 0 => ("FelledByNames$Tree", "kind", "I", true)
  | 1 => ("FelledByNames$Tree", "number", "I", true)
  | 2 => ("FelledByNames$Tree", "m", "I", false)
  | 3 => ("FelledByNames$Tree", "one", "I", false)
  | 4 => ("FelledByNames$Tree", "other", "I", false)
  | 5 => ("FelledByNames$Tree", "place", "I", false)
  | 6 => ("FelledByNames$Tree", "height", "I", false)
  | _ => ("FelledByNames$Tree", "standing", "Z", false)
def t_Oak : Nat → FieldType := fun k => match k with
  | 0 => .int
  | 1 => .int
  | 2 => .int
  | 3 => .int
  | 4 => .int
  | 5 => .int
  | 6 => .int
  | _ => .boolean
theorem n_Oak : ∀ a, a < 8 → ∀ b, b < 8 → a ≠ b → (F_Oak a).2.1 ≠ (F_Oak b).2.1 := by decide +kernel
theorem t_Oak_ok : ∀ k, k < 8 → parseFieldDescriptor (F_Oak k).2.2.1 = some (t_Oak k) := by decide +kernel
theorem i_Oak : ∀ w ∈ u_ws R_Oak F_Oak 8, w ∈ tb := by
  refine u_wsIn (fun k hk => ?_)
  match k, hk with
  | 0, _ => exact tm 533 (by decide +kernel) rfl
  | 1, _ => exact tm 534 (by decide +kernel) rfl
  | 2, _ => exact tm 535 (by decide +kernel) rfl
  | 3, _ => exact tm 536 (by decide +kernel) rfl
  | 4, _ => exact tm 537 (by decide +kernel) rfl
  | 5, _ => exact tm 538 (by decide +kernel) rfl
  | 6, _ => exact tm 539 (by decide +kernel) rfl
  | 7, _ => exact tm 540 (by decide +kernel) rfl
  | k + 8, hk => exact absurd hk (by omega)
def R_Sapling : String := "FelledByNames$Sapling"
def F_Sapling : u_T := fun k => match k with
  | 0 => ("FelledByNames$Tree", "kind", "I", true)
  | 1 => ("FelledByNames$Tree", "number", "I", true)
  | 2 => ("FelledByNames$Tree", "m", "I", false)
  | 3 => ("FelledByNames$Tree", "one", "I", false)
  | 4 => ("FelledByNames$Tree", "other", "I", false)
  | 5 => ("FelledByNames$Tree", "place", "I", false)
  | 6 => ("FelledByNames$Tree", "height", "I", false)
  | _ => ("FelledByNames$Tree", "standing", "Z", false)
def t_Sapling : Nat → FieldType := fun k => match k with
  | 0 => .int
  | 1 => .int
  | 2 => .int
  | 3 => .int
  | 4 => .int
  | 5 => .int
  | 6 => .int
  | _ => .boolean
theorem n_Sapling : ∀ a, a < 8 → ∀ b, b < 8 → a ≠ b → (F_Sapling a).2.1 ≠ (F_Sapling b).2.1 := by decide +kernel
theorem t_Sapling_ok : ∀ k, k < 8 → parseFieldDescriptor (F_Sapling k).2.2.1 = some (t_Sapling k) := by decide +kernel
theorem i_Sapling : ∀ w ∈ u_ws R_Sapling F_Sapling 8, w ∈ tb := by
  refine u_wsIn (fun k hk => ?_)
  match k, hk with
  | 0, _ => exact tm 548 (by decide +kernel) rfl
  | 1, _ => exact tm 549 (by decide +kernel) rfl
  | 2, _ => exact tm 550 (by decide +kernel) rfl
  | 3, _ => exact tm 551 (by decide +kernel) rfl
  | 4, _ => exact tm 552 (by decide +kernel) rfl
  | 5, _ => exact tm 553 (by decide +kernel) rfl
  | 6, _ => exact tm 554 (by decide +kernel) rfl
  | 7, _ => exact tm 555 (by decide +kernel) rfl
  | k + 8, hk => exact absurd hk (by omega)
def R_Wedged : String := "FelledByNames$Wedged"
def F_Wedged : u_T := fun k => match k with
  | 0 => ("FelledByNames$Tree", "kind", "I", true)
  | 1 => ("FelledByNames$Tree", "number", "I", true)
  | 2 => ("FelledByNames$Tree", "m", "I", false)
  | 3 => ("FelledByNames$Tree", "one", "I", false)
  | 4 => ("FelledByNames$Tree", "other", "I", false)
  | 5 => ("FelledByNames$Tree", "place", "I", false)
  | 6 => ("FelledByNames$Tree", "height", "I", false)
  | _ => ("FelledByNames$Tree", "standing", "Z", false)
def t_Wedged : Nat → FieldType := fun k => match k with
  | 0 => .int
  | 1 => .int
  | 2 => .int
  | 3 => .int
  | 4 => .int
  | 5 => .int
  | 6 => .int
  | _ => .boolean
theorem n_Wedged : ∀ a, a < 8 → ∀ b, b < 8 → a ≠ b → (F_Wedged a).2.1 ≠ (F_Wedged b).2.1 := by decide +kernel
theorem t_Wedged_ok : ∀ k, k < 8 → parseFieldDescriptor (F_Wedged k).2.2.1 = some (t_Wedged k) := by decide +kernel
theorem i_Wedged : ∀ w ∈ u_ws R_Wedged F_Wedged 8, w ∈ tb := by
  refine u_wsIn (fun k hk => ?_)
  match k, hk with
  | 0, _ => exact tm 563 (by decide +kernel) rfl
  | 1, _ => exact tm 564 (by decide +kernel) rfl
  | 2, _ => exact tm 565 (by decide +kernel) rfl
  | 3, _ => exact tm 566 (by decide +kernel) rfl
  | 4, _ => exact tm 567 (by decide +kernel) rfl
  | 5, _ => exact tm 568 (by decide +kernel) rfl
  | 6, _ => exact tm 569 (by decide +kernel) rfl
  | 7, _ => exact tm 570 (by decide +kernel) rfl
  | k + 8, hk => exact absurd hk (by omega)
def R_Hollow : String := "FelledByNames$Hollow"
def F_Hollow : u_T := fun k => match k with
  | 0 => ("FelledByNames$Tree", "kind", "I", true)
  | 1 => ("FelledByNames$Tree", "number", "I", true)
  | 2 => ("FelledByNames$Tree", "m", "I", false)
  | 3 => ("FelledByNames$Tree", "one", "I", false)
  | 4 => ("FelledByNames$Tree", "other", "I", false)
  | 5 => ("FelledByNames$Tree", "place", "I", false)
  | 6 => ("FelledByNames$Tree", "height", "I", false)
  | _ => ("FelledByNames$Tree", "standing", "Z", false)
def t_Hollow : Nat → FieldType := fun k => match k with
  | 0 => .int
  | 1 => .int
  | 2 => .int
  | 3 => .int
  | 4 => .int
  | 5 => .int
  | 6 => .int
  | _ => .boolean
theorem n_Hollow : ∀ a, a < 8 → ∀ b, b < 8 → a ≠ b → (F_Hollow a).2.1 ≠ (F_Hollow b).2.1 := by decide +kernel
theorem t_Hollow_ok : ∀ k, k < 8 → parseFieldDescriptor (F_Hollow k).2.2.1 = some (t_Hollow k) := by decide +kernel
theorem i_Hollow : ∀ w ∈ u_ws R_Hollow F_Hollow 8, w ∈ tb := by
  refine u_wsIn (fun k hk => ?_)
  match k, hk with
  | 0, _ => exact tm 578 (by decide +kernel) rfl
  | 1, _ => exact tm 579 (by decide +kernel) rfl
  | 2, _ => exact tm 580 (by decide +kernel) rfl
  | 3, _ => exact tm 581 (by decide +kernel) rfl
  | 4, _ => exact tm 582 (by decide +kernel) rfl
  | 5, _ => exact tm 583 (by decide +kernel) rfl
  | 6, _ => exact tm 584 (by decide +kernel) rfl
  | 7, _ => exact tm 585 (by decide +kernel) rfl
  | k + 8, hk => exact absurd hk (by omega)
def R_Hill : String := "FelledByNames$Hill"
def F_Hill : u_T := fun k => match k with
  | 0 => ("FelledByNames$Tree", "kind", "I", true)
  | 1 => ("FelledByNames$Tree", "number", "I", true)
  | 2 => ("FelledByNames$Tree", "m", "I", false)
  | 3 => ("FelledByNames$Tree", "one", "I", false)
  | 4 => ("FelledByNames$Tree", "other", "I", false)
  | 5 => ("FelledByNames$Tree", "place", "I", false)
  | 6 => ("FelledByNames$Tree", "height", "I", false)
  | _ => ("FelledByNames$Tree", "standing", "Z", false)
def t_Hill : Nat → FieldType := fun k => match k with
  | 0 => .int
  | 1 => .int
  | 2 => .int
  | 3 => .int
  | 4 => .int
  | 5 => .int
  | 6 => .int
  | _ => .boolean
theorem n_Hill : ∀ a, a < 8 → ∀ b, b < 8 → a ≠ b → (F_Hill a).2.1 ≠ (F_Hill b).2.1 := by decide +kernel
theorem t_Hill_ok : ∀ k, k < 8 → parseFieldDescriptor (F_Hill k).2.2.1 = some (t_Hill k) := by decide +kernel
theorem i_Hill : ∀ w ∈ u_ws R_Hill F_Hill 8, w ∈ tb := by
  refine u_wsIn (fun k hk => ?_)
  match k, hk with
  | 0, _ => exact tm 593 (by decide +kernel) rfl
  | 1, _ => exact tm 594 (by decide +kernel) rfl
  | 2, _ => exact tm 595 (by decide +kernel) rfl
  | 3, _ => exact tm 596 (by decide +kernel) rfl
  | 4, _ => exact tm 597 (by decide +kernel) rfl
  | 5, _ => exact tm 598 (by decide +kernel) rfl
  | 6, _ => exact tm 599 (by decide +kernel) rfl
  | 7, _ => exact tm 600 (by decide +kernel) rfl
  | k + 8, hk => exact absurd hk (by omega)
abbrev cls : List vw_C := [(R_F, F_F, 15), (R_Row, F_Row, 2), (R_Sheet, F_Sheet, 3), (R_Text, F_Text, 11), (R_World, F_World, 14), (R_Mo, F_Mo, 26), (R_Tree, F_Tree, 8), (R_Beech, F_Beech, 8), (R_Oak, F_Oak, 8), (R_Sapling, F_Sapling, 8), (R_Wedged, F_Wedged, 8), (R_Hollow, F_Hollow, 8), (R_Hill, F_Hill, 8)]
