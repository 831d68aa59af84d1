def tN (D : Nat → Int32) (j : Nat) : Nat := (D j).toNatClampNeg
def dc1 (cv : Int32 → Int32 → Int32 → Int32) (D : Nat → Int32) (k : Nat) : Nat → Int32 := fun j => if 8 ≤ j ∧ j < 8 + k ∧ j < 44 ∧ ¬ (j - 8) / 6 = (j - 8) % 6 then hld (D j + cv (D j) (D (44 + (j - 8) / 6) + D (44 + (j - 8) % 6)) (irm (D 1) (nI 7))) (nI 0) (nI 99) else D j
def dg2 (D : Nat → Int32) (k : Nat) : Nat → Int32 := fun j => if 50 ≤ j ∧ (j - 50) / 7 < k ∧ (j - 50) % 7 = 5 ∧ D (50 + 7 * ((j - 50) / 7) + 6) = nI 1 then hld (D j + grw D ((j - 50) / 7)) (nI 0) (nI 99) else D j
def ovr (D : Nat → Int32) (t : Nat) : Bool := decide (D (50 + 7 * t + 6) = nI 1) && decide (D (8 + 6 * tN D (50 + 7 * t + 2) + tN D (50 + 7 * t + 3)) ≤ lim D t) && decide (D (8 + 6 * tN D (50 + 7 * t + 3) + tN D (50 + 7 * t + 2)) ≤ lim D t)
def fst3 (wv : Int32 → Int32 → Int32 → Int32) (N : Nat) : Nat → XX → XX := fun t X => if ovr X.1 t = true then fl wv N 7 t X else X
def dayD (cv wv : Int32 → Int32 → Int32 → Int32) (N : Nat) (D : Nat → Int32) : XX := (upd (itr (fst3 wv N) N (dg2 (dc1 cv D 36) N, [])).1 1 ((itr (fst3 wv N) N (dg2 (dc1 cv D 36) N, [])).1 1 + nI 1), (itr (fst3 wv N) N (dg2 (dc1 cv D 36) N, [])).2)
def dsD (cv wv : Int32 → Int32 → Int32 → Int32) (N n : Nat) (D : Nat → Int32) : XX := itr (fun _ X => ((dayD cv wv N X.1).1, X.2 ++ (dayD cv wv N X.1).2)) n (D, [])
def TS (D : Nat → Int32) (N : Nat) : Prop := ∀ t, t < N → NB D (50 + 7 * t + 0) 6 ∧ NB D (50 + 7 * t + 2) 5 ∧ NB D (50 + 7 * t + 3) 5
theorem TS.same {D D' : Nat → Int32} {N : Nat} (h : TS D N) (he : ∀ t, t < N → D' (50 + 7 * t + 0) = D (50 + 7 * t + 0) ∧ D' (50 + 7 * t + 2) = D (50 + 7 * t + 2) ∧ D' (50 + 7 * t + 3) = D (50 + 7 * t + 3)) : TS D' N := by
  intro t ht
  obtain ⟨e1, e2, e3⟩ := he t ht
  obtain ⟨h1, h2, h3⟩ := h t ht
  unfold NB at *
  rw [e1, e2, e3]
  exact ⟨h1, h2, h3⟩
theorem dc1_x {cv : Int32 → Int32 → Int32 → Int32} {D : Nat → Int32} {k j : Nat} (hj : j < 8 ∨ 8 + k ≤ j ∨ 44 ≤ j) : dc1 cv D k j = D j := by
  unfold dc1
  rw [if_neg (by omega)]
theorem dc1_0 {cv : Int32 → Int32 → Int32 → Int32} {D : Nat → Int32} : dc1 cv D 0 = D := by
  funext j
  exact dc1_x (by omega)
theorem dc1_s {cv : Int32 → Int32 → Int32 → Int32} {D : Nat → Int32} {k : Nat} (hk : k < 36) (hab : ¬ k / 6 = k % 6) : upd (dc1 cv D k) (8 + k) (hld (D (8 + k) + cv (D (8 + k)) (D (44 + k / 6) + D (44 + k % 6)) (irm (D 1) (nI 7))) (nI 0) (nI 99)) = dc1 cv D (k + 1) := by
  funext j
  by_cases hj : j = 8 + k
  · subst hj
    rw [pk_us]
    unfold dc1
    rw [if_pos ⟨by omega, by omega, by omega, by rw [show 8 + k - 8 = k by omega]; exact hab⟩, show 8 + k - 8 = k by omega]
  · rw [pk_un hj]
    unfold dc1
    by_cases hc : 8 ≤ j ∧ j < 8 + k ∧ j < 44 ∧ ¬ (j - 8) / 6 = (j - 8) % 6
    · rw [if_pos hc, if_pos ⟨hc.1, by omega, hc.2.2⟩]
    · rw [if_neg hc, if_neg (fun z => hc ⟨z.1, by omega, z.2.2⟩)]
theorem dc1_e {cv : Int32 → Int32 → Int32 → Int32} {D : Nat → Int32} {k : Nat} (hab : k / 6 = k % 6) : dc1 cv D (k + 1) = dc1 cv D k := by
  funext j
  unfold dc1
  by_cases hc : 8 ≤ j ∧ j < 8 + k ∧ j < 44 ∧ ¬ (j - 8) / 6 = (j - 8) % 6
  · rw [if_pos ⟨hc.1, by omega, hc.2.2⟩, if_pos hc]
  · rw [if_neg hc, if_neg (fun z => hc ⟨z.1, (by
      rcases Nat.lt_or_ge j (8 + k) with h | h
      · exact h
      · exact absurd hab (by have : j - 8 = k := by omega
                             rw [← this]; exact z.2.2.2)), z.2.2⟩)]
theorem dg2_x {D : Nat → Int32} {k j : Nat} (hj : j < 50 ∨ 50 + 7 * k ≤ j ∨ ¬ (j - 50) % 7 = 5) : dg2 D k j = D j := by
  unfold dg2
  rw [if_neg (by omega)]
theorem dg2_0 {D : Nat → Int32} : dg2 D 0 = D := by
  funext j
  exact dg2_x (by omega)
theorem dg2_s {D : Nat → Int32} {k : Nat} (hs : D (50 + 7 * k + 6) = nI 1) : upd (dg2 D k) (50 + 7 * k + 5) (hld (D (50 + 7 * k + 5) + grw D k) (nI 0) (nI 99)) = dg2 D (k + 1) := by
  funext j
  by_cases hj : j = 50 + 7 * k + 5
  · subst hj
    rw [pk_us]
    unfold dg2
    have e : (50 + 7 * k + 5 - 50) / 7 = k := by omega
    rw [if_pos ⟨by omega, by omega, by omega, by rw [e]; exact hs⟩, e]
  · rw [pk_un hj]
    unfold dg2
    by_cases hc : 50 ≤ j ∧ (j - 50) / 7 < k ∧ (j - 50) % 7 = 5 ∧ D (50 + 7 * ((j - 50) / 7) + 6) = nI 1
    · rw [if_pos hc, if_pos ⟨hc.1, by omega, hc.2.2⟩]
    · rw [if_neg hc, if_neg (fun z => hc ⟨z.1, by omega, z.2.2⟩)]
theorem dg2_e {D : Nat → Int32} {k : Nat} (hs : ¬ D (50 + 7 * k + 6) = nI 1) : dg2 D (k + 1) = dg2 D k := by
  funext j
  unfold dg2
  by_cases hc : 50 ≤ j ∧ (j - 50) / 7 < k ∧ (j - 50) % 7 = 5 ∧ D (50 + 7 * ((j - 50) / 7) + 6) = nI 1
  · rw [if_pos hc, if_pos ⟨hc.1, by omega, hc.2.2⟩]
  · rw [if_neg hc, if_neg (fun z => hc ⟨z.1, (by
      rcases Nat.lt_or_ge ((j - 50) / 7) k with h | h
      · exact h
      · exact absurd z.2.2.2 (by rw [show (j - 50) / 7 = k by omega]; exact hs)), z.2.2⟩)]
theorem grw_u {D D' : Nat → Int32} {t : Nat} (h1 : D' 1 = D 1) (h2 : D' (50 + 7 * t + 0) = D (50 + 7 * t + 0)) : grw D' t = grw D t := by
  unfold grw
  rw [h1, h2]
/-- what a fall leaves -/
theorem itf_keep {α : Type} {P : α → Prop} {g : Nat → α → α} (hg : ∀ k x, P x → P (g k x)) : ∀ (m k : Nat) (x : α), P x → P (itf g m k x) := by
  intro m
  induction m with
  | zero => intro k x h; exact h
  | succ m ih => intro k x h; exact ih (k + 1) _ (hg k x h)
theorem fl_keep {wv : Int32 → Int32 → Int32 → Int32} {N j : Nat} (h3 : ¬ j = 3) (h4 : ¬ j = 4) (hj : j < 50 ∨ ¬ (j - 50) % 7 = 6) : ∀ (f t : Nat) (x : XX), (fl wv N f t x).1 j = x.1 j := by
  have hg : ∀ (t : Nat) (x : XX), gdn wv x.1 t j = x.1 j := by
    intro t x
    unfold gdn
    rw [pk_un (by omega), pk_un h3, pk_un h4]
  intro f
  induction f with
  | zero => intro t x; exact hg t x
  | succ f ih =>
    intro t x
    refine (itf_keep (P := fun y : XX => y.1 j = x.1 j) (fun k y hy => ?_) N 0 _ (hg t x))
    show (if cnd y.1 t k = true then fl wv N f k y else y).1 j = x.1 j
    split
    · rw [ih]; exact hy
    · exact hy
theorem fl_keep8 {wv : Int32 → Int32 → Int32 → Int32} {N j : Nat} (hN : N ≤ 8) (hj : 106 ≤ j) : ∀ (f t : Nat) (x : XX), t < N → (fl wv N f t x).1 j = x.1 j := by
  have hg : ∀ (t : Nat) (x : XX), t < N → gdn wv x.1 t j = x.1 j := fun t x ht => gdn_lo (by omega) (by omega)
  intro f
  induction f with
  | zero => intro t x ht; exact hg t x ht
  | succ f ih =>
    intro t x ht
    have key : ∀ (m k : Nat) (y : XX), k + m ≤ N → y.1 j = x.1 j → (itf (fun k y => if cnd y.1 t k = true then fl wv N f k y else y) m k y).1 j = x.1 j := by
      intro m
      induction m with
      | zero => intro k y _ hy; exact hy
      | succ m ihm =>
        intro k y hk hy
        refine ihm (k + 1) _ (by omega) ?_
        show (if cnd y.1 t k = true then fl wv N f k y else y).1 j = x.1 j
        split
        · rw [ih k y (by omega)]; exact hy
        · exact hy
    exact key N 0 _ (by omega) (hg t x ht)
theorem fl_cnt {wv : Int32 → Int32 → Int32 → Int32} {N : Nat} : ∀ (f t : Nat) (x : XX), t < N → x.1 (50 + 7 * t + 6) = nI 1 → (fl wv N f t x).2.length + cst (fl wv N f t x).1 N = x.2.length + cst x.1 N := by
  have hg : ∀ (t : Nat) (x : XX), t < N → x.1 (50 + 7 * t + 6) = nI 1 → (x.2 ++ [t]).length + cst (gdn wv x.1 t) N = x.2.length + cst x.1 N := by
    intro t x ht hs
    have := cst_gdn (wv := wv) hs N
    rw [if_pos ht] at this
    rw [List.length_append]
    show x.2.length + 1 + _ = _
    omega
  intro f
  induction f with
  | zero => intro t x ht hs; exact hg t x ht hs
  | succ f ih =>
    intro t x ht hs
    have key : ∀ (m k : Nat) (y : XX), k + m ≤ N → y.2.length + cst y.1 N = x.2.length + cst x.1 N → (itf (fun k y => if cnd y.1 t k = true then fl wv N f k y else y) m k y).2.length + cst (itf (fun k y => if cnd y.1 t k = true then fl wv N f k y else y) m k y).1 N = x.2.length + cst x.1 N := by
      intro m
      induction m with
      | zero => intro k y _ hy; exact hy
      | succ m ihm =>
        intro k y hk hy
        refine ihm (k + 1) _ (by omega) ?_
        show (if cnd y.1 t k = true then fl wv N f k y else y).2.length + cst (if cnd y.1 t k = true then fl wv N f k y else y).1 N = _
        split
        · next h =>
          have hst : y.1 (50 + 7 * k + 6) = nI 1 := by
            unfold cnd at h
            simp only [Bool.and_eq_true, decide_eq_true_eq] at h
            exact h.1.1
          rw [ih k y (by omega) hst]; exact hy
        · exact hy
    exact key N 0 _ (by omega) (hg t x ht hs)
theorem fl_acc {wv : Int32 → Int32 → Int32 → Int32} {N : Nat} : ∀ (f t : Nat) (D : Nat → Int32) (fs gs : List Nat), fl wv N f t (D, fs ++ gs) = ((fl wv N f t (D, gs)).1, fs ++ (fl wv N f t (D, gs)).2) := by
  intro f
  induction f with
  | zero => intro t D fs gs; show (_, _) = (_, _); rw [List.append_assoc]; rfl
  | succ f ih =>
    intro t D fs gs
    have key : ∀ (m k : Nat) (y : XX), itf (fun k y => if cnd y.1 t k = true then fl wv N f k y else y) m k (y.1, fs ++ y.2) = ((itf (fun k y => if cnd y.1 t k = true then fl wv N f k y else y) m k y).1, fs ++ (itf (fun k y => if cnd y.1 t k = true then fl wv N f k y else y) m k y).2) := by
      intro m
      induction m with
      | zero => intro k y; rfl
      | succ m ihm =>
        intro k y
        show itf (fun k y => if cnd y.1 t k = true then fl wv N f k y else y) m (k + 1) (if cnd y.1 t k = true then fl wv N f k (y.1, fs ++ y.2) else (y.1, fs ++ y.2)) = _
        have e : (if cnd y.1 t k = true then fl wv N f k (y.1, fs ++ y.2) else (y.1, fs ++ y.2)) = ((if cnd y.1 t k = true then fl wv N f k y else y).1, fs ++ (if cnd y.1 t k = true then fl wv N f k y else y).2) := by
          split
          · exact ih k y.1 fs y.2
          · rfl
        rw [e]
        exact ihm (k + 1) _
    have := key N 0 (gdn wv D t, gs ++ [t])
    show itf (fun k y => if cnd y.1 t k = true then fl wv N f k y else y) N 0 (gdn wv D t, fs ++ gs ++ [t]) = _
    rw [List.append_assoc]
    exact this
theorem wrl_cat (f : Nat → Int32) : ∀ (a b : List Nat) (m : Nat), wrl f m (a ++ b) = wrl (wrl f m a) (m + a.length) b := by
  intro a
  induction a generalizing f with
  | nil => intro b m; rfl
  | cons t a ih =>
    intro b m
    show wrl (wrf f m t) (m + 1) (a ++ b) = wrl (wrl (wrf f m t) (m + 1) a) (m + (a.length + 1)) b
    rw [ih (wrf f m t) b (m + 1), show m + 1 + a.length = m + (a.length + 1) by omega]
abbrev M_Mo_dayGoes : MD := (⟨"FelledByNamesModel", "dayGoes", "()V"⟩, prog_14_method_41_code, 4, none, fun _ => True)
theorem d_Mo_dayGoes_0 : decode prog_14_method_41_code 0 = .ok (.iconst 0, 1) := by decide +kernel
theorem d_Mo_dayGoes_1 : decode prog_14_method_41_code 1 = .ok (.istore_n 1, 1) := by decide +kernel
theorem d_Mo_dayGoes_2 : decode prog_14_method_41_code 2 = .ok (.iload_n 1, 1) := by decide +kernel
theorem d_Mo_dayGoes_3 : decode prog_14_method_41_code 3 = .ok (.bipush 36, 2) := by decide +kernel
theorem d_Mo_dayGoes_5 : decode prog_14_method_41_code 5 = .ok (.if_icmp .ge 91, 3) := by decide +kernel
theorem d_Mo_dayGoes_96 : decode prog_14_method_41_code 96 = .ok (.iconst 0, 1) := by decide +kernel
theorem d_Mo_dayGoes_97 : decode prog_14_method_41_code 97 = .ok (.istore_n 1, 1) := by decide +kernel
theorem d_Mo_dayGoes_98 : decode prog_14_method_41_code 98 = .ok (.iload_n 1, 1) := by decide +kernel
theorem d_Mo_dayGoes_99 : decode prog_14_method_41_code 99 = .ok (.aload_n 0, 1) := by decide +kernel
theorem d_Mo_dayGoes_100 : decode prog_14_method_41_code 100 = .ok (.getfield 7, 3) := by decide +kernel
theorem d_Mo_dayGoes_103 : decode prog_14_method_41_code 103 = .ok (.iconst 0, 1) := by decide +kernel
theorem d_Mo_dayGoes_104 : decode prog_14_method_41_code 104 = .ok (.iaload, 1) := by decide +kernel
theorem d_Mo_dayGoes_105 : decode prog_14_method_41_code 105 = .ok (.if_icmp .ge 44, 3) := by decide +kernel
theorem d_Mo_dayGoes_149 : decode prog_14_method_41_code 149 = .ok (.iconst 0, 1) := by decide +kernel
theorem d_Mo_dayGoes_150 : decode prog_14_method_41_code 150 = .ok (.istore_n 1, 1) := by decide +kernel
theorem d_Mo_dayGoes_151 : decode prog_14_method_41_code 151 = .ok (.iload_n 1, 1) := by decide +kernel
theorem d_Mo_dayGoes_152 : decode prog_14_method_41_code 152 = .ok (.aload_n 0, 1) := by decide +kernel
theorem d_Mo_dayGoes_153 : decode prog_14_method_41_code 153 = .ok (.getfield 7, 3) := by decide +kernel
theorem d_Mo_dayGoes_156 : decode prog_14_method_41_code 156 = .ok (.iconst 0, 1) := by decide +kernel
theorem d_Mo_dayGoes_157 : decode prog_14_method_41_code 157 = .ok (.iaload, 1) := by decide +kernel
theorem d_Mo_dayGoes_158 : decode prog_14_method_41_code 158 = .ok (.if_icmp .ge 71, 3) := by decide +kernel
theorem d_Mo_dayGoes_229 : decode prog_14_method_41_code 229 = .ok (.aload_n 0, 1) := by decide +kernel
theorem d_Mo_dayGoes_230 : decode prog_14_method_41_code 230 = .ok (.getfield 7, 3) := by decide +kernel
theorem d_Mo_dayGoes_233 : decode prog_14_method_41_code 233 = .ok (.iconst 1, 1) := by decide +kernel
theorem d_Mo_dayGoes_234 : decode prog_14_method_41_code 234 = .ok (.dup2, 1) := by decide +kernel
theorem d_Mo_dayGoes_235 : decode prog_14_method_41_code 235 = .ok (.iaload, 1) := by decide +kernel
theorem d_Mo_dayGoes_236 : decode prog_14_method_41_code 236 = .ok (.iconst 1, 1) := by decide +kernel
theorem d_Mo_dayGoes_237 : decode prog_14_method_41_code 237 = .ok (.iadd, 1) := by decide +kernel
theorem d_Mo_dayGoes_238 : decode prog_14_method_41_code 238 = .ok (.iastore, 1) := by decide +kernel
theorem d_Mo_dayGoes_239 : decode prog_14_method_41_code 239 = .ok (.return_, 1) := by decide +kernel
theorem d_Mo_dayGoes_161 : decode prog_14_method_41_code 161 = .ok (.aload_n 0, 1) := by decide +kernel
theorem d_Mo_dayGoes_162 : decode prog_14_method_41_code 162 = .ok (.iload_n 1, 1) := by decide +kernel
theorem d_Mo_dayGoes_163 : decode prog_14_method_41_code 163 = .ok (.invokevirtual 177, 3) := by decide +kernel
theorem kB_Mo_limit : kB M_Mo_limit 1 := ⟨tm 15 (by decide +kernel) rfl, tm 1290 (by decide +kernel) rfl, ⟨by decide, by decide, by decide +kernel⟩, by decide⟩
theorem k_Mo_177_Mo_limit_MoV : kV "FelledByNamesModel" 177 5 M_Mo_limit 1 := ⟨kB_Mo_limit, tm 1287 (by decide +kernel) rfl, tm 1289 (by decide +kernel) rfl, tp 33 (by decide +kernel) rfl, _, rfl, rfl⟩
theorem d_Mo_dayGoes_166 : decode prog_14_method_41_code 166 = .ok (.istore_n 2, 1) := by decide +kernel
theorem d_Mo_dayGoes_167 : decode prog_14_method_41_code 167 = .ok (.aload_n 0, 1) := by decide +kernel
theorem d_Mo_dayGoes_168 : decode prog_14_method_41_code 168 = .ok (.iload_n 1, 1) := by decide +kernel
theorem d_Mo_dayGoes_169 : decode prog_14_method_41_code 169 = .ok (.bipush 6, 2) := by decide +kernel
theorem d_Mo_dayGoes_171 : decode prog_14_method_41_code 171 = .ok (.invokevirtual 158, 3) := by decide +kernel
theorem d_Mo_dayGoes_174 : decode prog_14_method_41_code 174 = .ok (.iconst 1, 1) := by decide +kernel
theorem d_Mo_dayGoes_175 : decode prog_14_method_41_code 175 = .ok (.if_icmp .ne 48, 3) := by decide +kernel
theorem d_Mo_dayGoes_223 : decode prog_14_method_41_code 223 = .ok (.iinc 1 1, 3) := by decide +kernel
theorem d_Mo_dayGoes_226 : decode prog_14_method_41_code 226 = .ok (.goto (-75), 3) := by decide +kernel
theorem d_Mo_dayGoes_178 : decode prog_14_method_41_code 178 = .ok (.aload_n 0, 1) := by decide +kernel
theorem d_Mo_dayGoes_179 : decode prog_14_method_41_code 179 = .ok (.aload_n 0, 1) := by decide +kernel
theorem d_Mo_dayGoes_180 : decode prog_14_method_41_code 180 = .ok (.iload_n 1, 1) := by decide +kernel
theorem d_Mo_dayGoes_181 : decode prog_14_method_41_code 181 = .ok (.iconst 2, 1) := by decide +kernel
theorem d_Mo_dayGoes_182 : decode prog_14_method_41_code 182 = .ok (.invokevirtual 158, 3) := by decide +kernel
theorem d_Mo_dayGoes_185 : decode prog_14_method_41_code 185 = .ok (.aload_n 0, 1) := by decide +kernel
theorem d_Mo_dayGoes_186 : decode prog_14_method_41_code 186 = .ok (.iload_n 1, 1) := by decide +kernel
theorem d_Mo_dayGoes_187 : decode prog_14_method_41_code 187 = .ok (.iconst 3, 1) := by decide +kernel
theorem d_Mo_dayGoes_188 : decode prog_14_method_41_code 188 = .ok (.invokevirtual 158, 3) := by decide +kernel
theorem d_Mo_dayGoes_191 : decode prog_14_method_41_code 191 = .ok (.invokevirtual 180, 3) := by decide +kernel
theorem kB_Mo_hold0 : kB M_Mo_hold0 2 := ⟨tm 15 (by decide +kernel) rfl, tm 1243 (by decide +kernel) rfl, ⟨by decide, by decide, by decide +kernel⟩, by decide⟩
theorem k_Mo_180_Mo_hold0_MoV : kV "FelledByNamesModel" 180 5 M_Mo_hold0 2 := ⟨kB_Mo_hold0, tm 1240 (by decide +kernel) rfl, tm 1242 (by decide +kernel) rfl, tp 29 (by decide +kernel) rfl, _, rfl, rfl⟩
theorem d_Mo_dayGoes_194 : decode prog_14_method_41_code 194 = .ok (.iload_n 2, 1) := by decide +kernel
theorem d_Mo_dayGoes_195 : decode prog_14_method_41_code 195 = .ok (.if_icmp .gt 28, 3) := by decide +kernel
theorem d_Mo_dayGoes_198 : decode prog_14_method_41_code 198 = .ok (.aload_n 0, 1) := by decide +kernel
theorem d_Mo_dayGoes_199 : decode prog_14_method_41_code 199 = .ok (.aload_n 0, 1) := by decide +kernel
theorem d_Mo_dayGoes_200 : decode prog_14_method_41_code 200 = .ok (.iload_n 1, 1) := by decide +kernel
theorem d_Mo_dayGoes_201 : decode prog_14_method_41_code 201 = .ok (.iconst 3, 1) := by decide +kernel
theorem d_Mo_dayGoes_202 : decode prog_14_method_41_code 202 = .ok (.invokevirtual 158, 3) := by decide +kernel
theorem d_Mo_dayGoes_205 : decode prog_14_method_41_code 205 = .ok (.aload_n 0, 1) := by decide +kernel
theorem d_Mo_dayGoes_206 : decode prog_14_method_41_code 206 = .ok (.iload_n 1, 1) := by decide +kernel
theorem d_Mo_dayGoes_207 : decode prog_14_method_41_code 207 = .ok (.iconst 2, 1) := by decide +kernel
theorem d_Mo_dayGoes_208 : decode prog_14_method_41_code 208 = .ok (.invokevirtual 158, 3) := by decide +kernel
theorem d_Mo_dayGoes_211 : decode prog_14_method_41_code 211 = .ok (.invokevirtual 180, 3) := by decide +kernel
theorem d_Mo_dayGoes_214 : decode prog_14_method_41_code 214 = .ok (.iload_n 2, 1) := by decide +kernel
theorem d_Mo_dayGoes_215 : decode prog_14_method_41_code 215 = .ok (.if_icmp .gt 8, 3) := by decide +kernel
theorem d_Mo_dayGoes_218 : decode prog_14_method_41_code 218 = .ok (.aload_n 0, 1) := by decide +kernel
theorem d_Mo_dayGoes_219 : decode prog_14_method_41_code 219 = .ok (.iload_n 1, 1) := by decide +kernel
theorem d_Mo_dayGoes_220 : decode prog_14_method_41_code 220 = .ok (.invokevirtual 183, 3) := by decide +kernel
theorem kB_Mo_falls : kB M_Mo_falls 1 := ⟨tm 15 (by decide +kernel) rfl, tm 1331 (by decide +kernel) rfl, ⟨by decide, by decide, by decide +kernel⟩, by decide⟩
theorem k_Mo_183_Mo_falls_MoV : kV "FelledByNamesModel" 183 5 M_Mo_falls 1 := ⟨kB_Mo_falls, tm 1328 (by decide +kernel) rfl, tm 1330 (by decide +kernel) rfl, tp 38 (by decide +kernel) rfl, _, rfl, rfl⟩
theorem d_Mo_dayGoes_108 : decode prog_14_method_41_code 108 = .ok (.aload_n 0, 1) := by decide +kernel
theorem d_Mo_dayGoes_109 : decode prog_14_method_41_code 109 = .ok (.iload_n 1, 1) := by decide +kernel
theorem d_Mo_dayGoes_110 : decode prog_14_method_41_code 110 = .ok (.bipush 6, 2) := by decide +kernel
theorem d_Mo_dayGoes_112 : decode prog_14_method_41_code 112 = .ok (.invokevirtual 158, 3) := by decide +kernel
theorem d_Mo_dayGoes_115 : decode prog_14_method_41_code 115 = .ok (.iconst 1, 1) := by decide +kernel
theorem d_Mo_dayGoes_116 : decode prog_14_method_41_code 116 = .ok (.if_icmp .ne 27, 3) := by decide +kernel
theorem d_Mo_dayGoes_143 : decode prog_14_method_41_code 143 = .ok (.iinc 1 1, 3) := by decide +kernel
theorem d_Mo_dayGoes_146 : decode prog_14_method_41_code 146 = .ok (.goto (-48), 3) := by decide +kernel
theorem d_Mo_dayGoes_119 : decode prog_14_method_41_code 119 = .ok (.aload_n 0, 1) := by decide +kernel
theorem d_Mo_dayGoes_120 : decode prog_14_method_41_code 120 = .ok (.iload_n 1, 1) := by decide +kernel
theorem d_Mo_dayGoes_121 : decode prog_14_method_41_code 121 = .ok (.iconst 5, 1) := by decide +kernel
theorem d_Mo_dayGoes_122 : decode prog_14_method_41_code 122 = .ok (.aload_n 0, 1) := by decide +kernel
theorem d_Mo_dayGoes_123 : decode prog_14_method_41_code 123 = .ok (.iload_n 1, 1) := by decide +kernel
theorem d_Mo_dayGoes_124 : decode prog_14_method_41_code 124 = .ok (.iconst 5, 1) := by decide +kernel
theorem d_Mo_dayGoes_125 : decode prog_14_method_41_code 125 = .ok (.invokevirtual 158, 3) := by decide +kernel
theorem d_Mo_dayGoes_128 : decode prog_14_method_41_code 128 = .ok (.aload_n 0, 1) := by decide +kernel
theorem d_Mo_dayGoes_129 : decode prog_14_method_41_code 129 = .ok (.iload_n 1, 1) := by decide +kernel
theorem d_Mo_dayGoes_130 : decode prog_14_method_41_code 130 = .ok (.invokevirtual 174, 3) := by decide +kernel
theorem kB_Mo_grows : kB M_Mo_grows 1 := ⟨tm 15 (by decide +kernel) rfl, tm 1327 (by decide +kernel) rfl, ⟨by decide, by decide, by decide +kernel⟩, by decide⟩
theorem k_Mo_174_Mo_grows_MoV : kV "FelledByNamesModel" 174 5 M_Mo_grows 1 := ⟨kB_Mo_grows, tm 1324 (by decide +kernel) rfl, tm 1326 (by decide +kernel) rfl, tp 37 (by decide +kernel) rfl, _, rfl, rfl⟩
theorem d_Mo_dayGoes_133 : decode prog_14_method_41_code 133 = .ok (.iadd, 1) := by decide +kernel
theorem d_Mo_dayGoes_134 : decode prog_14_method_41_code 134 = .ok (.iconst 0, 1) := by decide +kernel
theorem d_Mo_dayGoes_135 : decode prog_14_method_41_code 135 = .ok (.bipush 99, 2) := by decide +kernel
theorem d_Mo_dayGoes_137 : decode prog_14_method_41_code 137 = .ok (.invokestatic 151, 3) := by decide +kernel
theorem d_Mo_dayGoes_140 : decode prog_14_method_41_code 140 = .ok (.invokevirtual 165, 3) := by decide +kernel
theorem d_Mo_dayGoes_8 : decode prog_14_method_41_code 8 = .ok (.iload_n 1, 1) := by decide +kernel
theorem d_Mo_dayGoes_9 : decode prog_14_method_41_code 9 = .ok (.bipush 6, 2) := by decide +kernel
theorem d_Mo_dayGoes_11 : decode prog_14_method_41_code 11 = .ok (.idiv, 1) := by decide +kernel
theorem d_Mo_dayGoes_12 : decode prog_14_method_41_code 12 = .ok (.istore_n 2, 1) := by decide +kernel
theorem d_Mo_dayGoes_13 : decode prog_14_method_41_code 13 = .ok (.iload_n 1, 1) := by decide +kernel
theorem d_Mo_dayGoes_14 : decode prog_14_method_41_code 14 = .ok (.bipush 6, 2) := by decide +kernel
theorem d_Mo_dayGoes_16 : decode prog_14_method_41_code 16 = .ok (.irem, 1) := by decide +kernel
theorem d_Mo_dayGoes_17 : decode prog_14_method_41_code 17 = .ok (.istore_n 3, 1) := by decide +kernel
theorem d_Mo_dayGoes_18 : decode prog_14_method_41_code 18 = .ok (.iload_n 2, 1) := by decide +kernel
theorem d_Mo_dayGoes_19 : decode prog_14_method_41_code 19 = .ok (.iload_n 3, 1) := by decide +kernel
theorem d_Mo_dayGoes_20 : decode prog_14_method_41_code 20 = .ok (.if_icmp .eq 70, 3) := by decide +kernel
theorem d_Mo_dayGoes_90 : decode prog_14_method_41_code 90 = .ok (.iinc 1 1, 3) := by decide +kernel
theorem d_Mo_dayGoes_93 : decode prog_14_method_41_code 93 = .ok (.goto (-91), 3) := by decide +kernel
theorem d_Mo_dayGoes_23 : decode prog_14_method_41_code 23 = .ok (.aload_n 0, 1) := by decide +kernel
theorem d_Mo_dayGoes_24 : decode prog_14_method_41_code 24 = .ok (.getfield 7, 3) := by decide +kernel
theorem d_Mo_dayGoes_27 : decode prog_14_method_41_code 27 = .ok (.bipush 8, 2) := by decide +kernel
theorem d_Mo_dayGoes_29 : decode prog_14_method_41_code 29 = .ok (.iload_n 1, 1) := by decide +kernel
theorem d_Mo_dayGoes_30 : decode prog_14_method_41_code 30 = .ok (.iadd, 1) := by decide +kernel
theorem d_Mo_dayGoes_31 : decode prog_14_method_41_code 31 = .ok (.aload_n 0, 1) := by decide +kernel
theorem d_Mo_dayGoes_32 : decode prog_14_method_41_code 32 = .ok (.getfield 7, 3) := by decide +kernel
theorem d_Mo_dayGoes_35 : decode prog_14_method_41_code 35 = .ok (.bipush 8, 2) := by decide +kernel
theorem d_Mo_dayGoes_37 : decode prog_14_method_41_code 37 = .ok (.iload_n 1, 1) := by decide +kernel
theorem d_Mo_dayGoes_38 : decode prog_14_method_41_code 38 = .ok (.iadd, 1) := by decide +kernel
theorem d_Mo_dayGoes_39 : decode prog_14_method_41_code 39 = .ok (.iaload, 1) := by decide +kernel
theorem d_Mo_dayGoes_40 : decode prog_14_method_41_code 40 = .ok (.aload_n 0, 1) := by decide +kernel
theorem d_Mo_dayGoes_41 : decode prog_14_method_41_code 41 = .ok (.iconst 0, 1) := by decide +kernel
theorem d_Mo_dayGoes_42 : decode prog_14_method_41_code 42 = .ok (.aload_n 0, 1) := by decide +kernel
theorem d_Mo_dayGoes_43 : decode prog_14_method_41_code 43 = .ok (.getfield 7, 3) := by decide +kernel
theorem d_Mo_dayGoes_46 : decode prog_14_method_41_code 46 = .ok (.bipush 8, 2) := by decide +kernel
theorem d_Mo_dayGoes_48 : decode prog_14_method_41_code 48 = .ok (.iload_n 1, 1) := by decide +kernel
theorem d_Mo_dayGoes_49 : decode prog_14_method_41_code 49 = .ok (.iadd, 1) := by decide +kernel
theorem d_Mo_dayGoes_50 : decode prog_14_method_41_code 50 = .ok (.iaload, 1) := by decide +kernel
theorem d_Mo_dayGoes_51 : decode prog_14_method_41_code 51 = .ok (.aload_n 0, 1) := by decide +kernel
theorem d_Mo_dayGoes_52 : decode prog_14_method_41_code 52 = .ok (.getfield 7, 3) := by decide +kernel
theorem d_Mo_dayGoes_55 : decode prog_14_method_41_code 55 = .ok (.bipush 44, 2) := by decide +kernel
theorem d_Mo_dayGoes_57 : decode prog_14_method_41_code 57 = .ok (.iload_n 2, 1) := by decide +kernel
theorem d_Mo_dayGoes_58 : decode prog_14_method_41_code 58 = .ok (.iadd, 1) := by decide +kernel
theorem d_Mo_dayGoes_59 : decode prog_14_method_41_code 59 = .ok (.iaload, 1) := by decide +kernel
theorem d_Mo_dayGoes_60 : decode prog_14_method_41_code 60 = .ok (.aload_n 0, 1) := by decide +kernel
theorem d_Mo_dayGoes_61 : decode prog_14_method_41_code 61 = .ok (.getfield 7, 3) := by decide +kernel
theorem d_Mo_dayGoes_64 : decode prog_14_method_41_code 64 = .ok (.bipush 44, 2) := by decide +kernel
theorem d_Mo_dayGoes_66 : decode prog_14_method_41_code 66 = .ok (.iload_n 3, 1) := by decide +kernel
theorem d_Mo_dayGoes_67 : decode prog_14_method_41_code 67 = .ok (.iadd, 1) := by decide +kernel
theorem d_Mo_dayGoes_68 : decode prog_14_method_41_code 68 = .ok (.iaload, 1) := by decide +kernel
theorem d_Mo_dayGoes_69 : decode prog_14_method_41_code 69 = .ok (.iadd, 1) := by decide +kernel
theorem d_Mo_dayGoes_70 : decode prog_14_method_41_code 70 = .ok (.aload_n 0, 1) := by decide +kernel
theorem d_Mo_dayGoes_71 : decode prog_14_method_41_code 71 = .ok (.getfield 7, 3) := by decide +kernel
theorem d_Mo_dayGoes_74 : decode prog_14_method_41_code 74 = .ok (.iconst 1, 1) := by decide +kernel
theorem d_Mo_dayGoes_75 : decode prog_14_method_41_code 75 = .ok (.iaload, 1) := by decide +kernel
theorem d_Mo_dayGoes_76 : decode prog_14_method_41_code 76 = .ok (.bipush 7, 2) := by decide +kernel
theorem d_Mo_dayGoes_78 : decode prog_14_method_41_code 78 = .ok (.irem, 1) := by decide +kernel
theorem d_Mo_dayGoes_79 : decode prog_14_method_41_code 79 = .ok (.invokevirtual 154, 3) := by decide +kernel
theorem d_Mo_dayGoes_82 : decode prog_14_method_41_code 82 = .ok (.iadd, 1) := by decide +kernel
theorem d_Mo_dayGoes_83 : decode prog_14_method_41_code 83 = .ok (.iconst 0, 1) := by decide +kernel
theorem d_Mo_dayGoes_84 : decode prog_14_method_41_code 84 = .ok (.bipush 99, 2) := by decide +kernel
theorem d_Mo_dayGoes_86 : decode prog_14_method_41_code 86 = .ok (.invokestatic 151, 3) := by decide +kernel
theorem d_Mo_dayGoes_89 : decode prog_14_method_41_code 89 = .ok (.iastore, 1) := by decide +kernel
set_option maxRecDepth 100000 in
theorem c_Mo_dayGoes {N fm len0 len1 : Nat} {W0 W1 : Nat → Nat} {l : Launch} {d q n : Nat} {D : Nat → Int32} {A : Nat → Nat → Int32} {S : Nat → Int32} {h0 : HP} {Q : QT} (hN : N ≤ 8) (e0 : D 0 = nI N) (hT : TS D N) (hC0 : Cd D 0 W0 len0) (hC1 : Cd D 1 W1 len1) (hf : fm < 2 ^ 28) (ef : S 18 = nI fm) (hQ : ∀ (A1 : Nat → Nat → Int32), (∀ j, j ≠ 4 → j ≠ 6 → j ≠ 7 → j ≠ 8 → j ≠ 9 → A1 j = A j) → A1 9 = wrl (A 9) fm (dayD (tgv 0 W0 len0) (tgv 1 W1 len1) N D).2 → Q none n (mo q (dayD (tgv 0 W0 len0) (tgv 1 W1 len1) N D).1 A1 (uS S 18 (nI (fm + (dayD (tgv 0 W0 len0) (tgv 1 W1 len1) N D).2.length))) h0)) : Ct l M_Mo_dayGoes (d + 5) 0 0 [.ref q] n (mo q D A S h0) Q := by
  refine Ct.of (fun _ => trivial) (by decide) (Nat.le_of_ble_eq_true rfl) ?_
  refine V.iconst_ (nI 0) d_Mo_dayGoes_0 (by decide +kernel) ?_
  refine V.istore_n d_Mo_dayGoes_1 (by decide) ?_
  refine V.eqH (h' := mo q (dc1 (tgv 0 W0 len0) D 0) A S h0) (by rw [dc1_0]) ?_
  refine V.lc (ls' := [(0, .ref q), (1, .int (nI 0))]) rfl ?_
  refine up_to (G := fun k => ∀ A1 : Nat → Nat → Int32, (∀ j, j ≠ 4 → j ≠ 6 → A1 j = A j) → V l M_Mo_dayGoes (d + 5) 0 0 2 [(0, .ref q), (1, .int (nI k))] [] n (mo q (dc1 (tgv 0 W0 len0) D k) A1 S h0) 0 0 Q) (36) ?_ (fun k hk hn => ?_) 0 (by omega) A (fun _ _ _ => rfl)
  · skip
    intro A1 hA1
    refine V.iload_n d_Mo_dayGoes_2 rfl ?_
    refine V.bipush_ (nI 36) d_Mo_dayGoes_3 (by decide +kernel) ?_
    refine V.geN (tgt := 96) d_Mo_dayGoes_5 (by decide) (by omega) (by omega) (fun c_5 => ?_) (fun c_5 => ?_)
    · skip
      refine V.iconst_ (nI 0) d_Mo_dayGoes_96 (by decide +kernel) ?_
      refine V.istore_n d_Mo_dayGoes_97 (by decide) ?_
      have hT1 : TS (dc1 (tgv 0 W0 len0) D 36) N := hT.same (fun t ht => ⟨dc1_x (by omega), dc1_x (by omega), dc1_x (by omega)⟩)
      generalize hD1 : dc1 (tgv 0 W0 len0) D 36 = D1 at hT1 ⊢
      have e01 : D1 0 = nI N := by rw [← hD1, dc1_x (by omega)]; exact e0
      refine V.eqH (h' := mo q (dg2 D1 0) A1 S h0) (by rw [dg2_0]) ?_
      refine V.lc (ls' := [(0, .ref q), (1, .int (nI 0))]) rfl ?_
      refine up_to (G := fun k => V l M_Mo_dayGoes (d + 5) 0 0 98 [(0, .ref q), (1, .int (nI k))] [] n (mo q (dg2 D1 k) A1 S h0) 0 0 Q) (N) ?_ (fun k hk hn => ?_) 0 (by omega)
      · skip
        refine V.iload_n d_Mo_dayGoes_98 rfl ?_
        refine V.aload_n d_Mo_dayGoes_99 rfl ?_
        refine V.get d_Mo_dayGoes_100 f_Mo_7_Mo mo_o rfl ?_
        refine V.iconst_ (nI 0) d_Mo_dayGoes_103 (by decide +kernel) ?_
        refine V.mldd d_Mo_dayGoes_104 (by omega) ?_
        refine V.top (show _ = nI N by rw [dg2_x (by omega)]; exact e01) ?_
        refine V.geN (tgt := 149) d_Mo_dayGoes_105 (by decide) (by omega) (by omega) (fun c_105 => ?_) (fun c_105 => ?_)
        · skip
          refine V.iconst_ (nI 0) d_Mo_dayGoes_149 (by decide +kernel) ?_
          refine V.istore_n d_Mo_dayGoes_150 (by decide) ?_
          have hT2 : TS (dg2 D1 N) N := hT1.same (fun t ht => ⟨dg2_x (by omega), dg2_x (by omega), dg2_x (by omega)⟩)
          have e02 : dg2 D1 N 0 = nI N := by rw [dg2_x (by omega)]; exact e01
          have hC2 : Cd (dg2 D1 N) 1 W1 len1 := hC1.same (fun j hj => by rw [dg2_x (by omega), ← hD1, dc1_x (by omega)])
          have hcl := cst_le (D := dg2 D1 N) N
          refine V.eqH (h' := mo q (itr (fst3 (tgv 1 W1 len1) N) 0 (dg2 D1 N, [])).1 A1 (uS S 18 (nI (fm + (itr (fst3 (tgv 1 W1 len1) N) 0 (dg2 D1 N, [])).2.length))) h0) (by show mo q (dg2 D1 N) A1 S h0 = mo q (dg2 D1 N) A1 (uS S 18 (nI (fm + 0))) h0; rw [Nat.add_zero, ← ef]; congr 1; funext j; unfold uS; split <;> simp_all) ?_
          refine V.lc (ls' := [(0, .ref q), (1, .int (nI 0))]) rfl ?_
          refine up_to (G := fun k => ∀ A2 : Nat → Nat → Int32, (∀ j, j ≠ 4 → j ≠ 6 → j ≠ 7 → j ≠ 8 → j ≠ 9 → A2 j = A j) → A2 9 = wrl (A 9) fm (itr (fst3 (tgv 1 W1 len1) N) k (dg2 D1 N, [])).2 → ((itr (fst3 (tgv 1 W1 len1) N) k (dg2 D1 N, [])).1 0 = nI N ∧ TS (itr (fst3 (tgv 1 W1 len1) N) k (dg2 D1 N, [])).1 N ∧ Cd (itr (fst3 (tgv 1 W1 len1) N) k (dg2 D1 N, [])).1 1 W1 len1 ∧ (itr (fst3 (tgv 1 W1 len1) N) k (dg2 D1 N, [])).2.length + cst (itr (fst3 (tgv 1 W1 len1) N) k (dg2 D1 N, [])).1 N ≤ 8) → V l M_Mo_dayGoes (d + 5) 0 0 151 [(0, .ref q), (1, .int (nI k))] [] n (mo q (itr (fst3 (tgv 1 W1 len1) N) k (dg2 D1 N, [])).1 A2 (uS S 18 (nI (fm + (itr (fst3 (tgv 1 W1 len1) N) k (dg2 D1 N, [])).2.length))) h0) 0 0 Q) (N) ?_ (fun k hk hn => ?_) 0 (by omega) A1 (fun j h1 h2 h3 h4 h5 => hA1 j h1 h2) (hA1 9 (by decide) (by decide)) ⟨e02, hT2, hC2, by show 0 + cst (dg2 D1 N) N ≤ 8; omega⟩
          · skip
            intro A2 hA2 hA9 hX
            obtain ⟨hX0, hXT, hXC, hXL⟩ := hX
            refine V.iload_n d_Mo_dayGoes_151 rfl ?_
            refine V.aload_n d_Mo_dayGoes_152 rfl ?_
            refine V.get d_Mo_dayGoes_153 f_Mo_7_Mo mo_o rfl ?_
            refine V.iconst_ (nI 0) d_Mo_dayGoes_156 (by decide +kernel) ?_
            refine V.mldd d_Mo_dayGoes_157 (by omega) ?_
            refine V.top hX0 ?_
            refine V.geN (tgt := 229) d_Mo_dayGoes_158 (by decide) (by omega) (by omega) (fun c_158 => ?_) (fun c_158 => ?_)
            · skip
              refine V.aload_n d_Mo_dayGoes_229 rfl ?_
              refine V.get d_Mo_dayGoes_230 f_Mo_7_Mo mo_o rfl ?_
              refine V.iconst_ (nI 1) d_Mo_dayGoes_233 (by decide +kernel) ?_
              refine V.dup2 rfl rfl d_Mo_dayGoes_234 ?_
              refine V.mldd d_Mo_dayGoes_235 (by omega) ?_
              refine V.iconst_ (nI 1) d_Mo_dayGoes_236 (by decide +kernel) ?_
              refine V.iadd d_Mo_dayGoes_237 ?_
              refine V.mstd d_Mo_dayGoes_238 (by omega) ?_
              refine V.vret d_Mo_dayGoes_239 rfl (Nat.le_of_ble_eq_true rfl) (Nat.le_of_ble_eq_true rfl) ?_
              subst hD1
              exact hQ A2 hA2 hA9
            · skip
              exact absurd c_158 (by omega)
          · skip
            intro A2 hA2 hA9 hX
            obtain ⟨hX0, hXT, hXC, hXL⟩ := hX
            obtain ⟨ka, hka, eka⟩ := (hXT k hk).2.1
            obtain ⟨kb, hkb, ekb⟩ := (hXT k hk).2.2
            have eS : itr (fst3 (tgv 1 W1 len1) N) (k + 1) (dg2 D1 N, []) = fst3 (tgv 1 W1 len1) N k (itr (fst3 (tgv 1 W1 len1) N) k (dg2 D1 N, [])) := rfl
            rw [eS] at hn
            generalize hXX : (itr (fst3 (tgv 1 W1 len1) N) k (dg2 D1 N, [])) = X at *
            have hta : tN X.1 (50 + 7 * k + 2) = ka := by unfold tN; rw [eka]; exact nI_clamp (by omega)
            have htb : tN X.1 (50 + 7 * k + 3) = kb := by unfold tN; rw [ekb]; exact nI_clamp (by omega)
            refine V.iload_n d_Mo_dayGoes_151 rfl ?_
            refine V.aload_n d_Mo_dayGoes_152 rfl ?_
            refine V.get d_Mo_dayGoes_153 f_Mo_7_Mo mo_o rfl ?_
            refine V.iconst_ (nI 0) d_Mo_dayGoes_156 (by decide +kernel) ?_
            refine V.mldd d_Mo_dayGoes_157 (by omega) ?_
            refine V.top hX0 ?_
            refine V.geN (tgt := 229) d_Mo_dayGoes_158 (by decide) (by omega) (by omega) (fun c_158 => ?_) (fun c_158 => ?_)
            · skip
              exact absurd c_158 (by omega)
            · skip
              refine V.aload_n d_Mo_dayGoes_161 rfl ?_
              refine V.iload_n d_Mo_dayGoes_162 rfl ?_
              refine V.callV1 d_Mo_dayGoes_163 k_Mo_177_Mo_limit_MoV mo_o (Nat.le_of_ble_eq_true rfl) (by omega) (by omega) (c_Mo_limit (by omega) ((hXT k hk).1) ?_)
              refine V.istore_n d_Mo_dayGoes_166 (by decide) ?_
              refine V.aload_n d_Mo_dayGoes_167 rfl ?_
              refine V.iload_n d_Mo_dayGoes_168 rfl ?_
              refine V.bipush_ (nI 6) d_Mo_dayGoes_169 (by decide +kernel) ?_
              refine V.callV2 d_Mo_dayGoes_171 k_Mo_158_Mo_of_MoV mo_o (Nat.le_of_ble_eq_true rfl) (by omega) (by omega) (c_Mo_of (by omega) ?_)
              refine V.iconst_ (nI 1) d_Mo_dayGoes_174 (by decide +kernel) ?_
              refine V.icmp_ne (tgt := 223) d_Mo_dayGoes_175 (by decide) (fun c_175 => ?_) (fun c_175 => ?_)
              · skip
                refine V.incN d_Mo_dayGoes_223 rfl (by decide) ?_
                refine V.goto (tgt := 151) d_Mo_dayGoes_226 (by decide) ?_
                first
                | (have hov : ovr X.1 k = false := by
                     unfold ovr
                     rw [hta, htb]
                     first
                     | (rw [decide_eq_false c_175]; rfl)
                     | (rw [decide_eq_false (Int32.not_le.mpr c_195), Bool.and_false]; rfl)
                     | (rw [decide_eq_false (Int32.not_le.mpr c_215), Bool.and_false])
                   have e3 : fst3 (tgv 1 W1 len1) N k X = X := by unfold fst3; rw [if_neg (by rw [hov]; decide)]
                   rw [e3] at hn
                   exact V.lc rfl (hn A2 hA2 hA9 ⟨hX0, hXT, hXC, hXL⟩))
                | (have hov : ovr X.1 k = true := by
                     unfold ovr
                     rw [hta, htb, decide_eq_true c_175, decide_eq_true (Int32.not_lt.mp c_195), decide_eq_true (Int32.not_lt.mp c_215)]
                     rfl
                   have e3 : fst3 (tgv 1 W1 len1) N k X = ((fl (tgv 1 W1 len1) N 7 k (X.1, [])).1, X.2 ++ (fl (tgv 1 W1 len1) N 7 k (X.1, [])).2) := by
                     unfold fst3; rw [if_pos hov]
                     exact (fl_acc 7 k X.1 X.2 []).symm ▸ by rw [List.append_nil]
                   rw [e3] at hn
                   have hcn := fl_cnt (wv := (tgv 1 W1 len1)) (N := N) 7 k (X.1, []) hk c_175
                   refine V.lc (ls' := [(0, .ref q), (1, .int (nI (k + 1)))]) rfl ?_
                   refine V.eqH ?_ (hn A3 ?_ ?_ ⟨?_, ?_, ?_, ?_⟩)
                   · rw [uS_uu, List.length_append, Nat.add_assoc]
                   · intro j h1 h2 h3 h4 h5; rw [hA3 j h1 h2 h3 h4 h5]; exact hA2 j h1 h2 h3 h4 h5
                   · rw [hA93, hA9, wrl_cat]
                   · show (fl (tgv 1 W1 len1) N 7 k (X.1, [])).1 0 = nI N
                     rw [fl_keep (by decide) (by decide) (by omega)]; exact hX0
                   · exact hXT.same (fun t ht => ⟨fl_keep (by omega) (by omega) (by omega) _ _ _, fl_keep (by omega) (by omega) (by omega) _ _ _, fl_keep (by omega) (by omega) (by omega) _ _ _⟩)
                   · exact hXC.same (fun j hj => fl_keep8 hN hj _ _ _ hk)
                   · show (X.2 ++ (fl (tgv 1 W1 len1) N 7 k (X.1, [])).2).length + cst (fl (tgv 1 W1 len1) N 7 k (X.1, [])).1 N ≤ 8
                     rw [List.length_append]
                     have hcn' : (fl (tgv 1 W1 len1) N 7 k (X.1, [])).2.length + cst (fl (tgv 1 W1 len1) N 7 k (X.1, [])).1 N = 0 + cst X.1 N := hcn
                     omega)
              · skip
                refine V.aload_n d_Mo_dayGoes_178 rfl ?_
                refine V.aload_n d_Mo_dayGoes_179 rfl ?_
                refine V.iload_n d_Mo_dayGoes_180 rfl ?_
                refine V.iconst_ (nI 2) d_Mo_dayGoes_181 (by decide +kernel) ?_
                refine V.callV2 d_Mo_dayGoes_182 k_Mo_158_Mo_of_MoV mo_o (Nat.le_of_ble_eq_true rfl) (by omega) (by omega) (c_Mo_of (by omega) ?_)
                refine V.top eka ?_
                refine V.aload_n d_Mo_dayGoes_185 rfl ?_
                refine V.iload_n d_Mo_dayGoes_186 rfl ?_
                refine V.iconst_ (nI 3) d_Mo_dayGoes_187 (by decide +kernel) ?_
                refine V.callV2 d_Mo_dayGoes_188 k_Mo_158_Mo_of_MoV mo_o (Nat.le_of_ble_eq_true rfl) (by omega) (by omega) (c_Mo_of (by omega) ?_)
                refine V.top ekb ?_
                refine V.callV2 d_Mo_dayGoes_191 k_Mo_180_Mo_hold0_MoV mo_o (Nat.le_of_ble_eq_true rfl) (by omega) (by omega) (c_Mo_hold0 (by omega) ?_)
                refine V.iload_n d_Mo_dayGoes_194 rfl ?_
                refine V.icmp_gt (tgt := 223) d_Mo_dayGoes_195 (by decide) (fun c_195 => ?_) (fun c_195 => ?_)
                · skip
                  refine V.incN d_Mo_dayGoes_223 rfl (by decide) ?_
                  refine V.goto (tgt := 151) d_Mo_dayGoes_226 (by decide) ?_
                  first
                  | (have hov : ovr X.1 k = false := by
                       unfold ovr
                       rw [hta, htb]
                       first
                       | (rw [decide_eq_false c_175]; rfl)
                       | (rw [decide_eq_false (Int32.not_le.mpr c_195), Bool.and_false]; rfl)
                       | (rw [decide_eq_false (Int32.not_le.mpr c_215), Bool.and_false])
                     have e3 : fst3 (tgv 1 W1 len1) N k X = X := by unfold fst3; rw [if_neg (by rw [hov]; decide)]
                     rw [e3] at hn
                     exact V.lc rfl (hn A2 hA2 hA9 ⟨hX0, hXT, hXC, hXL⟩))
                  | (have hov : ovr X.1 k = true := by
                       unfold ovr
                       rw [hta, htb, decide_eq_true c_175, decide_eq_true (Int32.not_lt.mp c_195), decide_eq_true (Int32.not_lt.mp c_215)]
                       rfl
                     have e3 : fst3 (tgv 1 W1 len1) N k X = ((fl (tgv 1 W1 len1) N 7 k (X.1, [])).1, X.2 ++ (fl (tgv 1 W1 len1) N 7 k (X.1, [])).2) := by
                       unfold fst3; rw [if_pos hov]
                       exact (fl_acc 7 k X.1 X.2 []).symm ▸ by rw [List.append_nil]
                     rw [e3] at hn
                     have hcn := fl_cnt (wv := (tgv 1 W1 len1)) (N := N) 7 k (X.1, []) hk c_175
                     refine V.lc (ls' := [(0, .ref q), (1, .int (nI (k + 1)))]) rfl ?_
                     refine V.eqH ?_ (hn A3 ?_ ?_ ⟨?_, ?_, ?_, ?_⟩)
                     · rw [uS_uu, List.length_append, Nat.add_assoc]
                     · intro j h1 h2 h3 h4 h5; rw [hA3 j h1 h2 h3 h4 h5]; exact hA2 j h1 h2 h3 h4 h5
                     · rw [hA93, hA9, wrl_cat]
                     · show (fl (tgv 1 W1 len1) N 7 k (X.1, [])).1 0 = nI N
                       rw [fl_keep (by decide) (by decide) (by omega)]; exact hX0
                     · exact hXT.same (fun t ht => ⟨fl_keep (by omega) (by omega) (by omega) _ _ _, fl_keep (by omega) (by omega) (by omega) _ _ _, fl_keep (by omega) (by omega) (by omega) _ _ _⟩)
                     · exact hXC.same (fun j hj => fl_keep8 hN hj _ _ _ hk)
                     · show (X.2 ++ (fl (tgv 1 W1 len1) N 7 k (X.1, [])).2).length + cst (fl (tgv 1 W1 len1) N 7 k (X.1, [])).1 N ≤ 8
                       rw [List.length_append]
                       have hcn' : (fl (tgv 1 W1 len1) N 7 k (X.1, [])).2.length + cst (fl (tgv 1 W1 len1) N 7 k (X.1, [])).1 N = 0 + cst X.1 N := hcn
                       omega)
                · skip
                  refine V.aload_n d_Mo_dayGoes_198 rfl ?_
                  refine V.aload_n d_Mo_dayGoes_199 rfl ?_
                  refine V.iload_n d_Mo_dayGoes_200 rfl ?_
                  refine V.iconst_ (nI 3) d_Mo_dayGoes_201 (by decide +kernel) ?_
                  refine V.callV2 d_Mo_dayGoes_202 k_Mo_158_Mo_of_MoV mo_o (Nat.le_of_ble_eq_true rfl) (by omega) (by omega) (c_Mo_of (by omega) ?_)
                  refine V.top ekb ?_
                  refine V.aload_n d_Mo_dayGoes_205 rfl ?_
                  refine V.iload_n d_Mo_dayGoes_206 rfl ?_
                  refine V.iconst_ (nI 2) d_Mo_dayGoes_207 (by decide +kernel) ?_
                  refine V.callV2 d_Mo_dayGoes_208 k_Mo_158_Mo_of_MoV mo_o (Nat.le_of_ble_eq_true rfl) (by omega) (by omega) (c_Mo_of (by omega) ?_)
                  refine V.top eka ?_
                  refine V.callV2 d_Mo_dayGoes_211 k_Mo_180_Mo_hold0_MoV mo_o (Nat.le_of_ble_eq_true rfl) (by omega) (by omega) (c_Mo_hold0 (by omega) ?_)
                  refine V.iload_n d_Mo_dayGoes_214 rfl ?_
                  refine V.icmp_gt (tgt := 223) d_Mo_dayGoes_215 (by decide) (fun c_215 => ?_) (fun c_215 => ?_)
                  · skip
                    refine V.incN d_Mo_dayGoes_223 rfl (by decide) ?_
                    refine V.goto (tgt := 151) d_Mo_dayGoes_226 (by decide) ?_
                    first
                    | (have hov : ovr X.1 k = false := by
                         unfold ovr
                         rw [hta, htb]
                         first
                         | (rw [decide_eq_false c_175]; rfl)
                         | (rw [decide_eq_false (Int32.not_le.mpr c_195), Bool.and_false]; rfl)
                         | (rw [decide_eq_false (Int32.not_le.mpr c_215), Bool.and_false])
                       have e3 : fst3 (tgv 1 W1 len1) N k X = X := by unfold fst3; rw [if_neg (by rw [hov]; decide)]
                       rw [e3] at hn
                       exact V.lc rfl (hn A2 hA2 hA9 ⟨hX0, hXT, hXC, hXL⟩))
                    | (have hov : ovr X.1 k = true := by
                         unfold ovr
                         rw [hta, htb, decide_eq_true c_175, decide_eq_true (Int32.not_lt.mp c_195), decide_eq_true (Int32.not_lt.mp c_215)]
                         rfl
                       have e3 : fst3 (tgv 1 W1 len1) N k X = ((fl (tgv 1 W1 len1) N 7 k (X.1, [])).1, X.2 ++ (fl (tgv 1 W1 len1) N 7 k (X.1, [])).2) := by
                         unfold fst3; rw [if_pos hov]
                         exact (fl_acc 7 k X.1 X.2 []).symm ▸ by rw [List.append_nil]
                       rw [e3] at hn
                       have hcn := fl_cnt (wv := (tgv 1 W1 len1)) (N := N) 7 k (X.1, []) hk c_175
                       refine V.lc (ls' := [(0, .ref q), (1, .int (nI (k + 1)))]) rfl ?_
                       refine V.eqH ?_ (hn A3 ?_ ?_ ⟨?_, ?_, ?_, ?_⟩)
                       · rw [uS_uu, List.length_append, Nat.add_assoc]
                       · intro j h1 h2 h3 h4 h5; rw [hA3 j h1 h2 h3 h4 h5]; exact hA2 j h1 h2 h3 h4 h5
                       · rw [hA93, hA9, wrl_cat]
                       · show (fl (tgv 1 W1 len1) N 7 k (X.1, [])).1 0 = nI N
                         rw [fl_keep (by decide) (by decide) (by omega)]; exact hX0
                       · exact hXT.same (fun t ht => ⟨fl_keep (by omega) (by omega) (by omega) _ _ _, fl_keep (by omega) (by omega) (by omega) _ _ _, fl_keep (by omega) (by omega) (by omega) _ _ _⟩)
                       · exact hXC.same (fun j hj => fl_keep8 hN hj _ _ _ hk)
                       · show (X.2 ++ (fl (tgv 1 W1 len1) N 7 k (X.1, [])).2).length + cst (fl (tgv 1 W1 len1) N 7 k (X.1, [])).1 N ≤ 8
                         rw [List.length_append]
                         have hcn' : (fl (tgv 1 W1 len1) N 7 k (X.1, [])).2.length + cst (fl (tgv 1 W1 len1) N 7 k (X.1, [])).1 N = 0 + cst X.1 N := hcn
                         omega)
                  · skip
                    refine V.aload_n d_Mo_dayGoes_218 rfl ?_
                    refine V.iload_n d_Mo_dayGoes_219 rfl ?_
                    refine V.callV1 d_Mo_dayGoes_220 k_Mo_183_Mo_falls_MoV mo_o (Nat.le_of_ble_eq_true rfl) (by omega) (by omega) (c_Mo_falls hk hN hX0 c_175 hXC (by omega) uS_s (fun A3 hA3 hA93 => ?_))
                    refine V.incN d_Mo_dayGoes_223 rfl (by decide) ?_
                    refine V.goto (tgt := 151) d_Mo_dayGoes_226 (by decide) ?_
                    first
                    | (have hov : ovr X.1 k = false := by
                         unfold ovr
                         rw [hta, htb]
                         first
                         | (rw [decide_eq_false c_175]; rfl)
                         | (rw [decide_eq_false (Int32.not_le.mpr c_195), Bool.and_false]; rfl)
                         | (rw [decide_eq_false (Int32.not_le.mpr c_215), Bool.and_false])
                       have e3 : fst3 (tgv 1 W1 len1) N k X = X := by unfold fst3; rw [if_neg (by rw [hov]; decide)]
                       rw [e3] at hn
                       exact V.lc rfl (hn A2 hA2 hA9 ⟨hX0, hXT, hXC, hXL⟩))
                    | (have hov : ovr X.1 k = true := by
                         unfold ovr
                         rw [hta, htb, decide_eq_true c_175, decide_eq_true (Int32.not_lt.mp c_195), decide_eq_true (Int32.not_lt.mp c_215)]
                         rfl
                       have e3 : fst3 (tgv 1 W1 len1) N k X = ((fl (tgv 1 W1 len1) N 7 k (X.1, [])).1, X.2 ++ (fl (tgv 1 W1 len1) N 7 k (X.1, [])).2) := by
                         unfold fst3; rw [if_pos hov]
                         exact (fl_acc 7 k X.1 X.2 []).symm ▸ by rw [List.append_nil]
                       rw [e3] at hn
                       have hcn := fl_cnt (wv := (tgv 1 W1 len1)) (N := N) 7 k (X.1, []) hk c_175
                       refine V.lc (ls' := [(0, .ref q), (1, .int (nI (k + 1)))]) rfl ?_
                       refine V.eqH ?_ (hn A3 ?_ ?_ ⟨?_, ?_, ?_, ?_⟩)
                       · rw [uS_uu, List.length_append, Nat.add_assoc]
                       · intro j h1 h2 h3 h4 h5; rw [hA3 j h1 h2 h3 h4 h5]; exact hA2 j h1 h2 h3 h4 h5
                       · rw [hA93, hA9, wrl_cat]
                       · show (fl (tgv 1 W1 len1) N 7 k (X.1, [])).1 0 = nI N
                         rw [fl_keep (by decide) (by decide) (by omega)]; exact hX0
                       · exact hXT.same (fun t ht => ⟨fl_keep (by omega) (by omega) (by omega) _ _ _, fl_keep (by omega) (by omega) (by omega) _ _ _, fl_keep (by omega) (by omega) (by omega) _ _ _⟩)
                       · exact hXC.same (fun j hj => fl_keep8 hN hj _ _ _ hk)
                       · show (X.2 ++ (fl (tgv 1 W1 len1) N 7 k (X.1, [])).2).length + cst (fl (tgv 1 W1 len1) N 7 k (X.1, [])).1 N ≤ 8
                         rw [List.length_append]
                         have hcn' : (fl (tgv 1 W1 len1) N 7 k (X.1, [])).2.length + cst (fl (tgv 1 W1 len1) N 7 k (X.1, [])).1 N = 0 + cst X.1 N := hcn
                         omega)
        · skip
          exact absurd c_105 (by omega)
      · skip
        refine V.iload_n d_Mo_dayGoes_98 rfl ?_
        refine V.aload_n d_Mo_dayGoes_99 rfl ?_
        refine V.get d_Mo_dayGoes_100 f_Mo_7_Mo mo_o rfl ?_
        refine V.iconst_ (nI 0) d_Mo_dayGoes_103 (by decide +kernel) ?_
        refine V.mldd d_Mo_dayGoes_104 (by omega) ?_
        refine V.top (show _ = nI N by rw [dg2_x (by omega)]; exact e01) ?_
        refine V.geN (tgt := 149) d_Mo_dayGoes_105 (by decide) (by omega) (by omega) (fun c_105 => ?_) (fun c_105 => ?_)
        · skip
          exact absurd c_105 (by omega)
        · skip
          refine V.aload_n d_Mo_dayGoes_108 rfl ?_
          refine V.iload_n d_Mo_dayGoes_109 rfl ?_
          refine V.bipush_ (nI 6) d_Mo_dayGoes_110 (by decide +kernel) ?_
          refine V.callV2 d_Mo_dayGoes_112 k_Mo_158_Mo_of_MoV mo_o (Nat.le_of_ble_eq_true rfl) (by omega) (by omega) (c_Mo_of (by omega) ?_)
          refine V.iconst_ (nI 1) d_Mo_dayGoes_115 (by decide +kernel) ?_
          refine V.icmp_ne (tgt := 143) d_Mo_dayGoes_116 (by decide) (fun c_116 => ?_) (fun c_116 => ?_)
          · skip
            refine V.incN d_Mo_dayGoes_143 rfl (by decide) ?_
            refine V.goto (tgt := 98) d_Mo_dayGoes_146 (by decide) ?_
            first
            | (rw [dg2_e (by rw [dg2_x (by omega)] at c_116; exact c_116)] at hn; exact V.lc rfl hn)
            | (rw [dg2_x (by omega)] at c_116
               rw [← dg2_s c_116] at hn
               simp only [dg2_x (D := D1) (k := k) (j := 50 + 7 * k + 5) (by omega), grw_u (D := D1) (D' := dg2 D1 k) (t := k) (dg2_x (by omega)) (dg2_x (by omega))]
               exact V.lc rfl hn)
          · skip
            refine V.aload_n d_Mo_dayGoes_119 rfl ?_
            refine V.iload_n d_Mo_dayGoes_120 rfl ?_
            refine V.iconst_ (nI 5) d_Mo_dayGoes_121 (by decide +kernel) ?_
            refine V.aload_n d_Mo_dayGoes_122 rfl ?_
            refine V.iload_n d_Mo_dayGoes_123 rfl ?_
            refine V.iconst_ (nI 5) d_Mo_dayGoes_124 (by decide +kernel) ?_
            refine V.callV2 d_Mo_dayGoes_125 k_Mo_158_Mo_of_MoV mo_o (Nat.le_of_ble_eq_true rfl) (by omega) (by omega) (c_Mo_of (by omega) ?_)
            refine V.aload_n d_Mo_dayGoes_128 rfl ?_
            refine V.iload_n d_Mo_dayGoes_129 rfl ?_
            refine V.callV1 d_Mo_dayGoes_130 k_Mo_174_Mo_grows_MoV mo_o (Nat.le_of_ble_eq_true rfl) (by omega) (by omega) (c_Mo_grows (by omega) (by unfold NB; rw [dg2_x (by omega)]; exact (hT1 k hk).1) ?_)
            refine V.iadd d_Mo_dayGoes_133 ?_
            refine V.iconst_ (nI 0) d_Mo_dayGoes_134 (by decide +kernel) ?_
            refine V.bipush_ (nI 99) d_Mo_dayGoes_135 (by decide +kernel) ?_
            refine V.callS3 d_Mo_dayGoes_137 k_Mo_151_Mo_heldS (Nat.le_of_ble_eq_true rfl) (by omega) (by omega) (c_Mo_held ?_)
            refine V.callV3 d_Mo_dayGoes_140 k_Mo_165_Mo_sets_MoV mo_o (Nat.le_of_ble_eq_true rfl) (by omega) (by omega) (c_Mo_sets (by omega) ?_)
            refine V.incN d_Mo_dayGoes_143 rfl (by decide) ?_
            refine V.goto (tgt := 98) d_Mo_dayGoes_146 (by decide) ?_
            first
            | (rw [dg2_e (by rw [dg2_x (by omega)] at c_116; exact c_116)] at hn; exact V.lc rfl hn)
            | (rw [dg2_x (by omega)] at c_116
               rw [← dg2_s c_116] at hn
               simp only [dg2_x (D := D1) (k := k) (j := 50 + 7 * k + 5) (by omega), grw_u (D := D1) (D' := dg2 D1 k) (t := k) (dg2_x (by omega)) (dg2_x (by omega))]
               exact V.lc rfl hn)
    · skip
      exact absurd c_5 (by omega)
  · skip
    intro A1 hA1
    refine V.iload_n d_Mo_dayGoes_2 rfl ?_
    refine V.bipush_ (nI 36) d_Mo_dayGoes_3 (by decide +kernel) ?_
    refine V.geN (tgt := 96) d_Mo_dayGoes_5 (by decide) (by omega) (by omega) (fun c_5 => ?_) (fun c_5 => ?_)
    · skip
      exact absurd c_5 (by omega)
    · skip
      refine V.iload_n d_Mo_dayGoes_8 rfl ?_
      refine V.bipush_ (nI 6) d_Mo_dayGoes_9 (by decide +kernel) ?_
      refine V.divN d_Mo_dayGoes_11 (by omega) (by omega) (by omega) ?_
      refine V.istore_n d_Mo_dayGoes_12 (by decide) ?_
      refine V.iload_n d_Mo_dayGoes_13 rfl ?_
      refine V.bipush_ (nI 6) d_Mo_dayGoes_14 (by decide +kernel) ?_
      refine V.remN d_Mo_dayGoes_16 (by omega) (by omega) (by omega) ?_
      refine V.istore_n d_Mo_dayGoes_17 (by decide) ?_
      refine V.iload_n d_Mo_dayGoes_18 rfl ?_
      refine V.iload_n d_Mo_dayGoes_19 rfl ?_
      refine V.eqN (tgt := 90) d_Mo_dayGoes_20 (by decide) (by omega) (by omega) (fun c_20 => ?_) (fun c_20 => ?_)
      · skip
        refine V.incN d_Mo_dayGoes_90 rfl (by decide) ?_
        refine V.goto (tgt := 2) d_Mo_dayGoes_93 (by decide) ?_
        first
        | (rw [dc1_e c_20] at hn; exact V.lc rfl (hn _ hA1))
        | (rw [← dc1_s hk c_20] at hn
           subst er1
           rw [dc1_x (by omega), dc1_x (by omega), dc1_x (by omega), dc1_x (by omega)]
           exact V.lc rfl (hn _ (fun j h1 h2 => (hB1 j h1 h2).trans (hA1 j h1 h2))))
      · skip
        refine V.aload_n d_Mo_dayGoes_23 rfl ?_
        refine V.get d_Mo_dayGoes_24 f_Mo_7_Mo mo_o rfl ?_
        refine V.bipush_ (nI 8) d_Mo_dayGoes_27 (by decide +kernel) ?_
        refine V.iload_n d_Mo_dayGoes_29 rfl ?_
        refine V.addN d_Mo_dayGoes_30 ?_
        refine V.aload_n d_Mo_dayGoes_31 rfl ?_
        refine V.get d_Mo_dayGoes_32 f_Mo_7_Mo mo_o rfl ?_
        refine V.bipush_ (nI 8) d_Mo_dayGoes_35 (by decide +kernel) ?_
        refine V.iload_n d_Mo_dayGoes_37 rfl ?_
        refine V.addN d_Mo_dayGoes_38 ?_
        refine V.mldd d_Mo_dayGoes_39 (by omega) ?_
        refine V.aload_n d_Mo_dayGoes_40 rfl ?_
        refine V.iconst_ (nI 0) d_Mo_dayGoes_41 (by decide +kernel) ?_
        refine V.aload_n d_Mo_dayGoes_42 rfl ?_
        refine V.get d_Mo_dayGoes_43 f_Mo_7_Mo mo_o rfl ?_
        refine V.bipush_ (nI 8) d_Mo_dayGoes_46 (by decide +kernel) ?_
        refine V.iload_n d_Mo_dayGoes_48 rfl ?_
        refine V.addN d_Mo_dayGoes_49 ?_
        refine V.mldd d_Mo_dayGoes_50 (by omega) ?_
        refine V.aload_n d_Mo_dayGoes_51 rfl ?_
        refine V.get d_Mo_dayGoes_52 f_Mo_7_Mo mo_o rfl ?_
        refine V.bipush_ (nI 44) d_Mo_dayGoes_55 (by decide +kernel) ?_
        refine V.iload_n d_Mo_dayGoes_57 rfl ?_
        refine V.addN d_Mo_dayGoes_58 ?_
        refine V.mldd d_Mo_dayGoes_59 (by omega) ?_
        refine V.aload_n d_Mo_dayGoes_60 rfl ?_
        refine V.get d_Mo_dayGoes_61 f_Mo_7_Mo mo_o rfl ?_
        refine V.bipush_ (nI 44) d_Mo_dayGoes_64 (by decide +kernel) ?_
        refine V.iload_n d_Mo_dayGoes_66 rfl ?_
        refine V.addN d_Mo_dayGoes_67 ?_
        refine V.mldd d_Mo_dayGoes_68 (by omega) ?_
        refine V.iadd d_Mo_dayGoes_69 ?_
        refine V.aload_n d_Mo_dayGoes_70 rfl ?_
        refine V.get d_Mo_dayGoes_71 f_Mo_7_Mo mo_o rfl ?_
        refine V.iconst_ (nI 1) d_Mo_dayGoes_74 (by decide +kernel) ?_
        refine V.mldd d_Mo_dayGoes_75 (by omega) ?_
        refine V.bipush_ (nI 7) d_Mo_dayGoes_76 (by decide +kernel) ?_
        refine V.irem d_Mo_dayGoes_78 (by decide +kernel) ?_
        refine V.callV4 d_Mo_dayGoes_79 k_Mo_154_Mo_textGives_MoV mo_o (Nat.le_of_ble_eq_true rfl) (by omega) (by omega) (c_Mo_textGives (Or.inl rfl) (hC0.same (fun j hj => dc1_x (by omega))) (fun B1 r1 hB1 er1 => ?_))
        refine V.iadd d_Mo_dayGoes_82 ?_
        refine V.iconst_ (nI 0) d_Mo_dayGoes_83 (by decide +kernel) ?_
        refine V.bipush_ (nI 99) d_Mo_dayGoes_84 (by decide +kernel) ?_
        refine V.callS3 d_Mo_dayGoes_86 k_Mo_151_Mo_heldS (Nat.le_of_ble_eq_true rfl) (by omega) (by omega) (c_Mo_held ?_)
        refine V.mstd d_Mo_dayGoes_89 (by omega) ?_
        refine V.incN d_Mo_dayGoes_90 rfl (by decide) ?_
        refine V.goto (tgt := 2) d_Mo_dayGoes_93 (by decide) ?_
        first
        | (rw [dc1_e c_20] at hn; exact V.lc rfl (hn _ hA1))
        | (rw [← dc1_s hk c_20] at hn
           subst er1
           rw [dc1_x (by omega), dc1_x (by omega), dc1_x (by omega), dc1_x (by omega)]
           exact V.lc rfl (hn _ (fun j h1 h2 => (hB1 j h1 h2).trans (hA1 j h1 h2))))
