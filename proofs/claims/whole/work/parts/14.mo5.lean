abbrev XX : Type := (Nat → Int32) × List Nat
def cnd (D : Nat → Int32) (t k : Nat) : Bool := decide (D (50 + 7 * k + 6) = nI 1) && wi (D (50 + 7 * k + 4) - D (50 + 7 * t + 4)) (nI 1) (rch D t) && decide (D (50 + 7 * k + 5) < D (50 + 7 * t + 5))
def itf {α : Type} (g : Nat → α → α) : Nat → Nat → α → α
  | 0, _, x => x
  | m + 1, k, x => itf g m (k + 1) (g k x)
/-- a tree falls, and all that falls by it: the depth, the tree -/
def fl (wv : Int32 → Int32 → Int32 → Int32) (N : Nat) : Nat → Nat → XX → XX
  | 0, t, x => (gdn wv x.1 t, x.2 ++ [t])
  | f + 1, t, x => itf (fun k y => if cnd y.1 t k = true then fl wv N f k y else y) N 0 (gdn wv x.1 t, x.2 ++ [t])
def gst (wv : Int32 → Int32 → Int32 → Int32) (N f t : Nat) : Nat → XX → XX := fun k y => if cnd y.1 t k = true then fl wv N f k y else y
def ctn (wv : Int32 → Int32 → Int32 → Int32) (N : Nat) (P K : Nat → Nat) : Nat → XX → XX
  | 0, x => x
  | j + 1, x => ctn wv N P K j (itf (gst wv N (6 - j) (P j)) (N - K j) (K j) x)
def cst (D : Nat → Int32) : Nat → Nat
  | 0 => 0
  | N + 1 => cst D N + (if D (50 + 7 * N + 6) = nI 1 then 1 else 0)
def sk (N : Nat) (K : Nat → Nat) : Nat → Nat
  | 0 => 0
  | j + 1 => sk N K j + (N + 1 - K j)
theorem cst_0 {D : Nat → Int32} : ∀ {N : Nat}, cst D N = 0 → ∀ k, k < N → ¬ D (50 + 7 * k + 6) = nI 1 := by
  intro N
  induction N with
  | zero => intro _ k hk; omega
  | succ N ih =>
    intro h k hk e
    simp only [cst] at h
    by_cases hkN : k = N
    · subst hkN; rw [if_pos e] at h; omega
    · exact ih (by omega) k (by omega) e
theorem cst_le {D : Nat → Int32} : ∀ N : Nat, cst D N ≤ N := by
  intro N
  induction N with
  | zero => exact Nat.le_refl _
  | succ N ih => simp only [cst]; split <;> omega
theorem cst_pos {D : Nat → Int32} : ∀ {N k : Nat}, k < N → D (50 + 7 * k + 6) = nI 1 → 0 < cst D N := by
  intro N k hk e
  rcases Nat.eq_zero_or_pos (cst D N) with h | h
  · exact absurd e (cst_0 h k hk)
  · exact h
theorem gdn_st {wv : Int32 → Int32 → Int32 → Int32} {D : Nat → Int32} {i j : Nat} : gdn wv D i (50 + 7 * j + 6) = if j = i then nI 0 else D (50 + 7 * j + 6) := by
  unfold gdn
  by_cases h : j = i
  · subst h; rw [pk_us, if_pos rfl]
  · rw [pk_un (by omega), pk_un (by omega), pk_un (by omega), if_neg h]
theorem cst_gdn {wv : Int32 → Int32 → Int32 → Int32} {D : Nat → Int32} {k : Nat} (e : D (50 + 7 * k + 6) = nI 1) : ∀ N, cst (gdn wv D k) N + (if k < N then 1 else 0) = cst D N := by
  intro N
  induction N with
  | zero => rfl
  | succ N ih =>
    simp only [cst, gdn_st]
    by_cases h : N = k
    · subst h
      rw [if_neg (Nat.lt_irrefl N)] at ih
      rw [if_pos rfl, if_neg (show ¬ nI 0 = nI 1 by decide +kernel), if_pos (show N < N + 1 by omega), if_pos e]
      omega
    · rw [if_neg h]
      by_cases h2 : k < N
      · rw [if_pos h2] at ih; rw [if_pos (show k < N + 1 by omega)]; omega
      · rw [if_neg h2] at ih; rw [if_neg (show ¬ k < N + 1 by omega)]; omega
theorem ctn_congr {wv : Int32 → Int32 → Int32 → Int32} {N : Nat} {P K P' K' : Nat → Nat} : ∀ {c : Nat}, (∀ j, j < c → P j = P' j ∧ K j = K' j) → ∀ x, ctn wv N P K c x = ctn wv N P' K' c x := by
  intro c
  induction c with
  | zero => intro _ x; rfl
  | succ c ih =>
    intro h x
    simp only [ctn]
    rw [(h c (by omega)).1, (h c (by omega)).2]
    exact ih (fun j hj => h j (by omega)) _
theorem sk_congr {N : Nat} {K K' : Nat → Nat} : ∀ {c : Nat}, (∀ j, j < c → K j = K' j) → sk N K c = sk N K' c := by
  intro c
  induction c with
  | zero => intro _; rfl
  | succ c ih =>
    intro h
    simp only [sk]
    rw [h c (by omega), ih (fun j hj => h j (by omega))]
theorem itf_id {wv : Int32 → Int32 → Int32 → Int32} {N f t : Nat} {x : XX} : ∀ (m k : Nat), (∀ j, k ≤ j → j < k + m → cnd x.1 t j = false) → itf (gst wv N f t) m k x = x := by
  intro m
  induction m with
  | zero => intro k _; rfl
  | succ m ih =>
    intro k h
    simp only [itf]
    have e : gst wv N f t k x = x := by
      unfold gst
      rw [if_neg (by rw [h k (Nat.le_refl _) (by omega)]; decide)]
    rw [e]
    exact ih (k + 1) (fun j h1 h2 => h j (by omega) (by omega))
def wrl (f : Nat → Int32) : Nat → List Nat → Nat → Int32
  | _, [] => f
  | m, t :: ts => wrl (wrf f m t) (m + 1) ts
theorem wrl_app (f : Nat → Int32) (t : Nat) : ∀ (ts : List Nat) (m : Nat), wrf (wrl f m ts) (m + ts.length) t = wrl f m (ts ++ [t]) := by
  intro ts
  induction ts generalizing f with
  | nil => intro m; rfl
  | cons a ts ih =>
    intro m
    show wrf (wrl (wrf f m a) (m + 1) ts) (m + (ts.length + 1)) t = wrl (wrf f m a) (m + 1) (ts ++ [t])
    rw [← ih (wrf f m a) (m + 1), show m + 1 + ts.length = m + (ts.length + 1) by omega]
theorem gdn_lo {wv : Int32 → Int32 → Int32 → Int32} {D : Nat → Int32} {i j : Nat} (h1 : j < 3 ∨ (4 < j ∧ j < 50) ∨ 106 ≤ j) (hi : i < 8) : gdn wv D i j = D j := by
  unfold gdn
  rw [pk_un (by omega), pk_un (by omega), pk_un (by omega)]
theorem Cd.same {D D' : Nat → Int32} {u len : Nat} {W : Nat → Nat} (h : Cd D u W len) (he : ∀ j, 106 ≤ j → D' j = D j) : Cd D' u W len := by
  obtain ⟨h1, h2, h3, h4⟩ := h
  exact ⟨by rw [he _ (by omega)]; exact h1, fun k hk => by rw [he _ (by omega)]; exact h2 k hk, h3, h4⟩
def tpv (c : Nat) : Int32 := if c = 0 then -1 else nI (c - 1)
theorem tpv_dec (c : Nat) : nI c + Int32.ofInt (-1) = tpv c := by
  unfold tpv
  by_cases h : c = 0
  · subst h; decide +kernel
  · rw [if_neg h]; exact sb_m1 (by omega)
/-- the frames of the reference's fall: their trees, their looks, what comes of all of them -/
def FI (N c : Nat) (P K : Nat → Nat) (X : XX) (A : Nat → Nat → Int32) : Prop := c ≤ 8 ∧ cst X.1 N + c ≤ 8 ∧ (∀ j, j < c → P j < N ∧ K j ≤ N) ∧ ∀ j, j < c → A 7 j = nI (P j) ∧ A 8 j = nI (K j)
theorem ctn_skip {wv : Int32 → Int32 → Int32 → Int32} {N c : Nat} {P K : Nat → Nat} {X : XX} (hK : K c < N) (hc : cnd X.1 (P c) (K c) = false) : ctn wv N P (fun j => if j = c then K c + 1 else K j) (c + 1) X = ctn wv N P K (c + 1) X := by
  have e1 : ctn wv N P (fun j => if j = c then K c + 1 else K j) (c + 1) X = ctn wv N P K c (itf (gst wv N (6 - c) (P c)) (N - (K c + 1)) (K c + 1) X) := by
    show ctn wv N P (fun j => if j = c then K c + 1 else K j) c (itf (gst wv N (6 - c) (P c)) (N - (if c = c then K c + 1 else K c)) (if c = c then K c + 1 else K c) X) = _
    rw [if_pos rfl]
    exact ctn_congr (fun j hj => ⟨rfl, if_neg (by omega)⟩) _
  rw [e1]
  show _ = ctn wv N P K c (itf (gst wv N (6 - c) (P c)) (N - K c) (K c) X)
  congr 1
  rw [show N - K c = (N - (K c + 1)) + 1 by omega]
  show _ = itf (gst wv N (6 - c) (P c)) (N - (K c + 1)) (K c + 1) (gst wv N (6 - c) (P c) (K c) X)
  congr 1
  unfold gst
  rw [if_neg (by rw [hc]; decide)]
theorem ctn_push {wv : Int32 → Int32 → Int32 → Int32} {N c : Nat} {P K : Nat → Nat} {X : XX} (hK : K c < N) (hc : cnd X.1 (P c) (K c) = true) (h6 : c ≤ 6) (h0 : c = 6 → cst (gdn wv X.1 (K c)) N = 0) : ctn wv N (fun j => if j = c + 1 then K c else P j) (fun j => if j = c + 1 then 0 else if j = c then K c + 1 else K j) (c + 2) (gdn wv X.1 (K c), X.2 ++ [K c]) = ctn wv N P K (c + 1) X := by
  have e0 : itf (gst wv N (6 - (c + 1)) (K c)) (N - 0) 0 (gdn wv X.1 (K c), X.2 ++ [K c]) = fl wv N (6 - c) (K c) X := by
    by_cases h : c = 6
    · subst h
      rw [itf_id]
      · rfl
      · intro j _ hj
        have := cst_0 (h0 rfl) j (by omega)
        unfold cnd
        rw [decide_eq_false this]
        rfl
    · rw [show 6 - c = (6 - (c + 1)) + 1 by omega]
      rfl
  have e1 : ctn wv N (fun j => if j = c + 1 then K c else P j) (fun j => if j = c + 1 then 0 else if j = c then K c + 1 else K j) (c + 2) (gdn wv X.1 (K c), X.2 ++ [K c]) = ctn wv N P K c (itf (gst wv N (6 - c) (P c)) (N - (K c + 1)) (K c + 1) (fl wv N (6 - c) (K c) X)) := by
    simp only [ctn]
    simp only [if_true, show (c = c + 1) = False from eq_false (by omega), if_false]
    rw [e0]
    exact ctn_congr (fun j hj => ⟨if_neg (by omega), by rw [if_neg (by omega), if_neg (by omega)]⟩) _
  rw [e1]
  show _ = ctn wv N P K c (itf (gst wv N (6 - c) (P c)) (N - K c) (K c) X)
  congr 1
  rw [show N - K c = (N - (K c + 1)) + 1 by omega]
  show _ = itf (gst wv N (6 - c) (P c)) (N - (K c + 1)) (K c + 1) (gst wv N (6 - c) (P c) (K c) X)
  congr 1
  unfold gst
  rw [if_pos hc]
theorem ctn_pop {wv : Int32 → Int32 → Int32 → Int32} {N c : Nat} {P K : Nat → Nat} {X : XX} (hK : K c = N) : ctn wv N P K (c + 1) X = ctn wv N P K c X := by
  simp only [ctn]
  rw [hK, Nat.sub_self]
  rfl
abbrev M_Mo_falls : MD := (⟨"FelledByNamesModel", "falls", "(I)V"⟩, prog_14_method_39_code, 5, none, fun _ => True)
theorem d_Mo_falls_22 : decode prog_14_method_39_code 22 = .ok (.ifCond .lt 128, 3) := by decide +kernel
theorem d_Mo_falls_21 : decode prog_14_method_39_code 21 = .ok (.iload_n 2, 1) := by decide +kernel
theorem d_Mo_falls_25 : decode prog_14_method_39_code 25 = .ok (.aload_n 0, 1) := by decide +kernel
theorem d_Mo_falls_26 : decode prog_14_method_39_code 26 = .ok (.getfield 31, 3) := by decide +kernel
theorem f_Mo_31_Mo : fok "FelledByNamesModel" 31 5 15 := ⟨R_Mo, F_Mo, 26, "FelledByNamesModel", rfl, i_Mo, by decide, tm 1074 (by decide +kernel) rfl, Or.inl rfl, t_Mo, t_Mo_ok, n_Mo⟩
theorem d_Mo_falls_29 : decode prog_14_method_39_code 29 = .ok (.iload_n 2, 1) := by decide +kernel
theorem d_Mo_falls_30 : decode prog_14_method_39_code 30 = .ok (.iaload, 1) := by decide +kernel
theorem d_Mo_falls_31 : decode prog_14_method_39_code 31 = .ok (.istore_n 3, 1) := by decide +kernel
theorem d_Mo_falls_32 : decode prog_14_method_39_code 32 = .ok (.aload_n 0, 1) := by decide +kernel
theorem d_Mo_falls_33 : decode prog_14_method_39_code 33 = .ok (.getfield 34, 3) := by decide +kernel
theorem f_Mo_34_Mo : fok "FelledByNamesModel" 34 5 16 := ⟨R_Mo, F_Mo, 26, "FelledByNamesModel", rfl, i_Mo, by decide, tm 1075 (by decide +kernel) rfl, Or.inl rfl, t_Mo, t_Mo_ok, n_Mo⟩
theorem d_Mo_falls_36 : decode prog_14_method_39_code 36 = .ok (.iload_n 2, 1) := by decide +kernel
theorem d_Mo_falls_37 : decode prog_14_method_39_code 37 = .ok (.iaload, 1) := by decide +kernel
theorem d_Mo_falls_38 : decode prog_14_method_39_code 38 = .ok (.istore 4, 2) := by decide +kernel
theorem d_Mo_falls_40 : decode prog_14_method_39_code 40 = .ok (.aload_n 0, 1) := by decide +kernel
theorem d_Mo_falls_41 : decode prog_14_method_39_code 41 = .ok (.getfield 34, 3) := by decide +kernel
theorem d_Mo_falls_44 : decode prog_14_method_39_code 44 = .ok (.iload_n 2, 1) := by decide +kernel
theorem d_Mo_falls_45 : decode prog_14_method_39_code 45 = .ok (.dup2, 1) := by decide +kernel
theorem d_Mo_falls_46 : decode prog_14_method_39_code 46 = .ok (.iaload, 1) := by decide +kernel
theorem d_Mo_falls_47 : decode prog_14_method_39_code 47 = .ok (.iconst 1, 1) := by decide +kernel
theorem d_Mo_falls_48 : decode prog_14_method_39_code 48 = .ok (.iadd, 1) := by decide +kernel
theorem d_Mo_falls_49 : decode prog_14_method_39_code 49 = .ok (.iastore, 1) := by decide +kernel
theorem d_Mo_falls_50 : decode prog_14_method_39_code 50 = .ok (.iload 4, 2) := by decide +kernel
theorem d_Mo_falls_52 : decode prog_14_method_39_code 52 = .ok (.aload_n 0, 1) := by decide +kernel
theorem d_Mo_falls_53 : decode prog_14_method_39_code 53 = .ok (.getfield 7, 3) := by decide +kernel
theorem d_Mo_falls_56 : decode prog_14_method_39_code 56 = .ok (.iconst 0, 1) := by decide +kernel
theorem d_Mo_falls_57 : decode prog_14_method_39_code 57 = .ok (.iaload, 1) := by decide +kernel
theorem d_Mo_falls_58 : decode prog_14_method_39_code 58 = .ok (.if_icmp .ne 9, 3) := by decide +kernel
theorem d_Mo_falls_67 : decode prog_14_method_39_code 67 = .ok (.aload_n 0, 1) := by decide +kernel
theorem d_Mo_falls_68 : decode prog_14_method_39_code 68 = .ok (.iload 4, 2) := by decide +kernel
theorem d_Mo_falls_70 : decode prog_14_method_39_code 70 = .ok (.bipush 6, 2) := by decide +kernel
theorem d_Mo_falls_72 : decode prog_14_method_39_code 72 = .ok (.invokevirtual 158, 3) := by decide +kernel
theorem d_Mo_falls_75 : decode prog_14_method_39_code 75 = .ok (.iconst 1, 1) := by decide +kernel
theorem d_Mo_falls_76 : decode prog_14_method_39_code 76 = .ok (.if_icmp .ne 71, 3) := by decide +kernel
theorem d_Mo_falls_147 : decode prog_14_method_39_code 147 = .ok (.goto (-126), 3) := by decide +kernel
theorem d_Mo_falls_79 : decode prog_14_method_39_code 79 = .ok (.aload_n 0, 1) := by decide +kernel
theorem d_Mo_falls_80 : decode prog_14_method_39_code 80 = .ok (.iload 4, 2) := by decide +kernel
theorem d_Mo_falls_82 : decode prog_14_method_39_code 82 = .ok (.iconst 4, 1) := by decide +kernel
theorem d_Mo_falls_83 : decode prog_14_method_39_code 83 = .ok (.invokevirtual 158, 3) := by decide +kernel
theorem d_Mo_falls_86 : decode prog_14_method_39_code 86 = .ok (.aload_n 0, 1) := by decide +kernel
theorem d_Mo_falls_87 : decode prog_14_method_39_code 87 = .ok (.iload_n 3, 1) := by decide +kernel
theorem d_Mo_falls_88 : decode prog_14_method_39_code 88 = .ok (.iconst 4, 1) := by decide +kernel
theorem d_Mo_falls_89 : decode prog_14_method_39_code 89 = .ok (.invokevirtual 158, 3) := by decide +kernel
theorem d_Mo_falls_92 : decode prog_14_method_39_code 92 = .ok (.isub, 1) := by decide +kernel
theorem d_Mo_falls_93 : decode prog_14_method_39_code 93 = .ok (.i2l, 1) := by decide +kernel
theorem d_Mo_falls_94 : decode prog_14_method_39_code 94 = .ok (.lconst 1, 1) := by decide +kernel
theorem d_Mo_falls_95 : decode prog_14_method_39_code 95 = .ok (.aload_n 0, 1) := by decide +kernel
theorem d_Mo_falls_96 : decode prog_14_method_39_code 96 = .ok (.iload_n 3, 1) := by decide +kernel
theorem d_Mo_falls_97 : decode prog_14_method_39_code 97 = .ok (.invokevirtual 162, 3) := by decide +kernel
theorem d_Mo_falls_100 : decode prog_14_method_39_code 100 = .ok (.i2l, 1) := by decide +kernel
theorem d_Mo_falls_101 : decode prog_14_method_39_code 101 = .ok (.invokestatic 56, 3) := by decide +kernel
theorem d_Mo_falls_104 : decode prog_14_method_39_code 104 = .ok (.ifCond .eq 43, 3) := by decide +kernel
theorem d_Mo_falls_107 : decode prog_14_method_39_code 107 = .ok (.aload_n 0, 1) := by decide +kernel
theorem d_Mo_falls_108 : decode prog_14_method_39_code 108 = .ok (.iload 4, 2) := by decide +kernel
theorem d_Mo_falls_110 : decode prog_14_method_39_code 110 = .ok (.iconst 5, 1) := by decide +kernel
theorem d_Mo_falls_111 : decode prog_14_method_39_code 111 = .ok (.invokevirtual 158, 3) := by decide +kernel
theorem d_Mo_falls_114 : decode prog_14_method_39_code 114 = .ok (.aload_n 0, 1) := by decide +kernel
theorem d_Mo_falls_115 : decode prog_14_method_39_code 115 = .ok (.iload_n 3, 1) := by decide +kernel
theorem d_Mo_falls_116 : decode prog_14_method_39_code 116 = .ok (.iconst 5, 1) := by decide +kernel
theorem d_Mo_falls_117 : decode prog_14_method_39_code 117 = .ok (.invokevirtual 158, 3) := by decide +kernel
theorem d_Mo_falls_120 : decode prog_14_method_39_code 120 = .ok (.if_icmp .ge 27, 3) := by decide +kernel
theorem d_Mo_falls_123 : decode prog_14_method_39_code 123 = .ok (.iinc 2 1, 3) := by decide +kernel
theorem d_Mo_falls_126 : decode prog_14_method_39_code 126 = .ok (.aload_n 0, 1) := by decide +kernel
theorem d_Mo_falls_127 : decode prog_14_method_39_code 127 = .ok (.getfield 31, 3) := by decide +kernel
theorem d_Mo_falls_130 : decode prog_14_method_39_code 130 = .ok (.iload_n 2, 1) := by decide +kernel
theorem d_Mo_falls_131 : decode prog_14_method_39_code 131 = .ok (.iload 4, 2) := by decide +kernel
theorem d_Mo_falls_133 : decode prog_14_method_39_code 133 = .ok (.iastore, 1) := by decide +kernel
theorem d_Mo_falls_134 : decode prog_14_method_39_code 134 = .ok (.aload_n 0, 1) := by decide +kernel
theorem d_Mo_falls_135 : decode prog_14_method_39_code 135 = .ok (.getfield 34, 3) := by decide +kernel
theorem d_Mo_falls_138 : decode prog_14_method_39_code 138 = .ok (.iload_n 2, 1) := by decide +kernel
theorem d_Mo_falls_139 : decode prog_14_method_39_code 139 = .ok (.iconst 0, 1) := by decide +kernel
theorem d_Mo_falls_140 : decode prog_14_method_39_code 140 = .ok (.iastore, 1) := by decide +kernel
theorem d_Mo_falls_141 : decode prog_14_method_39_code 141 = .ok (.aload_n 0, 1) := by decide +kernel
theorem d_Mo_falls_142 : decode prog_14_method_39_code 142 = .ok (.iload 4, 2) := by decide +kernel
theorem d_Mo_falls_144 : decode prog_14_method_39_code 144 = .ok (.invokevirtual 171, 3) := by decide +kernel
theorem kB_Mo_goesDown : kB M_Mo_goesDown 1 := ⟨tm 15 (by decide +kernel) rfl, tm 1335 (by decide +kernel) rfl, ⟨by decide, by decide, by decide +kernel⟩, by decide⟩
theorem k_Mo_171_Mo_goesDown_MoV : kV "FelledByNamesModel" 171 5 M_Mo_goesDown 1 := ⟨kB_Mo_goesDown, tm 1332 (by decide +kernel) rfl, tm 1334 (by decide +kernel) rfl, tp 39 (by decide +kernel) rfl, _, rfl, rfl⟩
theorem d_Mo_falls_61 : decode prog_14_method_39_code 61 = .ok (.iinc 2 (-1), 3) := by decide +kernel
theorem d_Mo_falls_64 : decode prog_14_method_39_code 64 = .ok (.goto 83, 3) := by decide +kernel
theorem d_Mo_falls_150 : decode prog_14_method_39_code 150 = .ok (.return_, 1) := by decide +kernel
set_option maxRecDepth 100000 in
theorem falls_loop {l : Launch} {d q n i N fm len : Nat} {W : Nat → Nat} {A : Nat → Nat → Int32} {S : Nat → Int32} {h0 : HP} {Q : QT} {Y : XX} (hN : N ≤ 8) (hf : fm < 2 ^ 29) (hQ : ∀ (A1 : Nat → Nat → Int32), (∀ k, k ≠ 4 → k ≠ 6 → k ≠ 7 → k ≠ 8 → k ≠ 9 → A1 k = A k) → A1 9 = wrl (A 9) fm Y.2 → Q none n (mo q Y.1 A1 (uS S 18 (nI (fm + Y.2.length))) h0)) :
    ∀ (m c : Nat) (P K : Nat → Nat) (X : XX) (A1 : Nat → Nat → Int32), cst X.1 N * (N + 2) + sk N K c < m → ctn (tgv 1 W len) N P K c X = Y → FI N c P K X A1 → Cd X.1 1 W len → X.1 0 = nI N → A1 9 = wrl (A 9) fm X.2 → X.2.length + cst X.1 N ≤ 8 → (∀ k, k ≠ 4 → k ≠ 6 → k ≠ 7 → k ≠ 8 → k ≠ 9 → A1 k = A k) → V l M_Mo_falls (d + 4) 0 0 21 [(0, .ref q), (1, .int (nI i)), (2, .int (tpv c))] [] n (mo q X.1 A1 (uS S 18 (nI (fm + X.2.length))) h0) 0 0 Q := by
  intro m
  induction m with
  | zero => intro c P K X A1 hm; exact absurd hm (by omega)
  | succ m ih =>
    intro c P K X A1 hm hfin hF hC1 e0 h9 hlen hA
    cases c with
    | zero =>
      have hXY : X = Y := hfin
      subst hXY
      refine V.iload_n d_Mo_falls_21 rfl ?_
      refine V.if_lt (tgt := 150) d_Mo_falls_22 (by decide) (fun c_22 => ?_) (fun c_22 => absurd (by decide +kernel) c_22)
      refine V.vret d_Mo_falls_150 rfl (Nat.le_of_ble_eq_true rfl) (Nat.le_of_ble_eq_true rfl) ?_
      refine hQ A1 ?_ ?_
      · exact hA
      · exact h9
    | succ c =>
      have hPK := hF.2.2.1 c (by omega)
      have hc8 := hF.1
      have hcs := hF.2.1
      refine V.lc (ls' := [(0, .ref q), (1, .int (nI i)), (2, .int (nI c))]) rfl ?_
      refine V.iload_n d_Mo_falls_21 rfl ?_
      refine V.if_lt (tgt := 150) d_Mo_falls_22 (by decide) (fun c_22 => absurd c_22 (nI_pos (by omega))) (fun c_22 => ?_)
      refine V.aload_n d_Mo_falls_25 rfl ?_
      refine V.get d_Mo_falls_26 f_Mo_31_Mo mo_o rfl ?_
      refine V.iload_n d_Mo_falls_29 rfl ?_
      refine V.mlda 7 (by decide) (by decide) d_Mo_falls_30 (by first | omega | (show _ < 9; omega)) ?_
      refine V.top ((hF.2.2.2 c (by omega)).1) ?_
      refine V.istore_n d_Mo_falls_31 (by decide) ?_
      refine V.aload_n d_Mo_falls_32 rfl ?_
      refine V.get d_Mo_falls_33 f_Mo_34_Mo mo_o rfl ?_
      refine V.iload_n d_Mo_falls_36 rfl ?_
      refine V.mlda 8 (by decide) (by decide) d_Mo_falls_37 (by first | omega | (show _ < 9; omega)) ?_
      refine V.top ((hF.2.2.2 c (by omega)).2) ?_
      refine V.istore d_Mo_falls_38 (by decide) ?_
      refine V.aload_n d_Mo_falls_40 rfl ?_
      refine V.get d_Mo_falls_41 f_Mo_34_Mo mo_o rfl ?_
      refine V.iload_n d_Mo_falls_44 rfl ?_
      refine V.dup2 rfl rfl d_Mo_falls_45 ?_
      refine V.mlda 8 (by decide) (by decide) d_Mo_falls_46 (by first | omega | (show _ < 9; omega)) ?_
      refine V.top ((hF.2.2.2 c (by omega)).2) ?_
      refine V.iconst_ (nI 1) d_Mo_falls_47 (by decide +kernel) ?_
      refine V.addN d_Mo_falls_48 ?_
      refine V.msta 8 (by decide) (by decide) d_Mo_falls_49 (by first | omega | (show _ < 9; omega)) ?_
      refine V.iload d_Mo_falls_50 rfl ?_
      refine V.aload_n d_Mo_falls_52 rfl ?_
      refine V.get d_Mo_falls_53 f_Mo_7_Mo mo_o rfl ?_
      refine V.iconst_ (nI 0) d_Mo_falls_56 (by decide +kernel) ?_
      refine V.mldd d_Mo_falls_57 (by omega) ?_
      refine V.top (e0) ?_
      refine V.neN (tgt := 67) d_Mo_falls_58 (by decide) (by omega) (by omega) (fun c_58 => ?_) (fun c_58 => ?_)
      · skip
        refine V.aload_n d_Mo_falls_67 rfl ?_
        refine V.iload d_Mo_falls_68 rfl ?_
        refine V.bipush_ (nI 6) d_Mo_falls_70 (by decide +kernel) ?_
        refine V.callV2 d_Mo_falls_72 k_Mo_158_Mo_of_MoV mo_o (Nat.le_of_ble_eq_true rfl) (by omega) (by omega) (c_Mo_of (by omega) ?_)
        refine V.iconst_ (nI 1) d_Mo_falls_75 (by decide +kernel) ?_
        refine V.icmp_ne (tgt := 147) d_Mo_falls_76 (by decide) (fun c_76 => ?_) (fun c_76 => ?_)
        · skip
          refine V.goto (tgt := 21) d_Mo_falls_147 (by decide) ?_
          have hcf : cnd X.1 (P c) (K c) = false := by
            unfold cnd
            first
            | (rw [decide_eq_false c_76]; rfl)
            | (rw [c_104, Bool.and_false]; rfl)
            | (rw [decide_eq_false (Int32.not_lt.mpr c_120), Bool.and_false])
          refine V.lc (ls' := [(0, .ref q), (1, .int (nI i)), (2, .int (tpv (c + 1)))]) rfl (ih (c + 1) P (fun j => if j = c then K c + 1 else K j) X _ ?_ ?_ ?_ hC1 e0 ?_ hlen ?_)
          · have h1 := sk_congr (N := N) (K := fun j => if j = c then K c + 1 else K j) (K' := K) (c := c) (fun j hj => if_neg (by omega))
            simp only [sk] at hm ⊢
            rw [if_true, h1]; omega
          · rw [ctn_skip (by omega) hcf]; exact hfin
          · refine ⟨by omega, by omega, fun j hj => ⟨(hF.2.2.1 j hj).1, ?_⟩, fun j hj => ⟨?_, ?_⟩⟩
            · show (if j = c then K c + 1 else K j) ≤ N
              split
              · omega
              · exact (hF.2.2.1 j hj).2
            · rw [uA_n (by decide)]; exact (hF.2.2.2 j hj).1
            · show _ = nI (if j = c then K c + 1 else K j)
              rw [uA_s]
              by_cases hjc : j = c
              · subst hjc; rw [pk_us, if_pos rfl]
              · rw [pk_un hjc, if_neg hjc]; exact (hF.2.2.2 j hj).2
          · rw [uA_n (by decide)]; exact h9
          · intro k h1 h2 h3 h4 h5
            rw [uA_n h4]; exact hA k h1 h2 h3 h4 h5
        · skip
          refine V.aload_n d_Mo_falls_79 rfl ?_
          refine V.iload d_Mo_falls_80 rfl ?_
          refine V.iconst_ (nI 4) d_Mo_falls_82 (by decide +kernel) ?_
          refine V.callV2 d_Mo_falls_83 k_Mo_158_Mo_of_MoV mo_o (Nat.le_of_ble_eq_true rfl) (by omega) (by omega) (c_Mo_of (by omega) ?_)
          refine V.aload_n d_Mo_falls_86 rfl ?_
          refine V.iload_n d_Mo_falls_87 rfl ?_
          refine V.iconst_ (nI 4) d_Mo_falls_88 (by decide +kernel) ?_
          refine V.callV2 d_Mo_falls_89 k_Mo_158_Mo_of_MoV mo_o (Nat.le_of_ble_eq_true rfl) (by omega) (by omega) (c_Mo_of (by omega) ?_)
          refine V.isub d_Mo_falls_92 ?_
          refine V.i2l d_Mo_falls_93 ?_
          refine V.lconst_ ((nI 1).toInt64) d_Mo_falls_94 (by decide +kernel) ?_
          refine V.aload_n d_Mo_falls_95 rfl ?_
          refine V.iload_n d_Mo_falls_96 rfl ?_
          refine V.callV1 d_Mo_falls_97 k_Mo_162_Mo_reaches_MoV mo_o (Nat.le_of_ble_eq_true rfl) (by omega) (by omega) (c_Mo_reaches (by omega) ?_)
          refine V.i2l d_Mo_falls_100 ?_
          refine V.callS3 d_Mo_falls_101 k_Mo_56_Mo_inS (Nat.le_of_ble_eq_true rfl) (by omega) (by omega) (c_Mo_in ?_)
          refine V.ifeqB (tgt := 147) d_Mo_falls_104 (by decide) (fun c_104 => ?_) (fun c_104 => ?_)
          · skip
            refine V.goto (tgt := 21) d_Mo_falls_147 (by decide) ?_
            have hcf : cnd X.1 (P c) (K c) = false := by
              unfold cnd
              first
              | (rw [decide_eq_false c_76]; rfl)
              | (rw [c_104, Bool.and_false]; rfl)
              | (rw [decide_eq_false (Int32.not_lt.mpr c_120), Bool.and_false])
            refine V.lc (ls' := [(0, .ref q), (1, .int (nI i)), (2, .int (tpv (c + 1)))]) rfl (ih (c + 1) P (fun j => if j = c then K c + 1 else K j) X _ ?_ ?_ ?_ hC1 e0 ?_ hlen ?_)
            · have h1 := sk_congr (N := N) (K := fun j => if j = c then K c + 1 else K j) (K' := K) (c := c) (fun j hj => if_neg (by omega))
              simp only [sk] at hm ⊢
              rw [if_true, h1]; omega
            · rw [ctn_skip (by omega) hcf]; exact hfin
            · refine ⟨by omega, by omega, fun j hj => ⟨(hF.2.2.1 j hj).1, ?_⟩, fun j hj => ⟨?_, ?_⟩⟩
              · show (if j = c then K c + 1 else K j) ≤ N
                split
                · omega
                · exact (hF.2.2.1 j hj).2
              · rw [uA_n (by decide)]; exact (hF.2.2.2 j hj).1
              · show _ = nI (if j = c then K c + 1 else K j)
                rw [uA_s]
                by_cases hjc : j = c
                · subst hjc; rw [pk_us, if_pos rfl]
                · rw [pk_un hjc, if_neg hjc]; exact (hF.2.2.2 j hj).2
            · rw [uA_n (by decide)]; exact h9
            · intro k h1 h2 h3 h4 h5
              rw [uA_n h4]; exact hA k h1 h2 h3 h4 h5
          · skip
            refine V.aload_n d_Mo_falls_107 rfl ?_
            refine V.iload d_Mo_falls_108 rfl ?_
            refine V.iconst_ (nI 5) d_Mo_falls_110 (by decide +kernel) ?_
            refine V.callV2 d_Mo_falls_111 k_Mo_158_Mo_of_MoV mo_o (Nat.le_of_ble_eq_true rfl) (by omega) (by omega) (c_Mo_of (by omega) ?_)
            refine V.aload_n d_Mo_falls_114 rfl ?_
            refine V.iload_n d_Mo_falls_115 rfl ?_
            refine V.iconst_ (nI 5) d_Mo_falls_116 (by decide +kernel) ?_
            refine V.callV2 d_Mo_falls_117 k_Mo_158_Mo_of_MoV mo_o (Nat.le_of_ble_eq_true rfl) (by omega) (by omega) (c_Mo_of (by omega) ?_)
            refine V.icmp_ge (tgt := 147) d_Mo_falls_120 (by decide) (fun c_120 => ?_) (fun c_120 => ?_)
            · skip
              refine V.goto (tgt := 21) d_Mo_falls_147 (by decide) ?_
              have hcf : cnd X.1 (P c) (K c) = false := by
                unfold cnd
                first
                | (rw [decide_eq_false c_76]; rfl)
                | (rw [c_104, Bool.and_false]; rfl)
                | (rw [decide_eq_false (Int32.not_lt.mpr c_120), Bool.and_false])
              refine V.lc (ls' := [(0, .ref q), (1, .int (nI i)), (2, .int (tpv (c + 1)))]) rfl (ih (c + 1) P (fun j => if j = c then K c + 1 else K j) X _ ?_ ?_ ?_ hC1 e0 ?_ hlen ?_)
              · have h1 := sk_congr (N := N) (K := fun j => if j = c then K c + 1 else K j) (K' := K) (c := c) (fun j hj => if_neg (by omega))
                simp only [sk] at hm ⊢
                rw [if_true, h1]; omega
              · rw [ctn_skip (by omega) hcf]; exact hfin
              · refine ⟨by omega, by omega, fun j hj => ⟨(hF.2.2.1 j hj).1, ?_⟩, fun j hj => ⟨?_, ?_⟩⟩
                · show (if j = c then K c + 1 else K j) ≤ N
                  split
                  · omega
                  · exact (hF.2.2.1 j hj).2
                · rw [uA_n (by decide)]; exact (hF.2.2.2 j hj).1
                · show _ = nI (if j = c then K c + 1 else K j)
                  rw [uA_s]
                  by_cases hjc : j = c
                  · subst hjc; rw [pk_us, if_pos rfl]
                  · rw [pk_un hjc, if_neg hjc]; exact (hF.2.2.2 j hj).2
              · rw [uA_n (by decide)]; exact h9
              · intro k h1 h2 h3 h4 h5
                rw [uA_n h4]; exact hA k h1 h2 h3 h4 h5
            · skip
              refine V.incN d_Mo_falls_123 rfl (by decide) ?_
              have hct : cnd X.1 (P c) (K c) = true := by
                unfold cnd
                rw [decide_eq_true c_76, c_104, decide_eq_true (Int32.not_le.mp c_120)]
                rfl
              have hcg := cst_gdn (wv := tgv 1 W len) c_76 N
              rw [if_pos (show K c < N by omega)] at hcg
              refine V.aload_n d_Mo_falls_126 rfl ?_
              refine V.get d_Mo_falls_127 f_Mo_31_Mo mo_o rfl ?_
              refine V.iload_n d_Mo_falls_130 rfl ?_
              refine V.iload d_Mo_falls_131 rfl ?_
              refine V.msta 7 (by decide) (by decide) d_Mo_falls_133 (by first | omega | (show _ < 9; omega)) ?_
              refine V.aload_n d_Mo_falls_134 rfl ?_
              refine V.get d_Mo_falls_135 f_Mo_34_Mo mo_o rfl ?_
              refine V.iload_n d_Mo_falls_138 rfl ?_
              refine V.iconst_ (nI 0) d_Mo_falls_139 (by decide +kernel) ?_
              refine V.msta 8 (by decide) (by decide) d_Mo_falls_140 (by first | omega | (show _ < 9; omega)) ?_
              refine V.aload_n d_Mo_falls_141 rfl ?_
              refine V.iload d_Mo_falls_142 rfl ?_
              refine V.eqS (st' := [.int (nI (K c)), .ref q]) rfl ?_
              refine V.callV1 d_Mo_falls_144 k_Mo_171_Mo_goesDown_MoV mo_o (Nat.le_of_ble_eq_true rfl) (by omega) (by omega) (c_Mo_goesDown (by omega) hC1 (by omega) uS_s (fun A2 hA2 hA9 => ?_))
              refine V.goto (tgt := 21) d_Mo_falls_147 (by decide) ?_
              refine V.lc (ls' := [(0, .ref q), (1, .int (nI i)), (2, .int (tpv (c + 2)))]) rfl ?_
              refine V.eqH (h' := mo q (gdn (tgv 1 W len) X.1 (K c)) A2 (uS S 18 (nI (fm + (X.2 ++ [K c]).length))) h0) (by rw [uS_uu, List.length_append]; rfl) ?_
              refine ih (c + 2) (fun j => if j = c + 1 then K c else P j) (fun j => if j = c + 1 then 0 else if j = c then K c + 1 else K j) (gdn (tgv 1 W len) X.1 (K c), X.2 ++ [K c]) A2 ?_ ?_ ?_ ?_ ?_ ?_ ?_ ?_
              · have h1 := sk_congr (N := N) (K := fun j => if j = c + 1 then 0 else if j = c then K c + 1 else K j) (K' := K) (c := c) (fun j hj => by rw [if_neg (by omega), if_neg (by omega)])
                simp only [sk] at hm ⊢
                simp only [if_true, show (c = c + 1) = False from eq_false (by omega), if_false]
                rw [h1]
                have h2 : cst X.1 N * (N + 2) = cst (gdn (tgv 1 W len) X.1 (K c)) N * (N + 2) + (N + 2) := by rw [← hcg, Nat.add_mul, Nat.one_mul]
                omega
              · rw [ctn_push (by omega) hct (by omega) (fun h => by omega)]; exact hfin
              · refine ⟨by omega, by show cst (gdn (tgv 1 W len) X.1 (K c)) N + (c + 2) ≤ 8; omega, fun j hj => ⟨?_, ?_⟩, fun j hj => ⟨?_, ?_⟩⟩
                · show (if j = c + 1 then K c else P j) < N
                  split
                  · omega
                  · exact (hF.2.2.1 j (by omega)).1
                · show (if j = c + 1 then 0 else if j = c then K c + 1 else K j) ≤ N
                  split
                  · omega
                  · split
                    · omega
                    · exact (hF.2.2.1 j (by omega)).2
                · show A2 7 j = nI (if j = c + 1 then K c else P j)
                  rw [hA2 7 (by decide) (by decide) (by decide), uA_n (by decide), uA_s]
                  by_cases hj1 : j = c + 1
                  · subst hj1; rw [pk_us, if_pos rfl]
                  · rw [pk_un hj1, if_neg hj1, uA_n (by decide)]; exact (hF.2.2.2 j (by omega)).1
                · show A2 8 j = nI (if j = c + 1 then 0 else if j = c then K c + 1 else K j)
                  rw [hA2 8 (by decide) (by decide) (by decide), uA_s]
                  by_cases hj1 : j = c + 1
                  · subst hj1; rw [pk_us, if_pos rfl]
                  · rw [pk_un hj1, if_neg hj1, uA_n (by decide), uA_s]
                    by_cases hjc : j = c
                    · subst hjc; rw [pk_us, if_pos rfl]
                    · rw [pk_un hjc, if_neg hjc]; exact (hF.2.2.2 j (by omega)).2
              · exact hC1.same (fun j hj => gdn_lo (by omega) (by omega))
              · show gdn (tgv 1 W len) X.1 (K c) 0 = nI N
                rw [gdn_lo (by omega) (by omega)]; exact e0
              · show A2 9 = wrl (A 9) fm (X.2 ++ [K c])
                rw [hA9, uA_n (by decide), uA_n (by decide), uA_n (by decide), h9, wrl_app]
              · show (X.2 ++ [K c]).length + cst (gdn (tgv 1 W len) X.1 (K c)) N ≤ 8
                rw [List.length_append]; show X.2.length + 1 + _ ≤ 8; omega
              · intro k h1 h2 h3 h4 h5
                rw [hA2 k h1 h2 h5, uA_n h4, uA_n h3, uA_n h4]; exact hA k h1 h2 h3 h4 h5
      · skip
        refine V.iinc d_Mo_falls_61 rfl (tpv_dec c) (by decide) ?_
        refine V.goto (tgt := 147) d_Mo_falls_64 (by decide) ?_
        refine V.goto (tgt := 21) d_Mo_falls_147 (by decide) ?_
        refine V.lc (ls' := [(0, .ref q), (1, .int (nI i)), (2, .int (tpv c))]) rfl (ih c P K X _ ?_ ?_ ?_ hC1 e0 ?_ hlen ?_)
        · have := sk_congr (N := N) (K := K) (K' := K) (c := c) (fun j _ => rfl); simp only [sk] at hm; omega
        · rw [← ctn_pop c_58]; exact hfin
        · exact ⟨by omega, by omega, fun j hj => hF.2.2.1 j (by omega), fun j hj => by
            rw [uA_n (by decide), uA_s, pk_un (by omega)]
            exact hF.2.2.2 j (by omega)⟩
        · rw [uA_n (by decide)]; exact h9
        · intro k h1 h2 h3 h4 h5
          rw [uA_n h4]; exact hA k h1 h2 h3 h4 h5
theorem d_Mo_falls_0 : decode prog_14_method_39_code 0 = .ok (.iconst 0, 1) := by decide +kernel
theorem d_Mo_falls_1 : decode prog_14_method_39_code 1 = .ok (.istore_n 2, 1) := by decide +kernel
theorem d_Mo_falls_2 : decode prog_14_method_39_code 2 = .ok (.aload_n 0, 1) := by decide +kernel
theorem d_Mo_falls_3 : decode prog_14_method_39_code 3 = .ok (.getfield 31, 3) := by decide +kernel
theorem d_Mo_falls_6 : decode prog_14_method_39_code 6 = .ok (.iconst 0, 1) := by decide +kernel
theorem d_Mo_falls_7 : decode prog_14_method_39_code 7 = .ok (.iload_n 1, 1) := by decide +kernel
theorem d_Mo_falls_8 : decode prog_14_method_39_code 8 = .ok (.iastore, 1) := by decide +kernel
theorem d_Mo_falls_9 : decode prog_14_method_39_code 9 = .ok (.aload_n 0, 1) := by decide +kernel
theorem d_Mo_falls_10 : decode prog_14_method_39_code 10 = .ok (.getfield 34, 3) := by decide +kernel
theorem d_Mo_falls_13 : decode prog_14_method_39_code 13 = .ok (.iconst 0, 1) := by decide +kernel
theorem d_Mo_falls_14 : decode prog_14_method_39_code 14 = .ok (.iconst 0, 1) := by decide +kernel
theorem d_Mo_falls_15 : decode prog_14_method_39_code 15 = .ok (.iastore, 1) := by decide +kernel
theorem d_Mo_falls_16 : decode prog_14_method_39_code 16 = .ok (.aload_n 0, 1) := by decide +kernel
theorem d_Mo_falls_17 : decode prog_14_method_39_code 17 = .ok (.iload_n 1, 1) := by decide +kernel
theorem d_Mo_falls_18 : decode prog_14_method_39_code 18 = .ok (.invokevirtual 171, 3) := by decide +kernel
set_option maxRecDepth 100000 in
theorem c_Mo_falls {i N fm len : Nat} {W : Nat → Nat} {l : Launch} {d q n : Nat} {D : Nat → Int32} {A : Nat → Nat → Int32} {S : Nat → Int32} {h0 : HP} {Q : QT} (hi : i < N) (hN : N ≤ 8) (e0 : D 0 = nI N) (hst : D (50 + 7 * i + 6) = nI 1) (hC1 : Cd D 1 W len) (hf : fm < 2 ^ 29) (ef : S 18 = nI fm) (hQ : ∀ (A1 : Nat → Nat → Int32), (∀ k, k ≠ 4 → k ≠ 6 → k ≠ 7 → k ≠ 8 → k ≠ 9 → A1 k = A k) → A1 9 = wrl (A 9) fm (fl (tgv 1 W len) N 7 i (D, [])).2 → Q none n (mo q (fl (tgv 1 W len) N 7 i (D, [])).1 A1 (uS S 18 (nI (fm + (fl (tgv 1 W len) N 7 i (D, [])).2.length))) h0)) : Ct l M_Mo_falls (d + 4) 0 0 [.ref q, .int (nI i)] n (mo q D A S h0) Q := by
  refine Ct.of (fun _ => trivial) (by decide) (Nat.le_of_ble_eq_true rfl) ?_
  refine V.iconst_ (nI 0) d_Mo_falls_0 (by decide +kernel) ?_
  refine V.istore_n d_Mo_falls_1 (by decide) ?_
  refine V.aload_n d_Mo_falls_2 rfl ?_
  refine V.get d_Mo_falls_3 f_Mo_31_Mo mo_o rfl ?_
  refine V.iconst_ (nI 0) d_Mo_falls_6 (by decide +kernel) ?_
  refine V.iload_n d_Mo_falls_7 rfl ?_
  refine V.msta 7 (by decide) (by decide) d_Mo_falls_8 (by first | omega | (show _ < 9; omega)) ?_
  refine V.aload_n d_Mo_falls_9 rfl ?_
  refine V.get d_Mo_falls_10 f_Mo_34_Mo mo_o rfl ?_
  refine V.iconst_ (nI 0) d_Mo_falls_13 (by decide +kernel) ?_
  refine V.iconst_ (nI 0) d_Mo_falls_14 (by decide +kernel) ?_
  refine V.msta 8 (by decide) (by decide) d_Mo_falls_15 (by first | omega | (show _ < 9; omega)) ?_
  refine V.aload_n d_Mo_falls_16 rfl ?_
  refine V.iload_n d_Mo_falls_17 rfl ?_
  refine V.callV1 d_Mo_falls_18 k_Mo_171_Mo_goesDown_MoV mo_o (Nat.le_of_ble_eq_true rfl) (by omega) (by omega) (c_Mo_goesDown (by omega) hC1 (by omega) ef (fun A2 hA2 hA9 => ?_))
  have hcg := cst_gdn (wv := tgv 1 W len) hst N
  rw [if_pos hi] at hcg
  have hcl := cst_le (D := D) N
  refine V.lc (ls' := [(0, .ref q), (1, .int (nI i)), (2, .int (tpv 1))]) rfl ?_
  refine falls_loop (W := W) (len := len) (Y := fl (tgv 1 W len) N 7 i (D, [])) hN hf hQ _ 1 (fun _ => i) (fun _ => 0) (gdn (tgv 1 W len) D i, [i]) A2 (Nat.lt_succ_self _) ?_ ?_ ?_ ?_ ?_ ?_ ?_
  · rfl
  · refine ⟨by omega, by show cst (gdn (tgv 1 W len) D i) N + 1 ≤ 8; omega, fun j _ => ⟨hi, Nat.zero_le _⟩, fun j hj => ?_⟩
    rw [show j = 0 by omega, hA2 7 (by decide) (by decide) (by decide), hA2 8 (by decide) (by decide) (by decide), uA_n (by decide), uA_s, uA_s, pk_us, pk_us]
    exact ⟨rfl, rfl⟩
  · exact hC1.same (fun j hj => gdn_lo (by omega) (by omega))
  · show gdn (tgv 1 W len) D i 0 = nI N
    rw [gdn_lo (by omega) (by omega)]; exact e0
  · rw [hA9, uA_n (by decide), uA_n (by decide)]; rfl
  · show 1 + cst (gdn (tgv 1 W len) D i) N ≤ 8; omega
  · intro k h1 h2 h3 h4 h5
    rw [hA2 k h1 h2 h5, uA_n h4, uA_n h3]
