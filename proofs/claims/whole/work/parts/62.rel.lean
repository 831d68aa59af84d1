/-! ===== the class's state against the reference's ===== -/
def hN : HP := fun _ => none
def DF (N : Nat) (E : Nat → Int32) : Prop := ∀ i, i < N → ¬ tN E (50 + 7 * i + 2) = tN E (50 + 7 * i + 3)
def TQ (u : Nat) (z : Int32) (r : Nat → Int32) (D : Nat → Int32) (Wc : Nat → Nat) (len : Nat) (V : Nat → Nat) (vl : Nat) : Prop := Wf Wc len ∧ z = nI len ∧ (∀ k, k < len → r k = nI (Wc k)) ∧ Cd D u V vl ∧ ∀ a b c, hld (evc a b c Wc len) (lwv u) (hgv u) = tgv u V vl a b c
abbrev AT (N : Nat) (D E : Nat → Int32) : Prop := AG N (fun _ => True) D E
/-- a world, a tape, what waits, two texts: the class's and the reference's -/
def SN (E D : Nat → Int32) (tz : Int32) (tr : Nat → Int32) (wz : Int32) (wr : Nat → Int32) (z0 : Int32) (r0 : Nat → Int32) (z1 : Int32) (r1 : Nat → Int32) (N dy tp wt : Nat) (Wc0 : Nat → Nat) (len0 : Nat) (V0 : Nat → Nat) (l0 : Nat) (Wc1 : Nat → Nat) (len1 : Nat) (V1 : Nat → Nat) (l1 : Nat) : Prop :=
  (N ≤ 8 ∧ D 0 = nI N ∧ D 1 = nI dy ∧ dy ≤ 9999 ∧ WB E ∧ WB D ∧ AT N D E ∧ DF N E) ∧ (tp ≤ 50 ∧ tz = nI tp ∧ D 6 = nI tp ∧ ∀ j, j < tp → tr j = D (228 + j) ∧ ∃ c, c < 256 ∧ tr j = nI c) ∧ (wt ≤ 20 ∧ wz = nI wt ∧ D 7 = nI wt ∧ ∀ j, j < wt → wr j = D (108 + j)) ∧ TQ 0 z0 r0 D Wc0 len0 V0 l0 ∧ TQ 1 z1 r1 D Wc1 len1 V1 l1
def ps0 (i : Nat) : Nat := i + 1 + i / 6
def SHR (R Z A : Nat → Nat → Int32) : Prop := ∀ i, i < 4 → Z (80 + 2 * i) 2 = A 11 i ∧ (∃ sz, sz ≤ 40 ∧ Z (80 + 2 * i) 1 = nI sz ∧ A 12 i = nI sz) ∧ ∀ j, j < 40 → R (80 + 2 * i + 1) j = A 13 (40 * i + j)
def TRR (R Z A : Nat → Nat → Int32) (S : Nat → Int32) : Prop := ∃ tm, tm ≤ 40 ∧ Z 51 1 = nI tm ∧ S 20 = nI tm ∧ ∀ j, j < tm → R 52 j = A 10 j
def ERR (R A : Nat → Nat → Int32) : Prop := ∀ k, k ≤ 5 → R 54 k = A 3 k
def IMR (R W Z A : Nat → Nat → Int32) (S : Nat → Int32) : Prop := Z 0 14 = S 3 ∧ (¬ S 3 = 0 → ∃ N dy tp wt Wc0 len0 V0 l0 Wc1 len1 V1 l1, SN (W 2) (A 1) (Z 72 1) (R 73) (Z 74 1) (R 75) (Z 76 1) (R 77) (Z 78 1) (R 79) N dy tp wt Wc0 len0 V0 l0 Wc1 len1 V1 l1)
def RelP (m : Nat) (R W Z : Nat → Nat → Int32) (T : Nat → Nat → Nat) (kn : Kn) (n : Nat) (D : Nat → Int32) (A : Nat → Nat → Int32) (S : Nat → Int32) (N dy tp wt : Nat) (Wc0 : Nat → Nat) (len0 : Nat) (V0 : Nat → Nat) (l0 : Nat) (Wc1 : Nat → Nat) (len1 : Nat) (V1 : Nat → Nat) (l1 : Nat) : Prop :=
  SN (W 0) D (Z 1 1) (R 2) (Z 49 1) (R 50) (Z 4 1) (R 5) (Z 10 1) (R 11) N dy tp wt Wc0 len0 V0 l0 Wc1 len1 V1 l1 ∧ WB (W 1) ∧ WB (W 2) ∧ KO (cvc Wc0 len0) kn ∧ TI T kn n ∧ PR R Z 0 30 ps0 ∧ TRR R Z A S ∧ SHR R Z A ∧ ERR R A ∧ IMR R W Z A S ∧ ∃ fm, S 18 = nI fm ∧ fm ≤ m
def Rel (m : Nat) (R W Z : Nat → Nat → Int32) (T : Nat → Nat → Nat) (kn : Kn) (n : Nat) (D : Nat → Int32) (A : Nat → Nat → Int32) (S : Nat → Int32) : Prop := ∃ N dy tp wt Wc0 len0 V0 l0 Wc1 len1 V1 l1, RelP m R W Z T kn n D A S N dy tp wt Wc0 len0 V0 l0 Wc1 len1 V1 l1
/-- what a call of the class leaves for the reference's call -/
def JN (m : Nat) (l : Launch) (M2 : MD) (d2 : Nat) (vs : List Value) : QT := fun r n' h' => (∃ v, r = some (.int v)) ∧ (∃ fs, h' 88 = some (.inr (5, fs))) ∧ ∀ Q2 : QT, (∀ (R W Z : Nat → Nat → Int32) (T : Nat → Nat → Nat) (kn : Kn) (D : Nat → Int32) (A : Nat → Nat → Int32) (S : Nat → Int32), Rel (m + 40000) R W Z T kn n' D A S → Q2 r n' (co R W Z T kn (mo 88 D A S hN))) → Ct l M2 d2 0 0 vs n' h' Q2
section REL
variable {m : Nat} {R W Z : Nat → Nat → Int32} {T : Nat → Nat → Nat} {kn : Kn} {n : Nat} {D : Nat → Int32} {A : Nat → Nat → Int32} {S : Nat → Int32} {N dy tp wt : Nat} {Wc0 : Nat → Nat} {len0 : Nat} {V0 : Nat → Nat} {l0 : Nat} {Wc1 : Nat → Nat} {len1 : Nat} {V1 : Nat → Nat} {l1 : Nat}
theorem hN_mo (a : Nat) (h : ¬ (88 ≤ a ∧ a < 104)) : mo 88 D A S hN a = none := mo_x (by omega)
/-- the reference lies beside the class -/
theorem cmo (hT : TI T kn n) : co R W Z T kn (mo 88 D A S hN) = mo 88 D A S (co R W Z T kn hN) := by
  funext a
  by_cases h : 88 ≤ a ∧ a < 104
  · rw [co_x (ds_big h.1) (fun w i hw hi e => (hT.1 w i hw hi).2.1 (by rw [e]; exact h)) (fun b f e z => (hT.2.2.1 b f e).1.2.1 (by rw [z]; exact h))]
    unfold mo
    by_cases h1 : a = 88
    · rw [if_pos h1, if_pos h1]
    · rw [if_neg h1, if_neg h1]
      by_cases h2 : a = 88 + 1
      · rw [if_pos h2, if_pos h2]
      · rw [if_neg h2, if_neg h2, if_pos (by omega), if_pos (by omega)]
  · rw [mo_x (by omega)]
    unfold co
    rw [mo_x (by omega)]
theorem Rel.mm {m' : Nat} (h : Rel m R W Z T kn n D A S) (hm : m ≤ m') : Rel m' R W Z T kn n D A S := by
  obtain ⟨N, dy, tp, wt, Wc0, len0, V0, l0, Wc1, len1, V1, l1, h1, h2, h3, h4, h5, h6, h7, h8, h9, h10, fm, h11, h12⟩ := h
  exact ⟨N, dy, tp, wt, Wc0, len0, V0, l0, Wc1, len1, V1, l1, h1, h2, h3, h4, h5, h6, h7, h8, h9, h10, fm, h11, by omega⟩
theorem SN.c {E D : Nat → Int32} {tz : Int32} {tr : Nat → Int32} {wz : Int32} {wr : Nat → Int32} {z0 : Int32} {r0 : Nat → Int32} {z1 : Int32} {r1 : Nat → Int32} (h : SN E D tz tr wz wr z0 r0 z1 r1 N dy tp wt Wc0 len0 V0 l0 Wc1 len1 V1 l1) : N ≤ 8 ∧ D 0 = nI N ∧ D 1 = nI dy ∧ dy ≤ 9999 ∧ WB E ∧ WB D ∧ AT N D E ∧ DF N E := h.1
theorem ERR.e {k : Nat} (h : ERR R A) : ERR (uA R 54 (upd (R 54) k (R 54 k + nI 1))) (uA A 3 (upd (A 3) k (A 3 k + nI 1))) := fun j hj => by
  rw [uA_s, uA_s]
  by_cases e : j = k
  · subst e; rw [pk_us, pk_us, h j hj]
  · rw [pk_un e, pk_un e]; exact h j hj
/-- rows and numbers that a call leaves as they are -/
theorem Rel.err {k : Nat} (h : Rel m R W Z T kn n D A S) : Rel m (uA R 54 (upd (R 54) k (R 54 k + nI 1))) W Z T kn n D (uA A 3 (upd (A 3) k (A 3 k + nI 1))) S := by
  obtain ⟨N, dy, tp, wt, Wc0, len0, V0, l0, Wc1, len1, V1, l1, h1, h2, h3, h4, h5, h6, h7, h8, h9, h10, h11⟩ := h
  refine ⟨N, dy, tp, wt, Wc0, len0, V0, l0, Wc1, len1, V1, l1, h1, h2, h3, h4, h5, h6, ?_, ?_, h9.e, ?_, h11⟩
  · obtain ⟨t, t1, t2, t3, t4⟩ := h7
    exact ⟨t, t1, t2, t3, t4⟩
  · intro i hi
    obtain ⟨s1, s2, s3⟩ := h8 i hi
    refine ⟨s1, s2, fun j hj => ?_⟩
    rw [uA_n (by omega), uA_n (by decide)]
    exact s3 j hj
  · exact h10
end REL
theorem wiT {a k : Nat} (h : a ≤ k) (hk : k < 2 ^ 31) : wi (nI a) (nI 0) (nI k) = true := by
  rw [wi_ofN (by decide) (by omega) hk, decide_eq_true (Nat.zero_le _), decide_eq_true h]
  rfl
theorem wiN {i N : Nat} (h : i < N) (hN : N ≤ 1000) : wi (nI i) (nI 0) (nI N - nI 1) = true := by
  rw [pk_sub (by omega)]
  exact wiT (by omega) (by omega)
theorem wi1T {a k : Nat} (h1 : 1 ≤ a) (h : a ≤ k) (hk : k < 2 ^ 31) : wi (nI a) (nI 1) (nI k) = true := by
  rw [wi_ofN (by decide) (by omega) hk, decide_eq_true h1, decide_eq_true h]
  rfl
theorem twoT {a b : Nat} (ha : a ≤ 5) (hb : b ≤ 5) (hab : a ≠ b) : two (nI a) (nI b) = true := by
  rw [two_N (by omega) (by omega)]
  exact decide_eq_true hab
theorem m1_I : nI 0 - nI 1 = (-1 : Int32) := by decide +kernel
theorem m1_neg : ¬ (0 : Int32) ≤ -1 := by decide +kernel
theorem wh_wi {x : Int32} {s : Nat} (hs : s ≤ 1000) : wh x (nI s) = wi x (nI 0) (nI s - nI 1) := by
  unfold wh wi
  rw [nI_0]
  by_cases h0 : 0 ≤ x
  · rw [decide_eq_true h0]
    obtain ⟨j, hj, rfl⟩ := nI_of (Int32.not_lt.mpr h0)
    congr 1
    by_cases h1 : s = 0
    · rw [h1, decide_eq_false (nI_nlt (Nat.zero_le _) hj), m1_I]
      exact (decide_eq_false (fun z => m1_neg (Int32.le_trans (nI_pos' hj) z))).symm
    · rw [pk_sub (by omega)]
      refine decide_eq_decide.mpr ?_
      rw [nI_ltI hj (by omega), nI_leI hj (by omega)]
      omega
  · rw [decide_eq_false h0, Bool.false_and, Bool.false_and]
