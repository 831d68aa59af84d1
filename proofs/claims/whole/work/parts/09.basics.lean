/-! ===== numbers that are small and not below 0; truth as 0 and 1 ===== -/
def bi (b : Bool) : Int32 := if b then 1 else 0
theorem bi_0 {b : Bool} (h : bi b = 0) : b = false := by cases b <;> first | rfl | exact absurd h (by decide)
theorem bi_n {b : Bool} (h : ¬ bi b = 0) : b = true := by cases b <;> first | rfl | exact absurd rfl h
theorem bi_nar (b : Bool) : narrow .boolean (.int (bi b)) = .int (bi b) := by cases b <;> rfl
def wi (x lo hi : Int32) : Bool := decide (lo ≤ x) && decide (x ≤ hi)
theorem wi_t {x lo hi : Int32} (h : wi x lo hi = true) : lo ≤ x ∧ x ≤ hi := by
  simp only [wi, Bool.and_eq_true, decide_eq_true_eq] at h
  exact h
theorem wi_nat {x : Int32} {k : Nat} (hk : k < 2 ^ 31) (h : wi x 0 (nI k) = true) : ∃ i, i ≤ k ∧ x = nI i := by
  obtain ⟨h1, h2⟩ := wi_t h
  exact nI_of2 (nI_toInt hk) (Int32.not_lt.mpr h1) h2
theorem i64_le (x y : Int32) : x.toInt64 ≤ y.toInt64 ↔ x ≤ y := by
  rw [Int64.le_iff_toInt_le, Int32.le_iff_toInt_le, Int32.toInt_toInt64, Int32.toInt_toInt64]
theorem wi_ofN {i lo hi : Nat} (hl : lo < 2 ^ 31) (hi' : i < 2 ^ 31) (hh : hi < 2 ^ 31) : wi (nI i) (nI lo) (nI hi) = (decide (lo ≤ i) && decide (i ≤ hi)) := by
  simp only [wi, nI_leI hl hi', nI_leI hi' hh]
section VB
variable {l : Launch} {M : MD} {d mc ms pc : Nat} {ls : List (Nat × Value)} {st : List Value} {n : Nat} {h : HP} {c s : Nat} {Q : QT}
theorem V.eqS {st' : List Value} (hs : st = st') (k : V l M d mc ms pc ls st' n h c s Q) : V l M d mc ms pc ls st n h c s Q := hs ▸ k
theorem V.eqH {h' : HP} (hs : h = h') (k : V l M d mc ms pc ls st n h' c s Q) : V l M d mc ms pc ls st n h c s Q := hs ▸ k
/-- the top of the stack by another name -/
theorem V.top {x y : Int32} (hs : x = y) (k : V l M d mc ms pc ls (.int y :: st) n h c s Q) : V l M d mc ms pc ls (.int x :: st) n h c s Q := by rw [hs]; exact k
theorem V.topg {x : Int32} (k : ∀ y, y = x → V l M d mc ms pc ls (.int y :: st) n h c s Q) : V l M d mc ms pc ls (.int x :: st) n h c s Q := k x rfl
theorem V.addN {a b : Nat} (hd : decode M.2.1 pc = .ok (.iadd, 1)) (k : V l M d mc ms (pc + 1) ls (.int (nI (a + b)) :: st) n h c s Q) : V l M d mc ms pc ls (.int (nI b) :: .int (nI a) :: st) n h c s Q := V.iadd hd (V.top (nI_add a b) k)
theorem V.mulN {a b : Nat} (hd : decode M.2.1 pc = .ok (.imul, 1)) (k : V l M d mc ms (pc + 1) ls (.int (nI (a * b)) :: st) n h c s Q) : V l M d mc ms pc ls (.int (nI b) :: .int (nI a) :: st) n h c s Q := V.imul hd (V.top (pk_mul a b) k)
theorem V.subN {a b : Nat} (hd : decode M.2.1 pc = .ok (.isub, 1)) (hab : b ≤ a) (k : V l M d mc ms (pc + 1) ls (.int (nI (a - b)) :: st) n h c s Q) : V l M d mc ms pc ls (.int (nI b) :: .int (nI a) :: st) n h c s Q := V.isub hd (V.top (pk_sub hab) k)
theorem V.divN {a b : Nat} (hd : decode M.2.1 pc = .ok (.idiv, 1)) (ha : a < 2 ^ 31) (h0 : 0 < b) (hb : b < 2 ^ 31) (k : V l M d mc ms (pc + 1) ls (.int (nI (a / b)) :: st) n h c s Q) : V l M d mc ms pc ls (.int (nI b) :: .int (nI a) :: st) n h c s Q := V.idiv hd (nI_ne0 h0 hb) (V.top (pk_div ha h0 hb) k)
theorem V.remN {a b : Nat} (hd : decode M.2.1 pc = .ok (.irem, 1)) (ha : a < 2 ^ 31) (h0 : 0 < b) (hb : b < 2 ^ 31) (k : V l M d mc ms (pc + 1) ls (.int (nI (a % b)) :: st) n h c s Q) : V l M d mc ms pc ls (.int (nI b) :: .int (nI a) :: st) n h c s Q := V.irem hd (nI_ne0 h0 hb) (V.top (pk_rem ha h0 hb) k)
theorem V.incN {i a : Nat} (hd : decode M.2.1 pc = .ok (.iinc i 1, 3)) (hv : lkp ls i = some (.int (nI a))) (hn : i < M.2.2.1) (k : V l M d mc ms (pc + 3) (sto ls i (.int (nI (a + 1)))) st n h c s Q) : V l M d mc ms pc ls st n h c s Q := V.iinc hd hv (nI_1 a) hn k
theorem V.decN {i a : Nat} (hd : decode M.2.1 pc = .ok (.iinc i (-1), 3)) (hv : lkp ls i = some (.int (nI a))) (ha : 0 < a) (hn : i < M.2.2.1) (k : V l M d mc ms (pc + 3) (sto ls i (.int (nI (a - 1)))) st n h c s Q) : V l M d mc ms pc ls st n h c s Q := V.iinc hd hv (sb_m1 ha) hn k
/-- a loop that counts up: G k the walk at its head with k done -/
theorem up_to {G : Nat → Prop} (N : Nat) (he : G N) (hs : ∀ k, k < N → G (k + 1) → G k) : ∀ k, k ≤ N → G k := by
  intro k hk
  induction hm : N - k generalizing k with
  | zero => rw [show k = N by omega]; exact he
  | succ m ih => exact hs k (by omega) (ih (k + 1) (by omega) (by omega))
theorem icl {i : Nat} (hi : i < 2 ^ 31) : (nI i).toNatClampNeg = i := nI_clamp hi
theorem V.ialdN {a N i : Nat} {f : Nat → Int32} (hd : decode M.2.1 pc = .ok (.iaload, 1)) (ha : h a = some (.inl (0, N, .inl f))) (hi : i < N) (hN : N < 2 ^ 31) (kk : V l M d mc ms (pc + 1) ls (.int (f i) :: st) n h c s Q) : V l M d mc ms pc ls (.int (nI i) :: .ref a :: st) n h c s Q := by
  refine V.iald hd ha (vp_in_nI hi hN) ?_
  rw [icl (Nat.lt_trans hi hN)]
  exact kk
theorem V.iastN {a N i : Nat} {f : Nat → Int32} {x : Int32} (hd : decode M.2.1 pc = .ok (.iastore, 1)) (ha : h a = some (.inl (0, N, .inl f))) (hi : i < N) (hN : N < 2 ^ 31) (kk : V l M d mc ms (pc + 1) ls st n (up h a (.inl (0, N, .inl (upd f i x)))) c s Q) : V l M d mc ms pc ls (.int x :: .int (nI i) :: .ref a :: st) n h c s Q := by
  refine V.iast hd ha (vp_in_nI hi hN) ?_
  rw [icl (Nat.lt_trans hi hN)]
  exact kk
theorem V.geN {a b : Nat} {off : Int} {tgt : Nat} (hd : decode M.2.1 pc = .ok (.if_icmp .ge off, 3)) (ht : (pc : Int) + off = (tgt : Int)) (ha : a < 2 ^ 31) (hb : b < 2 ^ 31) (kt : b ≤ a → V l M d mc ms tgt ls st n h c s Q) (kf : a < b → V l M d mc ms (pc + 3) ls st n h c s Q) : V l M d mc ms pc ls (.int (nI b) :: .int (nI a) :: st) n h c s Q :=
  V.icmp_ge hd ht (fun q => kt ((nI_leI hb ha).mp q)) (fun q => kf (Nat.not_le.mp fun z => q ((nI_leI hb ha).mpr z)))
theorem V.neN {a b : Nat} {off : Int} {tgt : Nat} (hd : decode M.2.1 pc = .ok (.if_icmp .ne off, 3)) (ht : (pc : Int) + off = (tgt : Int)) (ha : a < 2 ^ 31) (hb : b < 2 ^ 31) (kt : a ≠ b → V l M d mc ms tgt ls st n h c s Q) (kf : a = b → V l M d mc ms (pc + 3) ls st n h c s Q) : V l M d mc ms pc ls (.int (nI b) :: .int (nI a) :: st) n h c s Q :=
  V.icmp_ne hd ht (fun q => kt (fun z => q (by rw [z]))) (fun q => kf ((nI_eq ha hb).mp q))
theorem V.eqN {a b : Nat} {off : Int} {tgt : Nat} (hd : decode M.2.1 pc = .ok (.if_icmp .eq off, 3)) (ht : (pc : Int) + off = (tgt : Int)) (ha : a < 2 ^ 31) (hb : b < 2 ^ 31) (kt : a = b → V l M d mc ms tgt ls st n h c s Q) (kf : a ≠ b → V l M d mc ms (pc + 3) ls st n h c s Q) : V l M d mc ms pc ls (.int (nI b) :: .int (nI a) :: st) n h c s Q :=
  V.icmp_eq hd ht (fun q => kt ((nI_eq ha hb).mp q)) (fun q => kf (fun z => q (by rw [z])))
theorem V.leN {a b : Nat} {off : Int} {tgt : Nat} (hd : decode M.2.1 pc = .ok (.if_icmp .le off, 3)) (ht : (pc : Int) + off = (tgt : Int)) (ha : a < 2 ^ 31) (hb : b < 2 ^ 31) (kt : a ≤ b → V l M d mc ms tgt ls st n h c s Q) (kf : b < a → V l M d mc ms (pc + 3) ls st n h c s Q) : V l M d mc ms pc ls (.int (nI b) :: .int (nI a) :: st) n h c s Q :=
  V.icmp_le hd ht (fun q => kt ((nI_leI ha hb).mp q)) (fun q => kf (Nat.not_le.mp fun z => q ((nI_leI ha hb).mpr z)))
theorem V.ltN {a b : Nat} {off : Int} {tgt : Nat} (hd : decode M.2.1 pc = .ok (.if_icmp .lt off, 3)) (ht : (pc : Int) + off = (tgt : Int)) (ha : a < 2 ^ 31) (hb : b < 2 ^ 31) (kt : a < b → V l M d mc ms tgt ls st n h c s Q) (kf : b ≤ a → V l M d mc ms (pc + 3) ls st n h c s Q) : V l M d mc ms pc ls (.int (nI b) :: .int (nI a) :: st) n h c s Q :=
  V.icmp_lt hd ht (fun q => kt ((nI_ltI ha hb).mp q)) (fun q => kf (Nat.not_lt.mp fun z => q ((nI_ltI ha hb).mpr z)))
theorem V.gtN {a b : Nat} {off : Int} {tgt : Nat} (hd : decode M.2.1 pc = .ok (.if_icmp .gt off, 3)) (ht : (pc : Int) + off = (tgt : Int)) (ha : a < 2 ^ 31) (hb : b < 2 ^ 31) (kt : b < a → V l M d mc ms tgt ls st n h c s Q) (kf : a ≤ b → V l M d mc ms (pc + 3) ls st n h c s Q) : V l M d mc ms pc ls (.int (nI b) :: .int (nI a) :: st) n h c s Q :=
  V.icmp_gt hd ht (fun q => kt ((nI_ltI hb ha).mp q)) (fun q => kf (Nat.not_lt.mp fun z => q ((nI_ltI hb ha).mpr z)))
theorem V.lcmp {x y : Int64} (hd : decode M.2.1 pc = .ok (.lcmp, 1)) (k : V l M d mc ms (pc + 1) ls (.int (lg_cmp x y) :: st) n h c s Q) : V l M d mc ms pc ls (.long y :: .long x :: st) n h c s Q :=
  fun E p e s0 m args below meth cd C hE H locs lm hH hS hl => W.lcmp C.1 C.2.1 hd (k E p e s0 m args below meth cd C hE H locs lm hH hS hl)
theorem V.ifeqB {b : Bool} {off : Int} {tgt : Nat} (hd : decode M.2.1 pc = .ok (.ifCond .eq off, 3)) (ht : (pc : Int) + off = (tgt : Int)) (kt : b = false → V l M d mc ms tgt ls st n h c s Q) (kf : b = true → V l M d mc ms (pc + 3) ls st n h c s Q) : V l M d mc ms pc ls (.int (bi b) :: st) n h c s Q :=
  V.if_eq hd ht (fun q => kt (bi_0 q)) (fun q => kf (bi_n q))
theorem V.ifneB {b : Bool} {off : Int} {tgt : Nat} (hd : decode M.2.1 pc = .ok (.ifCond .ne off, 3)) (ht : (pc : Int) + off = (tgt : Int)) (kt : b = true → V l M d mc ms tgt ls st n h c s Q) (kf : b = false → V l M d mc ms (pc + 3) ls st n h c s Q) : V l M d mc ms pc ls (.int (bi b) :: st) n h c s Q :=
  V.if_ne hd ht (fun q => kt (bi_n q)) (fun q => kf (bi_0 q))
theorem V.bret {b : Bool} (hd : decode M.2.1 pc = .ok (.ireturn, 1)) (hr : M.2.2.2.1 = some .boolean) (hc : c ≤ mc) (hs : s ≤ ms) (q : Q (some (.int (bi b))) n h) : V l M d mc ms pc ls [.int (bi b)] n h c s Q := V.zret hd hr (bi_nar b) hc hs q
end VB
/-! calls with so many arguments -/
section VK
variable {l : Launch} {M M' : MD} {d mc ms mc' ms' pc idx : Nat} {ls : List (Nat × Value)} {st : List Value} {n : Nat} {h : HP} {c s : Nat} {Q : QT}
theorem V.callS0 (hd : decode M.2.1 pc = .ok (.invokestatic idx, 3)) (K : kS M.1.cls idx M' 0) (hw : (st.map fun v => v.category).sum ≤ 8) (hc : c + mc' ≤ mc) (hs : s + ms' ≤ ms) (hM : Ct l M' d mc' ms' [] n h (fun r n' h' => V l M (d + 1) mc ms (pc + 3) ls (pu r st) n' h' (c + mc') (s + ms') Q)) : V l M (d + 1) mc ms pc ls (st) n h c s Q :=
  V.callS (vs := []) hd K rfl rfl hw hc hs hM
theorem V.callS1 {a : Value} (hd : decode M.2.1 pc = .ok (.invokestatic idx, 3)) (K : kS M.1.cls idx M' 1) (hw : (st.map fun v => v.category).sum ≤ 8) (hc : c + mc' ≤ mc) (hs : s + ms' ≤ ms) (hM : Ct l M' d mc' ms' [a] n h (fun r n' h' => V l M (d + 1) mc ms (pc + 3) ls (pu r st) n' h' (c + mc') (s + ms') Q)) : V l M (d + 1) mc ms pc ls (a :: st) n h c s Q :=
  V.callS (vs := [a]) hd K rfl rfl hw hc hs hM
theorem V.callS2 {a b : Value} (hd : decode M.2.1 pc = .ok (.invokestatic idx, 3)) (K : kS M.1.cls idx M' 2) (hw : (st.map fun v => v.category).sum ≤ 8) (hc : c + mc' ≤ mc) (hs : s + ms' ≤ ms) (hM : Ct l M' d mc' ms' [a, b] n h (fun r n' h' => V l M (d + 1) mc ms (pc + 3) ls (pu r st) n' h' (c + mc') (s + ms') Q)) : V l M (d + 1) mc ms pc ls (b :: a :: st) n h c s Q :=
  V.callS (vs := [a, b]) hd K rfl rfl hw hc hs hM
theorem V.callS3 {a b c1 : Value} (hd : decode M.2.1 pc = .ok (.invokestatic idx, 3)) (K : kS M.1.cls idx M' 3) (hw : (st.map fun v => v.category).sum ≤ 8) (hc : c + mc' ≤ mc) (hs : s + ms' ≤ ms) (hM : Ct l M' d mc' ms' [a, b, c1] n h (fun r n' h' => V l M (d + 1) mc ms (pc + 3) ls (pu r st) n' h' (c + mc') (s + ms') Q)) : V l M (d + 1) mc ms pc ls (c1 :: b :: a :: st) n h c s Q :=
  V.callS (vs := [a, b, c1]) hd K rfl rfl hw hc hs hM
theorem V.callS4 {a b c1 d1 : Value} (hd : decode M.2.1 pc = .ok (.invokestatic idx, 3)) (K : kS M.1.cls idx M' 4) (hw : (st.map fun v => v.category).sum ≤ 8) (hc : c + mc' ≤ mc) (hs : s + ms' ≤ ms) (hM : Ct l M' d mc' ms' [a, b, c1, d1] n h (fun r n' h' => V l M (d + 1) mc ms (pc + 3) ls (pu r st) n' h' (c + mc') (s + ms') Q)) : V l M (d + 1) mc ms pc ls (d1 :: c1 :: b :: a :: st) n h c s Q :=
  V.callS (vs := [a, b, c1, d1]) hd K rfl rfl hw hc hs hM
theorem V.callS5 {a b c1 d1 e1 : Value} (hd : decode M.2.1 pc = .ok (.invokestatic idx, 3)) (K : kS M.1.cls idx M' 5) (hw : (st.map fun v => v.category).sum ≤ 8) (hc : c + mc' ≤ mc) (hs : s + ms' ≤ ms) (hM : Ct l M' d mc' ms' [a, b, c1, d1, e1] n h (fun r n' h' => V l M (d + 1) mc ms (pc + 3) ls (pu r st) n' h' (c + mc') (s + ms') Q)) : V l M (d + 1) mc ms pc ls (e1 :: d1 :: c1 :: b :: a :: st) n h c s Q :=
  V.callS (vs := [a, b, c1, d1, e1]) hd K rfl rfl hw hc hs hM
theorem V.callSN0 (hd : decode M.2.1 pc = .ok (.invokestatic idx, 3)) (K : kSN M.1.cls idx M' 0) (hw : (st.map fun v => v.category).sum ≤ 8) (hc : c + mc' ≤ mc) (hs : s + ms' ≤ ms) (hM : Ct l M' d mc' ms' [] n h (fun r n' h' => V l M (d + 1) mc ms (pc + 3) ls (pu r st) n' h' (c + mc') (s + ms') Q)) : V l M (d + 1) mc ms pc ls (st) n h c s Q :=
  V.callSN (vs := []) hd K rfl rfl hw hc hs hM
theorem V.callSN1 {a : Value} (hd : decode M.2.1 pc = .ok (.invokestatic idx, 3)) (K : kSN M.1.cls idx M' 1) (hw : (st.map fun v => v.category).sum ≤ 8) (hc : c + mc' ≤ mc) (hs : s + ms' ≤ ms) (hM : Ct l M' d mc' ms' [a] n h (fun r n' h' => V l M (d + 1) mc ms (pc + 3) ls (pu r st) n' h' (c + mc') (s + ms') Q)) : V l M (d + 1) mc ms pc ls (a :: st) n h c s Q :=
  V.callSN (vs := [a]) hd K rfl rfl hw hc hs hM
theorem V.callSN2 {a b : Value} (hd : decode M.2.1 pc = .ok (.invokestatic idx, 3)) (K : kSN M.1.cls idx M' 2) (hw : (st.map fun v => v.category).sum ≤ 8) (hc : c + mc' ≤ mc) (hs : s + ms' ≤ ms) (hM : Ct l M' d mc' ms' [a, b] n h (fun r n' h' => V l M (d + 1) mc ms (pc + 3) ls (pu r st) n' h' (c + mc') (s + ms') Q)) : V l M (d + 1) mc ms pc ls (b :: a :: st) n h c s Q :=
  V.callSN (vs := [a, b]) hd K rfl rfl hw hc hs hM
theorem V.callSN3 {a b c1 : Value} (hd : decode M.2.1 pc = .ok (.invokestatic idx, 3)) (K : kSN M.1.cls idx M' 3) (hw : (st.map fun v => v.category).sum ≤ 8) (hc : c + mc' ≤ mc) (hs : s + ms' ≤ ms) (hM : Ct l M' d mc' ms' [a, b, c1] n h (fun r n' h' => V l M (d + 1) mc ms (pc + 3) ls (pu r st) n' h' (c + mc') (s + ms') Q)) : V l M (d + 1) mc ms pc ls (c1 :: b :: a :: st) n h c s Q :=
  V.callSN (vs := [a, b, c1]) hd K rfl rfl hw hc hs hM
theorem V.callSN4 {a b c1 d1 : Value} (hd : decode M.2.1 pc = .ok (.invokestatic idx, 3)) (K : kSN M.1.cls idx M' 4) (hw : (st.map fun v => v.category).sum ≤ 8) (hc : c + mc' ≤ mc) (hs : s + ms' ≤ ms) (hM : Ct l M' d mc' ms' [a, b, c1, d1] n h (fun r n' h' => V l M (d + 1) mc ms (pc + 3) ls (pu r st) n' h' (c + mc') (s + ms') Q)) : V l M (d + 1) mc ms pc ls (d1 :: c1 :: b :: a :: st) n h c s Q :=
  V.callSN (vs := [a, b, c1, d1]) hd K rfl rfl hw hc hs hM
theorem V.callSN5 {a b c1 d1 e1 : Value} (hd : decode M.2.1 pc = .ok (.invokestatic idx, 3)) (K : kSN M.1.cls idx M' 5) (hw : (st.map fun v => v.category).sum ≤ 8) (hc : c + mc' ≤ mc) (hs : s + ms' ≤ ms) (hM : Ct l M' d mc' ms' [a, b, c1, d1, e1] n h (fun r n' h' => V l M (d + 1) mc ms (pc + 3) ls (pu r st) n' h' (c + mc') (s + ms') Q)) : V l M (d + 1) mc ms pc ls (e1 :: d1 :: c1 :: b :: a :: st) n h c s Q :=
  V.callSN (vs := [a, b, c1, d1, e1]) hd K rfl rfl hw hc hs hM
theorem V.callV0 {x0 ci : Nat} {fs : List Value} (hd : decode M.2.1 pc = .ok (.invokevirtual idx, 3)) (K : kV M.1.cls idx ci M' 0) (hb : h x0 = some (.inr (ci, fs))) (hw : (st.map fun v => v.category).sum ≤ 8) (hc : c + mc' ≤ mc) (hs : s + ms' ≤ ms) (hM : Ct l M' d mc' ms' [.ref x0] n h (fun r n' h' => V l M (d + 1) mc ms (pc + 3) ls (pu r st) n' h' (c + mc') (s + ms') Q)) : V l M (d + 1) mc ms pc ls (.ref x0 :: st) n h c s Q :=
  V.callV (vs := []) hd K hb rfl rfl hw hc hs hM
theorem V.callV1 {x0 ci : Nat} {fs : List Value} {a : Value} (hd : decode M.2.1 pc = .ok (.invokevirtual idx, 3)) (K : kV M.1.cls idx ci M' 1) (hb : h x0 = some (.inr (ci, fs))) (hw : (st.map fun v => v.category).sum ≤ 8) (hc : c + mc' ≤ mc) (hs : s + ms' ≤ ms) (hM : Ct l M' d mc' ms' [.ref x0, a] n h (fun r n' h' => V l M (d + 1) mc ms (pc + 3) ls (pu r st) n' h' (c + mc') (s + ms') Q)) : V l M (d + 1) mc ms pc ls (a :: .ref x0 :: st) n h c s Q :=
  V.callV (vs := [a]) hd K hb rfl rfl hw hc hs hM
theorem V.callV2 {x0 ci : Nat} {fs : List Value} {a b : Value} (hd : decode M.2.1 pc = .ok (.invokevirtual idx, 3)) (K : kV M.1.cls idx ci M' 2) (hb : h x0 = some (.inr (ci, fs))) (hw : (st.map fun v => v.category).sum ≤ 8) (hc : c + mc' ≤ mc) (hs : s + ms' ≤ ms) (hM : Ct l M' d mc' ms' [.ref x0, a, b] n h (fun r n' h' => V l M (d + 1) mc ms (pc + 3) ls (pu r st) n' h' (c + mc') (s + ms') Q)) : V l M (d + 1) mc ms pc ls (b :: a :: .ref x0 :: st) n h c s Q :=
  V.callV (vs := [a, b]) hd K hb rfl rfl hw hc hs hM
theorem V.callV3 {x0 ci : Nat} {fs : List Value} {a b c1 : Value} (hd : decode M.2.1 pc = .ok (.invokevirtual idx, 3)) (K : kV M.1.cls idx ci M' 3) (hb : h x0 = some (.inr (ci, fs))) (hw : (st.map fun v => v.category).sum ≤ 8) (hc : c + mc' ≤ mc) (hs : s + ms' ≤ ms) (hM : Ct l M' d mc' ms' [.ref x0, a, b, c1] n h (fun r n' h' => V l M (d + 1) mc ms (pc + 3) ls (pu r st) n' h' (c + mc') (s + ms') Q)) : V l M (d + 1) mc ms pc ls (c1 :: b :: a :: .ref x0 :: st) n h c s Q :=
  V.callV (vs := [a, b, c1]) hd K hb rfl rfl hw hc hs hM
theorem V.callV4 {x0 ci : Nat} {fs : List Value} {a b c1 d1 : Value} (hd : decode M.2.1 pc = .ok (.invokevirtual idx, 3)) (K : kV M.1.cls idx ci M' 4) (hb : h x0 = some (.inr (ci, fs))) (hw : (st.map fun v => v.category).sum ≤ 8) (hc : c + mc' ≤ mc) (hs : s + ms' ≤ ms) (hM : Ct l M' d mc' ms' [.ref x0, a, b, c1, d1] n h (fun r n' h' => V l M (d + 1) mc ms (pc + 3) ls (pu r st) n' h' (c + mc') (s + ms') Q)) : V l M (d + 1) mc ms pc ls (d1 :: c1 :: b :: a :: .ref x0 :: st) n h c s Q :=
  V.callV (vs := [a, b, c1, d1]) hd K hb rfl rfl hw hc hs hM
theorem V.callV5 {x0 ci : Nat} {fs : List Value} {a b c1 d1 e1 : Value} (hd : decode M.2.1 pc = .ok (.invokevirtual idx, 3)) (K : kV M.1.cls idx ci M' 5) (hb : h x0 = some (.inr (ci, fs))) (hw : (st.map fun v => v.category).sum ≤ 8) (hc : c + mc' ≤ mc) (hs : s + ms' ≤ ms) (hM : Ct l M' d mc' ms' [.ref x0, a, b, c1, d1, e1] n h (fun r n' h' => V l M (d + 1) mc ms (pc + 3) ls (pu r st) n' h' (c + mc') (s + ms') Q)) : V l M (d + 1) mc ms pc ls (e1 :: d1 :: c1 :: b :: a :: .ref x0 :: st) n h c s Q :=
  V.callV (vs := [a, b, c1, d1, e1]) hd K hb rfl rfl hw hc hs hM
theorem V.callVN0 {x0 ci : Nat} {fs : List Value} (hd : decode M.2.1 pc = .ok (.invokevirtual idx, 3)) (K : kVN M.1.cls idx ci M' 0) (hb : h x0 = some (.inr (ci, fs))) (hw : (st.map fun v => v.category).sum ≤ 8) (hc : c + mc' ≤ mc) (hs : s + ms' ≤ ms) (hM : Ct l M' d mc' ms' [.ref x0] n h (fun r n' h' => V l M (d + 1) mc ms (pc + 3) ls (pu r st) n' h' (c + mc') (s + ms') Q)) : V l M (d + 1) mc ms pc ls (.ref x0 :: st) n h c s Q :=
  V.callVN (vs := []) hd K hb rfl rfl hw hc hs hM
theorem V.callVN1 {x0 ci : Nat} {fs : List Value} {a : Value} (hd : decode M.2.1 pc = .ok (.invokevirtual idx, 3)) (K : kVN M.1.cls idx ci M' 1) (hb : h x0 = some (.inr (ci, fs))) (hw : (st.map fun v => v.category).sum ≤ 8) (hc : c + mc' ≤ mc) (hs : s + ms' ≤ ms) (hM : Ct l M' d mc' ms' [.ref x0, a] n h (fun r n' h' => V l M (d + 1) mc ms (pc + 3) ls (pu r st) n' h' (c + mc') (s + ms') Q)) : V l M (d + 1) mc ms pc ls (a :: .ref x0 :: st) n h c s Q :=
  V.callVN (vs := [a]) hd K hb rfl rfl hw hc hs hM
theorem V.callVN2 {x0 ci : Nat} {fs : List Value} {a b : Value} (hd : decode M.2.1 pc = .ok (.invokevirtual idx, 3)) (K : kVN M.1.cls idx ci M' 2) (hb : h x0 = some (.inr (ci, fs))) (hw : (st.map fun v => v.category).sum ≤ 8) (hc : c + mc' ≤ mc) (hs : s + ms' ≤ ms) (hM : Ct l M' d mc' ms' [.ref x0, a, b] n h (fun r n' h' => V l M (d + 1) mc ms (pc + 3) ls (pu r st) n' h' (c + mc') (s + ms') Q)) : V l M (d + 1) mc ms pc ls (b :: a :: .ref x0 :: st) n h c s Q :=
  V.callVN (vs := [a, b]) hd K hb rfl rfl hw hc hs hM
theorem V.callVN3 {x0 ci : Nat} {fs : List Value} {a b c1 : Value} (hd : decode M.2.1 pc = .ok (.invokevirtual idx, 3)) (K : kVN M.1.cls idx ci M' 3) (hb : h x0 = some (.inr (ci, fs))) (hw : (st.map fun v => v.category).sum ≤ 8) (hc : c + mc' ≤ mc) (hs : s + ms' ≤ ms) (hM : Ct l M' d mc' ms' [.ref x0, a, b, c1] n h (fun r n' h' => V l M (d + 1) mc ms (pc + 3) ls (pu r st) n' h' (c + mc') (s + ms') Q)) : V l M (d + 1) mc ms pc ls (c1 :: b :: a :: .ref x0 :: st) n h c s Q :=
  V.callVN (vs := [a, b, c1]) hd K hb rfl rfl hw hc hs hM
theorem V.callVN4 {x0 ci : Nat} {fs : List Value} {a b c1 d1 : Value} (hd : decode M.2.1 pc = .ok (.invokevirtual idx, 3)) (K : kVN M.1.cls idx ci M' 4) (hb : h x0 = some (.inr (ci, fs))) (hw : (st.map fun v => v.category).sum ≤ 8) (hc : c + mc' ≤ mc) (hs : s + ms' ≤ ms) (hM : Ct l M' d mc' ms' [.ref x0, a, b, c1, d1] n h (fun r n' h' => V l M (d + 1) mc ms (pc + 3) ls (pu r st) n' h' (c + mc') (s + ms') Q)) : V l M (d + 1) mc ms pc ls (d1 :: c1 :: b :: a :: .ref x0 :: st) n h c s Q :=
  V.callVN (vs := [a, b, c1, d1]) hd K hb rfl rfl hw hc hs hM
theorem V.callVN5 {x0 ci : Nat} {fs : List Value} {a b c1 d1 e1 : Value} (hd : decode M.2.1 pc = .ok (.invokevirtual idx, 3)) (K : kVN M.1.cls idx ci M' 5) (hb : h x0 = some (.inr (ci, fs))) (hw : (st.map fun v => v.category).sum ≤ 8) (hc : c + mc' ≤ mc) (hs : s + ms' ≤ ms) (hM : Ct l M' d mc' ms' [.ref x0, a, b, c1, d1, e1] n h (fun r n' h' => V l M (d + 1) mc ms (pc + 3) ls (pu r st) n' h' (c + mc') (s + ms') Q)) : V l M (d + 1) mc ms pc ls (e1 :: d1 :: c1 :: b :: a :: .ref x0 :: st) n h c s Q :=
  V.callVN (vs := [a, b, c1, d1, e1]) hd K hb rfl rfl hw hc hs hM
theorem V.callI0 {x0 : Nat} (hd : decode M.2.1 pc = .ok (.invokespecial idx, 3)) (K : kI M.1.cls idx M' 0) (hw : (st.map fun v => v.category).sum ≤ 8) (hc : c + mc' ≤ mc) (hs : s + ms' ≤ ms) (hM : Ct l M' d mc' ms' [.ref x0] n h (fun r n' h' => V l M (d + 1) mc ms (pc + 3) ls (pu r st) n' h' (c + mc') (s + ms') Q)) : V l M (d + 1) mc ms pc ls (.ref x0 :: st) n h c s Q :=
  V.callI (vs := []) hd K rfl rfl hw hc hs hM
theorem V.callI1 {x0 : Nat} {a : Value} (hd : decode M.2.1 pc = .ok (.invokespecial idx, 3)) (K : kI M.1.cls idx M' 1) (hw : (st.map fun v => v.category).sum ≤ 8) (hc : c + mc' ≤ mc) (hs : s + ms' ≤ ms) (hM : Ct l M' d mc' ms' [.ref x0, a] n h (fun r n' h' => V l M (d + 1) mc ms (pc + 3) ls (pu r st) n' h' (c + mc') (s + ms') Q)) : V l M (d + 1) mc ms pc ls (a :: .ref x0 :: st) n h c s Q :=
  V.callI (vs := [a]) hd K rfl rfl hw hc hs hM
theorem V.callI2 {x0 : Nat} {a b : Value} (hd : decode M.2.1 pc = .ok (.invokespecial idx, 3)) (K : kI M.1.cls idx M' 2) (hw : (st.map fun v => v.category).sum ≤ 8) (hc : c + mc' ≤ mc) (hs : s + ms' ≤ ms) (hM : Ct l M' d mc' ms' [.ref x0, a, b] n h (fun r n' h' => V l M (d + 1) mc ms (pc + 3) ls (pu r st) n' h' (c + mc') (s + ms') Q)) : V l M (d + 1) mc ms pc ls (b :: a :: .ref x0 :: st) n h c s Q :=
  V.callI (vs := [a, b]) hd K rfl rfl hw hc hs hM
theorem V.callI3 {x0 : Nat} {a b c1 : Value} (hd : decode M.2.1 pc = .ok (.invokespecial idx, 3)) (K : kI M.1.cls idx M' 3) (hw : (st.map fun v => v.category).sum ≤ 8) (hc : c + mc' ≤ mc) (hs : s + ms' ≤ ms) (hM : Ct l M' d mc' ms' [.ref x0, a, b, c1] n h (fun r n' h' => V l M (d + 1) mc ms (pc + 3) ls (pu r st) n' h' (c + mc') (s + ms') Q)) : V l M (d + 1) mc ms pc ls (c1 :: b :: a :: .ref x0 :: st) n h c s Q :=
  V.callI (vs := [a, b, c1]) hd K rfl rfl hw hc hs hM
theorem V.callI4 {x0 : Nat} {a b c1 d1 : Value} (hd : decode M.2.1 pc = .ok (.invokespecial idx, 3)) (K : kI M.1.cls idx M' 4) (hw : (st.map fun v => v.category).sum ≤ 8) (hc : c + mc' ≤ mc) (hs : s + ms' ≤ ms) (hM : Ct l M' d mc' ms' [.ref x0, a, b, c1, d1] n h (fun r n' h' => V l M (d + 1) mc ms (pc + 3) ls (pu r st) n' h' (c + mc') (s + ms') Q)) : V l M (d + 1) mc ms pc ls (d1 :: c1 :: b :: a :: .ref x0 :: st) n h c s Q :=
  V.callI (vs := [a, b, c1, d1]) hd K rfl rfl hw hc hs hM
theorem V.callI5 {x0 : Nat} {a b c1 d1 e1 : Value} (hd : decode M.2.1 pc = .ok (.invokespecial idx, 3)) (K : kI M.1.cls idx M' 5) (hw : (st.map fun v => v.category).sum ≤ 8) (hc : c + mc' ≤ mc) (hs : s + ms' ≤ ms) (hM : Ct l M' d mc' ms' [.ref x0, a, b, c1, d1, e1] n h (fun r n' h' => V l M (d + 1) mc ms (pc + 3) ls (pu r st) n' h' (c + mc') (s + ms') Q)) : V l M (d + 1) mc ms pc ls (e1 :: d1 :: c1 :: b :: a :: .ref x0 :: st) n h c s Q :=
  V.callI (vs := [a, b, c1, d1, e1]) hd K rfl rfl hw hc hs hM
theorem V.callSU0 {x0 ci : Nat} {fs : List Value} {r : vw_C} (hd : decode M.2.1 pc = .ok (.invokespecial idx, 3)) (K : kSU M.1.cls idx M' 0) (hb : h x0 = some (.inr (ci, fs))) (hr : cls[ci]? = some r) (hw : (st.map fun v => v.category).sum ≤ 8) (hc : c + mc' ≤ mc) (hs : s + ms' ≤ ms) (hM : Ct l M' d mc' ms' [.ref x0] n h (fun r n' h' => V l M (d + 1) mc ms (pc + 3) ls (pu r st) n' h' (c + mc') (s + ms') Q)) : V l M (d + 1) mc ms pc ls (.ref x0 :: st) n h c s Q :=
  V.callSU (vs := []) hd K hb hr rfl rfl hw hc hs hM
theorem V.callSU1 {x0 ci : Nat} {fs : List Value} {r : vw_C} {a : Value} (hd : decode M.2.1 pc = .ok (.invokespecial idx, 3)) (K : kSU M.1.cls idx M' 1) (hb : h x0 = some (.inr (ci, fs))) (hr : cls[ci]? = some r) (hw : (st.map fun v => v.category).sum ≤ 8) (hc : c + mc' ≤ mc) (hs : s + ms' ≤ ms) (hM : Ct l M' d mc' ms' [.ref x0, a] n h (fun r n' h' => V l M (d + 1) mc ms (pc + 3) ls (pu r st) n' h' (c + mc') (s + ms') Q)) : V l M (d + 1) mc ms pc ls (a :: .ref x0 :: st) n h c s Q :=
  V.callSU (vs := [a]) hd K hb hr rfl rfl hw hc hs hM
theorem V.callSU2 {x0 ci : Nat} {fs : List Value} {r : vw_C} {a b : Value} (hd : decode M.2.1 pc = .ok (.invokespecial idx, 3)) (K : kSU M.1.cls idx M' 2) (hb : h x0 = some (.inr (ci, fs))) (hr : cls[ci]? = some r) (hw : (st.map fun v => v.category).sum ≤ 8) (hc : c + mc' ≤ mc) (hs : s + ms' ≤ ms) (hM : Ct l M' d mc' ms' [.ref x0, a, b] n h (fun r n' h' => V l M (d + 1) mc ms (pc + 3) ls (pu r st) n' h' (c + mc') (s + ms') Q)) : V l M (d + 1) mc ms pc ls (b :: a :: .ref x0 :: st) n h c s Q :=
  V.callSU (vs := [a, b]) hd K hb hr rfl rfl hw hc hs hM
theorem V.callSU3 {x0 ci : Nat} {fs : List Value} {r : vw_C} {a b c1 : Value} (hd : decode M.2.1 pc = .ok (.invokespecial idx, 3)) (K : kSU M.1.cls idx M' 3) (hb : h x0 = some (.inr (ci, fs))) (hr : cls[ci]? = some r) (hw : (st.map fun v => v.category).sum ≤ 8) (hc : c + mc' ≤ mc) (hs : s + ms' ≤ ms) (hM : Ct l M' d mc' ms' [.ref x0, a, b, c1] n h (fun r n' h' => V l M (d + 1) mc ms (pc + 3) ls (pu r st) n' h' (c + mc') (s + ms') Q)) : V l M (d + 1) mc ms pc ls (c1 :: b :: a :: .ref x0 :: st) n h c s Q :=
  V.callSU (vs := [a, b, c1]) hd K hb hr rfl rfl hw hc hs hM
theorem V.callSU4 {x0 ci : Nat} {fs : List Value} {r : vw_C} {a b c1 d1 : Value} (hd : decode M.2.1 pc = .ok (.invokespecial idx, 3)) (K : kSU M.1.cls idx M' 4) (hb : h x0 = some (.inr (ci, fs))) (hr : cls[ci]? = some r) (hw : (st.map fun v => v.category).sum ≤ 8) (hc : c + mc' ≤ mc) (hs : s + ms' ≤ ms) (hM : Ct l M' d mc' ms' [.ref x0, a, b, c1, d1] n h (fun r n' h' => V l M (d + 1) mc ms (pc + 3) ls (pu r st) n' h' (c + mc') (s + ms') Q)) : V l M (d + 1) mc ms pc ls (d1 :: c1 :: b :: a :: .ref x0 :: st) n h c s Q :=
  V.callSU (vs := [a, b, c1, d1]) hd K hb hr rfl rfl hw hc hs hM
theorem V.callSU5 {x0 ci : Nat} {fs : List Value} {r : vw_C} {a b c1 d1 e1 : Value} (hd : decode M.2.1 pc = .ok (.invokespecial idx, 3)) (K : kSU M.1.cls idx M' 5) (hb : h x0 = some (.inr (ci, fs))) (hr : cls[ci]? = some r) (hw : (st.map fun v => v.category).sum ≤ 8) (hc : c + mc' ≤ mc) (hs : s + ms' ≤ ms) (hM : Ct l M' d mc' ms' [.ref x0, a, b, c1, d1, e1] n h (fun r n' h' => V l M (d + 1) mc ms (pc + 3) ls (pu r st) n' h' (c + mc') (s + ms') Q)) : V l M (d + 1) mc ms pc ls (e1 :: d1 :: c1 :: b :: a :: .ref x0 :: st) n h c s Q :=
  V.callSU (vs := [a, b, c1, d1, e1]) hd K hb hr rfl rfl hw hc hs hM
theorem V.callU0 {x0 ci : Nat} {fs : List Value} {owner : String} {x : MethodName} (hd : decode M.2.1 pc = .ok (.invokevirtual idx, 3)) (K : kU M.1.cls idx ci owner x M' 0) (hb : h x0 = some (.inr (ci, fs))) (hw : (st.map fun v => v.category).sum ≤ 8) (hc : c + mc' ≤ mc) (hs : s + ms' ≤ ms) (hM : Ct l M' d mc' ms' [.ref x0] n h (fun r n' h' => V l M (d + 1) mc ms (pc + 3) ls (pu r st) n' h' (c + mc') (s + ms') Q)) : V l M (d + 1) mc ms pc ls (.ref x0 :: st) n h c s Q :=
  V.callU (vs := []) hd K hb rfl rfl hw hc hs hM
theorem V.callU1 {x0 ci : Nat} {fs : List Value} {owner : String} {x : MethodName} {a : Value} (hd : decode M.2.1 pc = .ok (.invokevirtual idx, 3)) (K : kU M.1.cls idx ci owner x M' 1) (hb : h x0 = some (.inr (ci, fs))) (hw : (st.map fun v => v.category).sum ≤ 8) (hc : c + mc' ≤ mc) (hs : s + ms' ≤ ms) (hM : Ct l M' d mc' ms' [.ref x0, a] n h (fun r n' h' => V l M (d + 1) mc ms (pc + 3) ls (pu r st) n' h' (c + mc') (s + ms') Q)) : V l M (d + 1) mc ms pc ls (a :: .ref x0 :: st) n h c s Q :=
  V.callU (vs := [a]) hd K hb rfl rfl hw hc hs hM
theorem V.callU2 {x0 ci : Nat} {fs : List Value} {owner : String} {x : MethodName} {a b : Value} (hd : decode M.2.1 pc = .ok (.invokevirtual idx, 3)) (K : kU M.1.cls idx ci owner x M' 2) (hb : h x0 = some (.inr (ci, fs))) (hw : (st.map fun v => v.category).sum ≤ 8) (hc : c + mc' ≤ mc) (hs : s + ms' ≤ ms) (hM : Ct l M' d mc' ms' [.ref x0, a, b] n h (fun r n' h' => V l M (d + 1) mc ms (pc + 3) ls (pu r st) n' h' (c + mc') (s + ms') Q)) : V l M (d + 1) mc ms pc ls (b :: a :: .ref x0 :: st) n h c s Q :=
  V.callU (vs := [a, b]) hd K hb rfl rfl hw hc hs hM
theorem V.callU3 {x0 ci : Nat} {fs : List Value} {owner : String} {x : MethodName} {a b c1 : Value} (hd : decode M.2.1 pc = .ok (.invokevirtual idx, 3)) (K : kU M.1.cls idx ci owner x M' 3) (hb : h x0 = some (.inr (ci, fs))) (hw : (st.map fun v => v.category).sum ≤ 8) (hc : c + mc' ≤ mc) (hs : s + ms' ≤ ms) (hM : Ct l M' d mc' ms' [.ref x0, a, b, c1] n h (fun r n' h' => V l M (d + 1) mc ms (pc + 3) ls (pu r st) n' h' (c + mc') (s + ms') Q)) : V l M (d + 1) mc ms pc ls (c1 :: b :: a :: .ref x0 :: st) n h c s Q :=
  V.callU (vs := [a, b, c1]) hd K hb rfl rfl hw hc hs hM
theorem V.callU4 {x0 ci : Nat} {fs : List Value} {owner : String} {x : MethodName} {a b c1 d1 : Value} (hd : decode M.2.1 pc = .ok (.invokevirtual idx, 3)) (K : kU M.1.cls idx ci owner x M' 4) (hb : h x0 = some (.inr (ci, fs))) (hw : (st.map fun v => v.category).sum ≤ 8) (hc : c + mc' ≤ mc) (hs : s + ms' ≤ ms) (hM : Ct l M' d mc' ms' [.ref x0, a, b, c1, d1] n h (fun r n' h' => V l M (d + 1) mc ms (pc + 3) ls (pu r st) n' h' (c + mc') (s + ms') Q)) : V l M (d + 1) mc ms pc ls (d1 :: c1 :: b :: a :: .ref x0 :: st) n h c s Q :=
  V.callU (vs := [a, b, c1, d1]) hd K hb rfl rfl hw hc hs hM
theorem V.callU5 {x0 ci : Nat} {fs : List Value} {owner : String} {x : MethodName} {a b c1 d1 e1 : Value} (hd : decode M.2.1 pc = .ok (.invokevirtual idx, 3)) (K : kU M.1.cls idx ci owner x M' 5) (hb : h x0 = some (.inr (ci, fs))) (hw : (st.map fun v => v.category).sum ≤ 8) (hc : c + mc' ≤ mc) (hs : s + ms' ≤ ms) (hM : Ct l M' d mc' ms' [.ref x0, a, b, c1, d1, e1] n h (fun r n' h' => V l M (d + 1) mc ms (pc + 3) ls (pu r st) n' h' (c + mc') (s + ms') Q)) : V l M (d + 1) mc ms pc ls (e1 :: d1 :: c1 :: b :: a :: .ref x0 :: st) n h c s Q :=
  V.callU (vs := [a, b, c1, d1, e1]) hd K hb rfl rfl hw hc hs hM
end VK
/-! ===== the reference's object: q, its array d, its other arrays A 1 .. A 14, its numbers S by their places ===== -/
def mln : Nat → Nat := fun k => [278, 278, 106, 6, 3, 60, 60, 9, 9, 8, 40, 4, 4, 160, 40].getD k 0
abbrev mfl (q : Nat) (S : Nat → Int32) : List Value := [.ref (q + 1 + 0), .ref (q + 1 + 1), .ref (q + 1 + 2), .int (S 3), .ref (q + 1 + 3), .int (S 5), .int (S 6), .int (S 7), .int (S 8), .int (S 9), .int (S 10), .ref (q + 1 + 4), .ref (q + 1 + 5), .int (S 13), .ref (q + 1 + 6), .ref (q + 1 + 7), .ref (q + 1 + 8), .ref (q + 1 + 9), .int (S 18), .ref (q + 1 + 10), .int (S 20), .int (S 21), .ref (q + 1 + 11), .ref (q + 1 + 12), .ref (q + 1 + 13), .ref (q + 1 + 14)]
def mo (q : Nat) (D : Nat → Int32) (A : Nat → Nat → Int32) (S : Nat → Int32) (h0 : HP) : HP := fun a =>
  if a = q then some (.inr (5, mfl q S)) else if a = q + 1 + 0 then some (.inl (0, 278, .inl D)) else if q + 1 < a ∧ a < q + 16 then some (.inl (0, mln (a - (q + 1)), .inl (A (a - (q + 1))))) else h0 a
def uA (A : Nat → Nat → Int32) (k : Nat) (f : Nat → Int32) : Nat → Nat → Int32 := fun j => if j = k then f else A j
def uS (S : Nat → Int32) (k : Nat) (x : Int32) : Nat → Int32 := fun j => if j = k then x else S j
theorem uA_s {A : Nat → Nat → Int32} {k : Nat} {f : Nat → Int32} : uA A k f k = f := if_pos rfl
theorem uA_n {A : Nat → Nat → Int32} {k j : Nat} {f : Nat → Int32} (hn : j ≠ k) : uA A k f j = A j := if_neg hn
theorem uS_s {S : Nat → Int32} {k : Nat} {x : Int32} : uS S k x k = x := if_pos rfl
theorem uS_n {S : Nat → Int32} {k j : Nat} {x : Int32} (hn : j ≠ k) : uS S k x j = S j := if_neg hn
theorem uA_uu {A : Nat → Nat → Int32} {k : Nat} {f g : Nat → Int32} : uA (uA A k f) k g = uA A k g := by
  funext j
  by_cases hj : j = k
  · subst hj; rw [uA_s, uA_s]
  · rw [uA_n hj, uA_n hj, uA_n hj]
theorem uS_uu {S : Nat → Int32} {k : Nat} {x y : Int32} : uS (uS S k x) k y = uS S k y := by
  funext j
  by_cases hj : j = k
  · subst hj; rw [uS_s, uS_s]
  · rw [uS_n hj, uS_n hj, uS_n hj]
theorem uA_id {A : Nat → Nat → Int32} {k : Nat} : uA A k (A k) = A := by
  funext j
  by_cases hj : j = k
  · subst hj; rw [uA_s]
  · rw [uA_n hj]
theorem Qb {Q : QT} {b b' : Bool} {n : Nat} {h : HP} (hQ : Q (some (.int (bi b))) n h) (e : b = b') : Q (some (.int (bi b'))) n h := e ▸ hQ
section MO
variable {q : Nat} {D : Nat → Int32} {A : Nat → Nat → Int32} {S : Nat → Int32} {h0 : HP}
theorem mo_o : mo q D A S h0 q = some (.inr (5, mfl q S)) := if_pos rfl
theorem mo_d : mo q D A S h0 (q + 1 + 0) = some (.inl (0, 278, .inl D)) := by unfold mo; rw [if_neg (by omega), if_pos rfl]
theorem mo_a (k : Nat) (h1 : 1 ≤ k) (h2 : k < 15) : mo q D A S h0 (q + 1 + k) = some (.inl (0, mln k, .inl (A k))) := by
  unfold mo
  rw [if_neg (by omega), if_neg (by omega), if_pos (by omega), show q + 1 + k - (q + 1) = k by omega]
theorem mo_x {a : Nat} (ha : a < q ∨ q + 16 ≤ a) : mo q D A S h0 a = h0 a := by unfold mo; rw [if_neg (by omega), if_neg (by omega), if_neg (by omega)]
theorem mo_ud {f : Nat → Int32} : up (mo q D A S h0) (q + 1 + 0) (.inl (0, 278, .inl f)) = mo q f A S h0 := by
  funext a
  by_cases ha : a = q + 1 + 0
  · subst ha; rw [up_s, mo_d]
  · rw [up_n ha]; unfold mo; simp only [if_neg ha]
theorem mo_ua {k : Nat} (h1 : 1 ≤ k) (h2 : k < 15) {f : Nat → Int32} : up (mo q D A S h0) (q + 1 + k) (.inl (0, mln k, .inl f)) = mo q D (uA A k f) S h0 := by
  funext a
  by_cases ha : a = q + 1 + k
  · subst ha; rw [up_s, mo_a k h1 h2, uA_s]
  · rw [up_n ha]
    unfold mo
    by_cases h3 : a = q
    · rw [if_pos h3, if_pos h3]
    · rw [if_neg h3, if_neg h3]
      by_cases h4 : a = q + 1 + 0
      · rw [if_pos h4, if_pos h4]
      · rw [if_neg h4, if_neg h4]
        by_cases h5 : q + 1 < a ∧ a < q + 16
        · rw [if_pos h5, if_pos h5, uA_n (by omega)]
        · rw [if_neg h5, if_neg h5]
theorem mo_us {S' : Nat → Int32} {fs : List Value} (hf : fs = mfl q S') : up (mo q D A S h0) q (.inr (5, fs)) = mo q D A S' h0 := by
  subst hf
  funext a
  by_cases ha : a = q
  · subst ha; rw [up_s, mo_o]
  · rw [up_n ha]; unfold mo; simp only [if_neg ha]
theorem mo_ux {a : Nat} {e : AE} (ha : a < q ∨ q + 16 ≤ a) : up (mo q D A S h0) a e = mo q D A S (up h0 a e) := by
  funext b
  by_cases hb : b = a
  · subst hb; rw [up_s, mo_x ha, up_s]
  · rw [up_n hb]
    by_cases hc : b < q ∨ q + 16 ≤ b
    · rw [mo_x hc, mo_x hc, up_n hb]
    · unfold mo
      by_cases h3 : b = q
      · rw [if_pos h3, if_pos h3]
      · rw [if_neg h3, if_neg h3]
        by_cases h4 : b = q + 1 + 0
        · rw [if_pos h4, if_pos h4]
        · rw [if_neg h4, if_neg h4, if_pos (by omega), if_pos (by omega)]
variable {l : Launch} {M : MD} {d mc ms pc idx : Nat} {ls : List (Nat × Value)} {st : List Value} {n : Nat} {c s : Nat} {Q : QT}
theorem V.mput {j : Nat} {x : Int32} (hd : decode M.2.1 pc = .ok (.putfield idx, 3)) (hf : fok M.1.cls idx 5 j) (hp : fpk 5 j .int) (hj : (mfl q S).set j (.int x) = mfl q (uS S j x)) (hl : j < 26) (k : V l M d mc ms (pc + 3) ls st n (mo q D A (uS S j x) h0) c s Q) : V l M d mc ms pc ls (.int x :: .ref q :: st) n (mo q D A S h0) c s Q :=
  V.put hd hf hp (fun _ => rfl) (fun _ => rfl) mo_o hl (V.eqH (mo_us hj) k)
theorem V.mputB {b : Bool} (hd : decode M.2.1 pc = .ok (.putfield idx, 3)) (hf : fok M.1.cls idx 5 10) (hp : fpk 5 10 .boolean) (k : V l M d mc ms (pc + 3) ls st n (mo q D A (uS S 10 (bi b)) h0) c s Q) : V l M d mc ms pc ls (.int (bi b) :: .ref q :: st) n (mo q D A S h0) c s Q :=
  V.put hd hf hp (fun _ => bi_nar b) (fun _ => by cases b <;> rfl) mo_o (Nat.le_of_ble_eq_true rfl) (V.eqH (mo_us rfl) k)
theorem V.mldd {i : Nat} (hd : decode M.2.1 pc = .ok (.iaload, 1)) (hi : i < 278) (k : V l M d mc ms (pc + 1) ls (.int (D i) :: st) n (mo q D A S h0) c s Q) : V l M d mc ms pc ls (.int (nI i) :: .ref (q + 1 + 0) :: st) n (mo q D A S h0) c s Q :=
  V.ialdN hd mo_d hi (by decide) k
theorem V.mlda {i : Nat} (k0 : Nat) (h1 : 1 ≤ k0) (h2 : k0 < 15) (hd : decode M.2.1 pc = .ok (.iaload, 1)) (hi : i < mln k0) (k : V l M d mc ms (pc + 1) ls (.int (A k0 i) :: st) n (mo q D A S h0) c s Q) : V l M d mc ms pc ls (.int (nI i) :: .ref (q + 1 + k0) :: st) n (mo q D A S h0) c s Q :=
  V.ialdN hd (mo_a k0 h1 h2) hi (by have : ∀ k, k < 15 → mln k < 2 ^ 31 := by decide
                                    exact this k0 h2) k
theorem V.mstd {i : Nat} {x : Int32} (hd : decode M.2.1 pc = .ok (.iastore, 1)) (hi : i < 278) (k : V l M d mc ms (pc + 1) ls st n (mo q (upd D i x) A S h0) c s Q) : V l M d mc ms pc ls (.int x :: .int (nI i) :: .ref (q + 1 + 0) :: st) n (mo q D A S h0) c s Q :=
  V.iastN hd mo_d hi (by decide) (V.eqH mo_ud k)
theorem V.msta {i : Nat} {x : Int32} (k0 : Nat) (h1 : 1 ≤ k0) (h2 : k0 < 15) (hd : decode M.2.1 pc = .ok (.iastore, 1)) (hi : i < mln k0) (k : V l M d mc ms (pc + 1) ls st n (mo q D (uA A k0 (upd (A k0) i x)) S h0) c s Q) : V l M d mc ms pc ls (.int x :: .int (nI i) :: .ref (q + 1 + k0) :: st) n (mo q D A S h0) c s Q :=
  V.iastN hd (mo_a k0 h1 h2) hi (by have : ∀ k, k < 15 → mln k < 2 ^ 31 := by decide
                                    exact this k0 h2) (V.eqH (mo_ua h1 h2) k)
end MO
