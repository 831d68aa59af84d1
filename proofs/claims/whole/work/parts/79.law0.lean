/-! ===== a contract's end may say less ===== -/
theorem Ct.mono {l : Launch} {M : MD} {d mc ms : Nat} {vs : List Value} {n : Nat} {h : HP} {Q Q' : QT} (g : Ct l M d mc ms vs n h Q) (k : ∀ r n h, Q r n h → Q' r n h) : Ct l M d mc ms vs n h Q' := by
  intro E
  have g0 := g E
  unfold Met at g0 ⊢
  intro p e ha hc hk s m args below
  have g1 := g0 p e ha hc hk s m args below
  sorry
