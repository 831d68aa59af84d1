/-! ===== a contract's end may say less ===== -/
theorem Ct.mono {l : Launch} {M : MD} {d mc ms : Nat} {vs : List Value} {n : Nat} {h : HP} {Q Q' : QT} (g : Ct l M d mc ms vs n h Q) (k : ∀ r n h, Q r n h → Q' r n h) : Ct l M d mc ms vs n h Q' := by
  intro E p e ha hc hk s m args below hf happ hP hK
  obtain ⟨a, o, h1, h2, h3, ⟨r, n1, hh, e1, q1, q2⟩, h5⟩ := g E p e ha hc hk s m args below hf happ hP hK
  exact ⟨a, o, h1, h2, h3, ⟨r, n1, hh, e1, k r n1 hh q1, q2⟩, h5⟩
