/-! ===== a world takes all from another ===== -/
section CD
variable {R W Z : Nat → Nat → Int32} {T : Nat → Nat → Nat} {kn : Kn} {h0 : HP} {n w i k : Nat}
theorem co_uD {a : Nat} {D' : Nat → Int32} {e : AE} (h1 : co R (uW W w D') Z T kn h0 a = some e) (hwd : a ≠ wb w → ∀ j, j < 6 → D' j = W w j) (hho : a ≠ wb w + 1 → ∀ j, j < 36 → D' (8 + j) = W w (8 + j)) (hta : a ≠ wb w + 2 → ∀ j, j < 6 → D' (44 + j) = W w (44 + j)) (htr : ∀ i, i < 8 → T w i ≠ a → w < 3 → ∀ k, k < 7 → D' (50 + 7 * i + k) = W w (50 + 7 * i + k)) : up (co R W Z T kn h0) a e = co R (uW W w D') Z T kn h0 := by
  refine co_up h1 (fun b hb => co_ext ?_ (fun v i hv hi e1 => ?_))
  · have e5 : (ds b).1 = 5 → wfl W (ds b).2 = wfl (uW W w D') (ds b).2 := fun hd => by
      by_cases hvw : (ds b).2 = w
      · obtain ⟨h2, -⟩ := ds_wd hd
        rw [hvw] at h2 ⊢
        have := hwd (fun z => hb (by rw [h2, z]))
        unfold wfl
        rw [uW_s, this 0 (by omega), this 1 (by omega), this 2 (by omega), this 3 (by omega), this 4 (by omega), this 5 (by omega)]
      · unfold wfl
        rw [uW_n hvw]
    have e6 : (ds b).1 = 6 → gd 36 (fun q => W (ds b).2 (8 + q)) = gd 36 (fun q => uW W w D' (ds b).2 (8 + q)) := fun hd => by
      by_cases hvw : (ds b).2 = w
      · obtain ⟨h2, -⟩ := ds_ho hd
        rw [hvw] at h2 ⊢
        have := hho (fun z => hb (by rw [h2, z]))
        funext q
        unfold gd
        by_cases hq : q < 36
        · rw [if_pos hq, if_pos hq, uW_s]; exact (this q hq).symm
        · rw [if_neg hq, if_neg hq]
      · rw [uW_n hvw]
    have e7 : (ds b).1 = 7 → gd 6 (fun q => W (ds b).2 (44 + q)) = gd 6 (fun q => uW W w D' (ds b).2 (44 + q)) := fun hd => by
      by_cases hvw : (ds b).2 = w
      · obtain ⟨h2, -⟩ := ds_ta hd
        rw [hvw] at h2 ⊢
        have := hta (fun z => hb (by rw [h2, z]))
        funext q
        unfold gd
        by_cases hq : q < 6
        · rw [if_pos hq, if_pos hq, uW_s]; exact (this q hq).symm
        · rw [if_neg hq, if_neg hq]
      · rw [uW_n hvw]
    unfold sc
    by_cases h5 : (ds b).1 = 5
    · rw [e5 h5]
      simp only [h5]
      rfl
    · by_cases h6 : (ds b).1 = 6
      · rw [e6 h6]
        simp only [h6]
        rfl
      · by_cases h7 : (ds b).1 = 7
        · rw [e7 h7]
          simp only [h7]
          rfl
        · simp only [if_neg h5, if_neg h6, if_neg h7]
  · by_cases hvw : v = w
    · subst hvw
      have := htr i hi (fun z => hb (by rw [← e1, z])) hv
      unfold trc trl tN
      rw [uW_s, this 0 (by omega), this 1 (by omega), this 2 (by omega), this 3 (by omega), this 4 (by omega), this 5 (by omega), this 6 (by omega)]
    · unfold trc trl tN
      rw [uW_n hvw]
def cph (D E : Nat → Int32) : Nat → Int32 := fun j => if 8 ≤ j ∧ j < 44 then E j else D j
def cpt (D E : Nat → Int32) : Nat → Int32 := fun j => if 44 ≤ j ∧ j < 50 then E j else D j
theorem co_cho {v : Nat} (hw : w < 3) : up (co R W Z T kn h0) (wb w + 1) (.inl (0, 36, .inl (va_cpy (gd 36 (fun j => W v (8 + j))) (gd 36 (fun j => W w (8 + j))) (nI 0).toNatClampNeg (nI 0).toNatClampNeg (nI 36).toNatClampNeg))) = co R (uW W w (cph (W w) (W v))) Z T kn h0 := by
  refine co_uD (co_s ?_) (fun _ j hj => if_neg (by omega)) (fun z => absurd rfl z) (fun _ j hj => if_neg (by omega)) (fun i _ _ _ k _ => if_neg (by omega))
  rw [sc_ho (wb_ds w hw).2.1, uW_s, show (nI 0).toNatClampNeg = 0 from icl (by decide), show (nI 36).toNatClampNeg = 36 from icl (by decide), cpy_cpN]
  congr 5
  funext j
  unfold cpN gd
  by_cases hj : j < 36
  · rw [if_pos hj, if_pos hj, if_pos hj]; exact if_pos (by omega)
  · rw [if_neg hj, if_neg hj, if_neg hj]
theorem co_cta {v : Nat} (hw : w < 3) : up (co R W Z T kn h0) (wb w + 2) (.inl (0, 6, .inl (va_cpy (gd 6 (fun j => W v (44 + j))) (gd 6 (fun j => W w (44 + j))) (nI 0).toNatClampNeg (nI 0).toNatClampNeg (nI 6).toNatClampNeg))) = co R (uW W w (cpt (W w) (W v))) Z T kn h0 := by
  refine co_uD (co_s ?_) (fun _ j hj => if_neg (by omega)) (fun _ j hj => if_neg (by omega)) (fun z => absurd rfl z) (fun i _ _ _ k _ => if_neg (by omega))
  rw [sc_ta (wb_ds w hw).2.2.1, uW_s, show (nI 0).toNatClampNeg = 0 from icl (by decide), show (nI 6).toNatClampNeg = 6 from icl (by decide), cpy_cpN]
  congr 5
  funext j
  unfold cpN gd
  by_cases hj : j < 6
  · rw [if_pos hj, if_pos hj, if_pos hj]; exact if_pos (by omega)
  · rw [if_neg hj, if_neg hj, if_neg hj]
/-- a new tree in a world's row -/
def uT (T : Nat → Nat → Nat) (w i a : Nat) : Nat → Nat → Nat := fun v j => if v = w ∧ j = i then a else T v j
theorem uT_s {a : Nat} : uT T w i a w i = a := if_pos ⟨rfl, rfl⟩
theorem uT_n {a v j : Nat} (h : ¬ (v = w ∧ j = i)) : uT T w i a v j = T v j := if_neg h
def ntW (D : Nat → Int32) (i k : Nat) : Nat → Int32 := fun j => if 50 + 7 * i ≤ j ∧ j < 50 + 7 * i + 7 then (if j = 50 + 7 * i then nI k else if j = 50 + 7 * i + 3 ∨ j = 50 + 7 * i + 6 then nI 1 else nI 0) else D j
theorem ntW_x {D : Nat → Int32} {j : Nat} (h : j < 50 + 7 * i ∨ 50 + 7 * i + 7 ≤ j) : ntW D i k j = D j := if_neg (by omega)
theorem ntW_k {D : Nat → Int32} : ntW D i k (50 + 7 * i + 0) = nI k := by unfold ntW; rw [if_pos (by omega), if_pos (by omega)]
theorem WB.nt {D : Nat → Int32} (h : WB D) (hi : i < 8) (hk : k ≤ 6) : WB (ntW D i k) := by
  intro j hj
  unfold NB
  by_cases hr : 50 + 7 * i ≤ j ∧ j < 50 + 7 * i + 7
  · have e : ntW D i k j = (if j = 50 + 7 * i then nI k else if j = 50 + 7 * i + 3 ∨ j = 50 + 7 * i + 6 then nI 1 else nI 0) := if_pos hr
    rw [e]
    obtain ⟨b0, b1, b2, b3, b4, b5, b6⟩ := bnd_r i hi
    by_cases h0 : j = 50 + 7 * i
    · rw [if_pos h0, h0]; rw [Nat.add_zero] at b0; rw [b0]; exact ⟨k, hk, rfl⟩
    · rw [if_neg h0]
      by_cases h3 : j = 50 + 7 * i + 3 ∨ j = 50 + 7 * i + 6
      · rw [if_pos h3]
        rcases h3 with e3 | e3 <;> rw [e3]
        · rw [b3]; exact ⟨1, by omega, rfl⟩
        · rw [b6]; exact ⟨1, by omega, rfl⟩
      · rw [if_neg h3]; exact ⟨0, Nat.zero_le _, rfl⟩
  · rw [ntW_x (by omega)]; exact h j hj
theorem TI.nt (hT : TI T kn n) (hw : w < 3) (hi : i < 8) : TI (uT T w i n) kn (n + 1) := by
  obtain ⟨h1, h2, h3, h4⟩ := hT
  refine ⟨fun v j hv hj => ?_, fun v j v' j' hv hj hv' hj' e => ?_, fun b f hb => ?_, by omega⟩
  · by_cases h : v = w ∧ j = i
    · obtain ⟨rfl, rfl⟩ := h; rw [uT_s]; exact ⟨ds_big (by omega), by omega, by omega⟩
    · rw [uT_n h]; have := h1 v j hv hj; exact ⟨this.1, this.2.1, by have := this.2.2; omega⟩
  · by_cases h : v = w ∧ j = i
    · obtain ⟨rfl, rfl⟩ := h
      rw [uT_s] at e
      by_cases g : v' = v ∧ j' = j
      · exact ⟨g.1.symm, g.2.symm⟩
      · rw [uT_n g] at e; have := (h1 v' j' hv' hj').2.2; omega
    · rw [uT_n h] at e
      by_cases g : v' = w ∧ j' = i
      · obtain ⟨rfl, rfl⟩ := g; rw [uT_s] at e; have := (h1 v j hv hj).2.2; omega
      · rw [uT_n g] at e; exact h2 v j v' j' hv hj hv' hj' e
  · obtain ⟨g1, g2⟩ := h3 b f hb
    refine ⟨⟨g1.1, g1.2.1, by have := g1.2.2; omega⟩, fun v j hv hj => ?_⟩
    by_cases h : v = w ∧ j = i
    · obtain ⟨rfl, rfl⟩ := h; rw [uT_s]; have := g1.2.2; omega
    · rw [uT_n h]; exact g2 v j hv hj
theorem sc_nt {b a : Nat} {D' : Nat → Int32} (hD : ∀ j, j < 50 + 7 * i ∨ 50 + 7 * i + 7 ≤ j → D' j = W w j) (hb : b ≠ wb w + 3) : sc R (uW W w (D')) Z (uT T w i a) kn b = sc R W Z T kn b := by
  have e5 : wfl (uW W w (D')) (ds b).2 = wfl W (ds b).2 := by
    by_cases hvw : (ds b).2 = w
    · rw [hvw]; unfold wfl; rw [uW_s, hD _ (by omega), hD _ (by omega), hD _ (by omega), hD _ (by omega), hD _ (by omega), hD _ (by omega)]
    · unfold wfl; rw [uW_n hvw]
  have e6 : gd 36 (fun j => uW W w (D') (ds b).2 (8 + j)) = gd 36 (fun j => W (ds b).2 (8 + j)) := by
    by_cases hvw : (ds b).2 = w
    · rw [hvw]
      funext q
      unfold gd
      by_cases hq : q < 36
      · rw [if_pos hq, if_pos hq, uW_s]; exact hD _ (by omega)
      · rw [if_neg hq, if_neg hq]
    · rw [uW_n hvw]
  have e7 : gd 6 (fun j => uW W w (D') (ds b).2 (44 + j)) = gd 6 (fun j => W (ds b).2 (44 + j)) := by
    by_cases hvw : (ds b).2 = w
    · rw [hvw]
      funext q
      unfold gd
      by_cases hq : q < 6
      · rw [if_pos hq, if_pos hq, uW_s]; exact hD _ (by omega)
      · rw [if_neg hq, if_neg hq]
    · rw [uW_n hvw]
  have e8 : (ds b).1 = 8 → (fun j => if j < 8 then some (uT T w i a (ds b).2 j) else none) = (fun j => if j < 8 then some (T (ds b).2 j) else none) := fun hd => by
    obtain ⟨h2, -⟩ := ds_tr hd
    have hne : (ds b).2 ≠ w := fun z => hb (by rw [h2, z])
    funext j
    rw [uT_n (fun z => hne z.1)]
  unfold sc
  rw [e5, e6, e7]
  by_cases h8 : (ds b).1 = 8
  · rw [e8 h8]
  · simp only [if_neg h8]
theorem ds_tag : ∀ a, a < 88 → ds a ≠ Ds.no → 1 ≤ (ds a).1 ∧ (ds a).1 ≤ 10 := by decide +kernel
theorem sc_some {a : Nat} (hd : ds a ≠ Ds.no) : ∃ x, sc R W Z T kn a = some x := by
  have h88 : a < 88 := Nat.not_le.mp (fun z => hd (ds_big z))
  have ht := ds_tag a h88 hd
  unfold sc
  generalize (ds a).1 = t at ht ⊢
  rcases (show t = 1 ∨ t = 2 ∨ t = 3 ∨ t = 4 ∨ t = 5 ∨ t = 6 ∨ t = 7 ∨ t = 8 ∨ t = 9 ∨ t = 10 by omega) with rfl | rfl | rfl | rfl | rfl | rfl | rfl | rfl | rfl | rfl <;> exact ⟨_, rfl⟩
theorem trc_nt {v j : Nat} {D' : Nat → Int32} (hD : ∀ j, j < 50 + 7 * i ∨ 50 + 7 * i + 7 ≤ j → D' j = W w j) (h : ¬ (v = w ∧ j = i)) : trc (uW W w (D')) v j = trc W v j := by
  unfold trc trl tN
  by_cases hvw : v = w
  · subst hvw
    have : j ≠ i := fun z => h ⟨rfl, z⟩
    rw [uW_s, hD _ (by omega), hD _ (by omega), hD _ (by omega), hD _ (by omega), hD _ (by omega), hD _ (by omega), hD _ (by omega)]
  · rw [uW_n hvw]
theorem trc_new (hk : k ≤ 6) : trc (uW W w (ntW (W w) i k)) w i = ntc k i := by
  unfold trc trl tN ntc
  rw [uW_s, ntW_k, icl (by omega)]
  have e : ∀ q, 1 ≤ q → q < 7 → ntW (W w) i k (50 + 7 * i + q) = if q = 3 ∨ q = 6 then nI 1 else nI 0 := fun q h1 h2 => by
    unfold ntW
    rw [if_pos (by omega), if_neg (by omega)]
    by_cases h : q = 3 ∨ q = 6
    · rw [if_pos h, if_pos (by omega)]
    · rw [if_neg h, if_neg (by omega)]
  rw [e 1 (by omega) (by omega), e 2 (by omega) (by omega), e 3 (by omega) (by omega), e 4 (by omega) (by omega), e 5 (by omega) (by omega), e 6 (by omega) (by omega)]
  rfl
theorem co_ntG {D' : Nat → Int32} (hD : ∀ j, j < 50 + 7 * i ∨ 50 + 7 * i + 7 ≤ j → D' j = W w j) (hT : TI T kn n) (hw : w < 3) (hi : i < 8) (hh0 : ∀ a, ¬ (88 ≤ a ∧ a < 104) → h0 a = none) (a : Nat) (e : AE) (h : co R (uW W w (D')) Z (uT T w i n) kn h0 a = some e) : up (up (co R W Z T kn h0) n (trc (uW W w D') w i)) (wb w + 3) (.inl (2, 8, .inr (.inr (.inr (.inr (va_up (fun i => if i < 8 then some (T w i) else none) (nI i).toNatClampNeg (some n))))))) a = some e := by
  have hT' := hT.nt hw hi
  by_cases a3 : a = wb w + 3
  · subst a3
    rw [co_s (sc_tr (wb_ds w hw).2.2.2.1)] at h
    rw [up_s, ← h]
    congr 8
    funext j
    rw [icl (by omega)]
    show (if j = i then some n else if j < 8 then some (T w j) else none) = _
    by_cases hj : j = i
    · rw [if_pos hj, hj, if_pos hi, uT_s]
    · rw [if_neg hj, uT_n (fun z => hj z.2)]
  · rw [up_n a3]
    by_cases an : a = n
    · subst an
      have g := co_t (R := R) (W := uW W w (D')) (Z := Z) (h0 := h0) hT' hw hi
      rw [uT_s] at g
      rw [up_s, ← g]; exact h
    · rw [up_n an]
      by_cases hd : ds a = Ds.no
      · by_cases hex : ∃ v j, v < 3 ∧ j < 8 ∧ uT T w i n v j = a
        · obtain ⟨v, j, hv, hj, ea⟩ := hex
          by_cases hvj : v = w ∧ j = i
          · obtain ⟨rfl, rfl⟩ := hvj; rw [uT_s] at ea; exact absurd ea.symm an
          · have g := co_t (R := R) (W := uW W w (D')) (Z := Z) (h0 := h0) hT' hv hj
            rw [ea] at g
            rw [uT_n hvj] at ea
            have g2 := co_t (R := R) (W := W) (Z := Z) (h0 := h0) hT hv hj
            rw [ea] at g2
            rw [g2, ← h, g, trc_nt hD hvj]
        · by_cases hkb : ∃ b f, kn = some (b, f) ∧ b = a
          · obtain ⟨b, f, e1, rfl⟩ := hkb
            rw [co_k hT e1, ← h, co_k hT' e1]
          · rw [co_x hd (fun v j hv hj z => hex ⟨v, j, hv, hj, z⟩) (fun b f e1 z => hkb ⟨b, f, e1, z⟩)] at h
            have hin : 88 ≤ a ∧ a < 104 := Decidable.not_not.mp (fun z => by rw [hh0 a z] at h; cases h)
            rw [co_x hd (fun v j hv hj z => (hT.1 v j hv hj).2.1 (by rw [z]; exact hin)) (fun b f e1 z => hkb ⟨b, f, e1, z⟩)]
            exact h
      · obtain ⟨x, hx⟩ := sc_some (R := R) (W := W) (Z := Z) (T := T) (kn := kn) hd
        rw [co_s hx]
        rw [← sc_nt (i := i) (a := n) hD a3] at hx
        rw [co_s hx] at h
        exact h
theorem co_nt (hT : TI T kn n) (hw : w < 3) (hi : i < 8) (hk : k ≤ 6) (hh0 : ∀ a, ¬ (88 ≤ a ∧ a < 104) → h0 a = none) (a : Nat) (e : AE) (h : co R (uW W w (ntW (W w) i k)) Z (uT T w i n) kn h0 a = some e) : up (up (co R W Z T kn h0) n (ntc k i)) (wb w + 3) (.inl (2, 8, .inr (.inr (.inr (.inr (va_up (fun i => if i < 8 then some (T w i) else none) (nI i).toNatClampNeg (some n))))))) a = some e := by
  have g := co_ntG (D' := ntW (W w) i k) (fun j hj => ntW_x hj) hT hw hi hh0 a e h
  rw [trc_new hk] at g
  exact g
/-- a tree takes another's own -/
def tcW (D E : Nat → Int32) (i : Nat) : Nat → Int32 := fun j => if 50 + 7 * i ≤ j ∧ j < 50 + 7 * i + 7 then E j else D j
theorem co_tt {v : Nat} (hT : TI T kn n) (hw : w < 3) (hi : i < 8) (hk : W w (50 + 7 * i + 0) = W v (50 + 7 * i + 0)) : up (co R W Z T kn h0) (T w i) (.inr (6 + tN (W w) (50 + 7 * i + 0), [.int (W w (50 + 7 * i + 0)), .int (nI i), .int (W v (50 + 7 * i + 1)), .int (W v (50 + 7 * i + 2)), .int (W v (50 + 7 * i + 3)), .int (W v (50 + 7 * i + 4)), .int (W v (50 + 7 * i + 5)), .int (W v (50 + 7 * i + 6))])) = co R (uW W w (tcW (W w) (W v) i)) Z T kn h0 := by
  have e : ∀ q, q < 7 → tcW (W w) (W v) i (50 + 7 * i + q) = W v (50 + 7 * i + q) := fun q hq => if_pos (by omega)
  refine co_uD ?_ (fun _ j _ => if_neg (by omega)) (fun _ j _ => if_neg (by omega)) (fun _ j _ => if_neg (by omega)) (fun j hj hne _ q _ => if_neg ?_)
  · rw [co_t hT hw hi]
    unfold trc trl tN
    rw [uW_s, e 0 (by omega), e 1 (by omega), e 2 (by omega), e 3 (by omega), e 4 (by omega), e 5 (by omega), e 6 (by omega), hk]
  · have : j ≠ i := fun z => hne (by rw [z])
    omega
end CD
