/-! ===== the class's object and all that hangs on it ===== -/
abbrev Ds : Type := Nat × Nat
abbrev Ds.no : Ds := (0, 0)
abbrev Ds.ar (N : Nat) : Ds := (1, N)
abbrev Ds.rw : Ds := (2, 0)
abbrev Ds.sh : Ds := (3, 0)
abbrev Ds.tx (u : Nat) : Ds := (4, u)
abbrev Ds.wd (w : Nat) : Ds := (5, w)
abbrev Ds.ho (w : Nat) : Ds := (6, w)
abbrev Ds.ta (w : Nat) : Ds := (7, w)
abbrev Ds.tr (w : Nat) : Ds := (8, w)
abbrev Ds.ob : Ds := (9, 0)
abbrev Ds.ss : Ds := (10, 0)
def dsl : List Ds := [Ds.ob, Ds.rw, Ds.ar 50, Ds.tx 0, Ds.rw, Ds.ar 50, Ds.rw, Ds.ar 50, Ds.ar 50, Ds.tx 1, Ds.rw, Ds.ar 50, Ds.rw, Ds.ar 50, Ds.ar 50, Ds.wd 0, Ds.ho 0, Ds.ta 0, Ds.tr 0, Ds.rw, Ds.ar 8, Ds.ar 16, Ds.rw, Ds.ar 36, Ds.no, Ds.no, Ds.no, Ds.no, Ds.no, Ds.no, Ds.no, Ds.no, Ds.wd 1, Ds.ho 1, Ds.ta 1, Ds.tr 1, Ds.rw, Ds.ar 8, Ds.ar 16, Ds.rw, Ds.ar 36, Ds.no, Ds.no, Ds.no, Ds.no, Ds.no, Ds.no, Ds.no, Ds.no, Ds.rw, Ds.ar 20, Ds.rw, Ds.ar 40, Ds.ss, Ds.ar 6, Ds.wd 2, Ds.ho 2, Ds.ta 2, Ds.tr 2, Ds.rw, Ds.ar 8, Ds.ar 16, Ds.rw, Ds.ar 36, Ds.no, Ds.no, Ds.no, Ds.no, Ds.no, Ds.no, Ds.no, Ds.no, Ds.rw, Ds.ar 50, Ds.rw, Ds.ar 20, Ds.rw, Ds.ar 50, Ds.rw, Ds.ar 50, Ds.sh, Ds.ar 40, Ds.sh, Ds.ar 40, Ds.sh, Ds.ar 40, Ds.sh, Ds.ar 40]
def ds (a : Nat) : Ds := dsl.getD a Ds.no
def wb (w : Nat) : Nat := if w = 0 then 15 else if w = 1 then 32 else 55
def gd (N : Nat) (f : Nat → Int32) : Nat → Int32 := fun j => if j < N then f j else 0
abbrev Kn : Type := Option (Nat × (Nat → Int32))
def wfl (W : Nat → Nat → Int32) (w : Nat) : List Value := [.ref 3, .ref 9, .ref (wb w + 1), .ref (wb w + 2), .ref (wb w + 3), .int (W w 0), .int (W w 1), .int (W w 2), .int (W w 3), .int (W w 4), .int (W w 5), .ref (wb w + 4), .ref (wb w + 6), .ref (wb w + 7)]
def knv (kn : Kn) (u : Nat) : Value := if u = 0 then (match kn with | some p => .ref p.1 | none => .null) else .null
def lwv (u : Nat) : Int32 := if u = 0 then -9 else nI 0
def hgv (u : Nat) : Int32 := if u = 0 then nI 9 else nI 99
def tfl (Z : Nat → Nat → Int32) (kn : Kn) (u : Nat) : List Value := [.ref (4 + 6 * u), .ref 1, .float (UInt32.ofNat u), .int (lwv u), .int (hgv u), .ref (6 + 6 * u), .ref (8 + 6 * u), .int (Z (3 + 6 * u) 7), .int (Z (3 + 6 * u) 8), .int (Z (3 + 6 * u) 9), knv kn u]
def ofl (Z : Nat → Nat → Int32) : List Value := [.ref 1, .ref 3, .ref 9, .ref 15, .ref 32, .ref 49, .ref 51, .ref 53, .ref 54, .ref 55, .ref 72, .ref 74, .ref 76, .ref 78, .int (Z 0 14)]
def sc (R W Z : Nat → Nat → Int32) (T : Nat → Nat → Nat) (kn : Kn) (a : Nat) : Option AE :=
  if (ds a).1 = 1 then some (.inl (0, (ds a).2, .inl (R a)))
  else if (ds a).1 = 2 then some (.inr (1, [.ref (a + 1), .int (Z a 1)]))
  else if (ds a).1 = 3 then some (.inr (2, [.ref (a + 1), .int (Z a 1), .int (Z a 2)]))
  else if (ds a).1 = 4 then some (.inr (3, tfl Z kn (ds a).2))
  else if (ds a).1 = 5 then some (.inr (4, wfl W (ds a).2))
  else if (ds a).1 = 6 then some (.inl (0, 36, .inl (gd 36 (fun j => W (ds a).2 (8 + j)))))
  else if (ds a).1 = 7 then some (.inl (0, 6, .inl (gd 6 (fun j => W (ds a).2 (44 + j)))))
  else if (ds a).1 = 8 then some (.inl (2, 8, .inr (.inr (.inr (.inr (fun i => if i < 8 then some (T (ds a).2 i) else none))))))
  else if (ds a).1 = 9 then some (.inr (0, ofl Z))
  else if (ds a).1 = 10 then some (.inl (3, 4, .inr (.inr (.inr (.inr (fun i => if i < 4 then some (80 + 2 * i) else none))))))
  else none
def trl (W : Nat → Nat → Int32) (w i : Nat) : List Value := [.int (W w (50 + 7 * i + 0)), .int (nI i), .int (W w (50 + 7 * i + 1)), .int (W w (50 + 7 * i + 2)), .int (W w (50 + 7 * i + 3)), .int (W w (50 + 7 * i + 4)), .int (W w (50 + 7 * i + 5)), .int (W w (50 + 7 * i + 6))]
def trc (W : Nat → Nat → Int32) (w i : Nat) : AE := .inr (6 + tN (W w) (50 + 7 * i + 0), trl W w i)
noncomputable def co (R W Z : Nat → Nat → Int32) (T : Nat → Nat → Nat) (kn : Kn) (h0 : HP) : HP := fun a =>
  match sc R W Z T kn a with
  | some e => some e
  | none => @dite _ (∃ p : Nat × Nat, p.1 < 3 ∧ p.2 < 8 ∧ T p.1 p.2 = a) (Classical.propDecidable _) (fun h => some (trc W (Classical.choose h).1 (Classical.choose h).2)) (fun _ => match kn with
    | some p => if a = p.1 then some (.inl (1, 13300, .inl p.2)) else h0 a
    | none => h0 a)
def okA (a n : Nat) : Prop := ds a = Ds.no ∧ ¬ (88 ≤ a ∧ a < 104) ∧ a < n
/-- trees lie apart, and below all that is to be made -/
def TI (T : Nat → Nat → Nat) (kn : Kn) (n : Nat) : Prop := (∀ w i, w < 3 → i < 8 → okA (T w i) n) ∧ (∀ w i v j, w < 3 → i < 8 → v < 3 → j < 8 → T w i = T v j → w = v ∧ i = j) ∧ (∀ b f, kn = some (b, f) → okA b n ∧ ∀ w i, w < 3 → i < 8 → T w i ≠ b) ∧ 104 ≤ n
theorem ds_x : ∀ a, a < 88 → ((ds a).1 = 4 → a = 3 + 6 * (ds a).2 ∧ (ds a).2 < 2) ∧ ((ds a).1 = 5 → a = wb (ds a).2 ∧ (ds a).2 < 3) ∧ ((ds a).1 = 6 → a = wb (ds a).2 + 1 ∧ (ds a).2 < 3) ∧ ((ds a).1 = 7 → a = wb (ds a).2 + 2 ∧ (ds a).2 < 3) ∧ ((ds a).1 = 8 → a = wb (ds a).2 + 3 ∧ (ds a).2 < 3) ∧ ((ds a).1 = 9 → a = 0) := by decide +kernel
theorem ds_big {a : Nat} (h : 88 ≤ a) : ds a = Ds.no := by
  unfold ds
  rw [List.getD_eq_getElem?_getD, List.getElem?_eq_none (show dsl.length ≤ a from h)]
  rfl
theorem ds_tx {a : Nat} (h : (ds a).1 = 4) : a = 3 + 6 * (ds a).2 ∧ (ds a).2 < 2 := by
  by_cases ha : a < 88
  · exact (ds_x a ha).1 h
  · rw [ds_big (by omega)] at h; cases h
theorem ds_wd {a : Nat} (h : (ds a).1 = 5) : a = wb (ds a).2 ∧ (ds a).2 < 3 := by
  by_cases ha : a < 88
  · exact (ds_x a ha).2.1 h
  · rw [ds_big (by omega)] at h; cases h
theorem ds_ho {a : Nat} (h : (ds a).1 = 6) : a = wb (ds a).2 + 1 ∧ (ds a).2 < 3 := by
  by_cases ha : a < 88
  · exact (ds_x a ha).2.2.1 h
  · rw [ds_big (by omega)] at h; cases h
theorem ds_ta {a : Nat} (h : (ds a).1 = 7) : a = wb (ds a).2 + 2 ∧ (ds a).2 < 3 := by
  by_cases ha : a < 88
  · exact (ds_x a ha).2.2.2.1 h
  · rw [ds_big (by omega)] at h; cases h
theorem ds_tr {a : Nat} (h : (ds a).1 = 8) : a = wb (ds a).2 + 3 ∧ (ds a).2 < 3 := by
  by_cases ha : a < 88
  · exact (ds_x a ha).2.2.2.2.1 h
  · rw [ds_big (by omega)] at h; cases h
theorem ds_ob {a : Nat} (h : (ds a).1 = 9) : a = 0 := by
  by_cases ha : a < 88
  · exact (ds_x a ha).2.2.2.2.2 h
  · rw [ds_big (by omega)] at h; cases h
theorem wb_ds : ∀ w, w < 3 → ds (wb w) = Ds.wd w ∧ ds (wb w + 1) = Ds.ho w ∧ ds (wb w + 2) = Ds.ta w ∧ ds (wb w + 3) = Ds.tr w ∧ ds (wb w + 4) = Ds.rw ∧ ds (wb w + 5) = Ds.ar 8 ∧ ds (wb w + 6) = Ds.ar 16 ∧ ds (wb w + 7) = Ds.rw ∧ ds (wb w + 8) = Ds.ar 36 := by decide +kernel
theorem tx_ds : ∀ u, u < 2 → ds (3 + 6 * u) = Ds.tx u ∧ ds (4 + 6 * u) = Ds.rw ∧ ds (5 + 6 * u) = Ds.ar 50 ∧ ds (6 + 6 * u) = Ds.rw ∧ ds (7 + 6 * u) = Ds.ar 50 ∧ ds (8 + 6 * u) = Ds.ar 50 := by decide +kernel
theorem sh_ds : ∀ i, i < 4 → ds (80 + 2 * i) = Ds.sh ∧ ds (80 + 2 * i + 1) = Ds.ar 40 := by decide +kernel
def uZ (Z : Nat → Nat → Int32) (a k : Nat) (x : Int32) : Nat → Nat → Int32 := fun b j => if b = a ∧ j = k then x else Z b j
theorem uZ_s {Z : Nat → Nat → Int32} {a k : Nat} {x : Int32} : uZ Z a k x a k = x := if_pos ⟨rfl, rfl⟩
theorem uZ_n {Z : Nat → Nat → Int32} {a k b j : Nat} {x : Int32} (h : ¬ (b = a ∧ j = k)) : uZ Z a k x b j = Z b j := if_neg h
theorem uZ_uu {Z : Nat → Nat → Int32} {a k : Nat} {x y : Int32} : uZ (uZ Z a k x) a k y = uZ Z a k y := by
  funext b j
  unfold uZ
  by_cases h : b = a ∧ j = k
  · rw [if_pos h, if_pos h]
  · rw [if_neg h, if_neg h, if_neg h]
theorem uZ_id {Z : Nat → Nat → Int32} {a k : Nat} : uZ Z a k (Z a k) = Z := by
  funext b j
  unfold uZ
  by_cases h : b = a ∧ j = k
  · rw [if_pos h, h.1, h.2]
  · rw [if_neg h]
section CO
variable {R W Z R' W' Z' : Nat → Nat → Int32} {T : Nat → Nat → Nat} {kn : Kn} {h0 : HP} {n : Nat}
theorem co_s {a : Nat} {e : AE} (h : sc R W Z T kn a = some e) : co R W Z T kn h0 a = some e := by unfold co; rw [h]
theorem sc_no {a : Nat} (h : ds a = Ds.no) : sc R W Z T kn a = none := by unfold sc; rw [h]; rfl
theorem co_t {w i : Nat} (hT : TI T kn n) (hw : w < 3) (hi : i < 8) : co R W Z T kn h0 (T w i) = some (trc W w i) := by
  have hex : ∃ p : Nat × Nat, p.1 < 3 ∧ p.2 < 8 ∧ T p.1 p.2 = T w i := ⟨(w, i), hw, hi, rfl⟩
  unfold co
  rw [sc_no (hT.1 w i hw hi).1]
  simp only [dif_pos hex]
  obtain ⟨h1, h2, h3⟩ := Classical.choose_spec hex
  obtain ⟨e1, e2⟩ := hT.2.1 _ _ _ _ h1 h2 hw hi h3
  rw [e1, e2]
theorem co_k {b : Nat} {f : Nat → Int32} (hT : TI T kn n) (hk : kn = some (b, f)) : co R W Z T kn h0 b = some (.inl (1, 13300, .inl f)) := by
  have hb := hT.2.2.1 b f hk
  have hex : ¬ ∃ p : Nat × Nat, p.1 < 3 ∧ p.2 < 8 ∧ T p.1 p.2 = b := fun ⟨p, h1, h2, h3⟩ => hb.2 _ _ h1 h2 h3
  unfold co
  rw [sc_no hb.1.1, dif_neg hex, hk]
  simp
theorem co_x {a : Nat} (h1 : ds a = Ds.no) (h2 : ∀ w i, w < 3 → i < 8 → T w i ≠ a) (h3 : ∀ b f, kn = some (b, f) → b ≠ a) : co R W Z T kn h0 a = h0 a := by
  have hex : ¬ ∃ p : Nat × Nat, p.1 < 3 ∧ p.2 < 8 ∧ T p.1 p.2 = a := fun ⟨p, g1, g2, g3⟩ => h2 _ _ g1 g2 g3
  unfold co
  rw [sc_no h1, dif_neg hex]
  cases kn with
  | none => rfl
  | some p => exact if_neg (fun z => h3 p.1 p.2 rfl z.symm)
theorem co_ext {b : Nat} (hs : sc R W Z T kn b = sc R' W' Z' T kn b) (ht : ∀ v i, v < 3 → i < 8 → T v i = b → trc W v i = trc W' v i) : co R W Z T kn h0 b = co R' W' Z' T kn h0 b := by
  unfold co
  rw [hs]
  cases sc R' W' Z' T kn b with
  | some e => rfl
  | none =>
    by_cases hex : ∃ p : Nat × Nat, p.1 < 3 ∧ p.2 < 8 ∧ T p.1 p.2 = b
    · simp only [dif_pos hex]
      obtain ⟨h1, h2, h3⟩ := Classical.choose_spec hex
      rw [ht _ _ h1 h2 h3]
    · simp only [dif_neg hex]
theorem co_up {a : Nat} {e : AE} (h1 : co R' W' Z' T kn h0 a = some e) (h2 : ∀ b, b ≠ a → co R W Z T kn h0 b = co R' W' Z' T kn h0 b) : up (co R W Z T kn h0) a e = co R' W' Z' T kn h0 := by
  funext b
  by_cases hb : b = a
  · subst hb; rw [up_s, h1]
  · rw [up_n hb, h2 b hb]
/-- an array of ints -/
theorem co_uR {a N : Nat} {f : Nat → Int32} (hd : ds a = Ds.ar N) : up (co R W Z T kn h0) a (.inl (0, N, .inl f)) = co (uA R a f) W Z T kn h0 := by
  refine co_up (co_s (by unfold sc; rw [hd, uA_s]; rfl)) (fun b hb => co_ext ?_ (fun _ _ _ _ _ => rfl))
  unfold sc
  rw [uA_n hb]
theorem sc_ar {a N : Nat} (hd : ds a = Ds.ar N) : sc R W Z T kn a = some (.inl (0, N, .inl (R a))) := by unfold sc; rw [hd]; rfl
theorem sc_rw {a : Nat} (hd : ds a = Ds.rw) : sc R W Z T kn a = some (.inr (1, [.ref (a + 1), .int (Z a 1)])) := by unfold sc; rw [hd]; rfl
theorem sc_sh {a : Nat} (hd : ds a = Ds.sh) : sc R W Z T kn a = some (.inr (2, [.ref (a + 1), .int (Z a 1), .int (Z a 2)])) := by unfold sc; rw [hd]; rfl
theorem sc_tx {a u : Nat} (hd : ds a = Ds.tx u) : sc R W Z T kn a = some (.inr (3, tfl Z kn u)) := by unfold sc; rw [hd]; rfl
theorem sc_wd {a w : Nat} (hd : ds a = Ds.wd w) : sc R W Z T kn a = some (.inr (4, wfl W w)) := by unfold sc; rw [hd]; rfl
theorem sc_ho {a w : Nat} (hd : ds a = Ds.ho w) : sc R W Z T kn a = some (.inl (0, 36, .inl (gd 36 (fun j => W w (8 + j))))) := by unfold sc; rw [hd]; rfl
theorem sc_ta {a w : Nat} (hd : ds a = Ds.ta w) : sc R W Z T kn a = some (.inl (0, 6, .inl (gd 6 (fun j => W w (44 + j))))) := by unfold sc; rw [hd]; rfl
theorem sc_tr {a w : Nat} (hd : ds a = Ds.tr w) : sc R W Z T kn a = some (.inl (2, 8, .inr (.inr (.inr (.inr (fun i => if i < 8 then some (T w i) else none)))))) := by unfold sc; rw [hd]; rfl
theorem sc_ob : sc R W Z T kn 0 = some (.inr (0, ofl Z)) := rfl
theorem sc_ss : sc R W Z T kn 53 = some (.inl (3, 4, .inr (.inr (.inr (.inr (fun i => if i < 4 then some (80 + 2 * i) else none)))))) := rfl
/-- what of sc hangs on Z -/
theorem sc_uZ {a b k : Nat} {x : Int32} (hb : b ≠ a) : sc R W Z T kn b = sc R W (uZ Z a k x) T kn b := by
  unfold sc
  rw [uZ_n (fun z => hb z.1), uZ_n (fun z => hb z.1)]
  by_cases h4 : (ds b).1 = 4
  · obtain ⟨h1, -⟩ := ds_tx h4
    have e : tfl Z kn (ds b).2 = tfl (uZ Z a k x) kn (ds b).2 := by
      unfold tfl
      rw [uZ_n (fun z => hb (by rw [h1]; exact z.1)), uZ_n (fun z => hb (by rw [h1]; exact z.1)), uZ_n (fun z => hb (by rw [h1]; exact z.1))]
    rw [e]
    simp only [h4]
    rfl
  · by_cases h9 : (ds b).1 = 9
    · have h1 := ds_ob h9
      have e : ofl Z = ofl (uZ Z a k x) := by
        unfold ofl
        rw [uZ_n (fun z => hb (by rw [h1]; exact z.1))]
      rw [e]
      simp only [if_neg h4]
    · simp only [if_neg h4, if_neg h9]
theorem co_uZ {a k : Nat} {x : Int32} {e : AE} (h : sc R W (uZ Z a k x) T kn a = some e) : up (co R W Z T kn h0) a e = co R W (uZ Z a k x) T kn h0 :=
  co_up (co_s h) (fun b hb => co_ext (sc_uZ hb) (fun _ _ _ _ _ => rfl))
theorem co_urw {a : Nat} {x : Int32} (hd : ds a = Ds.rw) : up (co R W Z T kn h0) a (.inr (1, [.ref (a + 1), .int x])) = co R W (uZ Z a 1 x) T kn h0 := co_uZ (by rw [sc_rw hd, uZ_s])
theorem co_ush1 {a : Nat} {x : Int32} (hd : ds a = Ds.sh) : up (co R W Z T kn h0) a (.inr (2, [.ref (a + 1), .int x, .int (Z a 2)])) = co R W (uZ Z a 1 x) T kn h0 := co_uZ (by rw [sc_sh hd, uZ_s, uZ_n (fun z => absurd z.2 (by decide))])
theorem co_ush2 {a : Nat} {x : Int32} (hd : ds a = Ds.sh) : up (co R W Z T kn h0) a (.inr (2, [.ref (a + 1), .int (Z a 1), .int x])) = co R W (uZ Z a 2 x) T kn h0 := co_uZ (by rw [sc_sh hd, uZ_s, uZ_n (fun z => absurd z.2 (by decide))])
theorem co_utx {u k : Nat} {x : Int32} (hu : u < 2) (hk : k = 7 ∨ k = 8 ∨ k = 9) : up (co R W Z T kn h0) (3 + 6 * u) (.inr (3, (tfl Z kn u).set k (.int x))) = co R W (uZ Z (3 + 6 * u) k x) T kn h0 := co_uZ (by
  rw [sc_tx (tx_ds u hu).1]
  congr 3
  unfold tfl
  rcases hk with rfl | rfl | rfl
  · rw [uZ_s, uZ_n (fun z => absurd z.2 (by decide)), uZ_n (fun z => absurd z.2 (by decide))]; rfl
  · rw [uZ_s, uZ_n (fun z => absurd z.2 (by decide)), uZ_n (fun z => absurd z.2 (by decide))]; rfl
  · rw [uZ_s, uZ_n (fun z => absurd z.2 (by decide)), uZ_n (fun z => absurd z.2 (by decide))]; rfl)
theorem co_uob {x : Int32} : up (co R W Z T kn h0) 0 (.inr (0, (ofl Z).set 14 (.int x))) = co R W (uZ Z 0 14 x) T kn h0 := co_uZ rfl
/-- worlds -/
def uW (W : Nat → Nat → Int32) (w : Nat) (D : Nat → Int32) : Nat → Nat → Int32 := fun v => if v = w then D else W v
theorem uW_s {w : Nat} {D : Nat → Int32} : uW W w D w = D := if_pos rfl
theorem uW_n {w v : Nat} {D : Nat → Int32} (h : v ≠ w) : uW W w D v = W v := if_neg h
theorem uW_uu {w : Nat} {D E : Nat → Int32} : uW (uW W w D) w E = uW W w E := by
  funext v
  by_cases h : v = w
  · subst h; rw [uW_s, uW_s]
  · rw [uW_n h, uW_n h, uW_n h]
theorem uW_id {w : Nat} : uW W w (W w) = W := by
  funext v
  by_cases h : v = w
  · subst h; rw [uW_s]
  · rw [uW_n h]
theorem co_uW {a w j : Nat} {x : Int32} {e : AE} (h1 : co R (uW W w (upd (W w) j x)) Z T kn h0 a = some e)
    (hwd : a ≠ wb w → 6 ≤ j) (hho : a ≠ wb w + 1 → j < 8 ∨ 44 ≤ j) (hta : a ≠ wb w + 2 → j < 44 ∨ 50 ≤ j) (htr : ∀ i, i < 8 → T w i ≠ a → w < 3 → j < 50 + 7 * i ∨ 50 + 7 * i + 7 ≤ j) : up (co R W Z T kn h0) a e = co R (uW W w (upd (W w) j x)) Z T kn h0 := by
  refine co_up h1 (fun b hb => co_ext ?_ (fun v i hv hi e1 => ?_))
  · have e5 : (ds b).1 = 5 → wfl W (ds b).2 = wfl (uW W w (upd (W w) j x)) (ds b).2 := fun hd => by
      by_cases hvw : (ds b).2 = w
      · obtain ⟨h2, -⟩ := ds_wd hd
        rw [hvw] at h2 ⊢
        have := hwd (fun z => hb (by rw [h2, z]))
        unfold wfl
        rw [uW_s, pk_un (by omega), pk_un (by omega), pk_un (by omega), pk_un (by omega), pk_un (by omega), pk_un (by omega)]
      · unfold wfl
        rw [uW_n hvw]
    have e6 : (ds b).1 = 6 → gd 36 (fun q => W (ds b).2 (8 + q)) = gd 36 (fun q => uW W w (upd (W w) j x) (ds b).2 (8 + q)) := fun hd => by
      by_cases hvw : (ds b).2 = w
      · obtain ⟨h2, -⟩ := ds_ho hd
        rw [hvw] at h2 ⊢
        have := hho (fun z => hb (by rw [h2, z]))
        funext q
        unfold gd
        by_cases hq : q < 36
        · rw [if_pos hq, if_pos hq, uW_s]; show _ = upd (W w) j x (8 + q); rw [pk_un (by omega)]
        · rw [if_neg hq, if_neg hq]
      · rw [uW_n hvw]
    have e7 : (ds b).1 = 7 → gd 6 (fun q => W (ds b).2 (44 + q)) = gd 6 (fun q => uW W w (upd (W w) j x) (ds b).2 (44 + q)) := fun hd => by
      by_cases hvw : (ds b).2 = w
      · obtain ⟨h2, -⟩ := ds_ta hd
        rw [hvw] at h2 ⊢
        have := hta (fun z => hb (by rw [h2, z]))
        funext q
        unfold gd
        by_cases hq : q < 6
        · rw [if_pos hq, if_pos hq, uW_s]; show _ = upd (W w) j x (44 + q); rw [pk_un (by omega)]
        · rw [if_neg hq, if_neg hq]
      · rw [uW_n hvw]
    unfold sc
    by_cases h5 : (ds b).1 = 5
    · rw [e5 h5]
      simp only [h5]
      rfl
    · by_cases h6 : (ds b).1 = 6
      · rw [e6 h6]
        simp only [h6]
        rfl
      · by_cases h7 : (ds b).1 = 7
        · rw [e7 h7]
          simp only [h7]
          rfl
        · simp only [if_neg h5, if_neg h6, if_neg h7]
  · by_cases hvw : v = w
    · subst hvw
      have := htr i hi (fun z => hb (by rw [← e1, z])) hv
      unfold trc trl tN
      rw [uW_s, pk_un (by omega), pk_un (by omega), pk_un (by omega), pk_un (by omega), pk_un (by omega), pk_un (by omega), pk_un (by omega)]
    · unfold trc trl tN
      rw [uW_n hvw]
theorem T_ne {w i a : Nat} {d : Ds} (hT : TI T kn n) (hw : w < 3) (hi : i < 8) (hd : ds a = d) (hn : d ≠ Ds.no) : T w i ≠ a := fun e => hn (by rw [← hd, ← e]; exact (hT.1 w i hw hi).1)
theorem co_uwd {w j : Nat} {x : Int32} (hw : w < 3) (hj : j < 6) : up (co R W Z T kn h0) (wb w) (.inr (4, (wfl W w).set (5 + j) (.int x))) = co R (uW W w (upd (W w) j x)) Z T kn h0 := by
  refine co_uW (co_s ?_) (fun z => absurd rfl z) (fun _ => by omega) (fun _ => by omega) (fun i _ _ _ => by omega)
  rw [sc_wd (wb_ds w hw).1]
  congr 3
  unfold wfl
  rw [uW_s]
  rcases (show j = 0 ∨ j = 1 ∨ j = 2 ∨ j = 3 ∨ j = 4 ∨ j = 5 by omega) with rfl | rfl | rfl | rfl | rfl | rfl <;> rfl
theorem gd_upd {N c : Nat} {f : Nat → Int32} {o : Nat} {g : Nat → Int32} {x : Int32} (hc : c < N) (hg : ∀ j, f j = g (o + j)) : upd (gd N f) c x = gd N (fun j => upd g (o + c) x (o + j)) := by
  funext j
  unfold gd
  by_cases hj : j = c
  · subst hj; rw [pk_us, if_pos hc]; show x = upd g (o + j) x (o + j); rw [pk_us]
  · rw [pk_un hj]
    by_cases h1 : j < N
    · rw [if_pos h1, if_pos h1, hg]; show g (o + j) = upd g (o + c) x (o + j); rw [pk_un (by omega)]
    · rw [if_neg h1, if_neg h1]
theorem co_uho {w c : Nat} {x : Int32} (hT : TI T kn n) (hw : w < 3) (hc : c < 36) : up (co R W Z T kn h0) (wb w + 1) (.inl (0, 36, .inl (upd (gd 36 (fun j => W w (8 + j))) c x))) = co R (uW W w (upd (W w) (8 + c) x)) Z T kn h0 := by
  refine co_uW (co_s ?_) (fun _ => by omega) (fun z => absurd rfl z) (fun _ => by omega) (fun i _ _ _ => by omega)
  rw [sc_ho (wb_ds w hw).2.1, uW_s, gd_upd hc (fun _ => rfl)]
theorem co_uta {w c : Nat} {x : Int32} (hT : TI T kn n) (hw : w < 3) (hc : c < 6) : up (co R W Z T kn h0) (wb w + 2) (.inl (0, 6, .inl (upd (gd 6 (fun j => W w (44 + j))) c x))) = co R (uW W w (upd (W w) (44 + c) x)) Z T kn h0 := by
  refine co_uW (co_s ?_) (fun _ => by omega) (fun _ => by omega) (fun z => absurd rfl z) (fun i _ _ _ => by omega)
  rw [sc_ta (wb_ds w hw).2.2.1, uW_s, gd_upd hc (fun _ => rfl)]
theorem co_utr {w i k : Nat} {x : Int32} (hT : TI T kn n) (hw : w < 3) (hi : i < 8) (hk : 1 ≤ k) (hk7 : k < 7) : up (co R W Z T kn h0) (T w i) (.inr (6 + tN (W w) (50 + 7 * i + 0), (trl W w i).set (k + 1) (.int x))) = co R (uW W w (upd (W w) (50 + 7 * i + k) x)) Z T kn h0 := by
  refine co_uW ?_ (fun _ => by omega) (fun _ => by omega) (fun _ => by omega) (fun j hj hne _ => ?_)
  · rw [co_t hT hw hi]
    congr 1
    unfold trc tN
    rw [uW_s, pk_un (by omega)]
    congr 3
    unfold trl
    rw [uW_s]
    rcases (show k = 1 ∨ k = 2 ∨ k = 3 ∨ k = 4 ∨ k = 5 ∨ k = 6 by omega) with rfl | rfl | rfl | rfl | rfl | rfl <;> (simp only [pk_us]; repeat rw [pk_un (by omega)]) <;> rfl
  · have : j ≠ i := fun z => hne (by rw [z])
    omega
end CO
