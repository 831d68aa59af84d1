def dslQ : List Ds := [Ds.ob, Ds.rw, Ds.ar 50, Ds.tx 0, Ds.rw, Ds.ar 50, Ds.rw, Ds.ar 50, Ds.ar 50, Ds.tx 1, Ds.rw, Ds.ar 50, Ds.rw, Ds.ar 50, Ds.ar 50, Ds.wd 0, Ds.ho 0, Ds.ta 0, Ds.tr 0, Ds.rw, Ds.ar 8, Ds.ar 16, Ds.rw, Ds.ar 36, Ds.no, Ds.no, Ds.no, Ds.no, Ds.no, Ds.no, Ds.no, Ds.no, Ds.wd 1, Ds.ho 1, Ds.ta 1, Ds.tr 1, Ds.rw, Ds.ar 8, Ds.ar 16, Ds.rw, Ds.ar 36, Ds.no, Ds.no, Ds.no, Ds.no, Ds.no, Ds.no, Ds.no, Ds.no, Ds.rw, Ds.ar 20, Ds.rw, Ds.ar 40, Ds.no, Ds.ar 6, Ds.wd 2, Ds.ho 2, Ds.ta 2, Ds.tr 2, Ds.rw, Ds.ar 8, Ds.ar 16, Ds.rw, Ds.ar 36, Ds.no, Ds.no, Ds.no, Ds.no, Ds.no, Ds.no, Ds.no, Ds.no, Ds.rw, Ds.ar 50, Ds.rw, Ds.ar 20, Ds.rw, Ds.ar 50, Ds.rw, Ds.ar 50, Ds.no, Ds.no, Ds.no, Ds.no, Ds.no, Ds.no, Ds.no, Ds.no]
def dsQ (a : Nat) : Ds := dslQ.getD a Ds.no
def scQ (R W Z : Nat → Nat → Int32) (T : Nat → Nat → Nat) (kn : Kn) (a : Nat) : Option AE :=
  if (dsQ a).1 = 1 then some (.inl (0, (dsQ a).2, .inl (R a)))
  else if (dsQ a).1 = 2 then some (.inr (1, [.ref (a + 1), .int (Z a 1)]))
  else if (dsQ a).1 = 3 then some (.inr (2, [.ref (a + 1), .int (Z a 1), .int (Z a 2)]))
  else if (dsQ a).1 = 4 then some (.inr (3, tfl Z kn (dsQ a).2))
  else if (dsQ a).1 = 5 then some (.inr (4, wfl W (dsQ a).2))
  else if (dsQ a).1 = 6 then some (.inl (0, 36, .inl (gd 36 (fun j => W (dsQ a).2 (8 + j)))))
  else if (dsQ a).1 = 7 then some (.inl (0, 6, .inl (gd 6 (fun j => W (dsQ a).2 (44 + j)))))
  else if (dsQ a).1 = 8 then some (.inl (2, 8, .inr (.inr (.inr (.inr (fun i => if i < 8 then some (T (dsQ a).2 i) else none))))))
  else if (dsQ a).1 = 9 then some (.inr (0, ofl Z))
  else if (dsQ a).1 = 10 then some (.inl (3, 4, .inr (.inr (.inr (.inr (fun i => if i < 4 then some (80 + 2 * i) else none))))))
  else none
noncomputable def coQ (R W Z : Nat → Nat → Int32) (T : Nat → Nat → Nat) (kn : Kn) (h0 : HP) : HP := fun a =>
  match scQ R W Z T kn a with
  | some e => some e
  | none => @dite _ (∃ p : Nat × Nat, p.1 < 3 ∧ p.2 < 8 ∧ T p.1 p.2 = a) (Classical.propDecidable _) (fun h => some (trc W (Classical.choose h).1 (Classical.choose h).2)) (fun _ => match kn with
    | some p => if a = p.1 then some (.inl (1, 13300, .inl p.2)) else h0 a
    | none => h0 a)
def okAQ (a n : Nat) : Prop := dsQ a = Ds.no ∧ ¬ (88 ≤ a ∧ a < 104) ∧ a < n
/-- trees lie apart, and below all that is to be made -/
def TIQ (T : Nat → Nat → Nat) (kn : Kn) (n : Nat) : Prop := (∀ w i, w < 3 → i < 8 → okAQ (T w i) n) ∧ (∀ w i v j, w < 3 → i < 8 → v < 3 → j < 8 → T w i = T v j → w = v ∧ i = j) ∧ (∀ b f, kn = some (b, f) → okAQ b n ∧ ∀ w i, w < 3 → i < 8 → T w i ≠ b) ∧ 72 ≤ n
theorem ds_xQ : ∀ a, a < 88 → ((dsQ a).1 = 4 → a = 3 + 6 * (dsQ a).2 ∧ (dsQ a).2 < 2) ∧ ((dsQ a).1 = 5 → a = wb (dsQ a).2 ∧ (dsQ a).2 < 3) ∧ ((dsQ a).1 = 6 → a = wb (dsQ a).2 + 1 ∧ (dsQ a).2 < 3) ∧ ((dsQ a).1 = 7 → a = wb (dsQ a).2 + 2 ∧ (dsQ a).2 < 3) ∧ ((dsQ a).1 = 8 → a = wb (dsQ a).2 + 3 ∧ (dsQ a).2 < 3) ∧ ((dsQ a).1 = 9 → a = 0) := by decide +kernel
theorem ds_bigQ {a : Nat} (h : 88 ≤ a) : dsQ a = Ds.no := by
  unfold dsQ
  rw [List.getD_eq_getElem?_getD, List.getElem?_eq_none (show dslQ.length ≤ a from h)]
  rfl
theorem ds_txQ {a : Nat} (h : (dsQ a).1 = 4) : a = 3 + 6 * (dsQ a).2 ∧ (dsQ a).2 < 2 := by
  by_cases ha : a < 88
  · exact (ds_xQ a ha).1 h
  · rw [ds_bigQ (by omega)] at h; cases h
theorem ds_obQ {a : Nat} (h : (dsQ a).1 = 9) : a = 0 := by
  by_cases ha : a < 88
  · exact (ds_xQ a ha).2.2.2.2.2 h
  · rw [ds_bigQ (by omega)] at h; cases h
theorem wb_dsQ : ∀ w, w < 3 → dsQ (wb w) = Ds.wd w ∧ dsQ (wb w + 1) = Ds.ho w ∧ dsQ (wb w + 2) = Ds.ta w ∧ dsQ (wb w + 3) = Ds.tr w ∧ dsQ (wb w + 4) = Ds.rw ∧ dsQ (wb w + 5) = Ds.ar 8 ∧ dsQ (wb w + 6) = Ds.ar 16 ∧ dsQ (wb w + 7) = Ds.rw ∧ dsQ (wb w + 8) = Ds.ar 36 := by decide +kernel
theorem tx_dsQ : ∀ u, u < 2 → dsQ (3 + 6 * u) = Ds.tx u ∧ dsQ (4 + 6 * u) = Ds.rw ∧ dsQ (5 + 6 * u) = Ds.ar 50 ∧ dsQ (6 + 6 * u) = Ds.rw ∧ dsQ (7 + 6 * u) = Ds.ar 50 ∧ dsQ (8 + 6 * u) = Ds.ar 50 := by decide +kernel
section CO
variable {R W Z R' W' Z' : Nat → Nat → Int32} {T : Nat → Nat → Nat} {kn : Kn} {h0 : HP} {n : Nat}
theorem co_sQ {a : Nat} {e : AE} (h : scQ R W Z T kn a = some e) : coQ R W Z T kn h0 a = some e := by unfold coQ; rw [h]
theorem sc_noQ {a : Nat} (h : dsQ a = Ds.no) : scQ R W Z T kn a = none := by unfold scQ; rw [h]; rfl
theorem co_tQ {w i : Nat} (hT : TIQ T kn n) (hw : w < 3) (hi : i < 8) : coQ R W Z T kn h0 (T w i) = some (trc W w i) := by
  have hex : ∃ p : Nat × Nat, p.1 < 3 ∧ p.2 < 8 ∧ T p.1 p.2 = T w i := ⟨(w, i), hw, hi, rfl⟩
  unfold coQ
  rw [sc_noQ (hT.1 w i hw hi).1]
  simp only [dif_pos hex]
  obtain ⟨h1, h2, h3⟩ := Classical.choose_spec hex
  obtain ⟨e1, e2⟩ := hT.2.1 _ _ _ _ h1 h2 hw hi h3
  rw [e1, e2]
theorem co_kQ {b : Nat} {f : Nat → Int32} (hT : TIQ T kn n) (hk : kn = some (b, f)) : coQ R W Z T kn h0 b = some (.inl (1, 13300, .inl f)) := by
  have hb := hT.2.2.1 b f hk
  have hex : ¬ ∃ p : Nat × Nat, p.1 < 3 ∧ p.2 < 8 ∧ T p.1 p.2 = b := fun ⟨p, h1, h2, h3⟩ => hb.2 _ _ h1 h2 h3
  unfold coQ
  rw [sc_noQ hb.1.1, dif_neg hex, hk]
  simp
theorem co_xQ {a : Nat} (h1 : dsQ a = Ds.no) (h2 : ∀ w i, w < 3 → i < 8 → T w i ≠ a) (h3 : ∀ b f, kn = some (b, f) → b ≠ a) : coQ R W Z T kn h0 a = h0 a := by
  have hex : ¬ ∃ p : Nat × Nat, p.1 < 3 ∧ p.2 < 8 ∧ T p.1 p.2 = a := fun ⟨p, g1, g2, g3⟩ => h2 _ _ g1 g2 g3
  unfold coQ
  rw [sc_noQ h1, dif_neg hex]
  cases kn with
  | none => rfl
  | some p => exact if_neg (fun z => h3 p.1 p.2 rfl z.symm)
theorem co_extQ {b : Nat} (hs : scQ R W Z T kn b = scQ R' W' Z' T kn b) (ht : ∀ v i, v < 3 → i < 8 → T v i = b → trc W v i = trc W' v i) : coQ R W Z T kn h0 b = coQ R' W' Z' T kn h0 b := by
  unfold coQ
  rw [hs]
  cases scQ R' W' Z' T kn b with
  | some e => rfl
  | none =>
    by_cases hex : ∃ p : Nat × Nat, p.1 < 3 ∧ p.2 < 8 ∧ T p.1 p.2 = b
    · simp only [dif_pos hex]
      obtain ⟨h1, h2, h3⟩ := Classical.choose_spec hex
      rw [ht _ _ h1 h2 h3]
    · simp only [dif_neg hex]
theorem co_upQ {a : Nat} {e : AE} (h1 : coQ R' W' Z' T kn h0 a = some e) (h2 : ∀ b, b ≠ a → coQ R W Z T kn h0 b = coQ R' W' Z' T kn h0 b) : up (coQ R W Z T kn h0) a e = coQ R' W' Z' T kn h0 := by
  funext b
  by_cases hb : b = a
  · subst hb; rw [up_s, h1]
  · rw [up_n hb, h2 b hb]
/-- an array of ints -/
theorem co_uRQ {a N : Nat} {f : Nat → Int32} (hd : dsQ a = Ds.ar N) : up (coQ R W Z T kn h0) a (.inl (0, N, .inl f)) = coQ (uA R a f) W Z T kn h0 := by
  refine co_upQ (co_sQ (by unfold scQ; rw [hd, uA_s]; rfl)) (fun b hb => co_extQ ?_ (fun _ _ _ _ _ => rfl))
  unfold scQ
  rw [uA_n hb]
theorem sc_arQ {a N : Nat} (hd : dsQ a = Ds.ar N) : scQ R W Z T kn a = some (.inl (0, N, .inl (R a))) := by unfold scQ; rw [hd]; rfl
theorem sc_rwQ {a : Nat} (hd : dsQ a = Ds.rw) : scQ R W Z T kn a = some (.inr (1, [.ref (a + 1), .int (Z a 1)])) := by unfold scQ; rw [hd]; rfl
theorem sc_txQ {a u : Nat} (hd : dsQ a = Ds.tx u) : scQ R W Z T kn a = some (.inr (3, tfl Z kn u)) := by unfold scQ; rw [hd]; rfl
theorem sc_wdQ {a w : Nat} (hd : dsQ a = Ds.wd w) : scQ R W Z T kn a = some (.inr (4, wfl W w)) := by unfold scQ; rw [hd]; rfl
theorem sc_hoQ {a w : Nat} (hd : dsQ a = Ds.ho w) : scQ R W Z T kn a = some (.inl (0, 36, .inl (gd 36 (fun j => W w (8 + j))))) := by unfold scQ; rw [hd]; rfl
theorem sc_taQ {a w : Nat} (hd : dsQ a = Ds.ta w) : scQ R W Z T kn a = some (.inl (0, 6, .inl (gd 6 (fun j => W w (44 + j))))) := by unfold scQ; rw [hd]; rfl
theorem sc_trQ {a w : Nat} (hd : dsQ a = Ds.tr w) : scQ R W Z T kn a = some (.inl (2, 8, .inr (.inr (.inr (.inr (fun i => if i < 8 then some (T w i) else none)))))) := by unfold scQ; rw [hd]; rfl
theorem sc_obQ : scQ R W Z T kn 0 = some (.inr (0, ofl Z)) := rfl
/-- what of scQ hangs on Z -/
theorem sc_uZQ {a b k : Nat} {x : Int32} (hb : b ≠ a) : scQ R W Z T kn b = scQ R W (uZ Z a k x) T kn b := by
  unfold scQ
  rw [uZ_n (fun z => hb z.1), uZ_n (fun z => hb z.1)]
  by_cases h4 : (dsQ b).1 = 4
  · obtain ⟨h1, -⟩ := ds_txQ h4
    have e : tfl Z kn (dsQ b).2 = tfl (uZ Z a k x) kn (dsQ b).2 := by
      unfold tfl
      rw [uZ_n (fun z => hb (by rw [h1]; exact z.1)), uZ_n (fun z => hb (by rw [h1]; exact z.1)), uZ_n (fun z => hb (by rw [h1]; exact z.1))]
    rw [e]
    simp only [h4]
    rfl
  · by_cases h9 : (dsQ b).1 = 9
    · have h1 := ds_obQ h9
      have e : ofl Z = ofl (uZ Z a k x) := by
        unfold ofl
        rw [uZ_n (fun z => hb (by rw [h1]; exact z.1))]
      rw [e]
      simp only [if_neg h4]
    · simp only [if_neg h4, if_neg h9]
theorem co_uZQ {a k : Nat} {x : Int32} {e : AE} (h : scQ R W (uZ Z a k x) T kn a = some e) : up (coQ R W Z T kn h0) a e = coQ R W (uZ Z a k x) T kn h0 :=
  co_upQ (co_sQ h) (fun b hb => co_extQ (sc_uZQ hb) (fun _ _ _ _ _ => rfl))
theorem co_urwQ {a : Nat} {x : Int32} (hd : dsQ a = Ds.rw) : up (coQ R W Z T kn h0) a (.inr (1, [.ref (a + 1), .int x])) = coQ R W (uZ Z a 1 x) T kn h0 := co_uZQ (by rw [sc_rwQ hd, uZ_s])
theorem co_utxQ {u k : Nat} {x : Int32} (hu : u < 2) (hk : k = 7 ∨ k = 8 ∨ k = 9) : up (coQ R W Z T kn h0) (3 + 6 * u) (.inr (3, (tfl Z kn u).set k (.int x))) = coQ R W (uZ Z (3 + 6 * u) k x) T kn h0 := co_uZQ (by
  rw [sc_txQ (tx_dsQ u hu).1]
  congr 3
  unfold tfl
  rcases hk with rfl | rfl | rfl
  · rw [uZ_s, uZ_n (fun z => absurd z.2 (by decide)), uZ_n (fun z => absurd z.2 (by decide))]; rfl
  · rw [uZ_s, uZ_n (fun z => absurd z.2 (by decide)), uZ_n (fun z => absurd z.2 (by decide))]; rfl
  · rw [uZ_s, uZ_n (fun z => absurd z.2 (by decide)), uZ_n (fun z => absurd z.2 (by decide))]; rfl)
end CO
set_option maxRecDepth 100000 in
theorem c_Row_getQ {a N sz : Nat} {x : Int32} {l : Launch} {d n : Nat} {R W Z : Nat → Nat → Int32} {T : Nat → Nat → Nat} {kn : Kn} {h0 : HP} {Q : QT} (hd : dsQ a = Ds.rw) (hd1 : dsQ (a + 1) = Ds.ar N) (hz : Z a 1 = nI sz) (hN : sz ≤ N) (hN9 : N < 1000) (hQ : Q (some (.int (rgt (R (a + 1)) (nI sz) x))) n (coQ R W Z T kn h0)) : Ct l M_Row_get (d + 1) 0 0 [.ref a, .int x] n (coQ R W Z T kn h0) Q := by
  refine Ct.of (fun _ => trivial) (by decide) (Nat.le_of_ble_eq_true rfl) ?_
  refine V.iload_n d_Row_get_0 rfl ?_
  refine V.if_lt (tgt := 21) d_Row_get_1 (by decide) (fun c_1 => ?_) (fun c_1 => ?_)
  · skip
    refine V.iconst_ (-1) d_Row_get_21 (by decide +kernel) ?_
    refine V.iret d_Row_get_22 rfl (Nat.le_of_ble_eq_true rfl) (Nat.le_of_ble_eq_true rfl) ?_
    unfold rgt at hQ
    first | (rw [if_pos (wh_tt c_1 c_9)] at hQ; exact hQ) | (rw [if_neg (wh_ff c_9)] at hQ; exact hQ) | (rw [if_neg (wh_fn c_1)] at hQ; exact hQ)
  · skip
    refine V.iload_n d_Row_get_4 rfl ?_
    refine V.aload_n d_Row_get_5 rfl ?_
    refine V.get d_Row_get_6 f_Row_7_Row (co_sQ (sc_rwQ hd)) rfl ?_
    refine V.top hz ?_
    refine V.icmp_ge (tgt := 21) d_Row_get_9 (by decide) (fun c_9 => ?_) (fun c_9 => ?_)
    · skip
      refine V.iconst_ (-1) d_Row_get_21 (by decide +kernel) ?_
      refine V.iret d_Row_get_22 rfl (Nat.le_of_ble_eq_true rfl) (Nat.le_of_ble_eq_true rfl) ?_
      unfold rgt at hQ
      first | (rw [if_pos (wh_tt c_1 c_9)] at hQ; exact hQ) | (rw [if_neg (wh_ff c_9)] at hQ; exact hQ) | (rw [if_neg (wh_fn c_1)] at hQ; exact hQ)
    · skip
      refine V.aload_n d_Row_get_12 rfl ?_
      refine V.get d_Row_get_13 f_Row_19_Row (co_sQ (sc_rwQ hd)) rfl ?_
      refine V.iload_n d_Row_get_16 rfl ?_
      refine V.iald d_Row_get_17 (co_sQ (sc_arQ hd1)) (by obtain ⟨j, hj, rfl⟩ := wh_nat (by omega) (wh_tt c_1 c_9); exact vp_in_nI (by omega) (by omega)) ?_
      refine V.goto (tgt := 22) d_Row_get_18 (by decide) ?_
      refine V.iret d_Row_get_22 rfl (Nat.le_of_ble_eq_true rfl) (Nat.le_of_ble_eq_true rfl) ?_
      unfold rgt at hQ
      first | (rw [if_pos (wh_tt c_1 c_9)] at hQ; exact hQ) | (rw [if_neg (wh_ff c_9)] at hQ; exact hQ) | (rw [if_neg (wh_fn c_1)] at hQ; exact hQ)
set_option maxRecDepth 100000 in
theorem c_Row_addQ {a N sz : Nat} {x : Int32} {l : Launch} {d n : Nat} {R W Z : Nat → Nat → Int32} {T : Nat → Nat → Nat} {kn : Kn} {h0 : HP} {Q : QT} (hd : dsQ a = Ds.rw) (hd1 : dsQ (a + 1) = Ds.ar N) (hz : Z a 1 = nI sz) (hN : sz ≤ N) (hN9 : N < 1000) (h1 : sz < N → Q none n (coQ (uA R (a + 1) (upd (R (a + 1)) sz x)) W (uZ Z a 1 (nI (sz + 1))) T kn h0)) (h2 : N ≤ sz → Q none n (coQ R W Z T kn h0)) : Ct l M_Row_add d 0 0 [.ref a, .int x] n (coQ R W Z T kn h0) Q := by
  refine Ct.of (fun _ => trivial) (by decide) (Nat.le_of_ble_eq_true rfl) ?_
  refine V.aload_n d_Row_add_0 rfl ?_
  refine V.get d_Row_add_1 f_Row_7_Row (co_sQ (sc_rwQ hd)) rfl ?_
  refine V.top (y := nI (sz)) hz ?_
  refine V.aload_n d_Row_add_4 rfl ?_
  refine V.get d_Row_add_5 f_Row_19_Row (co_sQ (sc_rwQ hd)) rfl ?_
  refine V.alen d_Row_add_8 (co_sQ (sc_arQ hd1)) (by decide) ?_
  refine V.geN (tgt := 32) d_Row_add_9 (by decide) (by omega) (by omega) (fun c_9 => ?_) (fun c_9 => ?_)
  · skip
    refine V.vret d_Row_add_32 rfl (Nat.le_of_ble_eq_true rfl) (Nat.le_of_ble_eq_true rfl) ?_
    first | exact h1 c_9 | exact h2 c_9
  · skip
    refine V.aload_n d_Row_add_12 rfl ?_
    refine V.get d_Row_add_13 f_Row_19_Row (co_sQ (sc_rwQ hd)) rfl ?_
    refine V.aload_n d_Row_add_16 rfl ?_
    refine V.get d_Row_add_17 f_Row_7_Row (co_sQ (sc_rwQ hd)) rfl ?_
    refine V.top (y := nI (sz)) hz ?_
    refine V.iload_n d_Row_add_20 rfl ?_
    refine V.iastN d_Row_add_21 (co_sQ (sc_arQ hd1)) (by omega) (by omega) ?_
    refine V.eqH (co_uRQ hd1) ?_
    refine V.aload_n d_Row_add_22 rfl ?_
    refine V.dup rfl d_Row_add_23 ?_
    refine V.get d_Row_add_24 f_Row_7_Row (co_sQ (sc_rwQ hd)) rfl ?_
    refine V.top (y := nI (sz)) hz ?_
    refine V.iconst_ (nI 1) d_Row_add_27 (by decide +kernel) ?_
    refine V.addN d_Row_add_28 ?_
    refine V.put d_Row_add_29 f_Row_7_Row fp_Row_1 (fun _ => rfl) (fun _ => rfl) (co_sQ (sc_rwQ hd)) (Nat.le_of_ble_eq_true rfl) ?_
    refine V.eqH (co_urwQ hd) ?_
    refine V.vret d_Row_add_32 rfl (Nat.le_of_ble_eq_true rfl) (Nat.le_of_ble_eq_true rfl) ?_
    first | exact h1 c_9 | exact h2 c_9
set_option maxRecDepth 100000 in
theorem c_Row_clearQ {a : Nat} {l : Launch} {d n : Nat} {R W Z : Nat → Nat → Int32} {T : Nat → Nat → Nat} {kn : Kn} {h0 : HP} {Q : QT} (hd : dsQ a = Ds.rw) (hQ : Q none n (coQ R W (uZ Z a 1 (nI 0)) T kn h0)) : Ct l M_Row_clear d 0 0 [.ref a] n (coQ R W Z T kn h0) Q := by
  refine Ct.of (fun _ => trivial) (by decide) (Nat.le_of_ble_eq_true rfl) ?_
  refine V.aload_n d_Row_clear_0 rfl ?_
  refine V.iconst_ (nI 0) d_Row_clear_1 (by decide +kernel) ?_
  refine V.put d_Row_clear_2 f_Row_7_Row fp_Row_1 (fun _ => rfl) (fun _ => rfl) (co_sQ (sc_rwQ hd)) (Nat.le_of_ble_eq_true rfl) ?_
  refine V.eqH (co_urwQ hd) ?_
  refine V.vret d_Row_clear_5 rfl (Nat.le_of_ble_eq_true rfl) (Nat.le_of_ble_eq_true rfl) ?_
  exact hQ
set_option maxRecDepth 100000 in
theorem c_Row_takeFromQ {a b N N2 sz : Nat} {l : Launch} {d n : Nat} {R W Z : Nat → Nat → Int32} {T : Nat → Nat → Nat} {kn : Kn} {h0 : HP} {Q : QT} (hd : dsQ a = Ds.rw) (hd1 : dsQ (a + 1) = Ds.ar N) (gd0 : dsQ b = Ds.rw) (gd1 : dsQ (b + 1) = Ds.ar N2) (hab : a ≠ b) (hz : Z b 1 = nI sz) (hN : sz ≤ N) (hN2 : sz ≤ N2) (hN9 : N < 1000) (hN29 : N2 < 1000) (hQ : Q none n (coQ (uA R (a + 1) (cpN sz (R (b + 1)) (R (a + 1)))) W (uZ Z a 1 (nI sz)) T kn h0)) : Ct l M_Row_takeFrom (d + 1) 0 0 [.ref a, .ref b] n (coQ R W Z T kn h0) Q := by
  refine Ct.of (fun _ => trivial) (by decide) (Nat.le_of_ble_eq_true rfl) ?_
  refine V.aload_n d_Row_takeFrom_0 rfl ?_
  refine V.aload_n d_Row_takeFrom_1 rfl ?_
  refine V.get d_Row_takeFrom_2 f_Row_7_Row (co_sQ (sc_rwQ gd0)) rfl ?_
  refine V.top hz ?_
  refine V.aload_n d_Row_takeFrom_5 rfl ?_
  refine V.get d_Row_takeFrom_6 f_Row_19_Row (co_sQ (sc_rwQ hd)) rfl ?_
  refine V.alen d_Row_takeFrom_9 (co_sQ (sc_arQ hd1)) (by decide) ?_
  refine V.mmin d_Row_takeFrom_10 (tm 400 (by decide +kernel) rfl) (Nat.le_of_ble_eq_true rfl) (by omega) (by omega) ?_
  refine V.top (y := nI sz) (by unfold mi; rw [if_neg (Int32.not_lt.mpr ((nI_leI (by omega) (by omega)).mpr hN))]) ?_
  refine V.put d_Row_takeFrom_13 f_Row_7_Row fp_Row_1 (fun _ => rfl) (fun _ => rfl) (co_sQ (sc_rwQ hd)) (Nat.le_of_ble_eq_true rfl) ?_
  refine V.eqH (co_urwQ hd) ?_
  refine V.aload_n d_Row_takeFrom_16 rfl ?_
  refine V.get d_Row_takeFrom_17 f_Row_19_Row (co_sQ (sc_rwQ gd0)) rfl ?_
  refine V.iconst_ (nI 0) d_Row_takeFrom_20 (by decide +kernel) ?_
  refine V.aload_n d_Row_takeFrom_21 rfl ?_
  refine V.get d_Row_takeFrom_22 f_Row_19_Row (co_sQ (sc_rwQ hd)) rfl ?_
  refine V.iconst_ (nI 0) d_Row_takeFrom_25 (by decide +kernel) ?_
  refine V.aload_n d_Row_takeFrom_26 rfl ?_
  refine V.get d_Row_takeFrom_27 f_Row_7_Row (co_sQ (sc_rwQ hd)) rfl ?_
  rw [uZ_s]
  refine V.copy d_Row_takeFrom_30 (tm 401 (by decide +kernel) rfl) (co_sQ (sc_arQ gd1)) (co_sQ (sc_arQ hd1)) (by decide) (by decide) (Int32.not_lt.mpr ((nI_leI (a := 0) (by decide) (by omega)).mpr (Nat.zero_le _))) (by rw [icl (i := sz) (by omega), icl (i := 0) (by decide)]; omega) (by rw [icl (i := sz) (by omega), icl (i := 0) (by decide)]; omega) (Nat.le_of_ble_eq_true rfl) ?_
  rw [icl (i := sz) (by omega), icl (i := 0) (by decide), cpy_cpN]
  refine V.eqH (co_uRQ hd1) ?_
  refine V.vret d_Row_takeFrom_33 rfl (Nat.le_of_ble_eq_true rfl) (Nat.le_of_ble_eq_true rfl) ?_
  exact hQ
theorem txa_dsQ : ∀ u, u < 2 → dsQ (4 + 6 * u + 1) = Ds.ar 50 ∧ dsQ (6 + 6 * u + 1) = Ds.ar 50 := by decide +kernel
section KNW
variable {R W Z : Nat → Nat → Int32} {T : Nat → Nat → Nat} {kn : Kn} {h0 : HP} {n : Nat}
theorem TIQ.knw {kn' : Kn} {n' : Nat} (h : TIQ T kn n) (hn : n ≤ n') (hk : ∀ b f, kn' = some (b, f) → okAQ b n' ∧ ∀ w i, w < 3 → i < 8 → T w i ≠ b) : TIQ T kn' n' := ⟨fun w i hw hi => ⟨(h.1 w i hw hi).1, (h.1 w i hw hi).2.1, by have := (h.1 w i hw hi).2.2; omega⟩, h.2.1, hk, by have := h.2.2.2; omega⟩
theorem TIQ.same {b : Nat} {f g : Nat → Int32} (h : TIQ T (some (b, f)) n) : TIQ T (some (b, g)) n := h.knw (Nat.le_refl _) (fun b' f' e => by cases e; exact h.2.2.1 b f rfl)
theorem sc_knQ {kn' : Kn} {a : Nat} (ha : a ≠ 3) : scQ R W Z T kn a = scQ R W Z T kn' a := by
  unfold scQ
  by_cases h4 : (dsQ a).1 = 4
  · obtain ⟨h1, h2⟩ := ds_txQ h4
    have e : tfl Z kn (dsQ a).2 = tfl Z kn' (dsQ a).2 := by
      unfold tfl knv
      rw [if_neg (by omega), if_neg (by omega)]
    rw [e]
  · simp only [if_neg h4]
theorem co_uknQ {b : Nat} {f g : Nat → Int32} (h : TIQ T (some (b, f)) n) : up (coQ R W Z T (some (b, f)) h0) b (.inl (1, 13300, .inl g)) = coQ R W Z T (some (b, g)) h0 := by
  funext a
  by_cases hb : a = b
  · subst hb; rw [up_s]; exact (co_kQ h.same rfl).symm
  · rw [up_n hb]
    unfold coQ
    have e : scQ R W Z T (some (b, f)) a = scQ R W Z T (some (b, g)) a := by
      by_cases h3 : a = 3
      · subst h3; rfl
      · exact sc_knQ h3
    rw [e]
    cases scQ R W Z T (some (b, g)) a with
    | some e => rfl
    | none =>
      by_cases hex : ∃ p : Nat × Nat, p.1 < 3 ∧ p.2 < 8 ∧ T p.1 p.2 = a
      · simp only [dif_pos hex]
      · simp only [dif_neg hex, if_neg hb]
end KNW
section ZT
variable {Z : Nat → Nat → Int32} {u m op : Nat} {s : PS}
end ZT
set_option maxRecDepth 100000 in
theorem c_Text_forgetSQ {b : Nat} {f : Nat → Int32} {l : Launch} {d n : Nat} {R W Z : Nat → Nat → Int32} {T : Nat → Nat → Nat} {kn : Kn} {h0 : HP} {Q : QT} (hT : TIQ T (some (b, f)) n) (hQ : Q none n (coQ R W Z T (some (b, flN 13300 ((nI 0).toInt8.toInt32) f)) h0)) : Ct l M_Text_forget (d + 1) 0 0 [.ref 3] n (coQ R W Z T (some (b, f)) h0) Q := by
  refine Ct.of (fun _ => trivial) (by decide) (Nat.le_of_ble_eq_true rfl) ?_
  refine V.aload_n d_Text_forget_0 rfl ?_
  refine V.get d_Text_forget_1 f_Text_37_Text (co_sQ (sc_txQ (tx_dsQ 0 (by decide)).1)) rfl ?_
  refine V.ifnull d_Text_forget_4 ?_
  refine V.aload_n d_Text_forget_7 rfl ?_
  refine V.get d_Text_forget_8 f_Text_37_Text (co_sQ (sc_txQ (tx_dsQ 0 (by decide)).1)) rfl ?_
  refine V.iconst_ (nI 0) d_Text_forget_11 (by decide +kernel) ?_
  refine V.callS2 d_Text_forget_12 k_Text_80_Arrays_fillS (Nat.le_of_ble_eq_true rfl) (by omega) (by omega) (c_Arrays_fillB (co_kQ hT rfl) (by decide) ?_)
  refine V.eqH (co_uknQ hT) ?_
  refine V.vret d_Text_forget_15 rfl (Nat.le_of_ble_eq_true rfl) (Nat.le_of_ble_eq_true rfl) ?_
  exact hQ
set_option maxRecDepth 100000 in
theorem c_Text_forgetNQ  {l : Launch} {d n : Nat} {R W Z : Nat → Nat → Int32} {T : Nat → Nat → Nat} {kn : Kn} {h0 : HP} {Q : QT} (hQ : Q none n (coQ R W Z T none h0)) : Ct l M_Text_forget (d + 1) 0 0 [.ref 3] n (coQ R W Z T none h0) Q := by
  refine Ct.of (fun _ => trivial) (by decide) (Nat.le_of_ble_eq_true rfl) ?_
  refine V.aload_n d_Text_forget_0 rfl ?_
  refine V.get d_Text_forget_1 f_Text_37_Text (co_sQ (sc_txQ (tx_dsQ 0 (by decide)).1)) rfl ?_
  refine V.ifnullN (tgt := 15) d_Text_forget_4 (by decide) ?_
  refine V.vret d_Text_forget_15 rfl (Nat.le_of_ble_eq_true rfl) (Nat.le_of_ble_eq_true rfl) ?_
  exact hQ
set_option maxRecDepth 100000 in
theorem c_Text_forget1Q  {l : Launch} {d n : Nat} {R W Z : Nat → Nat → Int32} {T : Nat → Nat → Nat} {kn : Kn} {h0 : HP} {Q : QT} (hQ : Q none n (coQ R W Z T kn h0)) : Ct l M_Text_forget (d + 1) 0 0 [.ref 9] n (coQ R W Z T kn h0) Q := by
  refine Ct.of (fun _ => trivial) (by decide) (Nat.le_of_ble_eq_true rfl) ?_
  refine V.aload_n d_Text_forget_0 rfl ?_
  refine V.get d_Text_forget_1 f_Text_37_Text (co_sQ (sc_txQ (tx_dsQ 1 (by decide)).1)) rfl ?_
  refine V.ifnullN (tgt := 15) d_Text_forget_4 (by decide) ?_
  refine V.vret d_Text_forget_15 rfl (Nat.le_of_ble_eq_true rfl) (Nat.le_of_ble_eq_true rfl) ?_
  exact hQ
theorem c_Text_forgetQ {u : Nat} {l : Launch} {d n : Nat} {R W Z : Nat → Nat → Int32} {T : Nat → Nat → Nat} {kn : Kn} {h0 : HP} {Q : QT} (hu : u < 2) (hT : TIQ T kn n) (hQ : Q none n (coQ R W Z T (fgK u kn) h0)) : Ct l M_Text_forget (d + 1) 0 0 [.ref (3 + 6 * u)] n (coQ R W Z T kn h0) Q := by
  rcases (show u = 0 ∨ u = 1 by omega) with rfl | rfl
  · cases kn with
    | none => exact c_Text_forgetNQ (kn := none) hQ
    | some p => exact c_Text_forgetSQ (kn := none) (b := p.1) (f := p.2) hT hQ
  · exact c_Text_forget1Q hQ
set_option maxRecDepth 100000 in
theorem c_Text_takeCodeQ {u b N2 sz : Nat} {l : Launch} {d n : Nat} {R W Z : Nat → Nat → Int32} {T : Nat → Nat → Nat} {kn : Kn} {h0 : HP} {Q : QT} (hu : u < 2) (hT : TIQ T kn n) (gd0 : dsQ b = Ds.rw) (gd1 : dsQ (b + 1) = Ds.ar N2) (hab : 4 + 6 * u ≠ b) (hz : Z b 1 = nI sz) (hN : sz ≤ 50) (hN2 : sz ≤ N2) (hN9 : N2 < 1000) (hQ : Q none n (coQ (uA R (4 + 6 * u + 1) (cpN sz (R (b + 1)) (R (4 + 6 * u + 1)))) W (uZ Z (4 + 6 * u) 1 (nI sz)) T (fgK u kn) h0)) : Ct l M_Text_takeCode (d + 2) 0 0 [.ref (3 + 6 * u), .ref b] n (coQ R W Z T kn h0) Q := by
  refine Ct.of (fun _ => trivial) (by decide) (Nat.le_of_ble_eq_true rfl) ?_
  refine V.aload_n d_Text_takeCode_0 rfl ?_
  refine V.get d_Text_takeCode_1 f_Text_16_Text (co_sQ (sc_txQ (tx_dsQ u hu).1)) rfl ?_
  refine V.aload_n d_Text_takeCode_4 rfl ?_
  refine V.callV1 d_Text_takeCode_5 k_Text_73_Row_takeFrom_RowV (co_sQ (sc_rwQ (tx_dsQ u hu).2.1)) (Nat.le_of_ble_eq_true rfl) (by omega) (by omega) (c_Row_takeFromQ (a := 4 + 6 * u) (b := b) (N := 50) (N2 := N2) (sz := sz) (tx_dsQ u hu).2.1 (txa_dsQ u hu).1 gd0 gd1 hab hz (by omega) hN2 (by decide) hN9 ?_)
  refine V.aload_n d_Text_takeCode_8 rfl ?_
  refine V.callV0 d_Text_takeCode_9 k_Text_77_Text_forget_TextV (co_sQ (sc_txQ (tx_dsQ u hu).1)) (Nat.le_of_ble_eq_true rfl) (by omega) (by omega) (c_Text_forgetQ hu hT ?_)
  refine V.vret d_Text_takeCode_12 rfl (Nat.le_of_ble_eq_true rfl) (Nat.le_of_ble_eq_true rfl) ?_
  exact hQ
theorem c_draftQ {l : Launch} {R W Z : Nat → Nat → Int32} {T : Nat → Nat → Nat} {kn : Kn} {h0 : HP} {u op : Nat} {d n : Nat} {Q : QT} {s : PS} {L : List Nat} {v : Nat} (hu : u < 2) (hR : RL s L) (hl : s.2.1 = false → s.2.2.length < 50) (hQ : ∀ L2, RL (ly v s) L2 → Q none n (coQ (uA R (6 + 6 * u + 1) (wrt (R (6 + 6 * u + 1)) 0 (L2))) W (zT Z u (ly v s) (L2).length op) T kn h0)) : Ct l M_Row_add d 0 0 [.ref (6 + 6 * u), .int (nI v)] n (coQ (uA R (6 + 6 * u + 1) (wrt (R (6 + 6 * u + 1)) 0 (L))) W (zT Z u (s) (L).length op) T kn h0) Q := by
  have hd := tx_dsQ u hu
  have hda := txa_dsQ u hu
  by_cases hL : L.length < 50
  · refine c_Row_addQ (a := 6 + 6 * u) (N := 50) (sz := L.length) hd.2.2.2.1 hda.2 zT_r hR.2 (by decide) (fun _ => ?_) (fun z => absurd z (by omega))
    have h := hQ (L ++ [v]) (RL_ly hR hl (fun _ => rfl) (by rw [List.length_append]; exact hL))
    rw [zT_ly] at h
    rw [uA_s, uA_uu, zT_m]
    have e : upd (wrt (R (6 + 6 * u + 1)) 0 L) L.length (nI v) = wrt (R (6 + 6 * u + 1)) 0 (L ++ [v]) := by
      rw [wrt_cat, Nat.zero_add]
      rfl
    rw [e]
    rw [List.length_append] at h
    exact h
  · refine c_Row_addQ (a := 6 + 6 * u) (N := 50) (sz := L.length) hd.2.2.2.1 hda.2 zT_r hR.2 (by decide) (fun z => absurd z hL) (fun _ => ?_)
    have hf : s.2.1 = true := by
      cases e : s.2.1 with
      | true => rfl
      | false => exact absurd (hl e) (by rw [← hR.1 e]; exact hL)
    have h := hQ L (RL_ly hR hl (fun z => absurd z hL) hR.2)
    rw [zT_ly] at h
    exact h
set_option maxRecDepth 100000 in
theorem c_Text_takenFQ {l : Launch} {R W Z : Nat → Nat → Int32} {T : Nat → Nat → Nat} {kn : Kn} {h0 : HP} {u sz op : Nat} {d n : Nat} {Q : QT} {s : PS} {L : List Nat} {i : Nat} (hi4 : 4 ≤ i) (hi : i < 10) (hu : u < 2) (hsz : sz ≤ 50) (hz : Z 1 1 = nI sz) (hB : ∀ j, j < sz → ∃ c, c < 256 ∧ R 2 j = nI c) (h1 : s.1 ≤ sz) (hf : s.2.1 = true) (hF : sgT i (hr (R 2) sz s) = false → Q (some (.int (-1))) n (coQ (uA R (6 + 6 * u + 1) (wrt (R (6 + 6 * u + 1)) 0 (L))) W (zT Z u (s) (L).length op) T kn h0)) : Ct l M_Text_taken (d + 4) 0 0 [.ref (3 + 6 * u), .float (UInt32.ofNat i)] n (coQ (uA R (6 + 6 * u + 1) (wrt (R (6 + 6 * u + 1)) 0 (L))) W (zT Z u (s) (L).length op) T kn h0) Q := by
  refine Ct.of (fun _ => trivial) (by decide) (Nat.le_of_ble_eq_true rfl) ?_
  refine V.aload_n d_Text_taken_0 rfl ?_
  refine V.get d_Text_taken_1 f_Text_41_Text (co_sQ (sc_txQ (tx_dsQ u hu).1)) rfl ?_
  refine V.aload_n d_Text_taken_4 rfl ?_
  refine V.get d_Text_taken_5 f_Text_27_Text (co_sQ (sc_txQ (tx_dsQ u hu).1)) rfl ?_
  refine V.top (y := nI (s).1) zT_7 ?_
  refine V.callV1 d_Text_taken_8 k_Text_116_Row_get_RowV (co_sQ (sc_rwQ rfl)) (Nat.le_of_ble_eq_true rfl) (by omega) (by omega) (c_Row_getQ (a := 1) (N := 50) (sz := sz) rfl rfl (zT_1.trans hz) hsz (by decide) ?_)
  refine V.istore_n d_Text_taken_11 (by decide) ?_
  refine V.aload_n d_Text_taken_12 rfl ?_
  refine V.get d_Text_taken_13 f_Text_34_Text (co_sQ (sc_txQ (tx_dsQ u hu).1)) rfl ?_
  refine V.if_ge (tgt := 32) d_Text_taken_16 (by decide) (fun c_16 => ?_) (fun c_16 => ?_)
  · skip
    refine V.iconst_ (-1) d_Text_taken_32 (by decide +kernel) ?_
    refine V.iret d_Text_taken_33 rfl (Nat.le_of_ble_eq_true rfl) (Nat.le_of_ble_eq_true rfl) ?_
    exact hF (by rw [hr_f hf]; exact sgT_m1 i hi hi4)
  · skip
    exact absurd ((zT_9i (by omega)).mpr hf) c_16
set_option maxRecDepth 100000 in
theorem c_Text_takenNQ {l : Launch} {R W Z : Nat → Nat → Int32} {T : Nat → Nat → Nat} {kn : Kn} {h0 : HP} {u sz op : Nat} {d n : Nat} {Q : QT} {s : PS} {L : List Nat} {i : Nat} (hi4 : 4 ≤ i) (hi : i < 10) (hu : u < 2) (hsz : sz ≤ 50) (hz : Z 1 1 = nI sz) (hB : ∀ j, j < sz → ∃ c, c < 256 ∧ R 2 j = nI c) (h1 : s.1 ≤ sz) (hf : s.2.1 = false) (hT : sgT i (hr (R 2) sz s) = true → Q (some (.int (hr (R 2) sz s))) n (coQ (uA R (6 + 6 * u + 1) (wrt (R (6 + 6 * u + 1)) 0 (L))) W (zT Z u (adv s) (L).length op) T kn h0)) (hF : sgT i (hr (R 2) sz s) = false → Q (some (.int (-1))) n (coQ (uA R (6 + 6 * u + 1) (wrt (R (6 + 6 * u + 1)) 0 (L))) W (zT Z u (s) (L).length op) T kn h0)) : Ct l M_Text_taken (d + 4) 0 0 [.ref (3 + 6 * u), .float (UInt32.ofNat i)] n (coQ (uA R (6 + 6 * u + 1) (wrt (R (6 + 6 * u + 1)) 0 (L))) W (zT Z u (s) (L).length op) T kn h0) Q := by
  refine Ct.of (fun _ => trivial) (by decide) (Nat.le_of_ble_eq_true rfl) ?_
  refine V.aload_n d_Text_taken_0 rfl ?_
  refine V.get d_Text_taken_1 f_Text_41_Text (co_sQ (sc_txQ (tx_dsQ u hu).1)) rfl ?_
  refine V.aload_n d_Text_taken_4 rfl ?_
  refine V.get d_Text_taken_5 f_Text_27_Text (co_sQ (sc_txQ (tx_dsQ u hu).1)) rfl ?_
  refine V.top (y := nI (s).1) zT_7 ?_
  refine V.callV1 d_Text_taken_8 k_Text_116_Row_get_RowV (co_sQ (sc_rwQ rfl)) (Nat.le_of_ble_eq_true rfl) (by omega) (by omega) (c_Row_getQ (a := 1) (N := 50) (sz := sz) rfl rfl (zT_1.trans hz) hsz (by decide) ?_)
  refine V.top (y := hr (R 2) sz (s)) (by rw [uA_n (show 1 + 1 ≠ 6 + 6 * u + 1 by omega)]; exact rgt_hr hsz (by omega) hf) ?_
  refine V.istore_n d_Text_taken_11 (by decide) ?_
  refine V.aload_n d_Text_taken_12 rfl ?_
  refine V.get d_Text_taken_13 f_Text_34_Text (co_sQ (sc_txQ (tx_dsQ u hu).1)) rfl ?_
  refine V.if_ge (tgt := 32) d_Text_taken_16 (by decide) (fun c_16 => ?_) (fun c_16 => ?_)
  · skip
    exact absurd c_16 (by rw [zT_9f hf]; decide)
  · skip
    refine V.iload_n d_Text_taken_19 rfl ?_
    refine V.if_lt (tgt := 32) d_Text_taken_20 (by decide) (fun c_20 => ?_) (fun c_20 => ?_)
    · skip
      refine V.iconst_ (-1) d_Text_taken_32 (by decide +kernel) ?_
      refine V.iret d_Text_taken_33 rfl (Nat.le_of_ble_eq_true rfl) (Nat.le_of_ble_eq_true rfl) ?_
      first
      | exact hF (by rw [ec]; exact Bool.eq_false_iff.mpr (fun z => c_29 ((sgT_ix i hi hi4 c hc).mp z)))
      | (rcases hr_by (f := R 2) (sz := sz) (s := s) hB with e | ⟨c, hc, ec⟩
         · exact hF (by rw [e]; exact sgT_m1 i hi hi4)
         · exact absurd c_20 (by rw [ec]; exact Int32.not_lt.mpr ((nI_leI (a := 0) (by decide) (by omega)).mpr (Nat.zero_le _))))
    · skip
      obtain ⟨c, hc, ec⟩ := (hr_by (f := R 2) (sz := sz) (s := s) hB).resolve_left (fun z => c_20 (by rw [z]; decide))
      refine V.aloadK_n d_Text_taken_23 rfl ?_
      refine V.iload_n d_Text_taken_24 rfl ?_
      refine V.top (y := nI c) ec ?_
      refine V.i2c d_Text_taken_25 ?_
      refine V.top (y := nI c) (i2c_b c hc) ?_
      refine V.callK1 d_Text_taken_26 k_Text_120_Str_indexOfK hi (Nat.le_of_ble_eq_true rfl) (by omega) (by omega) (c_Str_indexOf1 hi hc ?_)
      refine V.if_ge (tgt := 34) d_Text_taken_29 (by decide) (fun c_29 => ?_) (fun c_29 => ?_)
      · skip
        refine V.aload_n d_Text_taken_34 rfl ?_
        refine V.dup rfl d_Text_taken_35 ?_
        refine V.get d_Text_taken_36 f_Text_27_Text (co_sQ (sc_txQ (tx_dsQ u hu).1)) rfl ?_
        refine V.top (y := nI (s).1) zT_7 ?_
        refine V.iconst_ (nI 1) d_Text_taken_39 (by decide +kernel) ?_
        refine V.addN d_Text_taken_40 ?_
        refine V.put d_Text_taken_41 f_Text_27_Text fp_Text_7 (fun _ => rfl) (fun _ => rfl) (co_sQ (sc_txQ (tx_dsQ u hu).1)) (Nat.le_of_ble_eq_true rfl) ?_
        refine V.eqH (co_utxQ (u := u) (k := 7) hu (by decide)) ?_
        rw [zT_at hf]
        refine V.iload_n d_Text_taken_44 rfl ?_
        refine V.iret d_Text_taken_45 rfl (Nat.le_of_ble_eq_true rfl) (Nat.le_of_ble_eq_true rfl) ?_
        exact hT (by rw [ec]; exact (sgT_ix i hi hi4 c hc).mpr c_29)
      · skip
        refine V.iconst_ (-1) d_Text_taken_32 (by decide +kernel) ?_
        refine V.iret d_Text_taken_33 rfl (Nat.le_of_ble_eq_true rfl) (Nat.le_of_ble_eq_true rfl) ?_
        first
        | exact hF (by rw [ec]; exact Bool.eq_false_iff.mpr (fun z => c_29 ((sgT_ix i hi hi4 c hc).mp z)))
        | (rcases hr_by (f := R 2) (sz := sz) (s := s) hB with e | ⟨c, hc, ec⟩
           · exact hF (by rw [e]; exact sgT_m1 i hi hi4)
           · exact absurd c_20 (by rw [ec]; exact Int32.not_lt.mpr ((nI_leI (a := 0) (by decide) (by omega)).mpr (Nat.zero_le _))))
theorem c_Text_takenQ {l : Launch} {R W Z : Nat → Nat → Int32} {T : Nat → Nat → Nat} {kn : Kn} {h0 : HP} {u sz op : Nat} {d n : Nat} {Q : QT} {s : PS} {L : List Nat} {i : Nat} (hi4 : 4 ≤ i) (hi : i < 10) (hu : u < 2) (hsz : sz ≤ 50) (hz : Z 1 1 = nI sz) (hB : ∀ j, j < sz → ∃ c, c < 256 ∧ R 2 j = nI c) (h1 : s.1 ≤ sz) (hT : sgT i (hr (R 2) sz s) = true → Q (some (.int (hr (R 2) sz s))) n (coQ (uA R (6 + 6 * u + 1) (wrt (R (6 + 6 * u + 1)) 0 (L))) W (zT Z u (adv s) (L).length op) T kn h0)) (hF : sgT i (hr (R 2) sz s) = false → Q (some (.int (-1))) n (coQ (uA R (6 + 6 * u + 1) (wrt (R (6 + 6 * u + 1)) 0 (L))) W (zT Z u (s) (L).length op) T kn h0)) : Ct l M_Text_taken (d + 4) 0 0 [.ref (3 + 6 * u), .float (UInt32.ofNat i)] n (coQ (uA R (6 + 6 * u + 1) (wrt (R (6 + 6 * u + 1)) 0 (L))) W (zT Z u (s) (L).length op) T kn h0) Q := by
  cases hf : s.2.1 with
  | true => exact c_Text_takenFQ hi4 hi hu hsz hz hB h1 hf hF
  | false => exact c_Text_takenNQ hi4 hi hu hsz hz hB h1 hf hT hF
set_option maxRecDepth 100000 in
theorem num_digitsQ {l : Launch} {R W Z : Nat → Nat → Int32} {T : Nat → Nat → Nat} {kn : Kn} {h0 : HP} {u sz op : Nat} {d n : Nat} {Q : QT} {s : PS} {L : List Nat} (hu : u < 2) (hsz : sz ≤ 50) (hz : Z 1 1 = nI sz) (hB : ∀ j, j < sz → ∃ c, c < 256 ∧ R 2 j = nI c) (hf : s.2.1 = false) : ∀ (k : Nat) (x : Nat × PS) (j : Nat), j + k = 4 → x.2.1 ≤ sz → x.2.2 = s.2 → V l M_Text_readNumber (d + 2) 0 0 62 [(0, .ref (3 + 6 * u)), (1, .int (nI (dgt (R 2) sz k x).1))] [] n (coQ (uA R (6 + 6 * u + 1) (wrt (R (6 + 6 * u + 1)) 0 (L))) W (zT Z u ((dgt (R 2) sz k x).2) (L).length op) T kn h0) 0 0 Q → V l M_Text_readNumber (d + 2) 0 0 4 [(0, .ref (3 + 6 * u)), (1, .int (nI x.1)), (2, .int (nI j))] [] n (coQ (uA R (6 + 6 * u + 1) (wrt (R (6 + 6 * u + 1)) 0 (L))) W (zT Z u (x.2) (L).length op) T kn h0) 0 0 Q := by
  intro k
  induction k with
  | zero =>
    intro x j hj h1 e2 hQ
    have hxf : x.2.2.1 = false := by rw [e2]; exact hf
    refine V.iload_n d_Text_readNumber_4 rfl ?_
    refine V.iconst_ (nI 4) d_Text_readNumber_5 (by decide +kernel) ?_
    refine V.geN (tgt := 62) d_Text_readNumber_6 (by decide) (by omega) (by omega) (fun c_6 => ?_) (fun c_6 => ?_)
    · skip
      exact V.lc rfl hQ
    · skip
      exact absurd c_6 (by omega)
  | succ k ih =>
    intro x j hj h1 e2 hQ
    have hxf : x.2.2.1 = false := by rw [e2]; exact hf
    refine V.iload_n d_Text_readNumber_4 rfl ?_
    refine V.iconst_ (nI 4) d_Text_readNumber_5 (by decide +kernel) ?_
    refine V.geN (tgt := 62) d_Text_readNumber_6 (by decide) (by omega) (by omega) (fun c_6 => ?_) (fun c_6 => ?_)
    · skip
      first
      | exact absurd c_6 (by omega)
      | (have e5 : dgt (R 2) sz (k + 1) x = x := if_neg (by rw [c_23]; decide)
         rw [e5] at hQ
         exact V.lc rfl hQ)
    · skip
      refine V.aload_n d_Text_readNumber_9 rfl ?_
      refine V.get d_Text_readNumber_10 f_Text_41_Text (co_sQ (sc_txQ (tx_dsQ u hu).1)) rfl ?_
      refine V.aload_n d_Text_readNumber_13 rfl ?_
      refine V.get d_Text_readNumber_14 f_Text_27_Text (co_sQ (sc_txQ (tx_dsQ u hu).1)) rfl ?_
      refine V.top (y := nI (x.2).1) zT_7 ?_
      refine V.callV1 d_Text_readNumber_17 k_Text_116_Row_get_RowV (co_sQ (sc_rwQ rfl)) (Nat.le_of_ble_eq_true rfl) (by omega) (by omega) (c_Row_getQ (a := 1) (N := 50) (sz := sz) rfl rfl (zT_1.trans hz) hsz (by decide) ?_)
      refine V.top (y := hr (R 2) sz (x.2)) (by rw [uA_n (show 1 + 1 ≠ 6 + 6 * u + 1 by omega)]; exact rgt_hr hsz (by omega) hxf) ?_
      refine V.callS1 d_Text_readNumber_20 k_Text_123_Text_isDigitS (Nat.le_of_ble_eq_true rfl) (by omega) (by omega) (c_Text_isDigit ?_)
      refine V.ifeqB (tgt := 62) d_Text_readNumber_23 (by decide) (fun c_23 => ?_) (fun c_23 => ?_)
      · skip
        first
        | exact absurd c_6 (by omega)
        | (have e5 : dgt (R 2) sz (k + 1) x = x := if_neg (by rw [c_23]; decide)
           rw [e5] at hQ
           exact V.lc rfl hQ)
      · skip
        obtain ⟨hx, hxf⟩ := hr_lt9 c_23
        obtain ⟨w1, w2⟩ := wi_t c_23
        obtain ⟨c, hc, ec⟩ := wi_nat (k := 57) (by decide) (show wi (hr (R 2) sz x.2) 0 (nI 57) = true by unfold wi; rw [decide_eq_true w2, decide_eq_true (Int32.le_trans (by decide +kernel) w1)]; rfl)
        have hc48 : 48 ≤ c := (nI_leI (by decide) (by omega)).mp (by rw [← ec]; exact w1)
        refine V.iload_n d_Text_readNumber_26 rfl ?_
        refine V.bipush_ (nI 10) d_Text_readNumber_27 (by decide +kernel) ?_
        refine V.mulN d_Text_readNumber_29 ?_
        refine V.aload_n d_Text_readNumber_30 rfl ?_
        refine V.get d_Text_readNumber_31 f_Text_41_Text (co_sQ (sc_txQ (tx_dsQ u hu).1)) rfl ?_
        refine V.aload_n d_Text_readNumber_34 rfl ?_
        refine V.get d_Text_readNumber_35 f_Text_27_Text (co_sQ (sc_txQ (tx_dsQ u hu).1)) rfl ?_
        refine V.top (y := nI (x.2).1) zT_7 ?_
        refine V.callV1 d_Text_readNumber_38 k_Text_116_Row_get_RowV (co_sQ (sc_rwQ rfl)) (Nat.le_of_ble_eq_true rfl) (by omega) (by omega) (c_Row_getQ (a := 1) (N := 50) (sz := sz) rfl rfl (zT_1.trans hz) hsz (by decide) ?_)
        refine V.top (y := hr (R 2) sz (x.2)) (by rw [uA_n (show 1 + 1 ≠ 6 + 6 * u + 1 by omega)]; exact rgt_hr hsz (by omega) hxf) ?_
        refine V.top (y := nI c) ec ?_
        refine V.addN d_Text_readNumber_41 ?_
        refine V.bipush_ (nI 48) d_Text_readNumber_42 (by decide +kernel) ?_
        refine V.subN d_Text_readNumber_44 (by omega) ?_
        refine V.top (y := nI (10 * x.1 + ((hr (R 2) sz x.2).toNatClampNeg - 48))) (by rw [ec, icl (by omega)]; congr 1; omega) ?_
        refine V.istore_n d_Text_readNumber_45 (by decide) ?_
        refine V.aload_n d_Text_readNumber_46 rfl ?_
        refine V.dup rfl d_Text_readNumber_47 ?_
        refine V.get d_Text_readNumber_48 f_Text_27_Text (co_sQ (sc_txQ (tx_dsQ u hu).1)) rfl ?_
        refine V.top (y := nI (x.2).1) zT_7 ?_
        refine V.iconst_ (nI 1) d_Text_readNumber_51 (by decide +kernel) ?_
        refine V.addN d_Text_readNumber_52 ?_
        refine V.put d_Text_readNumber_53 f_Text_27_Text fp_Text_7 (fun _ => rfl) (fun _ => rfl) (co_sQ (sc_txQ (tx_dsQ u hu).1)) (Nat.le_of_ble_eq_true rfl) ?_
        refine V.eqH (co_utxQ (u := u) (k := 7) hu (by decide)) ?_
        rw [zT_at hxf]
        refine V.incN d_Text_readNumber_56 rfl (by decide) ?_
        refine V.goto (tgt := 4) d_Text_readNumber_59 (by decide) ?_
        refine V.lc rfl (ih (10 * x.1 + ((hr (R 2) sz x.2).toNatClampNeg - 48), adv x.2) (j + 1) (by omega) hx e2 ?_)
        have e5 : dgt (R 2) sz (k + 1) x = dgt (R 2) sz k (10 * x.1 + ((hr (R 2) sz x.2).toNatClampNeg - 48), adv x.2) := if_pos c_23
        rw [e5] at hQ
        exact hQ
set_option maxRecDepth 100000 in
theorem c_Text_readNumberQ {l : Launch} {R W Z : Nat → Nat → Int32} {T : Nat → Nat → Nat} {kn : Kn} {h0 : HP} {u sz op : Nat} {d n : Nat} {Q : QT} {s : PS} {L : List Nat} (hu : u < 2) (hsz : sz ≤ 50) (hz : Z 1 1 = nI sz) (hB : ∀ j, j < sz → ∃ c, c < 256 ∧ R 2 j = nI c) (h1 : s.1 ≤ sz) (h2 : s.2.2.length ≤ s.1) (hR : RL s L) (hf : s.2.1 = false) (hg : wi (hr (R 2) sz s) (nI 48) (nI 57) = true) (hQ : ∀ L2, RL (nuP (R 2) sz s) L2 → Q none n (coQ (uA R (6 + 6 * u + 1) (wrt (R (6 + 6 * u + 1)) 0 (L2))) W (zT Z u (nuP (R 2) sz s) (L2).length op) T kn h0)) : Ct l M_Text_readNumber (d + 2) 0 0 [.ref (3 + 6 * u)] n (coQ (uA R (6 + 6 * u + 1) (wrt (R (6 + 6 * u + 1)) 0 (L))) W (zT Z u (s) (L).length op) T kn h0) Q := by
  have hx := (hr_lt9 hg).1
  obtain ⟨g1, g2, g3, g4⟩ := dgt_gp (f := R 2) (sz := sz) 3 (0 * 10 + ((hr (R 2) sz s).toNatClampNeg - 48), adv s) hx
  have e4 : (dgt (R 2) sz 4 (0, s)) = dgt (R 2) sz 3 (10 * 0 + ((hr (R 2) sz s).toNatClampNeg - 48), adv s) := if_pos hg
  have g1' : s.1 + 1 ≤ (dgt (R 2) sz 4 (0, s)).2.1 := by rw [e4]; exact g1
  have g2' : (dgt (R 2) sz 4 (0, s)).2.1 ≤ sz := by rw [e4]; exact g2
  have g3' : (dgt (R 2) sz 4 (0, s)).2.2 = s.2 := by rw [e4]; exact g3
  refine Ct.of (fun _ => trivial) (by decide) (Nat.le_of_ble_eq_true rfl) ?_
  refine V.iconst_ (nI 0) d_Text_readNumber_0 (by decide +kernel) ?_
  refine V.istore_n d_Text_readNumber_1 (by decide) ?_
  refine V.iconst_ (nI 0) d_Text_readNumber_2 (by decide +kernel) ?_
  refine V.istore_n d_Text_readNumber_3 (by decide) ?_
  refine V.lc (ls' := [(0, .ref (3 + 6 * u)), (1, .int (nI (0, s).1)), (2, .int (nI 0))]) rfl (num_digitsQ (s := s) hu hsz hz hB hf 4 (0, s) 0 (by omega) h1 rfl ?_)
  refine V.aload_n d_Text_readNumber_62 rfl ?_
  refine V.get d_Text_readNumber_63 f_Text_20_Text (co_sQ (sc_txQ (tx_dsQ u hu).1)) rfl ?_
  refine V.iload_n d_Text_readNumber_66 rfl ?_
  refine V.callV1 d_Text_readNumber_67 k_Text_64_Row_add_RowV (co_sQ (sc_rwQ (tx_dsQ u hu).2.2.2.1)) (Nat.le_of_ble_eq_true rfl) (by omega) (by omega) (c_draftQ (s := (dgt (R 2) sz 4 (0, s)).2) hu ⟨fun _ => by rw [g3']; exact hR.1 hf, hR.2⟩ (fun _ => by rw [g3']; omega) (fun L2 hR2 => ?_))
  refine V.vret d_Text_readNumber_70 rfl (Nat.le_of_ble_eq_true rfl) (Nat.le_of_ble_eq_true rfl) ?_
  rw [show nuP (R 2) sz s = ly (dgt (R 2) sz 4 (0, s)).1 (dgt (R 2) sz 4 (0, s)).2 from if_neg (fun z => absurd z (by omega))] at hQ
  exact hQ L2 hR2
