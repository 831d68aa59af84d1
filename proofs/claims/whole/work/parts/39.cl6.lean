def zT (Z : Nat → Nat → Int32) (u : Nat) (s : PS) (m op : Nat) : Nat → Nat → Int32 := fun b j => if b = 3 + 6 * u ∧ j = 7 then nI s.1 else if b = 3 + 6 * u ∧ j = 8 then nI op else if b = 3 + 6 * u ∧ j = 9 then (if s.2.1 = true then nI s.1 else -1) else if b = 6 + 6 * u ∧ j = 1 then nI m else Z b j
def RL (s : PS) (L : List Nat) : Prop := (s.2.1 = false → L = s.2.2) ∧ L.length ≤ 50
section ZT
variable {Z : Nat → Nat → Int32} {u m op : Nat} {s : PS}
theorem zT_7 : zT Z u s m op (3 + 6 * u) 7 = nI s.1 := if_pos ⟨rfl, rfl⟩
theorem zT_8 : zT Z u s m op (3 + 6 * u) 8 = nI op := by unfold zT; rw [if_neg (fun z => absurd z.2 (by decide)), if_pos ⟨rfl, rfl⟩]
theorem zT_9 : zT Z u s m op (3 + 6 * u) 9 = (if s.2.1 = true then nI s.1 else -1) := by unfold zT; rw [if_neg (fun z => absurd z.2 (by decide)), if_neg (fun z => absurd z.2 (by decide)), if_pos ⟨rfl, rfl⟩]
theorem zT_r : zT Z u s m op (6 + 6 * u) 1 = nI m := by unfold zT; rw [if_neg (fun z => absurd z.2 (by decide)), if_neg (fun z => absurd z.2 (by decide)), if_neg (fun z => absurd z.2 (by decide)), if_pos ⟨rfl, rfl⟩]
theorem zT_n {b j : Nat} (h1 : b ≠ 3 + 6 * u ∨ j < 7 ∨ 9 < j) (h2 : b ≠ 6 + 6 * u ∨ j ≠ 1) : zT Z u s m op b j = Z b j := by unfold zT; rw [if_neg (by omega), if_neg (by omega), if_neg (by omega), if_neg (by omega)]
theorem zT_1 : zT Z u s m op 1 1 = Z 1 1 := zT_n (Or.inl (by omega)) (Or.inl (by omega))
theorem zT_9f (hf : s.2.1 = false) : zT Z u s m op (3 + 6 * u) 9 = -1 := by rw [zT_9, if_neg (by rw [hf]; decide)]
theorem zT_9t (hf : s.2.1 = true) : zT Z u s m op (3 + 6 * u) 9 = nI s.1 := by rw [zT_9, if_pos hf]
theorem zT_9i (h1 : s.1 < 2 ^ 31) : 0 ≤ zT Z u s m op (3 + 6 * u) 9 ↔ s.2.1 = true := by
  by_cases h : s.2.1 = true
  · rw [zT_9t h]; exact ⟨fun _ => h, fun _ => (nI_leI (a := 0) (by decide) h1).mpr (Nat.zero_le _)⟩
  · rw [zT_9f (by simpa using h)]; exact ⟨fun z => absurd z (by decide), fun z => absurd z h⟩
theorem zT_at (hf : s.2.1 = false) : uZ (zT Z u s m op) (3 + 6 * u) 7 (nI (s.1 + 1)) = zT Z u (adv s) m op := by
  funext b j
  unfold uZ
  by_cases h : b = 3 + 6 * u ∧ j = 7
  · rw [if_pos h, h.1, h.2, zT_7]; rfl
  · rw [if_neg h]
    unfold zT adv
    simp only [hf, if_neg h, Bool.false_eq_true, if_false]
theorem zT_op {k : Nat} : uZ (zT Z u s m op) (3 + 6 * u) 8 (nI k) = zT Z u s m k := by
  funext b j
  unfold uZ
  by_cases h : b = 3 + 6 * u ∧ j = 8
  · rw [if_pos h, h.1, h.2, zT_8]
  · rw [if_neg h]
    unfold zT
    rw [if_neg h, if_neg h]
theorem zT_wg (hf : s.2.1 = false) : uZ (zT Z u s m op) (3 + 6 * u) 9 (nI s.1) = zT Z u (wg s) m op := by
  funext b j
  unfold uZ
  by_cases h : b = 3 + 6 * u ∧ j = 9
  · rw [if_pos h, h.1, h.2, zT_9t rfl]; rfl
  · rw [if_neg h]
    unfold zT
    rw [if_neg h, if_neg h]
    rfl
theorem zT_m {k : Nat} : uZ (zT Z u s m op) (6 + 6 * u) 1 (nI k) = zT Z u s k op := by
  funext b j
  unfold uZ
  by_cases h : b = 6 + 6 * u ∧ j = 1
  · rw [if_pos h, h.1, h.2, zT_r]
  · rw [if_neg h]
    unfold zT
    rw [if_neg h, if_neg h]
end ZT
theorem rgt_hr {f : Nat → Int32} {sz : Nat} {s : PS} (hsz : sz ≤ 50) (h1 : s.1 ≤ sz) (hf : s.2.1 = false) : rgt f (nI sz) (nI s.1) = hr f sz s := by
  unfold rgt hr wh
  have e0 : (0 : Int32) ≤ nI s.1 := (nI_leI (a := 0) (by decide) (by omega)).mpr (Nat.zero_le _)
  by_cases h : s.1 < sz
  · rw [if_pos (by rw [decide_eq_true e0, decide_eq_true ((nI_ltI (by omega) (by omega)).mpr h)]; rfl), if_pos ⟨h, hf⟩, icl (by omega)]
  · rw [decide_eq_false (fun z => h ((nI_ltI (by omega) (by omega)).mp z)), Bool.and_false, if_neg (by decide), if_neg (fun z => h z.1)]
def sgT (i : Nat) (x : Int32) : Bool := if i = 4 then sg0 x else if i = 5 then sg1 x else if i = 6 then sg2 x else if i = 7 then sg3 x else if i = 8 then sg4 x else decide (x = nI 41)
theorem sgT_ix : ∀ i, i < 10 → 4 ≤ i → ∀ c, c < 256 → (sgT i (nI c) = true ↔ 0 ≤ ixv i c) := by decide +kernel
theorem sgT_m1 : ∀ i, i < 10 → 4 ≤ i → sgT i (-1) = false := by decide +kernel
theorem nmo_ix : ∀ u, u < 2 → ∀ c, c < 256 → (0 ≤ ixv u c → nmo (decide (u = 1)) (nI c) = some (ixv u c).toNatClampNeg ∧ ixv u c = nI (ixv u c).toNatClampNeg) ∧ (¬ 0 ≤ ixv u c → nmo (decide (u = 1)) (nI c) = none) := by decide +kernel
theorem hr_by {f : Nat → Int32} {sz : Nat} {s : PS} (hB : ∀ j, j < sz → ∃ c, c < 256 ∧ f j = nI c) : hr f sz s = -1 ∨ ∃ c, c < 256 ∧ hr f sz s = nI c := by
  unfold hr
  split
  · next h => exact Or.inr (hB _ h.1)
  · exact Or.inl rfl
theorem hr_f {f : Nat → Int32} {sz : Nat} {s : PS} (hf : s.2.1 = true) : hr f sz s = -1 := if_neg (fun z => absurd z.2 (by rw [hf]; decide))
abbrev M_Text_forget : MD := (⟨"FelledByNames$Text", "forget", "()V"⟩, prog_9_method_4_code, 1, none, fun _ => True)
theorem d_Text_forget_0 : decode prog_9_method_4_code 0 = .ok (.aload_n 0, 1) := by decide +kernel
theorem d_Text_forget_1 : decode prog_9_method_4_code 1 = .ok (.getfield 37, 3) := by decide +kernel
theorem d_Text_forget_4 : decode prog_9_method_4_code 4 = .ok (.ifnull 11, 3) := by decide +kernel
theorem d_Text_forget_7 : decode prog_9_method_4_code 7 = .ok (.aload_n 0, 1) := by decide +kernel
theorem d_Text_forget_8 : decode prog_9_method_4_code 8 = .ok (.getfield 37, 3) := by decide +kernel
theorem d_Text_forget_11 : decode prog_9_method_4_code 11 = .ok (.iconst 0, 1) := by decide +kernel
theorem d_Text_forget_12 : decode prog_9_method_4_code 12 = .ok (.invokestatic 80, 3) := by decide +kernel
theorem kB_Arrays_fill : kB M_Arrays_fill 2 := ⟨tm 13 (by decide +kernel) rfl, tm 410 (by decide +kernel) rfl, ⟨by decide, by decide, by decide +kernel⟩, by decide⟩
theorem k_Text_80_Arrays_fillS : kS "FelledByNames$Text" 80 M_Arrays_fill 2 := ⟨kB_Arrays_fill, tm 408 (by decide +kernel) rfl, tm 409 (by decide +kernel) rfl⟩
theorem d_Text_forget_15 : decode prog_9_method_4_code 15 = .ok (.return_, 1) := by decide +kernel
set_option maxRecDepth 100000 in
theorem c_Text_forgetS {b : Nat} {f : Nat → Int32} {l : Launch} {d n : Nat} {R W Z : Nat → Nat → Int32} {T : Nat → Nat → Nat} {kn : Kn} {h0 : HP} {Q : QT} (hT : TI T (some (b, f)) n) (hQ : Q none n (co R W Z T (some (b, flN 13300 ((nI 0).toInt8.toInt32) f)) h0)) : Ct l M_Text_forget (d + 1) 0 0 [.ref 3] n (co R W Z T (some (b, f)) h0) Q := by
  refine Ct.of (fun _ => trivial) (by decide) (Nat.le_of_ble_eq_true rfl) ?_
  refine V.aload_n d_Text_forget_0 rfl ?_
  refine V.get d_Text_forget_1 f_Text_37_Text (co_s (sc_tx (tx_ds 0 (by decide)).1)) rfl ?_
  refine V.ifnull d_Text_forget_4 ?_
  refine V.aload_n d_Text_forget_7 rfl ?_
  refine V.get d_Text_forget_8 f_Text_37_Text (co_s (sc_tx (tx_ds 0 (by decide)).1)) rfl ?_
  refine V.iconst_ (nI 0) d_Text_forget_11 (by decide +kernel) ?_
  refine V.callS2 d_Text_forget_12 k_Text_80_Arrays_fillS (Nat.le_of_ble_eq_true rfl) (by omega) (by omega) (c_Arrays_fillB (co_k hT rfl) (by decide) ?_)
  refine V.eqH (co_ukn hT) ?_
  refine V.vret d_Text_forget_15 rfl (Nat.le_of_ble_eq_true rfl) (Nat.le_of_ble_eq_true rfl) ?_
  exact hQ
set_option maxRecDepth 100000 in
theorem c_Text_forgetN  {l : Launch} {d n : Nat} {R W Z : Nat → Nat → Int32} {T : Nat → Nat → Nat} {kn : Kn} {h0 : HP} {Q : QT} (hQ : Q none n (co R W Z T none h0)) : Ct l M_Text_forget (d + 1) 0 0 [.ref 3] n (co R W Z T none h0) Q := by
  refine Ct.of (fun _ => trivial) (by decide) (Nat.le_of_ble_eq_true rfl) ?_
  refine V.aload_n d_Text_forget_0 rfl ?_
  refine V.get d_Text_forget_1 f_Text_37_Text (co_s (sc_tx (tx_ds 0 (by decide)).1)) rfl ?_
  refine V.ifnullN (tgt := 15) d_Text_forget_4 (by decide) ?_
  refine V.vret d_Text_forget_15 rfl (Nat.le_of_ble_eq_true rfl) (Nat.le_of_ble_eq_true rfl) ?_
  exact hQ
set_option maxRecDepth 100000 in
theorem c_Text_forget1  {l : Launch} {d n : Nat} {R W Z : Nat → Nat → Int32} {T : Nat → Nat → Nat} {kn : Kn} {h0 : HP} {Q : QT} (hQ : Q none n (co R W Z T kn h0)) : Ct l M_Text_forget (d + 1) 0 0 [.ref 9] n (co R W Z T kn h0) Q := by
  refine Ct.of (fun _ => trivial) (by decide) (Nat.le_of_ble_eq_true rfl) ?_
  refine V.aload_n d_Text_forget_0 rfl ?_
  refine V.get d_Text_forget_1 f_Text_37_Text (co_s (sc_tx (tx_ds 1 (by decide)).1)) rfl ?_
  refine V.ifnullN (tgt := 15) d_Text_forget_4 (by decide) ?_
  refine V.vret d_Text_forget_15 rfl (Nat.le_of_ble_eq_true rfl) (Nat.le_of_ble_eq_true rfl) ?_
  exact hQ
/-- what is left of the cold's row when a text is taken: nothing is known -/
def fgK (u : Nat) (kn : Kn) : Kn := if u = 0 then (match kn with | some p => some (p.1, flN 13300 ((nI 0).toInt8.toInt32) p.2) | none => none) else kn
theorem c_Text_forget {u : Nat} {l : Launch} {d n : Nat} {R W Z : Nat → Nat → Int32} {T : Nat → Nat → Nat} {kn : Kn} {h0 : HP} {Q : QT} (hu : u < 2) (hT : TI T kn n) (hQ : Q none n (co R W Z T (fgK u kn) h0)) : Ct l M_Text_forget (d + 1) 0 0 [.ref (3 + 6 * u)] n (co R W Z T kn h0) Q := by
  rcases (show u = 0 ∨ u = 1 by omega) with rfl | rfl
  · cases kn with
    | none => exact c_Text_forgetN (kn := none) hQ
    | some p => exact c_Text_forgetS (kn := none) (b := p.1) (f := p.2) hT hQ
  · exact c_Text_forget1 hQ
theorem fgK_T {u n : Nat} {T : Nat → Nat → Nat} {kn : Kn} (hT : TI T kn n) : TI T (fgK u kn) n := by
  unfold fgK
  split
  · cases kn with
    | none => exact hT
    | some p => exact TI.same (f := p.2) hT
  · exact hT
theorem fgK_O {kn : Kn} (cv : Int32 → Int32 → Int32 → Int32) : KO cv (fgK 0 kn) := fun b f e x y z hx hy hz => by
  unfold fgK at e
  rw [if_pos rfl] at e
  cases kn with
  | none => cases e
  | some p =>
    cases e
    left
    show flN 13300 ((nI 0).toInt8.toInt32) p.2 ((z * 19 + y) * 100 + x) = 0
    unfold flN
    rw [if_pos (by omega)]
    rfl
theorem fgK_1 {kn : Kn} : fgK 1 kn = kn := rfl
theorem fgK_b {len : Nat} {u : Nat} {kn : Kn} : bud len (fgK u kn) = bud len kn := by
  unfold fgK
  split
  · cases kn <;> rfl
  · rfl
abbrev M_Text_takeCode : MD := (⟨"FelledByNames$Text", "takeCode", "(LFelledByNames$Row;)V"⟩, prog_9_method_3_code, 2, none, fun _ => True)
theorem d_Text_takeCode_0 : decode prog_9_method_3_code 0 = .ok (.aload_n 0, 1) := by decide +kernel
theorem d_Text_takeCode_1 : decode prog_9_method_3_code 1 = .ok (.getfield 16, 3) := by decide +kernel
theorem d_Text_takeCode_4 : decode prog_9_method_3_code 4 = .ok (.aload_n 1, 1) := by decide +kernel
theorem d_Text_takeCode_5 : decode prog_9_method_3_code 5 = .ok (.invokevirtual 73, 3) := by decide +kernel
theorem kB_Row_takeFrom : kB M_Row_takeFrom 1 := ⟨tm 2 (by decide +kernel) rfl, tm 399 (by decide +kernel) rfl, ⟨by decide, by decide, by decide +kernel⟩, by decide⟩
theorem k_Text_73_Row_takeFrom_RowV : kV "FelledByNames$Text" 73 1 M_Row_takeFrom 1 := ⟨kB_Row_takeFrom, tm 394 (by decide +kernel) rfl, tm 395 (by decide +kernel) rfl, tm 396 (by decide +kernel) rfl, _, rfl, rfl⟩
theorem d_Text_takeCode_8 : decode prog_9_method_3_code 8 = .ok (.aload_n 0, 1) := by decide +kernel
theorem d_Text_takeCode_9 : decode prog_9_method_3_code 9 = .ok (.invokevirtual 77, 3) := by decide +kernel
theorem kB_Text_forget : kB M_Text_forget 0 := ⟨tm 4 (by decide +kernel) rfl, tm 407 (by decide +kernel) rfl, ⟨by decide, by decide, by decide +kernel⟩, by decide⟩
theorem k_Text_77_Text_forget_TextV : kV "FelledByNames$Text" 77 3 M_Text_forget 0 := ⟨kB_Text_forget, tm 404 (by decide +kernel) rfl, tm 406 (by decide +kernel) rfl, tp 5 (by decide +kernel) rfl, _, rfl, rfl⟩
theorem d_Text_takeCode_12 : decode prog_9_method_3_code 12 = .ok (.return_, 1) := by decide +kernel
set_option maxRecDepth 100000 in
theorem c_Text_takeCode {u b N2 sz : Nat} {l : Launch} {d n : Nat} {R W Z : Nat → Nat → Int32} {T : Nat → Nat → Nat} {kn : Kn} {h0 : HP} {Q : QT} (hu : u < 2) (hT : TI T kn n) (gd0 : ds b = Ds.rw) (gd1 : ds (b + 1) = Ds.ar N2) (hab : 4 + 6 * u ≠ b) (hz : Z b 1 = nI sz) (hN : sz ≤ 50) (hN2 : sz ≤ N2) (hN9 : N2 < 1000) (hQ : Q none n (co (uA R (4 + 6 * u + 1) (cpN sz (R (b + 1)) (R (4 + 6 * u + 1)))) W (uZ Z (4 + 6 * u) 1 (nI sz)) T (fgK u kn) h0)) : Ct l M_Text_takeCode (d + 2) 0 0 [.ref (3 + 6 * u), .ref b] n (co R W Z T kn h0) Q := by
  refine Ct.of (fun _ => trivial) (by decide) (Nat.le_of_ble_eq_true rfl) ?_
  refine V.aload_n d_Text_takeCode_0 rfl ?_
  refine V.get d_Text_takeCode_1 f_Text_16_Text (co_s (sc_tx (tx_ds u hu).1)) rfl ?_
  refine V.aload_n d_Text_takeCode_4 rfl ?_
  refine V.callV1 d_Text_takeCode_5 k_Text_73_Row_takeFrom_RowV (co_s (sc_rw (tx_ds u hu).2.1)) (Nat.le_of_ble_eq_true rfl) (by omega) (by omega) (c_Row_takeFrom (a := 4 + 6 * u) (b := b) (N := 50) (N2 := N2) (sz := sz) (tx_ds u hu).2.1 (txa_ds u hu).1 gd0 gd1 hab hz (by omega) hN2 (by decide) hN9 ?_)
  refine V.aload_n d_Text_takeCode_8 rfl ?_
  refine V.callV0 d_Text_takeCode_9 k_Text_77_Text_forget_TextV (co_s (sc_tx (tx_ds u hu).1)) (Nat.le_of_ble_eq_true rfl) (by omega) (by omega) (c_Text_forget hu hT ?_)
  refine V.vret d_Text_takeCode_12 rfl (Nat.le_of_ble_eq_true rfl) (Nat.le_of_ble_eq_true rfl) ?_
  exact hQ
