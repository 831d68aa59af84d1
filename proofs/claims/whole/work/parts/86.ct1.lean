/-! ===== cells in a row behind a heap: what constructors make ===== -/
def ov (g : HP) (b : Nat) (L : List AE) : HP := fun x => if b ≤ x then L[x - b]? else g x
section OV
variable {g : HP} {b n a k : Nat} {L L2 : List AE} {e e2 x : AE}
theorem ov_get (ha : a = b + k) (hL : L[k]? = some e) : ov g b L a = some e := by
  subst ha
  unfold ov
  rw [if_pos (by omega), Nat.add_sub_cancel_left]
  exact hL
theorem ov_lt (h : a < b) : ov g b L a = g a := if_neg (by omega)
theorem ov_ge (h : b ≤ a) : ov g b L a = L[a - b]? := if_pos h
theorem ov_set (ha : a = b + k) (hk : k < L.length) : up (ov g b L) a e = ov g b (L.set k e) := by
  subst ha
  funext y
  by_cases hy : y = b + k
  · subst hy
    rw [up_s, ov_ge (by omega), Nat.add_sub_cancel_left, List.getElem?_set_self hk]
  · rw [up_n hy]
    by_cases h : b ≤ y
    · rw [ov_ge h, ov_ge h, List.getElem?_set_ne (by omega)]
    · rw [ov_lt (by omega), ov_lt (by omega)]
theorem ov_set0 : up (ov g b (x :: L)) b e = ov g b (e :: L) := ov_set (k := 0) rfl (Nat.succ_pos _)
theorem ov_cat (hn : n = b + (L.length + 1)) : ov (ov g b (x :: L)) n L2 = ov g b (x :: (L ++ L2)) := by
  subst hn
  funext y
  by_cases h : b + (L.length + 1) ≤ y
  · rw [ov_ge h, ov_ge (by omega), show y - b = (y - b - (L.length + 1)) + L.length + 1 by omega, List.getElem?_cons_succ, List.getElem?_append_right (by omega)]
    congr 1
    omega
  · rw [ov_lt (by omega)]
    by_cases h2 : b ≤ y
    · rw [ov_ge h2, ov_ge h2, ← List.cons_append, List.getElem?_append_left (by rw [List.length_cons]; omega)]
    · rw [ov_lt (by omega), ov_lt (by omega)]
theorem ov_new (hn : n = b + (L.length + 1)) : up (ov g b (x :: L)) n e = ov (ov g b (x :: L)) n [e] := by
  subst hn
  funext y
  by_cases hy : y = b + (L.length + 1)
  · subst hy
    rw [up_s, ov_ge (Nat.le_refl _), Nat.sub_self]
    rfl
  · rw [up_n hy]
    by_cases h : b + (L.length + 1) ≤ y
    · rw [ov_ge h, ov_ge (by omega), List.getElem?_eq_none (by rw [List.length_cons]; omega), List.getElem?_eq_none (by rw [List.length_singleton]; omega)]
    · rw [ov_lt (a := y) (b := b + (L.length + 1)) (by omega)]
theorem ov_push (hn : n = b + (L.length + 1)) : up (ov g b (x :: L)) n e = ov g b (x :: (L ++ [e])) := (ov_new hn).trans (ov_cat hn)
theorem ov_one : up hN 0 e = ov hN 0 [e] := by
  funext y
  by_cases hy : y = 0
  · subst hy; rw [up_s, ov_ge (Nat.le_refl _)]; rfl
  · rw [up_n hy, ov_ge (Nat.zero_le _), List.getElem?_eq_none (by rw [List.length_singleton]; omega)]; rfl
end OV
theorem mx_0 {N : Nat} (h : N < 1000) : mx (nI N) (nI 0) = nI N := by
  unfold mx
  exact if_neg (fun z => by rw [nI_ltI (by omega) (by decide)] at z; omega)
/-- a fresh row, a fresh text, a fresh world -/
abbrev zar (N : Nat) : AE := .inl (0, N, .inl (fun _ => 0))
abbrev rwc (b z : Nat) : AE := .inr (1, [.ref (b + 1), .int (nI z)])
def wdv (b c1 c2 : Nat) : AE := .inr (4, [.ref c1, .ref c2, .ref (b + 1), .ref (b + 2), .ref (b + 3), .int (nI 0), .int (nI 0), .int (nI 15), .int (nI 0), .int (nI 0), .int (nI 1), .ref (b + 4), .ref (b + 6), .ref (b + 7)])
def wl (b : Nat) (tf : Nat → Option Nat) (hf : Nat → Int32) (pz : Nat) (pf : Nat → Int32) : List AE := [.inl (0, 36, .inl hf), zar 6, .inl (2, 8, .inr (.inr (.inr (.inr tf)))), .inr (1, [.ref (b + 5), .int (nI 0)]), zar 8, zar 16, .inr (1, [.ref (b + 8), .int (nI pz)]), .inl (0, 36, .inl pf)]
def tlc (k : Nat) : List AE := (List.range k).map (ntc 0)
theorem tlc_s (k : Nat) : tlc (k + 1) = tlc k ++ [ntc 0 k] := by unfold tlc; rw [List.range_succ, List.map_append]; rfl
theorem tlc_len (k : Nat) : (tlc k).length = k := by unfold tlc; rw [List.length_map, List.length_range]
def tff (b k : Nat) : Nat → Option Nat := fun i => if i < k then some (b + 9 + i) else none
theorem tff_0 (b : Nat) : (fun _ => none) = tff b 0 := by funext i; exact (if_neg (Nat.not_lt_zero _)).symm
theorem tff_s (b k : Nat) : va_up (tff b k) k (some (b + 9 + k)) = tff b (k + 1) := by
  funext i
  unfold va_up tff
  by_cases h : i = k
  · subst h; rw [if_pos rfl, if_pos (by omega)]
  · rw [if_neg h]
    by_cases h2 : i < k
    · rw [if_pos h2, if_pos (by omega)]
    · rw [if_neg h2, if_neg (by omega)]
def hst (k : Nat) : Nat → Int32 := fun j => if j < k ∧ ¬ j / 6 = j % 6 then nI 20 else 0
theorem hst_0 : (fun _ => (0 : Int32)) = hst 0 := by funext j; exact (if_neg (fun z => Nat.not_lt_zero _ z.1)).symm
theorem hst_s {k : Nat} (h : ¬ k / 6 = k % 6) : upd (hst k) k (nI 20) = hst (k + 1) := by
  funext j
  by_cases e : j = k
  · subst e; rw [pk_us]; exact (if_pos ⟨by omega, h⟩).symm
  · rw [pk_un e]
    unfold hst
    by_cases h2 : j < k ∧ ¬ j / 6 = j % 6
    · rw [if_pos h2, if_pos ⟨by omega, h2.2⟩]
    · rw [if_neg h2, if_neg (fun z => h2 ⟨by omega, z.2⟩)]
theorem hst_e {k : Nat} (h : k / 6 = k % 6) : hst k = hst (k + 1) := by
  funext j
  unfold hst
  by_cases h2 : j < k ∧ ¬ j / 6 = j % 6
  · rw [if_pos h2, if_pos ⟨by omega, h2.2⟩]
  · rw [if_neg h2, if_neg (fun z => h2 ⟨by by_cases e : j = k; { subst e; exact absurd h z.2 }; omega, z.2⟩)]
def pcs : Nat → Nat × (Nat → Int32)
  | 0 => (0, fun _ => 0)
  | k + 1 => if k / 6 = k % 6 then pcs k else ((pcs k).1 + 1, upd (pcs k).2 (pcs k).1 (nI k))
theorem pcs_e {k : Nat} (h : k / 6 = k % 6) : pcs k = pcs (k + 1) := (if_pos h).symm
theorem pcs_s {k : Nat} (h : ¬ k / 6 = k % 6) : pcs (k + 1) = ((pcs k).1 + 1, upd (pcs k).2 (pcs k).1 (nI k)) := if_neg h
theorem pcs_le (k : Nat) : (pcs k).1 ≤ k := by
  induction k with
  | zero => exact Nat.le_refl _
  | succ k ih =>
    by_cases h : k / 6 = k % 6
    · rw [← pcs_e h]; omega
    · rw [pcs_s h]; exact Nat.succ_le_succ ih
section WL
variable {g : HP} {b k : Nat} {w e : AE} {X : List AE} {tf tf' : Nat → Option Nat} {hf hf' pf pf' : Nat → Int32} {pz pz' : Nat}
theorem wl_t (hX : X.length = k) : up (up (ov g b (w :: (wl b tf hf pz pf ++ X))) (b + 9 + k) e) (b + 3) (.inl (2, 8, .inr (.inr (.inr (.inr tf'))))) = ov g b (w :: (wl b tf' hf pz pf ++ (X ++ [e]))) := by
  rw [ov_push (by rw [List.length_append, hX]; show b + 9 + k = b + (8 + k + 1); omega), ov_set (k := 3) rfl (by simp only [List.length_cons, List.length_append]; unfold wl; simp only [List.length_cons, List.length_nil]; omega)]
  unfold wl
  simp only [List.set_cons_succ, List.set_cons_zero, List.cons_append, List.nil_append]
theorem wl_h : up (ov g b (w :: (wl b tf hf pz pf ++ X))) (b + 1) (.inl (0, 36, .inl hf')) = ov g b (w :: (wl b tf hf' pz pf ++ X)) := by
  rw [ov_set (k := 1) rfl (by simp only [List.length_cons, List.length_append]; unfold wl; simp only [List.length_cons, List.length_nil]; omega)]
  rfl
theorem wl_p : up (up (ov g b (w :: (wl b tf hf pz pf ++ X))) (b + 8) (.inl (0, 36, .inl pf'))) (b + 7) (.inr (1, [.ref (b + 8), .int (nI pz')])) = ov g b (w :: (wl b tf hf pz' pf' ++ X)) := by
  rw [ov_set (k := 8) rfl (by simp only [List.length_cons, List.length_append]; unfold wl; simp only [List.length_cons, List.length_nil]; omega), ov_set (k := 7) rfl (by simp only [List.length_set, List.length_cons, List.length_append]; unfold wl; simp only [List.length_cons, List.length_nil]; omega)]
  rfl
end WL
abbrev M_Row_init : MD := (⟨"FelledByNames$Row", "<init>", "(I)V"⟩, prog_6_method_1_code, 2, none, fun _ => True)
theorem d_Row_init_0 : decode prog_6_method_1_code 0 = .ok (.aload_n 0, 1) := by decide +kernel
theorem d_Row_init_1 : decode prog_6_method_1_code 1 = .ok (.invokespecial 1, 3) := by decide +kernel
theorem d_Row_init_4 : decode prog_6_method_1_code 4 = .ok (.aload_n 0, 1) := by decide +kernel
theorem d_Row_init_5 : decode prog_6_method_1_code 5 = .ok (.iconst 0, 1) := by decide +kernel
theorem d_Row_init_6 : decode prog_6_method_1_code 6 = .ok (.putfield 7, 3) := by decide +kernel
theorem d_Row_init_9 : decode prog_6_method_1_code 9 = .ok (.aload_n 0, 1) := by decide +kernel
theorem d_Row_init_10 : decode prog_6_method_1_code 10 = .ok (.iload_n 1, 1) := by decide +kernel
theorem d_Row_init_11 : decode prog_6_method_1_code 11 = .ok (.iconst 0, 1) := by decide +kernel
theorem d_Row_init_12 : decode prog_6_method_1_code 12 = .ok (.invokestatic 13, 3) := by decide +kernel
theorem d_Row_init_15 : decode prog_6_method_1_code 15 = .ok (.newarray .int, 2) := by decide +kernel
theorem d_Row_init_17 : decode prog_6_method_1_code 17 = .ok (.putfield 19, 3) := by decide +kernel
theorem fF_Row_Row_0 : fpF "FelledByNames$Row" 1 0 (.array .int) := ⟨_, _, _, rfl, rfl, rfl, by decide +kernel⟩
theorem d_Row_init_20 : decode prog_6_method_1_code 20 = .ok (.return_, 1) := by decide +kernel
set_option maxRecDepth 100000 in
theorem c_Row_init {N : Nat} {l : Launch} {d b : Nat} {g : HP} {Q : QT} (hN9 : N < 1000) (hQ : Q none (b + 2) (ov g b [rwc b 0, zar N])) : Ct l M_Row_init (d + 1) 1 N [.ref b, .int (nI N)] (b + 1) (ov g b [.inr (1, [.null, .int 0])]) Q := by
  refine Ct.of (fun _ => trivial) (by decide) (Nat.le_of_ble_eq_true rfl) ?_
  refine V.aload_n d_Row_init_0 rfl ?_
  refine V.objInit d_Row_init_1 ⟨tm 36 (by decide +kernel) rfl, tm 29 (by decide +kernel) rfl, tm 30 (by decide +kernel) rfl⟩ (Nat.le_of_ble_eq_true rfl) ?_
  refine V.aload_n d_Row_init_4 rfl ?_
  refine V.iconst_ (nI 0) d_Row_init_5 (by decide +kernel) ?_
  refine V.put d_Row_init_6 f_Row_7_Row fp_Row_1 (fun _ => rfl) (fun _ => rfl) (ov_get (k := 0) rfl rfl) (Nat.le_of_ble_eq_true rfl) ?_
  refine V.eqH ov_set0 ?_
  refine V.aload_n d_Row_init_9 rfl ?_
  refine V.iload_n d_Row_init_10 rfl ?_
  refine V.iconst_ (nI 0) d_Row_init_11 (by decide +kernel) ?_
  refine V.mmax d_Row_init_12 (tm 37 (by decide +kernel) rfl) (Nat.le_of_ble_eq_true rfl) (by omega) (by omega) ?_
  refine V.top (mx_0 hN9) ?_
  refine V.newarr d_Row_init_15 (Or.inl ⟨rfl, rfl, rfl⟩) rfl (by first | decide | omega) (tm 58 (by decide +kernel) rfl) (by omega) (by omega) ?_
  refine V.eqH (ov_push rfl) ?_
  refine V.putF d_Row_init_17 f_Row_19_Row fF_Row_Row_0 rfl (fun _ => rfl) (fun _ => rfl) (ov_get (k := 0) rfl rfl) (Nat.le_of_ble_eq_true rfl) ?_
  refine V.eqH ov_set0 ?_
  refine V.vret d_Row_init_20 rfl (by omega) (by omega) ?_
  exact hQ
theorem fF_Row_Sheet_0 : fpF "FelledByNames$Row" 2 0 (.array .int) := ⟨_, _, _, rfl, rfl, rfl, by decide +kernel⟩
set_option maxRecDepth 100000 in
theorem c_Row_initS {N : Nat} {l : Launch} {d b : Nat} {g : HP} {Q : QT} (hN9 : N < 1000) (hQ : Q none (b + 2) (ov g b [.inr (2, [.ref (b + 1), .int (nI 0), .int 0]), zar N])) : Ct l M_Row_init (d + 1) 1 N [.ref b, .int (nI N)] (b + 1) (ov g b [.inr (2, [.null, .int 0, .int 0])]) Q := by
  refine Ct.of (fun _ => trivial) (by decide) (Nat.le_of_ble_eq_true rfl) ?_
  refine V.aload_n d_Row_init_0 rfl ?_
  refine V.objInit d_Row_init_1 ⟨tm 36 (by decide +kernel) rfl, tm 29 (by decide +kernel) rfl, tm 30 (by decide +kernel) rfl⟩ (Nat.le_of_ble_eq_true rfl) ?_
  refine V.aload_n d_Row_init_4 rfl ?_
  refine V.iconst_ (nI 0) d_Row_init_5 (by decide +kernel) ?_
  refine V.put d_Row_init_6 f_Row_7_Sheet fp_Sheet_1 (fun _ => rfl) (fun _ => rfl) (ov_get (k := 0) rfl rfl) (Nat.le_of_ble_eq_true rfl) ?_
  refine V.eqH ov_set0 ?_
  refine V.aload_n d_Row_init_9 rfl ?_
  refine V.iload_n d_Row_init_10 rfl ?_
  refine V.iconst_ (nI 0) d_Row_init_11 (by decide +kernel) ?_
  refine V.mmax d_Row_init_12 (tm 37 (by decide +kernel) rfl) (Nat.le_of_ble_eq_true rfl) (by omega) (by omega) ?_
  refine V.top (mx_0 hN9) ?_
  refine V.newarr d_Row_init_15 (Or.inl ⟨rfl, rfl, rfl⟩) rfl (by first | decide | omega) (tm 58 (by decide +kernel) rfl) (by omega) (by omega) ?_
  refine V.eqH (ov_push rfl) ?_
  refine V.putF d_Row_init_17 f_Row_19_Sheet fF_Row_Sheet_0 rfl (fun _ => rfl) (fun _ => rfl) (ov_get (k := 0) rfl rfl) (Nat.le_of_ble_eq_true rfl) ?_
  refine V.eqH ov_set0 ?_
  refine V.vret d_Row_init_20 rfl (by omega) (by omega) ?_
  exact hQ
abbrev M_Sheet_init : MD := (⟨"FelledByNames$Sheet", "<init>", "()V"⟩, prog_8_method_1_code, 1, none, fun _ => True)
theorem d_Sheet_init_0 : decode prog_8_method_1_code 0 = .ok (.aload_n 0, 1) := by decide +kernel
theorem d_Sheet_init_1 : decode prog_8_method_1_code 1 = .ok (.bipush 40, 2) := by decide +kernel
theorem d_Sheet_init_3 : decode prog_8_method_1_code 3 = .ok (.invokespecial 3, 3) := by decide +kernel
theorem kB_Row_init : kB M_Row_init 1 := ⟨tm 2 (by decide +kernel) rfl, tm 35 (by decide +kernel) rfl, ⟨by decide, by decide, by decide +kernel⟩, by decide⟩
theorem k_Sheet_3_Row_initI : kI "FelledByNames$Sheet" 3 M_Row_init 1 := ⟨kB_Row_init, tm 416 (by decide +kernel) rfl, tm 34 (by decide +kernel) rfl, rfl, rfl⟩
theorem d_Sheet_init_6 : decode prog_8_method_1_code 6 = .ok (.aload_n 0, 1) := by decide +kernel
theorem d_Sheet_init_7 : decode prog_8_method_1_code 7 = .ok (.iconst 0, 1) := by decide +kernel
theorem d_Sheet_init_8 : decode prog_8_method_1_code 8 = .ok (.putfield 9, 3) := by decide +kernel
theorem d_Sheet_init_11 : decode prog_8_method_1_code 11 = .ok (.return_, 1) := by decide +kernel
set_option maxRecDepth 100000 in
theorem c_Sheet_init  {l : Launch} {d b : Nat} {g : HP} {Q : QT} (hQ : Q none (b + 2) (ov g b [.inr (2, [.ref (b + 1), .int (nI 0), .int (nI 0)]), zar 40])) : Ct l M_Sheet_init (d + 2) 1 40 [.ref b] (b + 1) (ov g b [.inr (2, [.null, .int 0, .int 0])]) Q := by
  refine Ct.of (fun _ => trivial) (by decide) (Nat.le_of_ble_eq_true rfl) ?_
  refine V.aload_n d_Sheet_init_0 rfl ?_
  refine V.bipush_ (nI 40) d_Sheet_init_1 (by decide +kernel) ?_
  refine V.callI1 d_Sheet_init_3 k_Sheet_3_Row_initI (Nat.le_of_ble_eq_true rfl) (by omega) (by omega) (c_Row_initS (by decide) ?_)
  refine V.aload_n d_Sheet_init_6 rfl ?_
  refine V.iconst_ (nI 0) d_Sheet_init_7 (by decide +kernel) ?_
  refine V.put d_Sheet_init_8 f_Sheet_9_Sheet fp_Sheet_2 (fun _ => rfl) (fun _ => rfl) (ov_get (k := 0) rfl rfl) (Nat.le_of_ble_eq_true rfl) ?_
  refine V.eqH ov_set0 ?_
  refine V.vret d_Sheet_init_11 rfl (by omega) (by omega) ?_
  exact hQ
abbrev M_Text_init : MD := (⟨"FelledByNames$Text", "<init>", "(LFelledByNames$Row;Ljava/lang/String;II)V"⟩, prog_9_method_1_code, 5, none, fun _ => True)
theorem d_Text_init_0 : decode prog_9_method_1_code 0 = .ok (.aload_n 0, 1) := by decide +kernel
theorem d_Text_init_1 : decode prog_9_method_1_code 1 = .ok (.invokespecial 5, 3) := by decide +kernel
theorem d_Text_init_4 : decode prog_9_method_1_code 4 = .ok (.aload_n 0, 1) := by decide +kernel
theorem nk_Text_11 : nok "FelledByNames$Text" 11 1 2 [.null, .int 0] := ⟨_, _, t_Row, rfl, i_Row, t_Row_ok, tm 66 (by decide +kernel) rfl, tm 32 (by decide +kernel) rfl, tm 2 (by decide +kernel) rfl, fun _ j hj => by rcases (show j = 0 ∨ j = 1 by omega) with rfl | rfl <;> rfl⟩
theorem d_Text_init_5 : decode prog_9_method_1_code 5 = .ok (.new 11, 3) := by decide +kernel
theorem d_Text_init_8 : decode prog_9_method_1_code 8 = .ok (.dup, 1) := by decide +kernel
theorem d_Text_init_9 : decode prog_9_method_1_code 9 = .ok (.bipush 50, 2) := by decide +kernel
theorem d_Text_init_11 : decode prog_9_method_1_code 11 = .ok (.invokespecial 13, 3) := by decide +kernel
theorem k_Text_13_Row_initI : kI "FelledByNames$Text" 13 M_Row_init 1 := ⟨kB_Row_init, tm 67 (by decide +kernel) rfl, tm 34 (by decide +kernel) rfl, rfl, rfl⟩
theorem d_Text_init_14 : decode prog_9_method_1_code 14 = .ok (.putfield 16, 3) := by decide +kernel
theorem fF_Text_Text_0 : fpF "FelledByNames$Text" 3 0 (.object "FelledByNames$Row") := ⟨_, _, _, rfl, rfl, rfl, by decide +kernel⟩
theorem d_Text_init_17 : decode prog_9_method_1_code 17 = .ok (.aload_n 0, 1) := by decide +kernel
theorem d_Text_init_18 : decode prog_9_method_1_code 18 = .ok (.new 11, 3) := by decide +kernel
theorem d_Text_init_21 : decode prog_9_method_1_code 21 = .ok (.dup, 1) := by decide +kernel
theorem d_Text_init_22 : decode prog_9_method_1_code 22 = .ok (.bipush 50, 2) := by decide +kernel
theorem d_Text_init_24 : decode prog_9_method_1_code 24 = .ok (.invokespecial 13, 3) := by decide +kernel
theorem d_Text_init_27 : decode prog_9_method_1_code 27 = .ok (.putfield 20, 3) := by decide +kernel
theorem fF_Text_Text_5 : fpF "FelledByNames$Text" 3 5 (.object "FelledByNames$Row") := ⟨_, _, _, rfl, rfl, rfl, by decide +kernel⟩
theorem d_Text_init_30 : decode prog_9_method_1_code 30 = .ok (.aload_n 0, 1) := by decide +kernel
theorem d_Text_init_31 : decode prog_9_method_1_code 31 = .ok (.bipush 50, 2) := by decide +kernel
theorem d_Text_init_33 : decode prog_9_method_1_code 33 = .ok (.newarray .int, 2) := by decide +kernel
theorem d_Text_init_35 : decode prog_9_method_1_code 35 = .ok (.putfield 23, 3) := by decide +kernel
theorem fF_Text_Text_6 : fpF "FelledByNames$Text" 3 6 (.array .int) := ⟨_, _, _, rfl, rfl, rfl, by decide +kernel⟩
theorem d_Text_init_38 : decode prog_9_method_1_code 38 = .ok (.aload_n 0, 1) := by decide +kernel
theorem d_Text_init_39 : decode prog_9_method_1_code 39 = .ok (.iconst 0, 1) := by decide +kernel
theorem d_Text_init_40 : decode prog_9_method_1_code 40 = .ok (.putfield 27, 3) := by decide +kernel
theorem d_Text_init_43 : decode prog_9_method_1_code 43 = .ok (.aload_n 0, 1) := by decide +kernel
theorem d_Text_init_44 : decode prog_9_method_1_code 44 = .ok (.iconst 0, 1) := by decide +kernel
theorem d_Text_init_45 : decode prog_9_method_1_code 45 = .ok (.putfield 31, 3) := by decide +kernel
theorem d_Text_init_48 : decode prog_9_method_1_code 48 = .ok (.aload_n 0, 1) := by decide +kernel
theorem d_Text_init_49 : decode prog_9_method_1_code 49 = .ok (.iconst (-1), 1) := by decide +kernel
theorem d_Text_init_50 : decode prog_9_method_1_code 50 = .ok (.putfield 34, 3) := by decide +kernel
theorem d_Text_init_53 : decode prog_9_method_1_code 53 = .ok (.aload_n 0, 1) := by decide +kernel
theorem d_Text_init_54 : decode prog_9_method_1_code 54 = .ok (.aconst_null, 1) := by decide +kernel
theorem d_Text_init_55 : decode prog_9_method_1_code 55 = .ok (.putfield 37, 3) := by decide +kernel
theorem d_Text_init_58 : decode prog_9_method_1_code 58 = .ok (.aload_n 0, 1) := by decide +kernel
theorem d_Text_init_59 : decode prog_9_method_1_code 59 = .ok (.aload_n 1, 1) := by decide +kernel
theorem d_Text_init_60 : decode prog_9_method_1_code 60 = .ok (.putfield 41, 3) := by decide +kernel
theorem fF_Text_Text_1 : fpF "FelledByNames$Text" 3 1 (.object "FelledByNames$Row") := ⟨_, _, _, rfl, rfl, rfl, by decide +kernel⟩
theorem d_Text_init_63 : decode prog_9_method_1_code 63 = .ok (.aload_n 0, 1) := by decide +kernel
theorem d_Text_init_64 : decode prog_9_method_1_code 64 = .ok (.aload_n 2, 1) := by decide +kernel
theorem d_Text_init_65 : decode prog_9_method_1_code 65 = .ok (.putfield 44, 3) := by decide +kernel
theorem fF_Text_Text_2 : fpF "FelledByNames$Text" 3 2 (.object "java/lang/String") := ⟨_, _, _, rfl, rfl, rfl, by decide +kernel⟩
theorem d_Text_init_68 : decode prog_9_method_1_code 68 = .ok (.aload_n 0, 1) := by decide +kernel
theorem d_Text_init_69 : decode prog_9_method_1_code 69 = .ok (.iload_n 3, 1) := by decide +kernel
theorem d_Text_init_70 : decode prog_9_method_1_code 70 = .ok (.putfield 48, 3) := by decide +kernel
theorem fF_Text_Text_3 : fpF "FelledByNames$Text" 3 3 (.int) := ⟨_, _, _, rfl, rfl, rfl, by decide +kernel⟩
theorem d_Text_init_73 : decode prog_9_method_1_code 73 = .ok (.aload_n 0, 1) := by decide +kernel
theorem d_Text_init_74 : decode prog_9_method_1_code 74 = .ok (.iload 4, 2) := by decide +kernel
theorem d_Text_init_76 : decode prog_9_method_1_code 76 = .ok (.putfield 51, 3) := by decide +kernel
theorem fF_Text_Text_4 : fpF "FelledByNames$Text" 3 4 (.int) := ⟨_, _, _, rfl, rfl, rfl, by decide +kernel⟩
theorem d_Text_init_79 : decode prog_9_method_1_code 79 = .ok (.return_, 1) := by decide +kernel
set_option maxRecDepth 100000 in
theorem c_Text_init {tp i : Nat} {lo hi : Int32} {l : Launch} {d b : Nat} {g : HP} {Q : QT} (hQ : Q none (b + 6) (ov g b [.inr (3, [.ref (b + 1), .ref tp, .float (UInt32.ofNat i), .int lo, .int hi, .ref (b + 3), .ref (b + 5), .int (nI 0), .int (nI 0), .int (-1), .null]), rwc (b + 1) 0, zar 50, rwc (b + 3) 0, zar 50, zar 50])) : Ct l M_Text_init (d + 2) 5 154 [.ref b, .ref tp, .float (UInt32.ofNat i), .int lo, .int hi] (b + 1) (ov g b [.inr (3, [.null, .null, .null, .int 0, .int 0, .null, .null, .int 0, .int 0, .int 0, .null])]) Q := by
  refine Ct.of (fun _ => trivial) (by decide) (Nat.le_of_ble_eq_true rfl) ?_
  refine V.aload_n d_Text_init_0 rfl ?_
  refine V.objInit d_Text_init_1 ⟨tm 65 (by decide +kernel) rfl, tm 29 (by decide +kernel) rfl, tm 30 (by decide +kernel) rfl⟩ (Nat.le_of_ble_eq_true rfl) ?_
  refine V.aload_n d_Text_init_4 rfl ?_
  refine V.new d_Text_init_5 nk_Text_11 (by omega) (by omega) ?_
  refine V.eqH (ov_new rfl) ?_
  refine V.dup rfl d_Text_init_8 ?_
  refine V.bipush_ (nI 50) d_Text_init_9 (by decide +kernel) ?_
  refine V.callI1 d_Text_init_11 k_Text_13_Row_initI (Nat.le_of_ble_eq_true rfl) (by omega) (by omega) (c_Row_init (by decide) ?_)
  refine V.eqH (ov_cat rfl) ?_
  refine V.putF d_Text_init_14 f_Text_16_Text fF_Text_Text_0 rfl (fun _ => rfl) (fun _ => rfl) (ov_get (k := 0) rfl rfl) (Nat.le_of_ble_eq_true rfl) ?_
  refine V.eqH ov_set0 ?_
  refine V.aload_n d_Text_init_17 rfl ?_
  refine V.new d_Text_init_18 nk_Text_11 (by omega) (by omega) ?_
  refine V.eqH (ov_new rfl) ?_
  refine V.dup rfl d_Text_init_21 ?_
  refine V.bipush_ (nI 50) d_Text_init_22 (by decide +kernel) ?_
  refine V.callI1 d_Text_init_24 k_Text_13_Row_initI (Nat.le_of_ble_eq_true rfl) (by omega) (by omega) (c_Row_init (by decide) ?_)
  refine V.eqH (ov_cat rfl) ?_
  refine V.putF d_Text_init_27 f_Text_20_Text fF_Text_Text_5 rfl (fun _ => rfl) (fun _ => rfl) (ov_get (k := 0) rfl rfl) (Nat.le_of_ble_eq_true rfl) ?_
  refine V.eqH ov_set0 ?_
  refine V.aload_n d_Text_init_30 rfl ?_
  refine V.bipush_ (nI 50) d_Text_init_31 (by decide +kernel) ?_
  refine V.newarr d_Text_init_33 (Or.inl ⟨rfl, rfl, rfl⟩) rfl (by first | decide | omega) (tm 58 (by decide +kernel) rfl) (by omega) (by omega) ?_
  refine V.eqH (ov_push rfl) ?_
  refine V.putF d_Text_init_35 f_Text_23_Text fF_Text_Text_6 rfl (fun _ => rfl) (fun _ => rfl) (ov_get (k := 0) rfl rfl) (Nat.le_of_ble_eq_true rfl) ?_
  refine V.eqH ov_set0 ?_
  refine V.aload_n d_Text_init_38 rfl ?_
  refine V.iconst_ (nI 0) d_Text_init_39 (by decide +kernel) ?_
  refine V.put d_Text_init_40 f_Text_27_Text fp_Text_7 (fun _ => rfl) (fun _ => rfl) (ov_get (k := 0) rfl rfl) (Nat.le_of_ble_eq_true rfl) ?_
  refine V.eqH ov_set0 ?_
  refine V.aload_n d_Text_init_43 rfl ?_
  refine V.iconst_ (nI 0) d_Text_init_44 (by decide +kernel) ?_
  refine V.put d_Text_init_45 f_Text_31_Text fp_Text_8 (fun _ => rfl) (fun _ => rfl) (ov_get (k := 0) rfl rfl) (Nat.le_of_ble_eq_true rfl) ?_
  refine V.eqH ov_set0 ?_
  refine V.aload_n d_Text_init_48 rfl ?_
  refine V.iconst_ (-1) d_Text_init_49 (by decide +kernel) ?_
  refine V.put d_Text_init_50 f_Text_34_Text fp_Text_9 (fun _ => rfl) (fun _ => rfl) (ov_get (k := 0) rfl rfl) (Nat.le_of_ble_eq_true rfl) ?_
  refine V.eqH ov_set0 ?_
  refine V.aload_n d_Text_init_53 rfl ?_
  refine V.null d_Text_init_54 ?_
  refine V.put d_Text_init_55 f_Text_37_Text fp_Text_10 (fun _ => rfl) (fun _ => rfl) (ov_get (k := 0) rfl rfl) (Nat.le_of_ble_eq_true rfl) ?_
  refine V.eqH ov_set0 ?_
  refine V.aload_n d_Text_init_58 rfl ?_
  refine V.aload_n d_Text_init_59 rfl ?_
  refine V.putF d_Text_init_60 f_Text_41_Text fF_Text_Text_1 rfl (fun _ => rfl) (fun _ => rfl) (ov_get (k := 0) rfl rfl) (Nat.le_of_ble_eq_true rfl) ?_
  refine V.eqH ov_set0 ?_
  refine V.aload_n d_Text_init_63 rfl ?_
  refine V.aloadK_n d_Text_init_64 rfl ?_
  refine V.putF d_Text_init_65 f_Text_44_Text fF_Text_Text_2 rfl (fun _ => rfl) (fun _ => rfl) (ov_get (k := 0) rfl rfl) (Nat.le_of_ble_eq_true rfl) ?_
  refine V.eqH ov_set0 ?_
  refine V.aload_n d_Text_init_68 rfl ?_
  refine V.iload_n d_Text_init_69 rfl ?_
  refine V.putF d_Text_init_70 f_Text_48_Text fF_Text_Text_3 rfl (fun _ => rfl) (fun _ => rfl) (ov_get (k := 0) rfl rfl) (Nat.le_of_ble_eq_true rfl) ?_
  refine V.eqH ov_set0 ?_
  refine V.aload_n d_Text_init_73 rfl ?_
  refine V.iload d_Text_init_74 rfl ?_
  refine V.putF d_Text_init_76 f_Text_51_Text fF_Text_Text_4 rfl (fun _ => rfl) (fun _ => rfl) (ov_get (k := 0) rfl rfl) (Nat.le_of_ble_eq_true rfl) ?_
  refine V.eqH ov_set0 ?_
  refine V.vret d_Text_init_79 rfl (by omega) (by omega) ?_
  exact hQ
set_option maxRecDepth 100000 in
theorem c_Row_addG {a a1 N sz : Nat} {f : Nat → Int32} {x : Int32} {l : Launch} {d n : Nat} {h : HP} {Q : QT} (ha : h a = some (.inr (1, [.ref a1, .int (nI sz)]))) (ha1 : h a1 = some (.inl (0, N, .inl f))) (hne : a ≠ a1) (hlt : sz < N) (hN9 : N < 1000) (hQ : Q none n (up (up h a1 (.inl (0, N, .inl (upd f sz x)))) a (.inr (1, [.ref a1, .int (nI (sz + 1))])))) : Ct l M_Row_add d 0 0 [.ref a, .int x] n h Q := by
  refine Ct.of (fun _ => trivial) (by decide) (Nat.le_of_ble_eq_true rfl) ?_
  refine V.aload_n d_Row_add_0 rfl ?_
  refine V.get d_Row_add_1 f_Row_7_Row ha rfl ?_
  refine V.aload_n d_Row_add_4 rfl ?_
  refine V.get d_Row_add_5 f_Row_19_Row ha rfl ?_
  refine V.alen d_Row_add_8 ha1 (by decide) ?_
  refine V.geN (tgt := 32) d_Row_add_9 (by decide) (by omega) (by omega) (fun c_9 => ?_) (fun c_9 => ?_)
  · skip
    exact absurd c_9 (by omega)
  · skip
    refine V.aload_n d_Row_add_12 rfl ?_
    refine V.get d_Row_add_13 f_Row_19_Row ha rfl ?_
    refine V.aload_n d_Row_add_16 rfl ?_
    refine V.get d_Row_add_17 f_Row_7_Row ha rfl ?_
    refine V.iload_n d_Row_add_20 rfl ?_
    refine V.iastN d_Row_add_21 ha1 (by omega) (by omega) ?_
    refine V.aload_n d_Row_add_22 rfl ?_
    refine V.dup rfl d_Row_add_23 ?_
    refine V.get d_Row_add_24 f_Row_7_Row ((up_n hne).trans ha) rfl ?_
    refine V.iconst_ (nI 1) d_Row_add_27 (by decide +kernel) ?_
    refine V.addN d_Row_add_28 ?_
    refine V.put d_Row_add_29 f_Row_7_Row fp_Row_1 (fun _ => rfl) (fun _ => rfl) ((up_n hne).trans ha) (Nat.le_of_ble_eq_true rfl) ?_
    refine V.vret d_Row_add_32 rfl (Nat.le_of_ble_eq_true rfl) (Nat.le_of_ble_eq_true rfl) ?_
    exact hQ
abbrev M_World_init : MD := (⟨"FelledByNames$World", "<init>", "(LFelledByNames$Text;LFelledByNames$Text;)V"⟩, prog_12_method_1_code, 4, none, fun _ => True)
theorem d_World_init_0 : decode prog_12_method_1_code 0 = .ok (.aload_n 0, 1) := by decide +kernel
theorem d_World_init_1 : decode prog_12_method_1_code 1 = .ok (.invokespecial 3, 3) := by decide +kernel
theorem d_World_init_4 : decode prog_12_method_1_code 4 = .ok (.aload_n 0, 1) := by decide +kernel
theorem d_World_init_5 : decode prog_12_method_1_code 5 = .ok (.bipush 36, 2) := by decide +kernel
theorem d_World_init_7 : decode prog_12_method_1_code 7 = .ok (.newarray .int, 2) := by decide +kernel
theorem d_World_init_9 : decode prog_12_method_1_code 9 = .ok (.putfield 9, 3) := by decide +kernel
theorem fF_World_World_2 : fpF "FelledByNames$World" 4 2 (.array .int) := ⟨_, _, _, rfl, rfl, rfl, by decide +kernel⟩
theorem d_World_init_12 : decode prog_12_method_1_code 12 = .ok (.aload_n 0, 1) := by decide +kernel
theorem d_World_init_13 : decode prog_12_method_1_code 13 = .ok (.bipush 6, 2) := by decide +kernel
theorem d_World_init_15 : decode prog_12_method_1_code 15 = .ok (.newarray .int, 2) := by decide +kernel
theorem d_World_init_17 : decode prog_12_method_1_code 17 = .ok (.putfield 15, 3) := by decide +kernel
theorem fF_World_World_3 : fpF "FelledByNames$World" 4 3 (.array .int) := ⟨_, _, _, rfl, rfl, rfl, by decide +kernel⟩
theorem d_World_init_20 : decode prog_12_method_1_code 20 = .ok (.aload_n 0, 1) := by decide +kernel
theorem d_World_init_21 : decode prog_12_method_1_code 21 = .ok (.bipush 8, 2) := by decide +kernel
theorem d_World_init_23 : decode prog_12_method_1_code 23 = .ok (.anewarray 18, 3) := by decide +kernel
theorem d_World_init_26 : decode prog_12_method_1_code 26 = .ok (.putfield 20, 3) := by decide +kernel
theorem fF_World_World_4 : fpF "FelledByNames$World" 4 4 (.array (.object "FelledByNames$Tree")) := ⟨_, _, _, rfl, rfl, rfl, by decide +kernel⟩
theorem d_World_init_29 : decode prog_12_method_1_code 29 = .ok (.aload_n 0, 1) := by decide +kernel
theorem d_World_init_30 : decode prog_12_method_1_code 30 = .ok (.iconst 0, 1) := by decide +kernel
theorem d_World_init_31 : decode prog_12_method_1_code 31 = .ok (.putfield 24, 3) := by decide +kernel
theorem d_World_init_34 : decode prog_12_method_1_code 34 = .ok (.aload_n 0, 1) := by decide +kernel
theorem d_World_init_35 : decode prog_12_method_1_code 35 = .ok (.iconst 0, 1) := by decide +kernel
theorem d_World_init_36 : decode prog_12_method_1_code 36 = .ok (.putfield 28, 3) := by decide +kernel
theorem d_World_init_39 : decode prog_12_method_1_code 39 = .ok (.aload_n 0, 1) := by decide +kernel
theorem d_World_init_40 : decode prog_12_method_1_code 40 = .ok (.bipush 15, 2) := by decide +kernel
theorem d_World_init_42 : decode prog_12_method_1_code 42 = .ok (.putfield 31, 3) := by decide +kernel
theorem d_World_init_45 : decode prog_12_method_1_code 45 = .ok (.aload_n 0, 1) := by decide +kernel
theorem d_World_init_46 : decode prog_12_method_1_code 46 = .ok (.iconst 0, 1) := by decide +kernel
theorem d_World_init_47 : decode prog_12_method_1_code 47 = .ok (.putfield 34, 3) := by decide +kernel
theorem d_World_init_50 : decode prog_12_method_1_code 50 = .ok (.aload_n 0, 1) := by decide +kernel
theorem d_World_init_51 : decode prog_12_method_1_code 51 = .ok (.iconst 0, 1) := by decide +kernel
theorem d_World_init_52 : decode prog_12_method_1_code 52 = .ok (.putfield 37, 3) := by decide +kernel
theorem d_World_init_55 : decode prog_12_method_1_code 55 = .ok (.aload_n 0, 1) := by decide +kernel
theorem d_World_init_56 : decode prog_12_method_1_code 56 = .ok (.iconst 1, 1) := by decide +kernel
theorem d_World_init_57 : decode prog_12_method_1_code 57 = .ok (.putfield 40, 3) := by decide +kernel
theorem d_World_init_60 : decode prog_12_method_1_code 60 = .ok (.aload_n 0, 1) := by decide +kernel
theorem nk_World_43 : nok "FelledByNames$World" 43 1 2 [.null, .int 0] := ⟨_, _, t_Row, rfl, i_Row, t_Row_ok, tm 113 (by decide +kernel) rfl, tm 32 (by decide +kernel) rfl, tm 2 (by decide +kernel) rfl, fun _ j hj => by rcases (show j = 0 ∨ j = 1 by omega) with rfl | rfl <;> rfl⟩
theorem d_World_init_61 : decode prog_12_method_1_code 61 = .ok (.new 43, 3) := by decide +kernel
theorem d_World_init_64 : decode prog_12_method_1_code 64 = .ok (.dup, 1) := by decide +kernel
theorem d_World_init_65 : decode prog_12_method_1_code 65 = .ok (.bipush 8, 2) := by decide +kernel
theorem d_World_init_67 : decode prog_12_method_1_code 67 = .ok (.invokespecial 45, 3) := by decide +kernel
theorem k_World_45_Row_initI : kI "FelledByNames$World" 45 M_Row_init 1 := ⟨kB_Row_init, tm 114 (by decide +kernel) rfl, tm 34 (by decide +kernel) rfl, rfl, rfl⟩
theorem d_World_init_70 : decode prog_12_method_1_code 70 = .ok (.putfield 48, 3) := by decide +kernel
theorem fF_World_World_11 : fpF "FelledByNames$World" 4 11 (.object "FelledByNames$Row") := ⟨_, _, _, rfl, rfl, rfl, by decide +kernel⟩
theorem d_World_init_73 : decode prog_12_method_1_code 73 = .ok (.aload_n 0, 1) := by decide +kernel
theorem d_World_init_74 : decode prog_12_method_1_code 74 = .ok (.bipush 16, 2) := by decide +kernel
theorem d_World_init_76 : decode prog_12_method_1_code 76 = .ok (.newarray .int, 2) := by decide +kernel
theorem d_World_init_78 : decode prog_12_method_1_code 78 = .ok (.putfield 52, 3) := by decide +kernel
theorem fF_World_World_12 : fpF "FelledByNames$World" 4 12 (.array .int) := ⟨_, _, _, rfl, rfl, rfl, by decide +kernel⟩
theorem d_World_init_81 : decode prog_12_method_1_code 81 = .ok (.aload_n 0, 1) := by decide +kernel
theorem d_World_init_82 : decode prog_12_method_1_code 82 = .ok (.new 43, 3) := by decide +kernel
theorem d_World_init_85 : decode prog_12_method_1_code 85 = .ok (.dup, 1) := by decide +kernel
theorem d_World_init_86 : decode prog_12_method_1_code 86 = .ok (.bipush 36, 2) := by decide +kernel
theorem d_World_init_88 : decode prog_12_method_1_code 88 = .ok (.invokespecial 45, 3) := by decide +kernel
theorem d_World_init_91 : decode prog_12_method_1_code 91 = .ok (.putfield 55, 3) := by decide +kernel
theorem fF_World_World_13 : fpF "FelledByNames$World" 4 13 (.object "FelledByNames$Row") := ⟨_, _, _, rfl, rfl, rfl, by decide +kernel⟩
theorem d_World_init_94 : decode prog_12_method_1_code 94 = .ok (.aload_n 0, 1) := by decide +kernel
theorem d_World_init_95 : decode prog_12_method_1_code 95 = .ok (.aload_n 1, 1) := by decide +kernel
theorem d_World_init_96 : decode prog_12_method_1_code 96 = .ok (.putfield 58, 3) := by decide +kernel
theorem fF_World_World_0 : fpF "FelledByNames$World" 4 0 (.object "FelledByNames$Text") := ⟨_, _, _, rfl, rfl, rfl, by decide +kernel⟩
theorem d_World_init_99 : decode prog_12_method_1_code 99 = .ok (.aload_n 0, 1) := by decide +kernel
theorem d_World_init_100 : decode prog_12_method_1_code 100 = .ok (.aload_n 2, 1) := by decide +kernel
theorem d_World_init_101 : decode prog_12_method_1_code 101 = .ok (.putfield 62, 3) := by decide +kernel
theorem fF_World_World_1 : fpF "FelledByNames$World" 4 1 (.object "FelledByNames$Text") := ⟨_, _, _, rfl, rfl, rfl, by decide +kernel⟩
theorem d_World_init_104 : decode prog_12_method_1_code 104 = .ok (.iconst 0, 1) := by decide +kernel
theorem d_World_init_105 : decode prog_12_method_1_code 105 = .ok (.istore_n 3, 1) := by decide +kernel
theorem d_World_init_106 : decode prog_12_method_1_code 106 = .ok (.iload_n 3, 1) := by decide +kernel
theorem d_World_init_107 : decode prog_12_method_1_code 107 = .ok (.bipush 8, 2) := by decide +kernel
theorem d_World_init_109 : decode prog_12_method_1_code 109 = .ok (.if_icmp .ge 24, 3) := by decide +kernel
theorem d_World_init_133 : decode prog_12_method_1_code 133 = .ok (.iconst 0, 1) := by decide +kernel
theorem d_World_init_134 : decode prog_12_method_1_code 134 = .ok (.istore_n 3, 1) := by decide +kernel
theorem d_World_init_135 : decode prog_12_method_1_code 135 = .ok (.iload_n 3, 1) := by decide +kernel
theorem d_World_init_136 : decode prog_12_method_1_code 136 = .ok (.bipush 36, 2) := by decide +kernel
theorem d_World_init_138 : decode prog_12_method_1_code 138 = .ok (.if_icmp .ge 36, 3) := by decide +kernel
theorem d_World_init_174 : decode prog_12_method_1_code 174 = .ok (.return_, 1) := by decide +kernel
theorem d_World_init_141 : decode prog_12_method_1_code 141 = .ok (.iload_n 3, 1) := by decide +kernel
theorem d_World_init_142 : decode prog_12_method_1_code 142 = .ok (.bipush 6, 2) := by decide +kernel
theorem d_World_init_144 : decode prog_12_method_1_code 144 = .ok (.idiv, 1) := by decide +kernel
theorem d_World_init_145 : decode prog_12_method_1_code 145 = .ok (.iload_n 3, 1) := by decide +kernel
theorem d_World_init_146 : decode prog_12_method_1_code 146 = .ok (.bipush 6, 2) := by decide +kernel
theorem d_World_init_148 : decode prog_12_method_1_code 148 = .ok (.irem, 1) := by decide +kernel
theorem d_World_init_149 : decode prog_12_method_1_code 149 = .ok (.if_icmp .eq 19, 3) := by decide +kernel
theorem d_World_init_168 : decode prog_12_method_1_code 168 = .ok (.iinc 3 1, 3) := by decide +kernel
theorem d_World_init_171 : decode prog_12_method_1_code 171 = .ok (.goto (-36), 3) := by decide +kernel
theorem d_World_init_152 : decode prog_12_method_1_code 152 = .ok (.aload_n 0, 1) := by decide +kernel
theorem d_World_init_153 : decode prog_12_method_1_code 153 = .ok (.getfield 9, 3) := by decide +kernel
theorem d_World_init_156 : decode prog_12_method_1_code 156 = .ok (.iload_n 3, 1) := by decide +kernel
theorem d_World_init_157 : decode prog_12_method_1_code 157 = .ok (.bipush 20, 2) := by decide +kernel
theorem d_World_init_159 : decode prog_12_method_1_code 159 = .ok (.iastore, 1) := by decide +kernel
theorem d_World_init_160 : decode prog_12_method_1_code 160 = .ok (.aload_n 0, 1) := by decide +kernel
theorem d_World_init_161 : decode prog_12_method_1_code 161 = .ok (.getfield 55, 3) := by decide +kernel
theorem d_World_init_164 : decode prog_12_method_1_code 164 = .ok (.iload_n 3, 1) := by decide +kernel
theorem d_World_init_165 : decode prog_12_method_1_code 165 = .ok (.invokevirtual 68, 3) := by decide +kernel
theorem d_World_init_112 : decode prog_12_method_1_code 112 = .ok (.aload_n 0, 1) := by decide +kernel
theorem d_World_init_113 : decode prog_12_method_1_code 113 = .ok (.getfield 20, 3) := by decide +kernel
theorem d_World_init_116 : decode prog_12_method_1_code 116 = .ok (.iload_n 3, 1) := by decide +kernel
theorem nk_World_18 : nok "FelledByNames$World" 18 6 8 [.int 0, .int 0, .int 0, .int 0, .int 0, .int 0, .int 0, .int 0] := ⟨_, _, t_Tree, rfl, i_Tree, t_Tree_ok, tm 111 (by decide +kernel) rfl, tm 115 (by decide +kernel) rfl, tm 6 (by decide +kernel) rfl, fun _ j hj => by rcases (show j = 0 ∨ j = 1 ∨ j = 2 ∨ j = 3 ∨ j = 4 ∨ j = 5 ∨ j = 6 ∨ j = 7 by omega) with rfl | rfl | rfl | rfl | rfl | rfl | rfl | rfl <;> rfl⟩
theorem d_World_init_117 : decode prog_12_method_1_code 117 = .ok (.new 18, 3) := by decide +kernel
theorem d_World_init_120 : decode prog_12_method_1_code 120 = .ok (.dup, 1) := by decide +kernel
theorem d_World_init_121 : decode prog_12_method_1_code 121 = .ok (.iconst 0, 1) := by decide +kernel
theorem d_World_init_122 : decode prog_12_method_1_code 122 = .ok (.iload_n 3, 1) := by decide +kernel
theorem d_World_init_123 : decode prog_12_method_1_code 123 = .ok (.invokespecial 65, 3) := by decide +kernel
theorem k_World_65_Tree_initI : kI "FelledByNames$World" 65 M_Tree_init 2 := ⟨kB_Tree_init, tm 116 (by decide +kernel) rfl, tm 117 (by decide +kernel) rfl, rfl, rfl⟩
theorem d_World_init_126 : decode prog_12_method_1_code 126 = .ok (.aastore, 1) := by decide +kernel
theorem d_World_init_127 : decode prog_12_method_1_code 127 = .ok (.iinc 3 1, 3) := by decide +kernel
theorem d_World_init_130 : decode prog_12_method_1_code 130 = .ok (.goto (-24), 3) := by decide +kernel
set_option maxRecDepth 100000 in
theorem c_World_init {c1 c2 : Nat} {l : Launch} {d b : Nat} {g : HP} {Q : QT} (hQ : Q none (b + 17) (ov g b (wdv b c1 c2 :: (wl b (tff b 8) (hst 36) (pcs 36).1 (pcs 36).2 ++ tlc 8)))) : Ct l M_World_init (d + 2) 16 178 [.ref b, .ref c1, .ref c2] (b + 1) (ov g b [.inr (4, [.null, .null, .null, .null, .null, .int 0, .int 0, .int 0, .int 0, .int 0, .int 0, .null, .null, .null])]) Q := by
  refine Ct.of (fun _ => trivial) (by decide) (Nat.le_of_ble_eq_true rfl) ?_
  refine V.aload_n d_World_init_0 rfl ?_
  refine V.objInit d_World_init_1 ⟨tm 110 (by decide +kernel) rfl, tm 29 (by decide +kernel) rfl, tm 30 (by decide +kernel) rfl⟩ (Nat.le_of_ble_eq_true rfl) ?_
  refine V.aload_n d_World_init_4 rfl ?_
  refine V.bipush_ (nI 36) d_World_init_5 (by decide +kernel) ?_
  refine V.newarr d_World_init_7 (Or.inl ⟨rfl, rfl, rfl⟩) rfl (by first | decide | omega) (tm 58 (by decide +kernel) rfl) (by omega) (by omega) ?_
  refine V.eqH (ov_push rfl) ?_
  refine V.putF d_World_init_9 f_World_9_World fF_World_World_2 rfl (fun _ => rfl) (fun _ => rfl) (ov_get (k := 0) rfl rfl) (Nat.le_of_ble_eq_true rfl) ?_
  refine V.eqH ov_set0 ?_
  refine V.aload_n d_World_init_12 rfl ?_
  refine V.bipush_ (nI 6) d_World_init_13 (by decide +kernel) ?_
  refine V.newarr d_World_init_15 (Or.inl ⟨rfl, rfl, rfl⟩) rfl (by first | decide | omega) (tm 58 (by decide +kernel) rfl) (by omega) (by omega) ?_
  refine V.eqH (ov_push rfl) ?_
  refine V.putF d_World_init_17 f_World_15_World fF_World_World_3 rfl (fun _ => rfl) (fun _ => rfl) (ov_get (k := 0) rfl rfl) (Nat.le_of_ble_eq_true rfl) ?_
  refine V.eqH ov_set0 ?_
  refine V.aload_n d_World_init_20 rfl ?_
  refine V.bipush_ (nI 8) d_World_init_21 (by decide +kernel) ?_
  refine V.anew d_World_init_23 (Or.inl ⟨rfl, rfl⟩) rfl (by decide) (tm 111 (by decide +kernel) rfl) (by omega) (by omega) ?_
  refine V.eqH (ov_push rfl) ?_
  refine V.putF d_World_init_26 f_World_20_World fF_World_World_4 rfl (fun _ => rfl) (fun _ => rfl) (ov_get (k := 0) rfl rfl) (Nat.le_of_ble_eq_true rfl) ?_
  refine V.eqH ov_set0 ?_
  refine V.aload_n d_World_init_29 rfl ?_
  refine V.iconst_ (nI 0) d_World_init_30 (by decide +kernel) ?_
  refine V.put d_World_init_31 f_World_24_World fp_World_5 (fun _ => rfl) (fun _ => rfl) (ov_get (k := 0) rfl rfl) (Nat.le_of_ble_eq_true rfl) ?_
  refine V.eqH ov_set0 ?_
  refine V.aload_n d_World_init_34 rfl ?_
  refine V.iconst_ (nI 0) d_World_init_35 (by decide +kernel) ?_
  refine V.put d_World_init_36 f_World_28_World fp_World_6 (fun _ => rfl) (fun _ => rfl) (ov_get (k := 0) rfl rfl) (Nat.le_of_ble_eq_true rfl) ?_
  refine V.eqH ov_set0 ?_
  refine V.aload_n d_World_init_39 rfl ?_
  refine V.bipush_ (nI 15) d_World_init_40 (by decide +kernel) ?_
  refine V.put d_World_init_42 f_World_31_World fp_World_7 (fun _ => rfl) (fun _ => rfl) (ov_get (k := 0) rfl rfl) (Nat.le_of_ble_eq_true rfl) ?_
  refine V.eqH ov_set0 ?_
  refine V.aload_n d_World_init_45 rfl ?_
  refine V.iconst_ (nI 0) d_World_init_46 (by decide +kernel) ?_
  refine V.put d_World_init_47 f_World_34_World fp_World_8 (fun _ => rfl) (fun _ => rfl) (ov_get (k := 0) rfl rfl) (Nat.le_of_ble_eq_true rfl) ?_
  refine V.eqH ov_set0 ?_
  refine V.aload_n d_World_init_50 rfl ?_
  refine V.iconst_ (nI 0) d_World_init_51 (by decide +kernel) ?_
  refine V.put d_World_init_52 f_World_37_World fp_World_9 (fun _ => rfl) (fun _ => rfl) (ov_get (k := 0) rfl rfl) (Nat.le_of_ble_eq_true rfl) ?_
  refine V.eqH ov_set0 ?_
  refine V.aload_n d_World_init_55 rfl ?_
  refine V.iconst_ (nI 1) d_World_init_56 (by decide +kernel) ?_
  refine V.put d_World_init_57 f_World_40_World fp_World_10 (fun _ => rfl) (fun _ => rfl) (ov_get (k := 0) rfl rfl) (Nat.le_of_ble_eq_true rfl) ?_
  refine V.eqH ov_set0 ?_
  refine V.aload_n d_World_init_60 rfl ?_
  refine V.new d_World_init_61 nk_World_43 (by omega) (by omega) ?_
  refine V.eqH (ov_new rfl) ?_
  refine V.dup rfl d_World_init_64 ?_
  refine V.bipush_ (nI 8) d_World_init_65 (by decide +kernel) ?_
  refine V.callI1 d_World_init_67 k_World_45_Row_initI (Nat.le_of_ble_eq_true rfl) (by omega) (by omega) (c_Row_init (by decide) ?_)
  refine V.eqH (ov_cat rfl) ?_
  refine V.putF d_World_init_70 f_World_48_World fF_World_World_11 rfl (fun _ => rfl) (fun _ => rfl) (ov_get (k := 0) rfl rfl) (Nat.le_of_ble_eq_true rfl) ?_
  refine V.eqH ov_set0 ?_
  refine V.aload_n d_World_init_73 rfl ?_
  refine V.bipush_ (nI 16) d_World_init_74 (by decide +kernel) ?_
  refine V.newarr d_World_init_76 (Or.inl ⟨rfl, rfl, rfl⟩) rfl (by first | decide | omega) (tm 58 (by decide +kernel) rfl) (by omega) (by omega) ?_
  refine V.eqH (ov_push rfl) ?_
  refine V.putF d_World_init_78 f_World_52_World fF_World_World_12 rfl (fun _ => rfl) (fun _ => rfl) (ov_get (k := 0) rfl rfl) (Nat.le_of_ble_eq_true rfl) ?_
  refine V.eqH ov_set0 ?_
  refine V.aload_n d_World_init_81 rfl ?_
  refine V.new d_World_init_82 nk_World_43 (by omega) (by omega) ?_
  refine V.eqH (ov_new rfl) ?_
  refine V.dup rfl d_World_init_85 ?_
  refine V.bipush_ (nI 36) d_World_init_86 (by decide +kernel) ?_
  refine V.callI1 d_World_init_88 k_World_45_Row_initI (Nat.le_of_ble_eq_true rfl) (by omega) (by omega) (c_Row_init (by decide) ?_)
  refine V.eqH (ov_cat rfl) ?_
  refine V.putF d_World_init_91 f_World_55_World fF_World_World_13 rfl (fun _ => rfl) (fun _ => rfl) (ov_get (k := 0) rfl rfl) (Nat.le_of_ble_eq_true rfl) ?_
  refine V.eqH ov_set0 ?_
  refine V.aload_n d_World_init_94 rfl ?_
  refine V.aload_n d_World_init_95 rfl ?_
  refine V.putF d_World_init_96 f_World_58_World fF_World_World_0 rfl (fun _ => rfl) (fun _ => rfl) (ov_get (k := 0) rfl rfl) (Nat.le_of_ble_eq_true rfl) ?_
  refine V.eqH ov_set0 ?_
  refine V.aload_n d_World_init_99 rfl ?_
  refine V.aload_n d_World_init_100 rfl ?_
  refine V.putF d_World_init_101 f_World_62_World fF_World_World_1 rfl (fun _ => rfl) (fun _ => rfl) (ov_get (k := 0) rfl rfl) (Nat.le_of_ble_eq_true rfl) ?_
  refine V.eqH ov_set0 ?_
  refine V.iconst_ (nI 0) d_World_init_104 (by decide +kernel) ?_
  refine V.istore_n d_World_init_105 (by decide) ?_
  refine V.lc (ls' := [(0, .ref b), (1, .ref c1), (2, .ref c2), (3, .int (nI 0))]) rfl ?_
  refine V.eqH (h' := ov g b (wdv b c1 c2 :: (wl b (tff b 0) (hst 0) (pcs 0).1 (pcs 0).2 ++ tlc 0))) (by rw [← tff_0]; rfl) ?_
  refine up_to (G := fun k => V l M_World_init (d + 2) 16 178 106 [(0, .ref b), (1, .ref c1), (2, .ref c2), (3, .int (nI k))] [] (b + 9 + k) (ov g b (wdv b c1 c2 :: (wl b (tff b k) (hst 0) (pcs 0).1 (pcs 0).2 ++ tlc k))) (8 + k) (114 + 8 * k) Q) (8) ?_ (fun k hk hn => ?_) 0 (by omega)
  · skip
    refine V.iload_n d_World_init_106 rfl ?_
    refine V.bipush_ (nI 8) d_World_init_107 (by decide +kernel) ?_
    refine V.geN (tgt := 133) d_World_init_109 (by decide) (by omega) (by omega) (fun c_109 => ?_) (fun c_109 => ?_)
    · skip
      refine V.iconst_ (nI 0) d_World_init_133 (by decide +kernel) ?_
      refine V.istore_n d_World_init_134 (by decide) ?_
      refine V.lc (ls' := [(0, .ref b), (1, .ref c1), (2, .ref c2), (3, .int (nI 0))]) rfl ?_
      refine up_to (G := fun k => V l M_World_init (d + 2) 16 178 135 [(0, .ref b), (1, .ref c1), (2, .ref c2), (3, .int (nI k))] [] (b + 17) (ov g b (wdv b c1 c2 :: (wl b (tff b 8) (hst k) (pcs k).1 (pcs k).2 ++ tlc 8))) 16 178 Q) (36) ?_ (fun k hk hn => ?_) 0 (by omega)
      · skip
        refine V.iload_n d_World_init_135 rfl ?_
        refine V.bipush_ (nI 36) d_World_init_136 (by decide +kernel) ?_
        refine V.geN (tgt := 174) d_World_init_138 (by decide) (by omega) (by omega) (fun c_138 => ?_) (fun c_138 => ?_)
        · skip
          refine V.vret d_World_init_174 rfl (by omega) (by omega) ?_
          exact hQ
        · skip
          exact absurd c_138 (by omega)
      · skip
        refine V.iload_n d_World_init_135 rfl ?_
        refine V.bipush_ (nI 36) d_World_init_136 (by decide +kernel) ?_
        refine V.geN (tgt := 174) d_World_init_138 (by decide) (by omega) (by omega) (fun c_138 => ?_) (fun c_138 => ?_)
        · skip
          exact absurd c_138 (by omega)
        · skip
          refine V.iload_n d_World_init_141 rfl ?_
          refine V.bipush_ (nI 6) d_World_init_142 (by decide +kernel) ?_
          refine V.divN d_World_init_144 (by omega) (by omega) (by omega) ?_
          refine V.iload_n d_World_init_145 rfl ?_
          refine V.bipush_ (nI 6) d_World_init_146 (by decide +kernel) ?_
          refine V.remN d_World_init_148 (by omega) (by omega) (by omega) ?_
          refine V.eqN (tgt := 168) d_World_init_149 (by decide) (by omega) (by omega) (fun c_149 => ?_) (fun c_149 => ?_)
          · skip
            refine V.incN d_World_init_168 rfl (by decide) ?_
            refine V.goto (tgt := 135) d_World_init_171 (by decide) ?_
            rw [hst_e c_149, pcs_e c_149]
            exact V.lc rfl hn
          · skip
            refine V.aload_n d_World_init_152 rfl ?_
            refine V.get d_World_init_153 f_World_9_World (ov_get (k := 0) rfl rfl) rfl ?_
            refine V.iload_n d_World_init_156 rfl ?_
            refine V.bipush_ (nI 20) d_World_init_157 (by decide +kernel) ?_
            refine V.iastN d_World_init_159 (ov_get (k := 1) rfl rfl) (by omega) (by omega) ?_
            refine V.eqH wl_h ?_
            refine V.aload_n d_World_init_160 rfl ?_
            refine V.get d_World_init_161 f_World_55_World (ov_get (k := 0) rfl rfl) rfl ?_
            refine V.iload_n d_World_init_164 rfl ?_
            refine V.callV1 d_World_init_165 k_World_68_Row_add_RowV (ov_get (k := 7) rfl rfl) (Nat.le_of_ble_eq_true rfl) (by omega) (by omega) (c_Row_addG (N := 36) (sz := (pcs k).1) (ov_get (k := 7) rfl rfl) (ov_get (k := 8) rfl rfl) (by omega) (Nat.lt_of_le_of_lt (pcs_le k) (by omega)) (by decide) ?_)
            refine V.eqH wl_p ?_
            refine V.incN d_World_init_168 rfl (by decide) ?_
            refine V.goto (tgt := 135) d_World_init_171 (by decide) ?_
            rw [hst_s c_149, show (pcs k).1 + 1 = (pcs (k + 1)).1 by rw [pcs_s c_149], show upd (pcs k).2 (pcs k).1 (nI k) = (pcs (k + 1)).2 by rw [pcs_s c_149]]
            exact V.lc rfl hn
    · skip
      exact absurd c_109 (by omega)
  · skip
    refine V.iload_n d_World_init_106 rfl ?_
    refine V.bipush_ (nI 8) d_World_init_107 (by decide +kernel) ?_
    refine V.geN (tgt := 133) d_World_init_109 (by decide) (by omega) (by omega) (fun c_109 => ?_) (fun c_109 => ?_)
    · skip
      exact absurd c_109 (by omega)
    · skip
      refine V.aload_n d_World_init_112 rfl ?_
      refine V.get d_World_init_113 f_World_20_World (ov_get (k := 0) rfl rfl) rfl ?_
      refine V.iload_n d_World_init_116 rfl ?_
      refine V.new d_World_init_117 nk_World_18 (by omega) (by omega) ?_
      refine V.dup rfl d_World_init_120 ?_
      refine V.iconst_ (nI 0) d_World_init_121 (by decide +kernel) ?_
      refine V.iload_n d_World_init_122 rfl ?_
      refine V.callI2 d_World_init_123 k_World_65_Tree_initI (Nat.le_of_ble_eq_true rfl) (by omega) (by omega) (c_Tree_init_0 up_s ?_)
      rw [up_uu]
      refine V.aast d_World_init_126 (Or.inl ⟨rfl, rfl⟩) ((up_n (by omega)).trans (ov_get (k := 3) rfl rfl)) up_s rfl (Or.inl rfl) (vp_in_nI (by omega) (by omega)) ?_
      rw [icl (by omega)]
      refine V.eqH (wl_t (tlc_len k)) ?_
      refine V.eqH (h' := ov g b (wdv b c1 c2 :: (wl b (tff b (k + 1)) (hst 0) (pcs 0).1 (pcs 0).2 ++ tlc (k + 1)))) (by rw [tff_s, tlc_s]; rfl) ?_
      refine V.incN d_World_init_127 rfl (by decide) ?_
      refine V.goto (tgt := 106) d_World_init_130 (by decide) ?_
      exact V.lc rfl hn
