def wrt (f : Nat → Int32) : Nat → List Nat → Nat → Int32
  | _, [] => f
  | m, b :: L => wrt (upd f m (nI b)) (m + 1) L
theorem wrt_cat (f : Nat → Int32) : ∀ (a b : List Nat) (m : Nat), wrt f m (a ++ b) = wrt (wrt f m a) (m + a.length) b := by
  intro a
  induction a generalizing f with
  | nil => intro b m; rfl
  | cons t a ih =>
    intro b m
    show wrt (upd f m (nI t)) (m + 1) (a ++ b) = wrt (wrt (upd f m (nI t)) (m + 1) a) (m + (a.length + 1)) b
    rw [ih (upd f m (nI t)) b (m + 1), show m + 1 + a.length = m + (a.length + 1) by omega]
/-- the trace's cells behind a list of bodies -/
def trA (A : Nat → Nat → Int32) (tm : Nat) (L : List Nat) : Nat → Nat → Int32 := uA A 10 (wrt (A 10) tm L)
def trS (S : Nat → Int32) (tm : Nat) (L : List Nat) : Nat → Int32 := uS S 20 (nI (tm + L.length))
theorem trA_cat {A : Nat → Nat → Int32} {tm m : Nat} {a b : List Nat} (hm : m = tm + a.length) : trA (trA A tm a) m b = trA A tm (a ++ b) := by
  unfold trA
  rw [uA_s, uA_uu, wrt_cat, hm]
theorem trS_cat {S : Nat → Int32} {tm m : Nat} {a b : List Nat} (hm : m = tm + a.length) : trS (trS S tm a) m b = trS S tm (a ++ b) := by
  unfold trS
  rw [uS_uu, List.length_append, hm, Nat.add_assoc]
def crv (k : Nat) (w x : Int32) : Int32 := if k = 1 ∨ k = 4 then (x + w) * nI 3 else x + w
def crl (k : Nat) : List Nat := if k = 1 ∨ k = 4 then [20, 10] else [10]
def lnv (k : Nat) (m w x : Int32) : Int32 := if k = 3 then -(x - m) else if k = 6 then (-(x - m)) ^^^ w else x - m
def lnl (k : Nat) : List Nat := if k = 3 then [40, 12] else if k = 6 then [70, 40, 12] else [12]
def stv (k0 : Nat) (m w : Int32) (k : Nat) (x : Int32) : Int32 := if k = 2 then crv k0 w x * nI 2 - lnv k0 m w (nI 1) else if k = 5 then crv k0 w (x + nI 1) * nI 2 - lnv k0 m w (nI 1) else crv k0 w x * nI 2
def stl (k0 k : Nat) : List Nat := if k = 2 then [30] ++ ([11] ++ crl k0) ++ lnl k0 else if k = 5 then [60] ++ ([30] ++ ([11] ++ crl k0) ++ lnl k0) else [11] ++ crl k0
def tlv (k0 : Nat) (m w : Int32) (k : Nat) (x : Int32) : Int32 := if k = 4 then (stv k0 m w k0 x ^^^ lnv k0 m w x) - crv k0 w (nI 2) else if k = 6 then stv k0 m w k0 x - (stv k0 m w k0 x ^^^ lnv k0 m w x) else stv k0 m w k0 x ^^^ lnv k0 m w x
def tll (k0 k : Nat) : List Nat := if k = 4 then [50] ++ ([13] ++ stl k0 k0 ++ lnl k0) ++ crl k0 else if k = 6 then [71] ++ stl k0 k0 ++ ([13] ++ stl k0 k0 ++ lnl k0) else [13] ++ stl k0 k0 ++ lnl k0
theorem len_cr : ∀ k, k ≤ 6 → (crl k).length ≤ 2 := by decide
theorem len_ln : ∀ k, k ≤ 6 → (lnl k).length ≤ 3 := by decide
theorem len_st : ∀ k0, k0 ≤ 6 → ∀ k, k ≤ 6 → (stl k0 k).length ≤ 8 := by decide
theorem len_st0 : ∀ k0, k0 ≤ 6 → (stl k0 0).length ≤ 3 ∧ (stl k0 1).length ≤ 3 ∧ (stl k0 3).length ≤ 3 ∧ (stl k0 2).length ≤ 7 := by decide
theorem len_tl0 : ∀ k0, k0 ≤ 6 → (tll k0 0).length ≤ 12 ∧ (tll k0 1).length ≤ 12 ∧ (tll k0 3).length ≤ 12 := by decide
theorem trS_20 {S : Nat → Int32} {tm m : Nat} {L : List Nat} (hm : m = tm + L.length) : trS S tm L 20 = nI m := by unfold trS; rw [uS_s, hm]
theorem trS_n {S : Nat → Int32} {tm j : Nat} {L : List Nat} (hj : j ≠ 20) : trS S tm L j = S j := uS_n hj
abbrev M_Mo_ran : MD := (⟨"FelledByNamesModel", "ran", "(I)V"⟩, prog_14_method_71_code, 2, none, fun _ => True)
theorem d_Mo_ran_0 : decode prog_14_method_71_code 0 = .ok (.aload_n 0, 1) := by decide +kernel
theorem d_Mo_ran_1 : decode prog_14_method_71_code 1 = .ok (.getfield 251, 3) := by decide +kernel
theorem d_Mo_ran_4 : decode prog_14_method_71_code 4 = .ok (.bipush 40, 2) := by decide +kernel
theorem d_Mo_ran_6 : decode prog_14_method_71_code 6 = .ok (.if_icmp .ge 23, 3) := by decide +kernel
theorem d_Mo_ran_29 : decode prog_14_method_71_code 29 = .ok (.return_, 1) := by decide +kernel
theorem d_Mo_ran_9 : decode prog_14_method_71_code 9 = .ok (.aload_n 0, 1) := by decide +kernel
theorem d_Mo_ran_10 : decode prog_14_method_71_code 10 = .ok (.getfield 40, 3) := by decide +kernel
theorem d_Mo_ran_13 : decode prog_14_method_71_code 13 = .ok (.aload_n 0, 1) := by decide +kernel
theorem d_Mo_ran_14 : decode prog_14_method_71_code 14 = .ok (.getfield 251, 3) := by decide +kernel
theorem d_Mo_ran_17 : decode prog_14_method_71_code 17 = .ok (.iload_n 1, 1) := by decide +kernel
theorem d_Mo_ran_18 : decode prog_14_method_71_code 18 = .ok (.iastore, 1) := by decide +kernel
theorem d_Mo_ran_19 : decode prog_14_method_71_code 19 = .ok (.aload_n 0, 1) := by decide +kernel
theorem d_Mo_ran_20 : decode prog_14_method_71_code 20 = .ok (.dup, 1) := by decide +kernel
theorem d_Mo_ran_21 : decode prog_14_method_71_code 21 = .ok (.getfield 251, 3) := by decide +kernel
theorem d_Mo_ran_24 : decode prog_14_method_71_code 24 = .ok (.iconst 1, 1) := by decide +kernel
theorem d_Mo_ran_25 : decode prog_14_method_71_code 25 = .ok (.iadd, 1) := by decide +kernel
theorem d_Mo_ran_26 : decode prog_14_method_71_code 26 = .ok (.putfield 251, 3) := by decide +kernel
theorem fp_Mo_20 : fpk 5 20 (.int) := ⟨_, _, _, rfl, rfl, by decide +kernel⟩
set_option maxRecDepth 100000 in
theorem c_Mo_ran {b tm : Nat} {l : Launch} {d q n : Nat} {D : Nat → Int32} {A : Nat → Nat → Int32} {S : Nat → Int32} {h0 : HP} {Q : QT} (htm : tm < 40) (et : S 20 = nI tm) (hQ : Q none n (mo q D (trA A tm [b]) (trS S tm [b]) h0)) : Ct l M_Mo_ran d 0 0 [.ref q, .int (nI b)] n (mo q D A S h0) Q := by
  refine Ct.of (fun _ => trivial) (by decide) (Nat.le_of_ble_eq_true rfl) ?_
  refine V.aload_n d_Mo_ran_0 rfl ?_
  refine V.get d_Mo_ran_1 f_Mo_251_Mo mo_o rfl ?_
  refine V.top et ?_
  refine V.bipush_ (nI 40) d_Mo_ran_4 (by decide +kernel) ?_
  refine V.geN (tgt := 29) d_Mo_ran_6 (by decide) (by omega) (by omega) (fun c_6 => ?_) (fun c_6 => ?_)
  · skip
    refine V.vret d_Mo_ran_29 rfl (Nat.le_of_ble_eq_true rfl) (Nat.le_of_ble_eq_true rfl) ?_
    first | exact hQ | exact absurd c_6 (by omega)
  · skip
    refine V.aload_n d_Mo_ran_9 rfl ?_
    refine V.get d_Mo_ran_10 f_Mo_40_Mo mo_o rfl ?_
    refine V.aload_n d_Mo_ran_13 rfl ?_
    refine V.get d_Mo_ran_14 f_Mo_251_Mo mo_o rfl ?_
    refine V.top et ?_
    refine V.iload_n d_Mo_ran_17 rfl ?_
    refine V.msta 10 (by decide) (by decide) d_Mo_ran_18 (by first | omega | (show _ < 40; omega)) ?_
    refine V.aload_n d_Mo_ran_19 rfl ?_
    refine V.dup rfl d_Mo_ran_20 ?_
    refine V.get d_Mo_ran_21 f_Mo_251_Mo mo_o rfl ?_
    refine V.top et ?_
    refine V.iconst_ (nI 1) d_Mo_ran_24 (by decide +kernel) ?_
    refine V.addN d_Mo_ran_25 ?_
    refine V.mput d_Mo_ran_26 f_Mo_251_Mo fp_Mo_20 rfl (by decide) ?_
    refine V.vret d_Mo_ran_29 rfl (Nat.le_of_ble_eq_true rfl) (Nat.le_of_ble_eq_true rfl) ?_
    first | exact hQ | exact absurd c_6 (by omega)
abbrev M_Mo_creaksBy : MD := (⟨"FelledByNamesModel", "creaksBy", "(II)I"⟩, prog_14_method_72_code, 3, (some .int), fun _ => True)
theorem d_Mo_creaksBy_0 : decode prog_14_method_72_code 0 = .ok (.iload_n 1, 1) := by decide +kernel
theorem d_Mo_creaksBy_1 : decode prog_14_method_72_code 1 = .ok (.lookupswitch 58 #[(0, 27), (1, 40)], 27) := by decide +kernel
theorem d_Mo_creaksBy_28 : decode prog_14_method_72_code 28 = .ok (.aload_n 0, 1) := by decide +kernel
theorem d_Mo_creaksBy_29 : decode prog_14_method_72_code 29 = .ok (.bipush 10, 2) := by decide +kernel
theorem d_Mo_creaksBy_31 : decode prog_14_method_72_code 31 = .ok (.invokevirtual 254, 3) := by decide +kernel
theorem kB_Mo_ran : kB M_Mo_ran 1 := ⟨tm 15 (by decide +kernel) rfl, tm 1437 (by decide +kernel) rfl, ⟨by decide, by decide, by decide +kernel⟩, by decide⟩
theorem k_Mo_254_Mo_ran_MoV : kV "FelledByNamesModel" 254 5 M_Mo_ran 1 := ⟨kB_Mo_ran, tm 1434 (by decide +kernel) rfl, tm 1436 (by decide +kernel) rfl, tp 46 (by decide +kernel) rfl, _, rfl, rfl⟩
theorem d_Mo_creaksBy_34 : decode prog_14_method_72_code 34 = .ok (.iload_n 2, 1) := by decide +kernel
theorem d_Mo_creaksBy_35 : decode prog_14_method_72_code 35 = .ok (.aload_n 0, 1) := by decide +kernel
theorem d_Mo_creaksBy_36 : decode prog_14_method_72_code 36 = .ok (.getfield 257, 3) := by decide +kernel
theorem f_Mo_257_Mo : fok "FelledByNamesModel" 257 5 21 := ⟨R_Mo, F_Mo, 26, "FelledByNamesModel", rfl, i_Mo, by decide, tm 1080 (by decide +kernel) rfl, Or.inl rfl, t_Mo, t_Mo_ok, n_Mo⟩
theorem d_Mo_creaksBy_39 : decode prog_14_method_72_code 39 = .ok (.iadd, 1) := by decide +kernel
theorem d_Mo_creaksBy_40 : decode prog_14_method_72_code 40 = .ok (.ireturn, 1) := by decide +kernel
set_option maxRecDepth 100000 in
theorem c_Mo_creaksBy_0 {i tm : Nat} {x : Int32} {l : Launch} {d q n : Nat} {D : Nat → Int32} {A : Nat → Nat → Int32} {S : Nat → Int32} {h0 : HP} {Q : QT} (hi : i < 8) (ew : S 21 = nI i) (et : S 20 = nI tm) (hb : tm + 1 ≤ 40) (hQ : Q (some (.int (crv 0 (nI i) x))) n (mo q D (trA A tm (crl 0)) (trS S tm (crl 0)) h0)) : Ct l M_Mo_creaksBy (d + 1) 0 0 [.ref q, .int (nI 0), .int x] n (mo q D A S h0) Q := by
  refine Ct.of (fun _ => trivial) (by decide) (Nat.le_of_ble_eq_true rfl) ?_
  refine V.iload_n d_Mo_creaksBy_0 rfl ?_
  refine V.lookup (tgt := 28) (off := 27) d_Mo_creaksBy_1 (by decide +kernel) (by decide +kernel) (by decide) ?_
  refine V.aload_n d_Mo_creaksBy_28 rfl ?_
  refine V.bipush_ (nI 10) d_Mo_creaksBy_29 (by decide +kernel) ?_
  refine V.callV1 d_Mo_creaksBy_31 k_Mo_254_Mo_ran_MoV mo_o (Nat.le_of_ble_eq_true rfl) (by omega) (by omega) (c_Mo_ran (tm := tm) (by first | omega | (simp only [List.length_append, List.length_cons, List.length_nil]; omega)) et ?_)
  refine V.iload_n d_Mo_creaksBy_34 rfl ?_
  refine V.aload_n d_Mo_creaksBy_35 rfl ?_
  refine V.get d_Mo_creaksBy_36 f_Mo_257_Mo mo_o rfl ?_
  first | rw [trS_n (by decide), ew] | rw [ew]
  refine V.iadd d_Mo_creaksBy_39 ?_
  refine V.iret d_Mo_creaksBy_40 rfl (Nat.le_of_ble_eq_true rfl) (Nat.le_of_ble_eq_true rfl) ?_
  exact hQ
theorem d_Mo_creaksBy_41 : decode prog_14_method_72_code 41 = .ok (.aload_n 0, 1) := by decide +kernel
theorem d_Mo_creaksBy_42 : decode prog_14_method_72_code 42 = .ok (.bipush 20, 2) := by decide +kernel
theorem d_Mo_creaksBy_44 : decode prog_14_method_72_code 44 = .ok (.invokevirtual 254, 3) := by decide +kernel
theorem d_Mo_creaksBy_47 : decode prog_14_method_72_code 47 = .ok (.aload_n 0, 1) := by decide +kernel
theorem d_Mo_creaksBy_48 : decode prog_14_method_72_code 48 = .ok (.iconst 1, 1) := by decide +kernel
theorem d_Mo_creaksBy_49 : decode prog_14_method_72_code 49 = .ok (.invokestatic 214, 3) := by decide +kernel
theorem d_Mo_creaksBy_52 : decode prog_14_method_72_code 52 = .ok (.iload_n 2, 1) := by decide +kernel
theorem d_Mo_creaksBy_53 : decode prog_14_method_72_code 53 = .ok (.invokevirtual 260, 3) := by decide +kernel
theorem kB_Mo_creaksBy : kB M_Mo_creaksBy 2 := ⟨tm 15 (by decide +kernel) rfl, tm 1433 (by decide +kernel) rfl, ⟨by decide, by decide, by decide +kernel⟩, by decide⟩
theorem k_Mo_260_Mo_creaksBy_MoV : kV "FelledByNamesModel" 260 5 M_Mo_creaksBy 2 := ⟨kB_Mo_creaksBy, tm 1430 (by decide +kernel) rfl, tm 1432 (by decide +kernel) rfl, tp 45 (by decide +kernel) rfl, _, rfl, rfl⟩
theorem d_Mo_creaksBy_56 : decode prog_14_method_72_code 56 = .ok (.iconst 3, 1) := by decide +kernel
theorem d_Mo_creaksBy_57 : decode prog_14_method_72_code 57 = .ok (.imul, 1) := by decide +kernel
theorem d_Mo_creaksBy_58 : decode prog_14_method_72_code 58 = .ok (.ireturn, 1) := by decide +kernel
set_option maxRecDepth 100000 in
theorem c_Mo_creaksBy_1 {i tm : Nat} {x : Int32} {l : Launch} {d q n : Nat} {D : Nat → Int32} {A : Nat → Nat → Int32} {S : Nat → Int32} {h0 : HP} {Q : QT} (hi : i < 8) (ew : S 21 = nI i) (et : S 20 = nI tm) (hb : tm + 2 ≤ 40) (hQ : Q (some (.int (crv 1 (nI i) x))) n (mo q D (trA A tm (crl 1)) (trS S tm (crl 1)) h0)) : Ct l M_Mo_creaksBy (d + 2) 0 0 [.ref q, .int (nI 1), .int x] n (mo q D A S h0) Q := by
  refine Ct.of (fun _ => trivial) (by decide) (Nat.le_of_ble_eq_true rfl) ?_
  refine V.iload_n d_Mo_creaksBy_0 rfl ?_
  refine V.lookup (tgt := 41) (off := 40) d_Mo_creaksBy_1 (by decide +kernel) (by decide +kernel) (by decide) ?_
  refine V.aload_n d_Mo_creaksBy_41 rfl ?_
  refine V.bipush_ (nI 20) d_Mo_creaksBy_42 (by decide +kernel) ?_
  refine V.callV1 d_Mo_creaksBy_44 k_Mo_254_Mo_ran_MoV mo_o (Nat.le_of_ble_eq_true rfl) (by omega) (by omega) (c_Mo_ran (tm := tm) (by first | omega | (simp only [List.length_append, List.length_cons, List.length_nil]; omega)) et ?_)
  refine V.aload_n d_Mo_creaksBy_47 rfl ?_
  refine V.iconst_ (nI 1) d_Mo_creaksBy_48 (by decide +kernel) ?_
  refine V.callS1 d_Mo_creaksBy_49 k_Mo_214_Mo_aboveS (Nat.le_of_ble_eq_true rfl) (by omega) (by omega) (c_Mo_above (by omega) ?_)
  refine V.iload_n d_Mo_creaksBy_52 rfl ?_
  refine V.callV2 d_Mo_creaksBy_53 k_Mo_260_Mo_creaksBy_MoV mo_o (Nat.le_of_ble_eq_true rfl) (by omega) (by omega) (c_Mo_creaksBy_0 (tm := (tm + ([20]).length)) hi (by rw [trS_n (by decide)]; exact ew) (trS_20 rfl) (by first | omega | (simp only [List.length_append, List.length_cons, List.length_nil]; omega)) ?_)
  rw [trA_cat (by simp only [List.length_append, List.length_cons, List.length_nil]; try omega), trS_cat (by simp only [List.length_append, List.length_cons, List.length_nil]; try omega)]
  refine V.iconst_ (nI 3) d_Mo_creaksBy_56 (by decide +kernel) ?_
  refine V.imul d_Mo_creaksBy_57 ?_
  refine V.iret d_Mo_creaksBy_58 rfl (Nat.le_of_ble_eq_true rfl) (Nat.le_of_ble_eq_true rfl) ?_
  exact hQ
theorem d_Mo_creaksBy_59 : decode prog_14_method_72_code 59 = .ok (.aload_n 0, 1) := by decide +kernel
theorem d_Mo_creaksBy_60 : decode prog_14_method_72_code 60 = .ok (.iload_n 1, 1) := by decide +kernel
theorem d_Mo_creaksBy_61 : decode prog_14_method_72_code 61 = .ok (.invokestatic 214, 3) := by decide +kernel
theorem d_Mo_creaksBy_64 : decode prog_14_method_72_code 64 = .ok (.iload_n 2, 1) := by decide +kernel
theorem d_Mo_creaksBy_65 : decode prog_14_method_72_code 65 = .ok (.invokevirtual 260, 3) := by decide +kernel
theorem d_Mo_creaksBy_68 : decode prog_14_method_72_code 68 = .ok (.ireturn, 1) := by decide +kernel
set_option maxRecDepth 100000 in
theorem c_Mo_creaksBy_2 {i tm : Nat} {x : Int32} {l : Launch} {d q n : Nat} {D : Nat → Int32} {A : Nat → Nat → Int32} {S : Nat → Int32} {h0 : HP} {Q : QT} (hi : i < 8) (ew : S 21 = nI i) (et : S 20 = nI tm) (hb : tm + 1 ≤ 40) (hQ : Q (some (.int (crv 2 (nI i) x))) n (mo q D (trA A tm (crl 2)) (trS S tm (crl 2)) h0)) : Ct l M_Mo_creaksBy (d + 2) 0 0 [.ref q, .int (nI 2), .int x] n (mo q D A S h0) Q := by
  refine Ct.of (fun _ => trivial) (by decide) (Nat.le_of_ble_eq_true rfl) ?_
  refine V.iload_n d_Mo_creaksBy_0 rfl ?_
  refine V.lookup (tgt := 59) (off := 58) d_Mo_creaksBy_1 (by decide +kernel) (by decide +kernel) (by decide) ?_
  refine V.aload_n d_Mo_creaksBy_59 rfl ?_
  refine V.iload_n d_Mo_creaksBy_60 rfl ?_
  refine V.callS1 d_Mo_creaksBy_61 k_Mo_214_Mo_aboveS (Nat.le_of_ble_eq_true rfl) (by omega) (by omega) (c_Mo_above (by omega) ?_)
  refine V.iload_n d_Mo_creaksBy_64 rfl ?_
  refine V.callV2 d_Mo_creaksBy_65 k_Mo_260_Mo_creaksBy_MoV mo_o (Nat.le_of_ble_eq_true rfl) (by omega) (by omega) (c_Mo_creaksBy_0 (tm := tm) hi ew et (by first | omega | (simp only [List.length_append, List.length_cons, List.length_nil]; omega)) ?_)
  refine V.iret d_Mo_creaksBy_68 rfl (Nat.le_of_ble_eq_true rfl) (Nat.le_of_ble_eq_true rfl) ?_
  exact hQ
set_option maxRecDepth 100000 in
theorem c_Mo_creaksBy_3 {i tm : Nat} {x : Int32} {l : Launch} {d q n : Nat} {D : Nat → Int32} {A : Nat → Nat → Int32} {S : Nat → Int32} {h0 : HP} {Q : QT} (hi : i < 8) (ew : S 21 = nI i) (et : S 20 = nI tm) (hb : tm + 1 ≤ 40) (hQ : Q (some (.int (crv 3 (nI i) x))) n (mo q D (trA A tm (crl 3)) (trS S tm (crl 3)) h0)) : Ct l M_Mo_creaksBy (d + 2) 0 0 [.ref q, .int (nI 3), .int x] n (mo q D A S h0) Q := by
  refine Ct.of (fun _ => trivial) (by decide) (Nat.le_of_ble_eq_true rfl) ?_
  refine V.iload_n d_Mo_creaksBy_0 rfl ?_
  refine V.lookup (tgt := 59) (off := 58) d_Mo_creaksBy_1 (by decide +kernel) (by decide +kernel) (by decide) ?_
  refine V.aload_n d_Mo_creaksBy_59 rfl ?_
  refine V.iload_n d_Mo_creaksBy_60 rfl ?_
  refine V.callS1 d_Mo_creaksBy_61 k_Mo_214_Mo_aboveS (Nat.le_of_ble_eq_true rfl) (by omega) (by omega) (c_Mo_above (by omega) ?_)
  refine V.iload_n d_Mo_creaksBy_64 rfl ?_
  refine V.callV2 d_Mo_creaksBy_65 k_Mo_260_Mo_creaksBy_MoV mo_o (Nat.le_of_ble_eq_true rfl) (by omega) (by omega) (c_Mo_creaksBy_0 (tm := tm) hi ew et (by first | omega | (simp only [List.length_append, List.length_cons, List.length_nil]; omega)) ?_)
  refine V.iret d_Mo_creaksBy_68 rfl (Nat.le_of_ble_eq_true rfl) (Nat.le_of_ble_eq_true rfl) ?_
  exact hQ
set_option maxRecDepth 100000 in
theorem c_Mo_creaksBy_4 {i tm : Nat} {x : Int32} {l : Launch} {d q n : Nat} {D : Nat → Int32} {A : Nat → Nat → Int32} {S : Nat → Int32} {h0 : HP} {Q : QT} (hi : i < 8) (ew : S 21 = nI i) (et : S 20 = nI tm) (hb : tm + 2 ≤ 40) (hQ : Q (some (.int (crv 4 (nI i) x))) n (mo q D (trA A tm (crl 4)) (trS S tm (crl 4)) h0)) : Ct l M_Mo_creaksBy (d + 3) 0 0 [.ref q, .int (nI 4), .int x] n (mo q D A S h0) Q := by
  refine Ct.of (fun _ => trivial) (by decide) (Nat.le_of_ble_eq_true rfl) ?_
  refine V.iload_n d_Mo_creaksBy_0 rfl ?_
  refine V.lookup (tgt := 59) (off := 58) d_Mo_creaksBy_1 (by decide +kernel) (by decide +kernel) (by decide) ?_
  refine V.aload_n d_Mo_creaksBy_59 rfl ?_
  refine V.iload_n d_Mo_creaksBy_60 rfl ?_
  refine V.callS1 d_Mo_creaksBy_61 k_Mo_214_Mo_aboveS (Nat.le_of_ble_eq_true rfl) (by omega) (by omega) (c_Mo_above (by omega) ?_)
  refine V.iload_n d_Mo_creaksBy_64 rfl ?_
  refine V.callV2 d_Mo_creaksBy_65 k_Mo_260_Mo_creaksBy_MoV mo_o (Nat.le_of_ble_eq_true rfl) (by omega) (by omega) (c_Mo_creaksBy_1 (tm := tm) hi ew et (by first | omega | (simp only [List.length_append, List.length_cons, List.length_nil]; omega)) ?_)
  refine V.iret d_Mo_creaksBy_68 rfl (Nat.le_of_ble_eq_true rfl) (Nat.le_of_ble_eq_true rfl) ?_
  exact hQ
set_option maxRecDepth 100000 in
theorem c_Mo_creaksBy_5 {i tm : Nat} {x : Int32} {l : Launch} {d q n : Nat} {D : Nat → Int32} {A : Nat → Nat → Int32} {S : Nat → Int32} {h0 : HP} {Q : QT} (hi : i < 8) (ew : S 21 = nI i) (et : S 20 = nI tm) (hb : tm + 1 ≤ 40) (hQ : Q (some (.int (crv 5 (nI i) x))) n (mo q D (trA A tm (crl 5)) (trS S tm (crl 5)) h0)) : Ct l M_Mo_creaksBy (d + 3) 0 0 [.ref q, .int (nI 5), .int x] n (mo q D A S h0) Q := by
  refine Ct.of (fun _ => trivial) (by decide) (Nat.le_of_ble_eq_true rfl) ?_
  refine V.iload_n d_Mo_creaksBy_0 rfl ?_
  refine V.lookup (tgt := 59) (off := 58) d_Mo_creaksBy_1 (by decide +kernel) (by decide +kernel) (by decide) ?_
  refine V.aload_n d_Mo_creaksBy_59 rfl ?_
  refine V.iload_n d_Mo_creaksBy_60 rfl ?_
  refine V.callS1 d_Mo_creaksBy_61 k_Mo_214_Mo_aboveS (Nat.le_of_ble_eq_true rfl) (by omega) (by omega) (c_Mo_above (by omega) ?_)
  refine V.iload_n d_Mo_creaksBy_64 rfl ?_
  refine V.callV2 d_Mo_creaksBy_65 k_Mo_260_Mo_creaksBy_MoV mo_o (Nat.le_of_ble_eq_true rfl) (by omega) (by omega) (c_Mo_creaksBy_2 (tm := tm) hi ew et (by first | omega | (simp only [List.length_append, List.length_cons, List.length_nil]; omega)) ?_)
  refine V.iret d_Mo_creaksBy_68 rfl (Nat.le_of_ble_eq_true rfl) (Nat.le_of_ble_eq_true rfl) ?_
  exact hQ
set_option maxRecDepth 100000 in
theorem c_Mo_creaksBy_6 {i tm : Nat} {x : Int32} {l : Launch} {d q n : Nat} {D : Nat → Int32} {A : Nat → Nat → Int32} {S : Nat → Int32} {h0 : HP} {Q : QT} (hi : i < 8) (ew : S 21 = nI i) (et : S 20 = nI tm) (hb : tm + 1 ≤ 40) (hQ : Q (some (.int (crv 6 (nI i) x))) n (mo q D (trA A tm (crl 6)) (trS S tm (crl 6)) h0)) : Ct l M_Mo_creaksBy (d + 3) 0 0 [.ref q, .int (nI 6), .int x] n (mo q D A S h0) Q := by
  refine Ct.of (fun _ => trivial) (by decide) (Nat.le_of_ble_eq_true rfl) ?_
  refine V.iload_n d_Mo_creaksBy_0 rfl ?_
  refine V.lookup (tgt := 59) (off := 58) d_Mo_creaksBy_1 (by decide +kernel) (by decide +kernel) (by decide) ?_
  refine V.aload_n d_Mo_creaksBy_59 rfl ?_
  refine V.iload_n d_Mo_creaksBy_60 rfl ?_
  refine V.callS1 d_Mo_creaksBy_61 k_Mo_214_Mo_aboveS (Nat.le_of_ble_eq_true rfl) (by omega) (by omega) (c_Mo_above (by omega) ?_)
  refine V.iload_n d_Mo_creaksBy_64 rfl ?_
  refine V.callV2 d_Mo_creaksBy_65 k_Mo_260_Mo_creaksBy_MoV mo_o (Nat.le_of_ble_eq_true rfl) (by omega) (by omega) (c_Mo_creaksBy_3 (tm := tm) hi ew et (by first | omega | (simp only [List.length_append, List.length_cons, List.length_nil]; omega)) ?_)
  refine V.iret d_Mo_creaksBy_68 rfl (Nat.le_of_ble_eq_true rfl) (Nat.le_of_ble_eq_true rfl) ?_
  exact hQ
theorem c_Mo_creaksBy {i k0 tm : Nat} {x : Int32} {l : Launch} {d q n : Nat} {D : Nat → Int32} {A : Nat → Nat → Int32} {S : Nat → Int32} {h0 : HP} {Q : QT} (hk0 : k0 ≤ 6) (hi : i < 8) (ew : S 21 = nI i) (et : S 20 = nI tm) (hb : tm + 2 ≤ 40) (hQ : Q (some (.int (crv k0 (nI i) x))) n (mo q D (trA A tm (crl k0)) (trS S tm (crl k0)) h0)) : Ct l M_Mo_creaksBy (d + 3) 0 0 [.ref q, .int (nI k0), .int x] n (mo q D A S h0) Q := by
  rcases (show k0 = 0 ∨ k0 = 1 ∨ k0 = 2 ∨ k0 = 3 ∨ k0 = 4 ∨ k0 = 5 ∨ k0 = 6 by omega) with rfl | rfl | rfl | rfl | rfl | rfl | rfl
  · exact c_Mo_creaksBy_0 hi ew et (by omega) hQ
  · exact c_Mo_creaksBy_1 hi ew et (by omega) hQ
  · exact c_Mo_creaksBy_2 hi ew et (by omega) hQ
  · exact c_Mo_creaksBy_3 hi ew et (by omega) hQ
  · exact c_Mo_creaksBy_4 hi ew et (by omega) hQ
  · exact c_Mo_creaksBy_5 hi ew et (by omega) hQ
  · exact c_Mo_creaksBy_6 hi ew et (by omega) hQ
abbrev M_Mo_leansBy : MD := (⟨"FelledByNamesModel", "leansBy", "(II)I"⟩, prog_14_method_74_code, 3, (some .int), fun _ => True)
theorem d_Mo_leansBy_0 : decode prog_14_method_74_code 0 = .ok (.iload_n 1, 1) := by decide +kernel
theorem d_Mo_leansBy_1 : decode prog_14_method_74_code 1 = .ok (.lookupswitch 92 #[(0, 35), (3, 53), (6, 70)], 35) := by decide +kernel
theorem d_Mo_leansBy_36 : decode prog_14_method_74_code 36 = .ok (.aload_n 0, 1) := by decide +kernel
theorem d_Mo_leansBy_37 : decode prog_14_method_74_code 37 = .ok (.bipush 12, 2) := by decide +kernel
theorem d_Mo_leansBy_39 : decode prog_14_method_74_code 39 = .ok (.invokevirtual 254, 3) := by decide +kernel
theorem d_Mo_leansBy_42 : decode prog_14_method_74_code 42 = .ok (.iload_n 2, 1) := by decide +kernel
theorem d_Mo_leansBy_43 : decode prog_14_method_74_code 43 = .ok (.aload_n 0, 1) := by decide +kernel
theorem d_Mo_leansBy_44 : decode prog_14_method_74_code 44 = .ok (.aload_n 0, 1) := by decide +kernel
theorem d_Mo_leansBy_45 : decode prog_14_method_74_code 45 = .ok (.getfield 257, 3) := by decide +kernel
theorem d_Mo_leansBy_48 : decode prog_14_method_74_code 48 = .ok (.iconst 1, 1) := by decide +kernel
theorem d_Mo_leansBy_49 : decode prog_14_method_74_code 49 = .ok (.invokevirtual 158, 3) := by decide +kernel
theorem d_Mo_leansBy_52 : decode prog_14_method_74_code 52 = .ok (.isub, 1) := by decide +kernel
theorem d_Mo_leansBy_53 : decode prog_14_method_74_code 53 = .ok (.ireturn, 1) := by decide +kernel
set_option maxRecDepth 100000 in
theorem c_Mo_leansBy_0 {i tm : Nat} {x : Int32} {l : Launch} {d q n : Nat} {D : Nat → Int32} {A : Nat → Nat → Int32} {S : Nat → Int32} {h0 : HP} {Q : QT} (hi : i < 8) (ew : S 21 = nI i) (et : S 20 = nI tm) (hb : tm + 1 ≤ 40) (hQ : Q (some (.int (lnv 0 (D (50 + 7 * i + 1)) (nI i) x))) n (mo q D (trA A tm (lnl 0)) (trS S tm (lnl 0)) h0)) : Ct l M_Mo_leansBy (d + 1) 0 0 [.ref q, .int (nI 0), .int x] n (mo q D A S h0) Q := by
  refine Ct.of (fun _ => trivial) (by decide) (Nat.le_of_ble_eq_true rfl) ?_
  refine V.iload_n d_Mo_leansBy_0 rfl ?_
  refine V.lookup (tgt := 36) (off := 35) d_Mo_leansBy_1 (by decide +kernel) (by decide +kernel) (by decide) ?_
  refine V.aload_n d_Mo_leansBy_36 rfl ?_
  refine V.bipush_ (nI 12) d_Mo_leansBy_37 (by decide +kernel) ?_
  refine V.callV1 d_Mo_leansBy_39 k_Mo_254_Mo_ran_MoV mo_o (Nat.le_of_ble_eq_true rfl) (by omega) (by omega) (c_Mo_ran (tm := tm) (by first | omega | (simp only [List.length_append, List.length_cons, List.length_nil]; omega)) et ?_)
  refine V.iload_n d_Mo_leansBy_42 rfl ?_
  refine V.aload_n d_Mo_leansBy_43 rfl ?_
  refine V.aload_n d_Mo_leansBy_44 rfl ?_
  refine V.get d_Mo_leansBy_45 f_Mo_257_Mo mo_o rfl ?_
  first | rw [trS_n (by decide), ew] | rw [ew]
  refine V.iconst_ (nI 1) d_Mo_leansBy_48 (by decide +kernel) ?_
  refine V.callV2 d_Mo_leansBy_49 k_Mo_158_Mo_of_MoV mo_o (Nat.le_of_ble_eq_true rfl) (by omega) (by omega) (c_Mo_of (by omega) ?_)
  refine V.isub d_Mo_leansBy_52 ?_
  refine V.iret d_Mo_leansBy_53 rfl (Nat.le_of_ble_eq_true rfl) (Nat.le_of_ble_eq_true rfl) ?_
  exact hQ
theorem d_Mo_leansBy_93 : decode prog_14_method_74_code 93 = .ok (.aload_n 0, 1) := by decide +kernel
theorem d_Mo_leansBy_94 : decode prog_14_method_74_code 94 = .ok (.iload_n 1, 1) := by decide +kernel
theorem d_Mo_leansBy_95 : decode prog_14_method_74_code 95 = .ok (.invokestatic 214, 3) := by decide +kernel
theorem d_Mo_leansBy_98 : decode prog_14_method_74_code 98 = .ok (.iload_n 2, 1) := by decide +kernel
theorem d_Mo_leansBy_99 : decode prog_14_method_74_code 99 = .ok (.invokevirtual 266, 3) := by decide +kernel
theorem kB_Mo_leansBy : kB M_Mo_leansBy 2 := ⟨tm 15 (by decide +kernel) rfl, tm 1445 (by decide +kernel) rfl, ⟨by decide, by decide, by decide +kernel⟩, by decide⟩
theorem k_Mo_266_Mo_leansBy_MoV : kV "FelledByNamesModel" 266 5 M_Mo_leansBy 2 := ⟨kB_Mo_leansBy, tm 1442 (by decide +kernel) rfl, tm 1444 (by decide +kernel) rfl, tp 48 (by decide +kernel) rfl, _, rfl, rfl⟩
theorem d_Mo_leansBy_102 : decode prog_14_method_74_code 102 = .ok (.ireturn, 1) := by decide +kernel
set_option maxRecDepth 100000 in
theorem c_Mo_leansBy_1 {i tm : Nat} {x : Int32} {l : Launch} {d q n : Nat} {D : Nat → Int32} {A : Nat → Nat → Int32} {S : Nat → Int32} {h0 : HP} {Q : QT} (hi : i < 8) (ew : S 21 = nI i) (et : S 20 = nI tm) (hb : tm + 1 ≤ 40) (hQ : Q (some (.int (lnv 1 (D (50 + 7 * i + 1)) (nI i) x))) n (mo q D (trA A tm (lnl 1)) (trS S tm (lnl 1)) h0)) : Ct l M_Mo_leansBy (d + 2) 0 0 [.ref q, .int (nI 1), .int x] n (mo q D A S h0) Q := by
  refine Ct.of (fun _ => trivial) (by decide) (Nat.le_of_ble_eq_true rfl) ?_
  refine V.iload_n d_Mo_leansBy_0 rfl ?_
  refine V.lookup (tgt := 93) (off := 92) d_Mo_leansBy_1 (by decide +kernel) (by decide +kernel) (by decide) ?_
  refine V.aload_n d_Mo_leansBy_93 rfl ?_
  refine V.iload_n d_Mo_leansBy_94 rfl ?_
  refine V.callS1 d_Mo_leansBy_95 k_Mo_214_Mo_aboveS (Nat.le_of_ble_eq_true rfl) (by omega) (by omega) (c_Mo_above (by omega) ?_)
  refine V.iload_n d_Mo_leansBy_98 rfl ?_
  refine V.callV2 d_Mo_leansBy_99 k_Mo_266_Mo_leansBy_MoV mo_o (Nat.le_of_ble_eq_true rfl) (by omega) (by omega) (c_Mo_leansBy_0 (tm := tm) hi ew et (by first | omega | (simp only [List.length_append, List.length_cons, List.length_nil]; omega)) ?_)
  refine V.iret d_Mo_leansBy_102 rfl (Nat.le_of_ble_eq_true rfl) (Nat.le_of_ble_eq_true rfl) ?_
  exact hQ
set_option maxRecDepth 100000 in
theorem c_Mo_leansBy_2 {i tm : Nat} {x : Int32} {l : Launch} {d q n : Nat} {D : Nat → Int32} {A : Nat → Nat → Int32} {S : Nat → Int32} {h0 : HP} {Q : QT} (hi : i < 8) (ew : S 21 = nI i) (et : S 20 = nI tm) (hb : tm + 1 ≤ 40) (hQ : Q (some (.int (lnv 2 (D (50 + 7 * i + 1)) (nI i) x))) n (mo q D (trA A tm (lnl 2)) (trS S tm (lnl 2)) h0)) : Ct l M_Mo_leansBy (d + 2) 0 0 [.ref q, .int (nI 2), .int x] n (mo q D A S h0) Q := by
  refine Ct.of (fun _ => trivial) (by decide) (Nat.le_of_ble_eq_true rfl) ?_
  refine V.iload_n d_Mo_leansBy_0 rfl ?_
  refine V.lookup (tgt := 93) (off := 92) d_Mo_leansBy_1 (by decide +kernel) (by decide +kernel) (by decide) ?_
  refine V.aload_n d_Mo_leansBy_93 rfl ?_
  refine V.iload_n d_Mo_leansBy_94 rfl ?_
  refine V.callS1 d_Mo_leansBy_95 k_Mo_214_Mo_aboveS (Nat.le_of_ble_eq_true rfl) (by omega) (by omega) (c_Mo_above (by omega) ?_)
  refine V.iload_n d_Mo_leansBy_98 rfl ?_
  refine V.callV2 d_Mo_leansBy_99 k_Mo_266_Mo_leansBy_MoV mo_o (Nat.le_of_ble_eq_true rfl) (by omega) (by omega) (c_Mo_leansBy_0 (tm := tm) hi ew et (by first | omega | (simp only [List.length_append, List.length_cons, List.length_nil]; omega)) ?_)
  refine V.iret d_Mo_leansBy_102 rfl (Nat.le_of_ble_eq_true rfl) (Nat.le_of_ble_eq_true rfl) ?_
  exact hQ
theorem d_Mo_leansBy_54 : decode prog_14_method_74_code 54 = .ok (.aload_n 0, 1) := by decide +kernel
theorem d_Mo_leansBy_55 : decode prog_14_method_74_code 55 = .ok (.bipush 40, 2) := by decide +kernel
theorem d_Mo_leansBy_57 : decode prog_14_method_74_code 57 = .ok (.invokevirtual 254, 3) := by decide +kernel
theorem d_Mo_leansBy_60 : decode prog_14_method_74_code 60 = .ok (.aload_n 0, 1) := by decide +kernel
theorem d_Mo_leansBy_61 : decode prog_14_method_74_code 61 = .ok (.iconst 3, 1) := by decide +kernel
theorem d_Mo_leansBy_62 : decode prog_14_method_74_code 62 = .ok (.invokestatic 214, 3) := by decide +kernel
theorem d_Mo_leansBy_65 : decode prog_14_method_74_code 65 = .ok (.iload_n 2, 1) := by decide +kernel
theorem d_Mo_leansBy_66 : decode prog_14_method_74_code 66 = .ok (.invokevirtual 266, 3) := by decide +kernel
theorem d_Mo_leansBy_69 : decode prog_14_method_74_code 69 = .ok (.ineg, 1) := by decide +kernel
theorem d_Mo_leansBy_70 : decode prog_14_method_74_code 70 = .ok (.ireturn, 1) := by decide +kernel
set_option maxRecDepth 100000 in
theorem c_Mo_leansBy_3 {i tm : Nat} {x : Int32} {l : Launch} {d q n : Nat} {D : Nat → Int32} {A : Nat → Nat → Int32} {S : Nat → Int32} {h0 : HP} {Q : QT} (hi : i < 8) (ew : S 21 = nI i) (et : S 20 = nI tm) (hb : tm + 2 ≤ 40) (hQ : Q (some (.int (lnv 3 (D (50 + 7 * i + 1)) (nI i) x))) n (mo q D (trA A tm (lnl 3)) (trS S tm (lnl 3)) h0)) : Ct l M_Mo_leansBy (d + 2) 0 0 [.ref q, .int (nI 3), .int x] n (mo q D A S h0) Q := by
  refine Ct.of (fun _ => trivial) (by decide) (Nat.le_of_ble_eq_true rfl) ?_
  refine V.iload_n d_Mo_leansBy_0 rfl ?_
  refine V.lookup (tgt := 54) (off := 53) d_Mo_leansBy_1 (by decide +kernel) (by decide +kernel) (by decide) ?_
  refine V.aload_n d_Mo_leansBy_54 rfl ?_
  refine V.bipush_ (nI 40) d_Mo_leansBy_55 (by decide +kernel) ?_
  refine V.callV1 d_Mo_leansBy_57 k_Mo_254_Mo_ran_MoV mo_o (Nat.le_of_ble_eq_true rfl) (by omega) (by omega) (c_Mo_ran (tm := tm) (by first | omega | (simp only [List.length_append, List.length_cons, List.length_nil]; omega)) et ?_)
  refine V.aload_n d_Mo_leansBy_60 rfl ?_
  refine V.iconst_ (nI 3) d_Mo_leansBy_61 (by decide +kernel) ?_
  refine V.callS1 d_Mo_leansBy_62 k_Mo_214_Mo_aboveS (Nat.le_of_ble_eq_true rfl) (by omega) (by omega) (c_Mo_above (by omega) ?_)
  refine V.iload_n d_Mo_leansBy_65 rfl ?_
  refine V.callV2 d_Mo_leansBy_66 k_Mo_266_Mo_leansBy_MoV mo_o (Nat.le_of_ble_eq_true rfl) (by omega) (by omega) (c_Mo_leansBy_0 (tm := (tm + ([40]).length)) hi (by rw [trS_n (by decide)]; exact ew) (trS_20 rfl) (by first | omega | (simp only [List.length_append, List.length_cons, List.length_nil]; omega)) ?_)
  rw [trA_cat (by simp only [List.length_append, List.length_cons, List.length_nil]; try omega), trS_cat (by simp only [List.length_append, List.length_cons, List.length_nil]; try omega)]
  refine V.ineg d_Mo_leansBy_69 ?_
  refine V.iret d_Mo_leansBy_70 rfl (Nat.le_of_ble_eq_true rfl) (Nat.le_of_ble_eq_true rfl) ?_
  exact hQ
set_option maxRecDepth 100000 in
theorem c_Mo_leansBy_4 {i tm : Nat} {x : Int32} {l : Launch} {d q n : Nat} {D : Nat → Int32} {A : Nat → Nat → Int32} {S : Nat → Int32} {h0 : HP} {Q : QT} (hi : i < 8) (ew : S 21 = nI i) (et : S 20 = nI tm) (hb : tm + 1 ≤ 40) (hQ : Q (some (.int (lnv 4 (D (50 + 7 * i + 1)) (nI i) x))) n (mo q D (trA A tm (lnl 4)) (trS S tm (lnl 4)) h0)) : Ct l M_Mo_leansBy (d + 3) 0 0 [.ref q, .int (nI 4), .int x] n (mo q D A S h0) Q := by
  refine Ct.of (fun _ => trivial) (by decide) (Nat.le_of_ble_eq_true rfl) ?_
  refine V.iload_n d_Mo_leansBy_0 rfl ?_
  refine V.lookup (tgt := 93) (off := 92) d_Mo_leansBy_1 (by decide +kernel) (by decide +kernel) (by decide) ?_
  refine V.aload_n d_Mo_leansBy_93 rfl ?_
  refine V.iload_n d_Mo_leansBy_94 rfl ?_
  refine V.callS1 d_Mo_leansBy_95 k_Mo_214_Mo_aboveS (Nat.le_of_ble_eq_true rfl) (by omega) (by omega) (c_Mo_above (by omega) ?_)
  refine V.iload_n d_Mo_leansBy_98 rfl ?_
  refine V.callV2 d_Mo_leansBy_99 k_Mo_266_Mo_leansBy_MoV mo_o (Nat.le_of_ble_eq_true rfl) (by omega) (by omega) (c_Mo_leansBy_1 (tm := tm) hi ew et (by first | omega | (simp only [List.length_append, List.length_cons, List.length_nil]; omega)) ?_)
  refine V.iret d_Mo_leansBy_102 rfl (Nat.le_of_ble_eq_true rfl) (Nat.le_of_ble_eq_true rfl) ?_
  exact hQ
set_option maxRecDepth 100000 in
theorem c_Mo_leansBy_5 {i tm : Nat} {x : Int32} {l : Launch} {d q n : Nat} {D : Nat → Int32} {A : Nat → Nat → Int32} {S : Nat → Int32} {h0 : HP} {Q : QT} (hi : i < 8) (ew : S 21 = nI i) (et : S 20 = nI tm) (hb : tm + 1 ≤ 40) (hQ : Q (some (.int (lnv 5 (D (50 + 7 * i + 1)) (nI i) x))) n (mo q D (trA A tm (lnl 5)) (trS S tm (lnl 5)) h0)) : Ct l M_Mo_leansBy (d + 3) 0 0 [.ref q, .int (nI 5), .int x] n (mo q D A S h0) Q := by
  refine Ct.of (fun _ => trivial) (by decide) (Nat.le_of_ble_eq_true rfl) ?_
  refine V.iload_n d_Mo_leansBy_0 rfl ?_
  refine V.lookup (tgt := 93) (off := 92) d_Mo_leansBy_1 (by decide +kernel) (by decide +kernel) (by decide) ?_
  refine V.aload_n d_Mo_leansBy_93 rfl ?_
  refine V.iload_n d_Mo_leansBy_94 rfl ?_
  refine V.callS1 d_Mo_leansBy_95 k_Mo_214_Mo_aboveS (Nat.le_of_ble_eq_true rfl) (by omega) (by omega) (c_Mo_above (by omega) ?_)
  refine V.iload_n d_Mo_leansBy_98 rfl ?_
  refine V.callV2 d_Mo_leansBy_99 k_Mo_266_Mo_leansBy_MoV mo_o (Nat.le_of_ble_eq_true rfl) (by omega) (by omega) (c_Mo_leansBy_2 (tm := tm) hi ew et (by first | omega | (simp only [List.length_append, List.length_cons, List.length_nil]; omega)) ?_)
  refine V.iret d_Mo_leansBy_102 rfl (Nat.le_of_ble_eq_true rfl) (Nat.le_of_ble_eq_true rfl) ?_
  exact hQ
theorem d_Mo_leansBy_71 : decode prog_14_method_74_code 71 = .ok (.aload_n 0, 1) := by decide +kernel
theorem d_Mo_leansBy_72 : decode prog_14_method_74_code 72 = .ok (.bipush 70, 2) := by decide +kernel
theorem d_Mo_leansBy_74 : decode prog_14_method_74_code 74 = .ok (.invokevirtual 254, 3) := by decide +kernel
theorem d_Mo_leansBy_77 : decode prog_14_method_74_code 77 = .ok (.aload_n 0, 1) := by decide +kernel
theorem d_Mo_leansBy_78 : decode prog_14_method_74_code 78 = .ok (.bipush 6, 2) := by decide +kernel
theorem d_Mo_leansBy_80 : decode prog_14_method_74_code 80 = .ok (.invokestatic 214, 3) := by decide +kernel
theorem d_Mo_leansBy_83 : decode prog_14_method_74_code 83 = .ok (.iload_n 2, 1) := by decide +kernel
theorem d_Mo_leansBy_84 : decode prog_14_method_74_code 84 = .ok (.invokevirtual 266, 3) := by decide +kernel
theorem d_Mo_leansBy_87 : decode prog_14_method_74_code 87 = .ok (.aload_n 0, 1) := by decide +kernel
theorem d_Mo_leansBy_88 : decode prog_14_method_74_code 88 = .ok (.getfield 257, 3) := by decide +kernel
theorem d_Mo_leansBy_91 : decode prog_14_method_74_code 91 = .ok (.ixor, 1) := by decide +kernel
theorem d_Mo_leansBy_92 : decode prog_14_method_74_code 92 = .ok (.ireturn, 1) := by decide +kernel
set_option maxRecDepth 100000 in
theorem c_Mo_leansBy_6 {i tm : Nat} {x : Int32} {l : Launch} {d q n : Nat} {D : Nat → Int32} {A : Nat → Nat → Int32} {S : Nat → Int32} {h0 : HP} {Q : QT} (hi : i < 8) (ew : S 21 = nI i) (et : S 20 = nI tm) (hb : tm + 3 ≤ 40) (hQ : Q (some (.int (lnv 6 (D (50 + 7 * i + 1)) (nI i) x))) n (mo q D (trA A tm (lnl 6)) (trS S tm (lnl 6)) h0)) : Ct l M_Mo_leansBy (d + 3) 0 0 [.ref q, .int (nI 6), .int x] n (mo q D A S h0) Q := by
  refine Ct.of (fun _ => trivial) (by decide) (Nat.le_of_ble_eq_true rfl) ?_
  refine V.iload_n d_Mo_leansBy_0 rfl ?_
  refine V.lookup (tgt := 71) (off := 70) d_Mo_leansBy_1 (by decide +kernel) (by decide +kernel) (by decide) ?_
  refine V.aload_n d_Mo_leansBy_71 rfl ?_
  refine V.bipush_ (nI 70) d_Mo_leansBy_72 (by decide +kernel) ?_
  refine V.callV1 d_Mo_leansBy_74 k_Mo_254_Mo_ran_MoV mo_o (Nat.le_of_ble_eq_true rfl) (by omega) (by omega) (c_Mo_ran (tm := tm) (by first | omega | (simp only [List.length_append, List.length_cons, List.length_nil]; omega)) et ?_)
  refine V.aload_n d_Mo_leansBy_77 rfl ?_
  refine V.bipush_ (nI 6) d_Mo_leansBy_78 (by decide +kernel) ?_
  refine V.callS1 d_Mo_leansBy_80 k_Mo_214_Mo_aboveS (Nat.le_of_ble_eq_true rfl) (by omega) (by omega) (c_Mo_above (by omega) ?_)
  refine V.iload_n d_Mo_leansBy_83 rfl ?_
  refine V.callV2 d_Mo_leansBy_84 k_Mo_266_Mo_leansBy_MoV mo_o (Nat.le_of_ble_eq_true rfl) (by omega) (by omega) (c_Mo_leansBy_3 (tm := (tm + ([70]).length)) hi (by rw [trS_n (by decide)]; exact ew) (trS_20 rfl) (by first | omega | (simp only [List.length_append, List.length_cons, List.length_nil]; omega)) ?_)
  rw [trA_cat (by simp only [List.length_append, List.length_cons, List.length_nil]; try omega), trS_cat (by simp only [List.length_append, List.length_cons, List.length_nil]; try omega)]
  refine V.aload_n d_Mo_leansBy_87 rfl ?_
  refine V.get d_Mo_leansBy_88 f_Mo_257_Mo mo_o rfl ?_
  first | rw [trS_n (by decide), ew] | rw [ew]
  refine V.ixor d_Mo_leansBy_91 ?_
  refine V.iret d_Mo_leansBy_92 rfl (Nat.le_of_ble_eq_true rfl) (Nat.le_of_ble_eq_true rfl) ?_
  exact hQ
theorem c_Mo_leansBy {i k0 tm : Nat} {x : Int32} {l : Launch} {d q n : Nat} {D : Nat → Int32} {A : Nat → Nat → Int32} {S : Nat → Int32} {h0 : HP} {Q : QT} (hk0 : k0 ≤ 6) (hi : i < 8) (ew : S 21 = nI i) (et : S 20 = nI tm) (hb : tm + 3 ≤ 40) (hQ : Q (some (.int (lnv k0 (D (50 + 7 * i + 1)) (nI i) x))) n (mo q D (trA A tm (lnl k0)) (trS S tm (lnl k0)) h0)) : Ct l M_Mo_leansBy (d + 3) 0 0 [.ref q, .int (nI k0), .int x] n (mo q D A S h0) Q := by
  rcases (show k0 = 0 ∨ k0 = 1 ∨ k0 = 2 ∨ k0 = 3 ∨ k0 = 4 ∨ k0 = 5 ∨ k0 = 6 by omega) with rfl | rfl | rfl | rfl | rfl | rfl | rfl
  · exact c_Mo_leansBy_0 hi ew et (by omega) hQ
  · exact c_Mo_leansBy_1 hi ew et (by omega) hQ
  · exact c_Mo_leansBy_2 hi ew et (by omega) hQ
  · exact c_Mo_leansBy_3 hi ew et (by omega) hQ
  · exact c_Mo_leansBy_4 hi ew et (by omega) hQ
  · exact c_Mo_leansBy_5 hi ew et (by omega) hQ
  · exact c_Mo_leansBy_6 hi ew et (by omega) hQ
abbrev M_Mo_standsBy : MD := (⟨"FelledByNamesModel", "standsBy", "(II)I"⟩, prog_14_method_73_code, 4, (some .int), fun _ => True)
theorem d_Mo_standsBy_0 : decode prog_14_method_73_code 0 = .ok (.iconst 0, 1) := by decide +kernel
theorem d_Mo_standsBy_1 : decode prog_14_method_73_code 1 = .ok (.istore_n 3, 1) := by decide +kernel
theorem d_Mo_standsBy_2 : decode prog_14_method_73_code 2 = .ok (.iload_n 1, 1) := by decide +kernel
theorem d_Mo_standsBy_3 : decode prog_14_method_73_code 3 = .ok (.lookupswitch 107 #[(0, 33), (2, 56), (5, 89)], 33) := by decide +kernel
theorem d_Mo_standsBy_36 : decode prog_14_method_73_code 36 = .ok (.aload_n 0, 1) := by decide +kernel
theorem d_Mo_standsBy_37 : decode prog_14_method_73_code 37 = .ok (.bipush 11, 2) := by decide +kernel
theorem d_Mo_standsBy_39 : decode prog_14_method_73_code 39 = .ok (.invokevirtual 254, 3) := by decide +kernel
theorem d_Mo_standsBy_42 : decode prog_14_method_73_code 42 = .ok (.aload_n 0, 1) := by decide +kernel
theorem d_Mo_standsBy_43 : decode prog_14_method_73_code 43 = .ok (.aload_n 0, 1) := by decide +kernel
theorem d_Mo_standsBy_44 : decode prog_14_method_73_code 44 = .ok (.aload_n 0, 1) := by decide +kernel
theorem d_Mo_standsBy_45 : decode prog_14_method_73_code 45 = .ok (.getfield 257, 3) := by decide +kernel
theorem d_Mo_standsBy_48 : decode prog_14_method_73_code 48 = .ok (.iconst 0, 1) := by decide +kernel
theorem d_Mo_standsBy_49 : decode prog_14_method_73_code 49 = .ok (.invokevirtual 158, 3) := by decide +kernel
theorem d_Mo_standsBy_52 : decode prog_14_method_73_code 52 = .ok (.iload_n 2, 1) := by decide +kernel
theorem d_Mo_standsBy_53 : decode prog_14_method_73_code 53 = .ok (.invokevirtual 260, 3) := by decide +kernel
theorem d_Mo_standsBy_56 : decode prog_14_method_73_code 56 = .ok (.iconst 2, 1) := by decide +kernel
theorem d_Mo_standsBy_57 : decode prog_14_method_73_code 57 = .ok (.imul, 1) := by decide +kernel
theorem d_Mo_standsBy_58 : decode prog_14_method_73_code 58 = .ok (.ireturn, 1) := by decide +kernel
set_option maxRecDepth 100000 in
theorem c_Mo_standsBy_0 {i k0 tm : Nat} {x : Int32} {l : Launch} {d q n : Nat} {D : Nat → Int32} {A : Nat → Nat → Int32} {S : Nat → Int32} {h0 : HP} {Q : QT} (hk0 : k0 ≤ 6) (ek0 : D (50 + 7 * i + 0) = nI k0) (hi : i < 8) (ew : S 21 = nI i) (et : S 20 = nI tm) (hb : tm + 5 ≤ 40) (hQ : Q (some (.int (stv k0 (D (50 + 7 * i + 1)) (nI i) 0 x))) n (mo q D (trA A tm (stl k0 0)) (trS S tm (stl k0 0)) h0)) : Ct l M_Mo_standsBy (d + 4) 0 0 [.ref q, .int (nI 0), .int x] n (mo q D A S h0) Q := by
  refine Ct.of (fun _ => trivial) (by decide) (Nat.le_of_ble_eq_true rfl) ?_
  refine V.iconst_ (nI 0) d_Mo_standsBy_0 (by decide +kernel) ?_
  refine V.istore_n d_Mo_standsBy_1 (by decide) ?_
  refine V.iload_n d_Mo_standsBy_2 rfl ?_
  refine V.lookup (tgt := 36) (off := 33) d_Mo_standsBy_3 (by decide +kernel) (by decide +kernel) (by decide) ?_
  refine V.aload_n d_Mo_standsBy_36 rfl ?_
  refine V.bipush_ (nI 11) d_Mo_standsBy_37 (by decide +kernel) ?_
  refine V.callV1 d_Mo_standsBy_39 k_Mo_254_Mo_ran_MoV mo_o (Nat.le_of_ble_eq_true rfl) (by omega) (by omega) (c_Mo_ran (tm := tm) (by have h1 := len_cr k0 hk0; have h2 := len_ln k0 hk0; have h3 := len_st k0 hk0 k0 hk0; have h4 := len_st0 k0 hk0; have h5 := len_tl0 k0 hk0; (try simp only [List.length_append, List.length_cons, List.length_nil]); omega) et ?_)
  refine V.aload_n d_Mo_standsBy_42 rfl ?_
  refine V.aload_n d_Mo_standsBy_43 rfl ?_
  refine V.aload_n d_Mo_standsBy_44 rfl ?_
  refine V.get d_Mo_standsBy_45 f_Mo_257_Mo mo_o rfl ?_
  first | rw [trS_n (by decide), ew] | rw [ew]
  refine V.iconst_ (nI 0) d_Mo_standsBy_48 (by decide +kernel) ?_
  refine V.callV2 d_Mo_standsBy_49 k_Mo_158_Mo_of_MoV mo_o (Nat.le_of_ble_eq_true rfl) (by omega) (by omega) (c_Mo_of (by omega) ?_)
  refine V.top ek0 ?_
  refine V.iload_n d_Mo_standsBy_52 rfl ?_
  refine V.callV2 d_Mo_standsBy_53 k_Mo_260_Mo_creaksBy_MoV mo_o (Nat.le_of_ble_eq_true rfl) (by omega) (by omega) (c_Mo_creaksBy (tm := (tm + ([11]).length)) hk0 hi (by rw [trS_n (by decide)]; exact ew) (trS_20 rfl) (by have h1 := len_cr k0 hk0; have h2 := len_ln k0 hk0; have h3 := len_st k0 hk0 k0 hk0; have h4 := len_st0 k0 hk0; have h5 := len_tl0 k0 hk0; (try simp only [List.length_append, List.length_cons, List.length_nil]); omega) ?_)
  rw [trA_cat (by simp only [List.length_append, List.length_cons, List.length_nil]; try omega), trS_cat (by simp only [List.length_append, List.length_cons, List.length_nil]; try omega)]
  refine V.iconst_ (nI 2) d_Mo_standsBy_56 (by decide +kernel) ?_
  refine V.imul d_Mo_standsBy_57 ?_
  refine V.iret d_Mo_standsBy_58 rfl (Nat.le_of_ble_eq_true rfl) (Nat.le_of_ble_eq_true rfl) ?_
  exact hQ
theorem d_Mo_standsBy_110 : decode prog_14_method_73_code 110 = .ok (.aload_n 0, 1) := by decide +kernel
theorem d_Mo_standsBy_111 : decode prog_14_method_73_code 111 = .ok (.iload_n 1, 1) := by decide +kernel
theorem d_Mo_standsBy_112 : decode prog_14_method_73_code 112 = .ok (.invokestatic 214, 3) := by decide +kernel
theorem d_Mo_standsBy_115 : decode prog_14_method_73_code 115 = .ok (.iload_n 2, 1) := by decide +kernel
theorem d_Mo_standsBy_116 : decode prog_14_method_73_code 116 = .ok (.invokevirtual 263, 3) := by decide +kernel
theorem kB_Mo_standsBy : kB M_Mo_standsBy 2 := ⟨tm 15 (by decide +kernel) rfl, tm 1441 (by decide +kernel) rfl, ⟨by decide, by decide, by decide +kernel⟩, by decide⟩
theorem k_Mo_263_Mo_standsBy_MoV : kV "FelledByNamesModel" 263 5 M_Mo_standsBy 2 := ⟨kB_Mo_standsBy, tm 1438 (by decide +kernel) rfl, tm 1440 (by decide +kernel) rfl, tp 47 (by decide +kernel) rfl, _, rfl, rfl⟩
theorem d_Mo_standsBy_119 : decode prog_14_method_73_code 119 = .ok (.ireturn, 1) := by decide +kernel
set_option maxRecDepth 100000 in
theorem c_Mo_standsBy_1 {i k0 tm : Nat} {x : Int32} {l : Launch} {d q n : Nat} {D : Nat → Int32} {A : Nat → Nat → Int32} {S : Nat → Int32} {h0 : HP} {Q : QT} (hk0 : k0 ≤ 6) (ek0 : D (50 + 7 * i + 0) = nI k0) (hi : i < 8) (ew : S 21 = nI i) (et : S 20 = nI tm) (hb : tm + 5 ≤ 40) (hQ : Q (some (.int (stv k0 (D (50 + 7 * i + 1)) (nI i) 1 x))) n (mo q D (trA A tm (stl k0 1)) (trS S tm (stl k0 1)) h0)) : Ct l M_Mo_standsBy (d + 5) 0 0 [.ref q, .int (nI 1), .int x] n (mo q D A S h0) Q := by
  refine Ct.of (fun _ => trivial) (by decide) (Nat.le_of_ble_eq_true rfl) ?_
  refine V.iconst_ (nI 0) d_Mo_standsBy_0 (by decide +kernel) ?_
  refine V.istore_n d_Mo_standsBy_1 (by decide) ?_
  refine V.iload_n d_Mo_standsBy_2 rfl ?_
  refine V.lookup (tgt := 110) (off := 107) d_Mo_standsBy_3 (by decide +kernel) (by decide +kernel) (by decide) ?_
  refine V.aload_n d_Mo_standsBy_110 rfl ?_
  refine V.iload_n d_Mo_standsBy_111 rfl ?_
  refine V.callS1 d_Mo_standsBy_112 k_Mo_214_Mo_aboveS (Nat.le_of_ble_eq_true rfl) (by omega) (by omega) (c_Mo_above (by omega) ?_)
  refine V.iload_n d_Mo_standsBy_115 rfl ?_
  refine V.callV2 d_Mo_standsBy_116 k_Mo_263_Mo_standsBy_MoV mo_o (Nat.le_of_ble_eq_true rfl) (by omega) (by omega) (c_Mo_standsBy_0 (tm := tm) hk0 ek0 hi ew et (by omega) ?_)
  refine V.iret d_Mo_standsBy_119 rfl (Nat.le_of_ble_eq_true rfl) (Nat.le_of_ble_eq_true rfl) ?_
  exact hQ
theorem d_Mo_standsBy_59 : decode prog_14_method_73_code 59 = .ok (.aload_n 0, 1) := by decide +kernel
theorem d_Mo_standsBy_60 : decode prog_14_method_73_code 60 = .ok (.bipush 30, 2) := by decide +kernel
theorem d_Mo_standsBy_62 : decode prog_14_method_73_code 62 = .ok (.invokevirtual 254, 3) := by decide +kernel
theorem d_Mo_standsBy_65 : decode prog_14_method_73_code 65 = .ok (.aload_n 0, 1) := by decide +kernel
theorem d_Mo_standsBy_66 : decode prog_14_method_73_code 66 = .ok (.iconst 2, 1) := by decide +kernel
theorem d_Mo_standsBy_67 : decode prog_14_method_73_code 67 = .ok (.invokestatic 214, 3) := by decide +kernel
theorem d_Mo_standsBy_70 : decode prog_14_method_73_code 70 = .ok (.iload_n 2, 1) := by decide +kernel
theorem d_Mo_standsBy_71 : decode prog_14_method_73_code 71 = .ok (.invokevirtual 263, 3) := by decide +kernel
theorem d_Mo_standsBy_74 : decode prog_14_method_73_code 74 = .ok (.istore_n 3, 1) := by decide +kernel
theorem d_Mo_standsBy_75 : decode prog_14_method_73_code 75 = .ok (.iload_n 3, 1) := by decide +kernel
theorem d_Mo_standsBy_76 : decode prog_14_method_73_code 76 = .ok (.aload_n 0, 1) := by decide +kernel
theorem d_Mo_standsBy_77 : decode prog_14_method_73_code 77 = .ok (.aload_n 0, 1) := by decide +kernel
theorem d_Mo_standsBy_78 : decode prog_14_method_73_code 78 = .ok (.aload_n 0, 1) := by decide +kernel
theorem d_Mo_standsBy_79 : decode prog_14_method_73_code 79 = .ok (.getfield 257, 3) := by decide +kernel
theorem d_Mo_standsBy_82 : decode prog_14_method_73_code 82 = .ok (.iconst 0, 1) := by decide +kernel
theorem d_Mo_standsBy_83 : decode prog_14_method_73_code 83 = .ok (.invokevirtual 158, 3) := by decide +kernel
theorem d_Mo_standsBy_86 : decode prog_14_method_73_code 86 = .ok (.iconst 1, 1) := by decide +kernel
theorem d_Mo_standsBy_87 : decode prog_14_method_73_code 87 = .ok (.invokevirtual 266, 3) := by decide +kernel
theorem d_Mo_standsBy_90 : decode prog_14_method_73_code 90 = .ok (.isub, 1) := by decide +kernel
theorem d_Mo_standsBy_91 : decode prog_14_method_73_code 91 = .ok (.ireturn, 1) := by decide +kernel
set_option maxRecDepth 100000 in
theorem c_Mo_standsBy_2 {i k0 tm : Nat} {x : Int32} {l : Launch} {d q n : Nat} {D : Nat → Int32} {A : Nat → Nat → Int32} {S : Nat → Int32} {h0 : HP} {Q : QT} (hk0 : k0 ≤ 6) (ek0 : D (50 + 7 * i + 0) = nI k0) (hi : i < 8) (ew : S 21 = nI i) (et : S 20 = nI tm) (hb : tm + 9 ≤ 40) (hQ : Q (some (.int (stv k0 (D (50 + 7 * i + 1)) (nI i) 2 x))) n (mo q D (trA A tm (stl k0 2)) (trS S tm (stl k0 2)) h0)) : Ct l M_Mo_standsBy (d + 5) 0 0 [.ref q, .int (nI 2), .int x] n (mo q D A S h0) Q := by
  refine Ct.of (fun _ => trivial) (by decide) (Nat.le_of_ble_eq_true rfl) ?_
  refine V.iconst_ (nI 0) d_Mo_standsBy_0 (by decide +kernel) ?_
  refine V.istore_n d_Mo_standsBy_1 (by decide) ?_
  refine V.iload_n d_Mo_standsBy_2 rfl ?_
  refine V.lookup (tgt := 59) (off := 56) d_Mo_standsBy_3 (by decide +kernel) (by decide +kernel) (by decide) ?_
  refine V.aload_n d_Mo_standsBy_59 rfl ?_
  refine V.bipush_ (nI 30) d_Mo_standsBy_60 (by decide +kernel) ?_
  refine V.callV1 d_Mo_standsBy_62 k_Mo_254_Mo_ran_MoV mo_o (Nat.le_of_ble_eq_true rfl) (by omega) (by omega) (c_Mo_ran (tm := tm) (by have h1 := len_cr k0 hk0; have h2 := len_ln k0 hk0; have h3 := len_st k0 hk0 k0 hk0; have h4 := len_st0 k0 hk0; have h5 := len_tl0 k0 hk0; (try simp only [List.length_append, List.length_cons, List.length_nil]); omega) et ?_)
  refine V.aload_n d_Mo_standsBy_65 rfl ?_
  refine V.iconst_ (nI 2) d_Mo_standsBy_66 (by decide +kernel) ?_
  refine V.callS1 d_Mo_standsBy_67 k_Mo_214_Mo_aboveS (Nat.le_of_ble_eq_true rfl) (by omega) (by omega) (c_Mo_above (by omega) ?_)
  refine V.iload_n d_Mo_standsBy_70 rfl ?_
  refine V.callV2 d_Mo_standsBy_71 k_Mo_263_Mo_standsBy_MoV mo_o (Nat.le_of_ble_eq_true rfl) (by omega) (by omega) (c_Mo_standsBy_0 (tm := (tm + ([30]).length)) hk0 ek0 hi (by rw [trS_n (by decide)]; exact ew) (trS_20 rfl) (by simp only [List.length_append, List.length_cons, List.length_nil]; omega) ?_)
  rw [trA_cat (by simp only [List.length_append, List.length_cons, List.length_nil]; try omega), trS_cat (by simp only [List.length_append, List.length_cons, List.length_nil]; try omega)]
  refine V.istore_n d_Mo_standsBy_74 (by decide) ?_
  refine V.iload_n d_Mo_standsBy_75 rfl ?_
  refine V.aload_n d_Mo_standsBy_76 rfl ?_
  refine V.aload_n d_Mo_standsBy_77 rfl ?_
  refine V.aload_n d_Mo_standsBy_78 rfl ?_
  refine V.get d_Mo_standsBy_79 f_Mo_257_Mo mo_o rfl ?_
  first | rw [trS_n (by decide), ew] | rw [ew]
  refine V.iconst_ (nI 0) d_Mo_standsBy_82 (by decide +kernel) ?_
  refine V.callV2 d_Mo_standsBy_83 k_Mo_158_Mo_of_MoV mo_o (Nat.le_of_ble_eq_true rfl) (by omega) (by omega) (c_Mo_of (by omega) ?_)
  refine V.top ek0 ?_
  refine V.iconst_ (nI 1) d_Mo_standsBy_86 (by decide +kernel) ?_
  refine V.callV2 d_Mo_standsBy_87 k_Mo_266_Mo_leansBy_MoV mo_o (Nat.le_of_ble_eq_true rfl) (by omega) (by omega) (c_Mo_leansBy (tm := (tm + (([30] ++ stl k0 0)).length)) hk0 hi (by rw [trS_n (by decide)]; exact ew) (trS_20 rfl) (by have h1 := len_cr k0 hk0; have h2 := len_ln k0 hk0; have h3 := len_st k0 hk0 k0 hk0; have h4 := len_st0 k0 hk0; have h5 := len_tl0 k0 hk0; (try simp only [List.length_append, List.length_cons, List.length_nil]); omega) ?_)
  rw [trA_cat (by simp only [List.length_append, List.length_cons, List.length_nil]; try omega), trS_cat (by simp only [List.length_append, List.length_cons, List.length_nil]; try omega)]
  refine V.isub d_Mo_standsBy_90 ?_
  refine V.iret d_Mo_standsBy_91 rfl (Nat.le_of_ble_eq_true rfl) (Nat.le_of_ble_eq_true rfl) ?_
  exact hQ
set_option maxRecDepth 100000 in
theorem c_Mo_standsBy_3 {i k0 tm : Nat} {x : Int32} {l : Launch} {d q n : Nat} {D : Nat → Int32} {A : Nat → Nat → Int32} {S : Nat → Int32} {h0 : HP} {Q : QT} (hk0 : k0 ≤ 6) (ek0 : D (50 + 7 * i + 0) = nI k0) (hi : i < 8) (ew : S 21 = nI i) (et : S 20 = nI tm) (hb : tm + 5 ≤ 40) (hQ : Q (some (.int (stv k0 (D (50 + 7 * i + 1)) (nI i) 3 x))) n (mo q D (trA A tm (stl k0 3)) (trS S tm (stl k0 3)) h0)) : Ct l M_Mo_standsBy (d + 5) 0 0 [.ref q, .int (nI 3), .int x] n (mo q D A S h0) Q := by
  refine Ct.of (fun _ => trivial) (by decide) (Nat.le_of_ble_eq_true rfl) ?_
  refine V.iconst_ (nI 0) d_Mo_standsBy_0 (by decide +kernel) ?_
  refine V.istore_n d_Mo_standsBy_1 (by decide) ?_
  refine V.iload_n d_Mo_standsBy_2 rfl ?_
  refine V.lookup (tgt := 110) (off := 107) d_Mo_standsBy_3 (by decide +kernel) (by decide +kernel) (by decide) ?_
  refine V.aload_n d_Mo_standsBy_110 rfl ?_
  refine V.iload_n d_Mo_standsBy_111 rfl ?_
  refine V.callS1 d_Mo_standsBy_112 k_Mo_214_Mo_aboveS (Nat.le_of_ble_eq_true rfl) (by omega) (by omega) (c_Mo_above (by omega) ?_)
  refine V.iload_n d_Mo_standsBy_115 rfl ?_
  refine V.callV2 d_Mo_standsBy_116 k_Mo_263_Mo_standsBy_MoV mo_o (Nat.le_of_ble_eq_true rfl) (by omega) (by omega) (c_Mo_standsBy_0 (tm := tm) hk0 ek0 hi ew et (by omega) ?_)
  refine V.iret d_Mo_standsBy_119 rfl (Nat.le_of_ble_eq_true rfl) (Nat.le_of_ble_eq_true rfl) ?_
  exact hQ
set_option maxRecDepth 100000 in
theorem c_Mo_standsBy_4 {i k0 tm : Nat} {x : Int32} {l : Launch} {d q n : Nat} {D : Nat → Int32} {A : Nat → Nat → Int32} {S : Nat → Int32} {h0 : HP} {Q : QT} (hk0 : k0 ≤ 6) (ek0 : D (50 + 7 * i + 0) = nI k0) (hi : i < 8) (ew : S 21 = nI i) (et : S 20 = nI tm) (hb : tm + 5 ≤ 40) (hQ : Q (some (.int (stv k0 (D (50 + 7 * i + 1)) (nI i) 4 x))) n (mo q D (trA A tm (stl k0 4)) (trS S tm (stl k0 4)) h0)) : Ct l M_Mo_standsBy (d + 6) 0 0 [.ref q, .int (nI 4), .int x] n (mo q D A S h0) Q := by
  refine Ct.of (fun _ => trivial) (by decide) (Nat.le_of_ble_eq_true rfl) ?_
  refine V.iconst_ (nI 0) d_Mo_standsBy_0 (by decide +kernel) ?_
  refine V.istore_n d_Mo_standsBy_1 (by decide) ?_
  refine V.iload_n d_Mo_standsBy_2 rfl ?_
  refine V.lookup (tgt := 110) (off := 107) d_Mo_standsBy_3 (by decide +kernel) (by decide +kernel) (by decide) ?_
  refine V.aload_n d_Mo_standsBy_110 rfl ?_
  refine V.iload_n d_Mo_standsBy_111 rfl ?_
  refine V.callS1 d_Mo_standsBy_112 k_Mo_214_Mo_aboveS (Nat.le_of_ble_eq_true rfl) (by omega) (by omega) (c_Mo_above (by omega) ?_)
  refine V.iload_n d_Mo_standsBy_115 rfl ?_
  refine V.callV2 d_Mo_standsBy_116 k_Mo_263_Mo_standsBy_MoV mo_o (Nat.le_of_ble_eq_true rfl) (by omega) (by omega) (c_Mo_standsBy_1 (tm := tm) hk0 ek0 hi ew et (by omega) ?_)
  refine V.iret d_Mo_standsBy_119 rfl (Nat.le_of_ble_eq_true rfl) (Nat.le_of_ble_eq_true rfl) ?_
  exact hQ
theorem d_Mo_standsBy_92 : decode prog_14_method_73_code 92 = .ok (.aload_n 0, 1) := by decide +kernel
theorem d_Mo_standsBy_93 : decode prog_14_method_73_code 93 = .ok (.bipush 60, 2) := by decide +kernel
theorem d_Mo_standsBy_95 : decode prog_14_method_73_code 95 = .ok (.invokevirtual 254, 3) := by decide +kernel
theorem d_Mo_standsBy_98 : decode prog_14_method_73_code 98 = .ok (.aload_n 0, 1) := by decide +kernel
theorem d_Mo_standsBy_99 : decode prog_14_method_73_code 99 = .ok (.iconst 5, 1) := by decide +kernel
theorem d_Mo_standsBy_100 : decode prog_14_method_73_code 100 = .ok (.invokestatic 214, 3) := by decide +kernel
theorem d_Mo_standsBy_103 : decode prog_14_method_73_code 103 = .ok (.iload_n 2, 1) := by decide +kernel
theorem d_Mo_standsBy_104 : decode prog_14_method_73_code 104 = .ok (.iconst 1, 1) := by decide +kernel
theorem d_Mo_standsBy_105 : decode prog_14_method_73_code 105 = .ok (.iadd, 1) := by decide +kernel
theorem d_Mo_standsBy_106 : decode prog_14_method_73_code 106 = .ok (.invokevirtual 263, 3) := by decide +kernel
theorem d_Mo_standsBy_109 : decode prog_14_method_73_code 109 = .ok (.ireturn, 1) := by decide +kernel
set_option maxRecDepth 100000 in
theorem c_Mo_standsBy_5 {i k0 tm : Nat} {x : Int32} {l : Launch} {d q n : Nat} {D : Nat → Int32} {A : Nat → Nat → Int32} {S : Nat → Int32} {h0 : HP} {Q : QT} (hk0 : k0 ≤ 6) (ek0 : D (50 + 7 * i + 0) = nI k0) (hi : i < 8) (ew : S 21 = nI i) (et : S 20 = nI tm) (hb : tm + 11 ≤ 40) (hQ : Q (some (.int (stv k0 (D (50 + 7 * i + 1)) (nI i) 5 x))) n (mo q D (trA A tm (stl k0 5)) (trS S tm (stl k0 5)) h0)) : Ct l M_Mo_standsBy (d + 6) 0 0 [.ref q, .int (nI 5), .int x] n (mo q D A S h0) Q := by
  refine Ct.of (fun _ => trivial) (by decide) (Nat.le_of_ble_eq_true rfl) ?_
  refine V.iconst_ (nI 0) d_Mo_standsBy_0 (by decide +kernel) ?_
  refine V.istore_n d_Mo_standsBy_1 (by decide) ?_
  refine V.iload_n d_Mo_standsBy_2 rfl ?_
  refine V.lookup (tgt := 92) (off := 89) d_Mo_standsBy_3 (by decide +kernel) (by decide +kernel) (by decide) ?_
  refine V.aload_n d_Mo_standsBy_92 rfl ?_
  refine V.bipush_ (nI 60) d_Mo_standsBy_93 (by decide +kernel) ?_
  refine V.callV1 d_Mo_standsBy_95 k_Mo_254_Mo_ran_MoV mo_o (Nat.le_of_ble_eq_true rfl) (by omega) (by omega) (c_Mo_ran (tm := tm) (by have h1 := len_cr k0 hk0; have h2 := len_ln k0 hk0; have h3 := len_st k0 hk0 k0 hk0; have h4 := len_st0 k0 hk0; have h5 := len_tl0 k0 hk0; (try simp only [List.length_append, List.length_cons, List.length_nil]); omega) et ?_)
  refine V.aload_n d_Mo_standsBy_98 rfl ?_
  refine V.iconst_ (nI 5) d_Mo_standsBy_99 (by decide +kernel) ?_
  refine V.callS1 d_Mo_standsBy_100 k_Mo_214_Mo_aboveS (Nat.le_of_ble_eq_true rfl) (by omega) (by omega) (c_Mo_above (by omega) ?_)
  refine V.iload_n d_Mo_standsBy_103 rfl ?_
  refine V.iconst_ (nI 1) d_Mo_standsBy_104 (by decide +kernel) ?_
  refine V.iadd d_Mo_standsBy_105 ?_
  refine V.callV2 d_Mo_standsBy_106 k_Mo_263_Mo_standsBy_MoV mo_o (Nat.le_of_ble_eq_true rfl) (by omega) (by omega) (c_Mo_standsBy_2 (tm := (tm + ([60]).length)) hk0 ek0 hi (by rw [trS_n (by decide)]; exact ew) (trS_20 rfl) (by simp only [List.length_append, List.length_cons, List.length_nil]; omega) ?_)
  rw [trA_cat (by simp only [List.length_append, List.length_cons, List.length_nil]; try omega), trS_cat (by simp only [List.length_append, List.length_cons, List.length_nil]; try omega)]
  refine V.iret d_Mo_standsBy_109 rfl (Nat.le_of_ble_eq_true rfl) (Nat.le_of_ble_eq_true rfl) ?_
  exact hQ
set_option maxRecDepth 100000 in
theorem c_Mo_standsBy_6 {i k0 tm : Nat} {x : Int32} {l : Launch} {d q n : Nat} {D : Nat → Int32} {A : Nat → Nat → Int32} {S : Nat → Int32} {h0 : HP} {Q : QT} (hk0 : k0 ≤ 6) (ek0 : D (50 + 7 * i + 0) = nI k0) (hi : i < 8) (ew : S 21 = nI i) (et : S 20 = nI tm) (hb : tm + 5 ≤ 40) (hQ : Q (some (.int (stv k0 (D (50 + 7 * i + 1)) (nI i) 6 x))) n (mo q D (trA A tm (stl k0 6)) (trS S tm (stl k0 6)) h0)) : Ct l M_Mo_standsBy (d + 6) 0 0 [.ref q, .int (nI 6), .int x] n (mo q D A S h0) Q := by
  refine Ct.of (fun _ => trivial) (by decide) (Nat.le_of_ble_eq_true rfl) ?_
  refine V.iconst_ (nI 0) d_Mo_standsBy_0 (by decide +kernel) ?_
  refine V.istore_n d_Mo_standsBy_1 (by decide) ?_
  refine V.iload_n d_Mo_standsBy_2 rfl ?_
  refine V.lookup (tgt := 110) (off := 107) d_Mo_standsBy_3 (by decide +kernel) (by decide +kernel) (by decide) ?_
  refine V.aload_n d_Mo_standsBy_110 rfl ?_
  refine V.iload_n d_Mo_standsBy_111 rfl ?_
  refine V.callS1 d_Mo_standsBy_112 k_Mo_214_Mo_aboveS (Nat.le_of_ble_eq_true rfl) (by omega) (by omega) (c_Mo_above (by omega) ?_)
  refine V.iload_n d_Mo_standsBy_115 rfl ?_
  refine V.callV2 d_Mo_standsBy_116 k_Mo_263_Mo_standsBy_MoV mo_o (Nat.le_of_ble_eq_true rfl) (by omega) (by omega) (c_Mo_standsBy_3 (tm := tm) hk0 ek0 hi ew et (by omega) ?_)
  refine V.iret d_Mo_standsBy_119 rfl (Nat.le_of_ble_eq_true rfl) (Nat.le_of_ble_eq_true rfl) ?_
  exact hQ
theorem c_Mo_standsBy {i k0 k tm : Nat} {x : Int32} {l : Launch} {d q n : Nat} {D : Nat → Int32} {A : Nat → Nat → Int32} {S : Nat → Int32} {h0 : HP} {Q : QT} (hk : k ≤ 6) (hk0 : k0 ≤ 6) (ek0 : D (50 + 7 * i + 0) = nI k0) (hi : i < 8) (ew : S 21 = nI i) (et : S 20 = nI tm) (hb : tm + 11 ≤ 40) (hQ : Q (some (.int (stv k0 (D (50 + 7 * i + 1)) (nI i) k x))) n (mo q D (trA A tm (stl k0 k)) (trS S tm (stl k0 k)) h0)) : Ct l M_Mo_standsBy (d + 6) 0 0 [.ref q, .int (nI k), .int x] n (mo q D A S h0) Q := by
  rcases (show k = 0 ∨ k = 1 ∨ k = 2 ∨ k = 3 ∨ k = 4 ∨ k = 5 ∨ k = 6 by omega) with rfl | rfl | rfl | rfl | rfl | rfl | rfl
  · exact c_Mo_standsBy_0 hk0 ek0 hi ew et (by omega) hQ
  · exact c_Mo_standsBy_1 hk0 ek0 hi ew et (by omega) hQ
  · exact c_Mo_standsBy_2 hk0 ek0 hi ew et (by omega) hQ
  · exact c_Mo_standsBy_3 hk0 ek0 hi ew et (by omega) hQ
  · exact c_Mo_standsBy_4 hk0 ek0 hi ew et (by omega) hQ
  · exact c_Mo_standsBy_5 hk0 ek0 hi ew et (by omega) hQ
  · exact c_Mo_standsBy_6 hk0 ek0 hi ew et (by omega) hQ
abbrev M_Mo_tellsBy : MD := (⟨"FelledByNamesModel", "tellsBy", "(II)I"⟩, prog_14_method_75_code, 4, (some .int), fun _ => True)
theorem d_Mo_tellsBy_0 : decode prog_14_method_75_code 0 = .ok (.iconst 0, 1) := by decide +kernel
theorem d_Mo_tellsBy_1 : decode prog_14_method_75_code 1 = .ok (.istore_n 3, 1) := by decide +kernel
theorem d_Mo_tellsBy_2 : decode prog_14_method_75_code 2 = .ok (.iload_n 1, 1) := by decide +kernel
theorem d_Mo_tellsBy_3 : decode prog_14_method_75_code 3 = .ok (.lookupswitch 138 #[(0, 33), (4, 71), (6, 104)], 33) := by decide +kernel
theorem d_Mo_tellsBy_36 : decode prog_14_method_75_code 36 = .ok (.aload_n 0, 1) := by decide +kernel
theorem d_Mo_tellsBy_37 : decode prog_14_method_75_code 37 = .ok (.bipush 13, 2) := by decide +kernel
theorem d_Mo_tellsBy_39 : decode prog_14_method_75_code 39 = .ok (.invokevirtual 254, 3) := by decide +kernel
theorem d_Mo_tellsBy_42 : decode prog_14_method_75_code 42 = .ok (.aload_n 0, 1) := by decide +kernel
theorem d_Mo_tellsBy_43 : decode prog_14_method_75_code 43 = .ok (.aload_n 0, 1) := by decide +kernel
theorem d_Mo_tellsBy_44 : decode prog_14_method_75_code 44 = .ok (.aload_n 0, 1) := by decide +kernel
theorem d_Mo_tellsBy_45 : decode prog_14_method_75_code 45 = .ok (.getfield 257, 3) := by decide +kernel
theorem d_Mo_tellsBy_48 : decode prog_14_method_75_code 48 = .ok (.iconst 0, 1) := by decide +kernel
theorem d_Mo_tellsBy_49 : decode prog_14_method_75_code 49 = .ok (.invokevirtual 158, 3) := by decide +kernel
theorem d_Mo_tellsBy_52 : decode prog_14_method_75_code 52 = .ok (.iload_n 2, 1) := by decide +kernel
theorem d_Mo_tellsBy_53 : decode prog_14_method_75_code 53 = .ok (.invokevirtual 263, 3) := by decide +kernel
theorem d_Mo_tellsBy_56 : decode prog_14_method_75_code 56 = .ok (.istore_n 3, 1) := by decide +kernel
theorem d_Mo_tellsBy_57 : decode prog_14_method_75_code 57 = .ok (.iload_n 3, 1) := by decide +kernel
theorem d_Mo_tellsBy_58 : decode prog_14_method_75_code 58 = .ok (.aload_n 0, 1) := by decide +kernel
theorem d_Mo_tellsBy_59 : decode prog_14_method_75_code 59 = .ok (.aload_n 0, 1) := by decide +kernel
theorem d_Mo_tellsBy_60 : decode prog_14_method_75_code 60 = .ok (.aload_n 0, 1) := by decide +kernel
theorem d_Mo_tellsBy_61 : decode prog_14_method_75_code 61 = .ok (.getfield 257, 3) := by decide +kernel
theorem d_Mo_tellsBy_64 : decode prog_14_method_75_code 64 = .ok (.iconst 0, 1) := by decide +kernel
theorem d_Mo_tellsBy_65 : decode prog_14_method_75_code 65 = .ok (.invokevirtual 158, 3) := by decide +kernel
theorem d_Mo_tellsBy_68 : decode prog_14_method_75_code 68 = .ok (.iload_n 2, 1) := by decide +kernel
theorem d_Mo_tellsBy_69 : decode prog_14_method_75_code 69 = .ok (.invokevirtual 266, 3) := by decide +kernel
theorem d_Mo_tellsBy_72 : decode prog_14_method_75_code 72 = .ok (.ixor, 1) := by decide +kernel
theorem d_Mo_tellsBy_73 : decode prog_14_method_75_code 73 = .ok (.ireturn, 1) := by decide +kernel
set_option maxRecDepth 100000 in
theorem c_Mo_tellsBy_0 {i k0 tm : Nat} {x : Int32} {l : Launch} {d q n : Nat} {D : Nat → Int32} {A : Nat → Nat → Int32} {S : Nat → Int32} {h0 : HP} {Q : QT} (hk0 : k0 ≤ 6) (ek0 : D (50 + 7 * i + 0) = nI k0) (hi : i < 8) (ew : S 21 = nI i) (et : S 20 = nI tm) (hb : tm + 15 ≤ 40) (hQ : Q (some (.int (tlv k0 (D (50 + 7 * i + 1)) (nI i) 0 x))) n (mo q D (trA A tm (tll k0 0)) (trS S tm (tll k0 0)) h0)) : Ct l M_Mo_tellsBy (d + 7) 0 0 [.ref q, .int (nI 0), .int x] n (mo q D A S h0) Q := by
  refine Ct.of (fun _ => trivial) (by decide) (Nat.le_of_ble_eq_true rfl) ?_
  refine V.iconst_ (nI 0) d_Mo_tellsBy_0 (by decide +kernel) ?_
  refine V.istore_n d_Mo_tellsBy_1 (by decide) ?_
  refine V.iload_n d_Mo_tellsBy_2 rfl ?_
  refine V.lookup (tgt := 36) (off := 33) d_Mo_tellsBy_3 (by decide +kernel) (by decide +kernel) (by decide) ?_
  refine V.aload_n d_Mo_tellsBy_36 rfl ?_
  refine V.bipush_ (nI 13) d_Mo_tellsBy_37 (by decide +kernel) ?_
  refine V.callV1 d_Mo_tellsBy_39 k_Mo_254_Mo_ran_MoV mo_o (Nat.le_of_ble_eq_true rfl) (by omega) (by omega) (c_Mo_ran (tm := tm) (by have h1 := len_cr k0 hk0; have h2 := len_ln k0 hk0; have h3 := len_st k0 hk0 k0 hk0; have h4 := len_st0 k0 hk0; have h5 := len_tl0 k0 hk0; (try simp only [List.length_append, List.length_cons, List.length_nil]); omega) et ?_)
  refine V.aload_n d_Mo_tellsBy_42 rfl ?_
  refine V.aload_n d_Mo_tellsBy_43 rfl ?_
  refine V.aload_n d_Mo_tellsBy_44 rfl ?_
  refine V.get d_Mo_tellsBy_45 f_Mo_257_Mo mo_o rfl ?_
  first | rw [trS_n (by decide), ew] | rw [ew]
  refine V.iconst_ (nI 0) d_Mo_tellsBy_48 (by decide +kernel) ?_
  refine V.callV2 d_Mo_tellsBy_49 k_Mo_158_Mo_of_MoV mo_o (Nat.le_of_ble_eq_true rfl) (by omega) (by omega) (c_Mo_of (by omega) ?_)
  refine V.top ek0 ?_
  refine V.iload_n d_Mo_tellsBy_52 rfl ?_
  refine V.callV2 d_Mo_tellsBy_53 k_Mo_263_Mo_standsBy_MoV mo_o (Nat.le_of_ble_eq_true rfl) (by omega) (by omega) (c_Mo_standsBy (tm := (tm + ([13]).length)) hk0 hk0 ek0 hi (by rw [trS_n (by decide)]; exact ew) (trS_20 rfl) (by have h1 := len_cr k0 hk0; have h2 := len_ln k0 hk0; have h3 := len_st k0 hk0 k0 hk0; have h4 := len_st0 k0 hk0; have h5 := len_tl0 k0 hk0; (try simp only [List.length_append, List.length_cons, List.length_nil]); omega) ?_)
  rw [trA_cat (by simp only [List.length_append, List.length_cons, List.length_nil]; try omega), trS_cat (by simp only [List.length_append, List.length_cons, List.length_nil]; try omega)]
  refine V.istore_n d_Mo_tellsBy_56 (by decide) ?_
  refine V.iload_n d_Mo_tellsBy_57 rfl ?_
  refine V.aload_n d_Mo_tellsBy_58 rfl ?_
  refine V.aload_n d_Mo_tellsBy_59 rfl ?_
  refine V.aload_n d_Mo_tellsBy_60 rfl ?_
  refine V.get d_Mo_tellsBy_61 f_Mo_257_Mo mo_o rfl ?_
  first | rw [trS_n (by decide), ew] | rw [ew]
  refine V.iconst_ (nI 0) d_Mo_tellsBy_64 (by decide +kernel) ?_
  refine V.callV2 d_Mo_tellsBy_65 k_Mo_158_Mo_of_MoV mo_o (Nat.le_of_ble_eq_true rfl) (by omega) (by omega) (c_Mo_of (by omega) ?_)
  refine V.top ek0 ?_
  refine V.iload_n d_Mo_tellsBy_68 rfl ?_
  refine V.callV2 d_Mo_tellsBy_69 k_Mo_266_Mo_leansBy_MoV mo_o (Nat.le_of_ble_eq_true rfl) (by omega) (by omega) (c_Mo_leansBy (tm := (tm + (([13] ++ stl k0 k0)).length)) hk0 hi (by rw [trS_n (by decide)]; exact ew) (trS_20 rfl) (by have h1 := len_cr k0 hk0; have h2 := len_ln k0 hk0; have h3 := len_st k0 hk0 k0 hk0; have h4 := len_st0 k0 hk0; have h5 := len_tl0 k0 hk0; (try simp only [List.length_append, List.length_cons, List.length_nil]); omega) ?_)
  rw [trA_cat (by simp only [List.length_append, List.length_cons, List.length_nil]; try omega), trS_cat (by simp only [List.length_append, List.length_cons, List.length_nil]; try omega)]
  refine V.ixor d_Mo_tellsBy_72 ?_
  refine V.iret d_Mo_tellsBy_73 rfl (Nat.le_of_ble_eq_true rfl) (Nat.le_of_ble_eq_true rfl) ?_
  exact hQ
theorem d_Mo_tellsBy_141 : decode prog_14_method_75_code 141 = .ok (.aload_n 0, 1) := by decide +kernel
theorem d_Mo_tellsBy_142 : decode prog_14_method_75_code 142 = .ok (.iload_n 1, 1) := by decide +kernel
theorem d_Mo_tellsBy_143 : decode prog_14_method_75_code 143 = .ok (.invokestatic 214, 3) := by decide +kernel
theorem d_Mo_tellsBy_146 : decode prog_14_method_75_code 146 = .ok (.iload_n 2, 1) := by decide +kernel
theorem d_Mo_tellsBy_147 : decode prog_14_method_75_code 147 = .ok (.invokevirtual 269, 3) := by decide +kernel
theorem kB_Mo_tellsBy : kB M_Mo_tellsBy 2 := ⟨tm 15 (by decide +kernel) rfl, tm 1449 (by decide +kernel) rfl, ⟨by decide, by decide, by decide +kernel⟩, by decide⟩
theorem k_Mo_269_Mo_tellsBy_MoV : kV "FelledByNamesModel" 269 5 M_Mo_tellsBy 2 := ⟨kB_Mo_tellsBy, tm 1446 (by decide +kernel) rfl, tm 1448 (by decide +kernel) rfl, tp 49 (by decide +kernel) rfl, _, rfl, rfl⟩
theorem d_Mo_tellsBy_150 : decode prog_14_method_75_code 150 = .ok (.ireturn, 1) := by decide +kernel
set_option maxRecDepth 100000 in
theorem c_Mo_tellsBy_1 {i k0 tm : Nat} {x : Int32} {l : Launch} {d q n : Nat} {D : Nat → Int32} {A : Nat → Nat → Int32} {S : Nat → Int32} {h0 : HP} {Q : QT} (hk0 : k0 ≤ 6) (ek0 : D (50 + 7 * i + 0) = nI k0) (hi : i < 8) (ew : S 21 = nI i) (et : S 20 = nI tm) (hb : tm + 15 ≤ 40) (hQ : Q (some (.int (tlv k0 (D (50 + 7 * i + 1)) (nI i) 1 x))) n (mo q D (trA A tm (tll k0 1)) (trS S tm (tll k0 1)) h0)) : Ct l M_Mo_tellsBy (d + 8) 0 0 [.ref q, .int (nI 1), .int x] n (mo q D A S h0) Q := by
  refine Ct.of (fun _ => trivial) (by decide) (Nat.le_of_ble_eq_true rfl) ?_
  refine V.iconst_ (nI 0) d_Mo_tellsBy_0 (by decide +kernel) ?_
  refine V.istore_n d_Mo_tellsBy_1 (by decide) ?_
  refine V.iload_n d_Mo_tellsBy_2 rfl ?_
  refine V.lookup (tgt := 141) (off := 138) d_Mo_tellsBy_3 (by decide +kernel) (by decide +kernel) (by decide) ?_
  refine V.aload_n d_Mo_tellsBy_141 rfl ?_
  refine V.iload_n d_Mo_tellsBy_142 rfl ?_
  refine V.callS1 d_Mo_tellsBy_143 k_Mo_214_Mo_aboveS (Nat.le_of_ble_eq_true rfl) (by omega) (by omega) (c_Mo_above (by omega) ?_)
  refine V.iload_n d_Mo_tellsBy_146 rfl ?_
  refine V.callV2 d_Mo_tellsBy_147 k_Mo_269_Mo_tellsBy_MoV mo_o (Nat.le_of_ble_eq_true rfl) (by omega) (by omega) (c_Mo_tellsBy_0 (tm := tm) hk0 ek0 hi ew et (by have h1 := len_cr k0 hk0; have h2 := len_ln k0 hk0; have h3 := len_st k0 hk0 k0 hk0; have h4 := len_st0 k0 hk0; have h5 := len_tl0 k0 hk0; (try simp only [List.length_append, List.length_cons, List.length_nil]); omega) ?_)
  refine V.iret d_Mo_tellsBy_150 rfl (Nat.le_of_ble_eq_true rfl) (Nat.le_of_ble_eq_true rfl) ?_
  exact hQ
set_option maxRecDepth 100000 in
theorem c_Mo_tellsBy_2 {i k0 tm : Nat} {x : Int32} {l : Launch} {d q n : Nat} {D : Nat → Int32} {A : Nat → Nat → Int32} {S : Nat → Int32} {h0 : HP} {Q : QT} (hk0 : k0 ≤ 6) (ek0 : D (50 + 7 * i + 0) = nI k0) (hi : i < 8) (ew : S 21 = nI i) (et : S 20 = nI tm) (hb : tm + 15 ≤ 40) (hQ : Q (some (.int (tlv k0 (D (50 + 7 * i + 1)) (nI i) 2 x))) n (mo q D (trA A tm (tll k0 2)) (trS S tm (tll k0 2)) h0)) : Ct l M_Mo_tellsBy (d + 8) 0 0 [.ref q, .int (nI 2), .int x] n (mo q D A S h0) Q := by
  refine Ct.of (fun _ => trivial) (by decide) (Nat.le_of_ble_eq_true rfl) ?_
  refine V.iconst_ (nI 0) d_Mo_tellsBy_0 (by decide +kernel) ?_
  refine V.istore_n d_Mo_tellsBy_1 (by decide) ?_
  refine V.iload_n d_Mo_tellsBy_2 rfl ?_
  refine V.lookup (tgt := 141) (off := 138) d_Mo_tellsBy_3 (by decide +kernel) (by decide +kernel) (by decide) ?_
  refine V.aload_n d_Mo_tellsBy_141 rfl ?_
  refine V.iload_n d_Mo_tellsBy_142 rfl ?_
  refine V.callS1 d_Mo_tellsBy_143 k_Mo_214_Mo_aboveS (Nat.le_of_ble_eq_true rfl) (by omega) (by omega) (c_Mo_above (by omega) ?_)
  refine V.iload_n d_Mo_tellsBy_146 rfl ?_
  refine V.callV2 d_Mo_tellsBy_147 k_Mo_269_Mo_tellsBy_MoV mo_o (Nat.le_of_ble_eq_true rfl) (by omega) (by omega) (c_Mo_tellsBy_0 (tm := tm) hk0 ek0 hi ew et (by have h1 := len_cr k0 hk0; have h2 := len_ln k0 hk0; have h3 := len_st k0 hk0 k0 hk0; have h4 := len_st0 k0 hk0; have h5 := len_tl0 k0 hk0; (try simp only [List.length_append, List.length_cons, List.length_nil]); omega) ?_)
  refine V.iret d_Mo_tellsBy_150 rfl (Nat.le_of_ble_eq_true rfl) (Nat.le_of_ble_eq_true rfl) ?_
  exact hQ
set_option maxRecDepth 100000 in
theorem c_Mo_tellsBy_3 {i k0 tm : Nat} {x : Int32} {l : Launch} {d q n : Nat} {D : Nat → Int32} {A : Nat → Nat → Int32} {S : Nat → Int32} {h0 : HP} {Q : QT} (hk0 : k0 ≤ 6) (ek0 : D (50 + 7 * i + 0) = nI k0) (hi : i < 8) (ew : S 21 = nI i) (et : S 20 = nI tm) (hb : tm + 15 ≤ 40) (hQ : Q (some (.int (tlv k0 (D (50 + 7 * i + 1)) (nI i) 3 x))) n (mo q D (trA A tm (tll k0 3)) (trS S tm (tll k0 3)) h0)) : Ct l M_Mo_tellsBy (d + 8) 0 0 [.ref q, .int (nI 3), .int x] n (mo q D A S h0) Q := by
  refine Ct.of (fun _ => trivial) (by decide) (Nat.le_of_ble_eq_true rfl) ?_
  refine V.iconst_ (nI 0) d_Mo_tellsBy_0 (by decide +kernel) ?_
  refine V.istore_n d_Mo_tellsBy_1 (by decide) ?_
  refine V.iload_n d_Mo_tellsBy_2 rfl ?_
  refine V.lookup (tgt := 141) (off := 138) d_Mo_tellsBy_3 (by decide +kernel) (by decide +kernel) (by decide) ?_
  refine V.aload_n d_Mo_tellsBy_141 rfl ?_
  refine V.iload_n d_Mo_tellsBy_142 rfl ?_
  refine V.callS1 d_Mo_tellsBy_143 k_Mo_214_Mo_aboveS (Nat.le_of_ble_eq_true rfl) (by omega) (by omega) (c_Mo_above (by omega) ?_)
  refine V.iload_n d_Mo_tellsBy_146 rfl ?_
  refine V.callV2 d_Mo_tellsBy_147 k_Mo_269_Mo_tellsBy_MoV mo_o (Nat.le_of_ble_eq_true rfl) (by omega) (by omega) (c_Mo_tellsBy_0 (tm := tm) hk0 ek0 hi ew et (by have h1 := len_cr k0 hk0; have h2 := len_ln k0 hk0; have h3 := len_st k0 hk0 k0 hk0; have h4 := len_st0 k0 hk0; have h5 := len_tl0 k0 hk0; (try simp only [List.length_append, List.length_cons, List.length_nil]); omega) ?_)
  refine V.iret d_Mo_tellsBy_150 rfl (Nat.le_of_ble_eq_true rfl) (Nat.le_of_ble_eq_true rfl) ?_
  exact hQ
theorem d_Mo_tellsBy_74 : decode prog_14_method_75_code 74 = .ok (.aload_n 0, 1) := by decide +kernel
theorem d_Mo_tellsBy_75 : decode prog_14_method_75_code 75 = .ok (.bipush 50, 2) := by decide +kernel
theorem d_Mo_tellsBy_77 : decode prog_14_method_75_code 77 = .ok (.invokevirtual 254, 3) := by decide +kernel
theorem d_Mo_tellsBy_80 : decode prog_14_method_75_code 80 = .ok (.aload_n 0, 1) := by decide +kernel
theorem d_Mo_tellsBy_81 : decode prog_14_method_75_code 81 = .ok (.iconst 4, 1) := by decide +kernel
theorem d_Mo_tellsBy_82 : decode prog_14_method_75_code 82 = .ok (.invokestatic 214, 3) := by decide +kernel
theorem d_Mo_tellsBy_85 : decode prog_14_method_75_code 85 = .ok (.iload_n 2, 1) := by decide +kernel
theorem d_Mo_tellsBy_86 : decode prog_14_method_75_code 86 = .ok (.invokevirtual 269, 3) := by decide +kernel
theorem d_Mo_tellsBy_89 : decode prog_14_method_75_code 89 = .ok (.istore_n 3, 1) := by decide +kernel
theorem d_Mo_tellsBy_90 : decode prog_14_method_75_code 90 = .ok (.iload_n 3, 1) := by decide +kernel
theorem d_Mo_tellsBy_91 : decode prog_14_method_75_code 91 = .ok (.aload_n 0, 1) := by decide +kernel
theorem d_Mo_tellsBy_92 : decode prog_14_method_75_code 92 = .ok (.aload_n 0, 1) := by decide +kernel
theorem d_Mo_tellsBy_93 : decode prog_14_method_75_code 93 = .ok (.aload_n 0, 1) := by decide +kernel
theorem d_Mo_tellsBy_94 : decode prog_14_method_75_code 94 = .ok (.getfield 257, 3) := by decide +kernel
theorem d_Mo_tellsBy_97 : decode prog_14_method_75_code 97 = .ok (.iconst 0, 1) := by decide +kernel
theorem d_Mo_tellsBy_98 : decode prog_14_method_75_code 98 = .ok (.invokevirtual 158, 3) := by decide +kernel
theorem d_Mo_tellsBy_101 : decode prog_14_method_75_code 101 = .ok (.iconst 2, 1) := by decide +kernel
theorem d_Mo_tellsBy_102 : decode prog_14_method_75_code 102 = .ok (.invokevirtual 260, 3) := by decide +kernel
theorem d_Mo_tellsBy_105 : decode prog_14_method_75_code 105 = .ok (.isub, 1) := by decide +kernel
theorem d_Mo_tellsBy_106 : decode prog_14_method_75_code 106 = .ok (.ireturn, 1) := by decide +kernel
set_option maxRecDepth 100000 in
theorem c_Mo_tellsBy_4 {i k0 tm : Nat} {x : Int32} {l : Launch} {d q n : Nat} {D : Nat → Int32} {A : Nat → Nat → Int32} {S : Nat → Int32} {h0 : HP} {Q : QT} (hk0 : k0 ≤ 6) (ek0 : D (50 + 7 * i + 0) = nI k0) (hi : i < 8) (ew : S 21 = nI i) (et : S 20 = nI tm) (hb : tm + 20 ≤ 40) (hQ : Q (some (.int (tlv k0 (D (50 + 7 * i + 1)) (nI i) 4 x))) n (mo q D (trA A tm (tll k0 4)) (trS S tm (tll k0 4)) h0)) : Ct l M_Mo_tellsBy (d + 9) 0 0 [.ref q, .int (nI 4), .int x] n (mo q D A S h0) Q := by
  refine Ct.of (fun _ => trivial) (by decide) (Nat.le_of_ble_eq_true rfl) ?_
  refine V.iconst_ (nI 0) d_Mo_tellsBy_0 (by decide +kernel) ?_
  refine V.istore_n d_Mo_tellsBy_1 (by decide) ?_
  refine V.iload_n d_Mo_tellsBy_2 rfl ?_
  refine V.lookup (tgt := 74) (off := 71) d_Mo_tellsBy_3 (by decide +kernel) (by decide +kernel) (by decide) ?_
  refine V.aload_n d_Mo_tellsBy_74 rfl ?_
  refine V.bipush_ (nI 50) d_Mo_tellsBy_75 (by decide +kernel) ?_
  refine V.callV1 d_Mo_tellsBy_77 k_Mo_254_Mo_ran_MoV mo_o (Nat.le_of_ble_eq_true rfl) (by omega) (by omega) (c_Mo_ran (tm := tm) (by have h1 := len_cr k0 hk0; have h2 := len_ln k0 hk0; have h3 := len_st k0 hk0 k0 hk0; have h4 := len_st0 k0 hk0; have h5 := len_tl0 k0 hk0; (try simp only [List.length_append, List.length_cons, List.length_nil]); omega) et ?_)
  refine V.aload_n d_Mo_tellsBy_80 rfl ?_
  refine V.iconst_ (nI 4) d_Mo_tellsBy_81 (by decide +kernel) ?_
  refine V.callS1 d_Mo_tellsBy_82 k_Mo_214_Mo_aboveS (Nat.le_of_ble_eq_true rfl) (by omega) (by omega) (c_Mo_above (by omega) ?_)
  refine V.iload_n d_Mo_tellsBy_85 rfl ?_
  refine V.callV2 d_Mo_tellsBy_86 k_Mo_269_Mo_tellsBy_MoV mo_o (Nat.le_of_ble_eq_true rfl) (by omega) (by omega) (c_Mo_tellsBy_1 (tm := (tm + ([50]).length)) hk0 ek0 hi (by rw [trS_n (by decide)]; exact ew) (trS_20 rfl) (by have h1 := len_cr k0 hk0; have h2 := len_ln k0 hk0; have h3 := len_st k0 hk0 k0 hk0; have h4 := len_st0 k0 hk0; have h5 := len_tl0 k0 hk0; (try simp only [List.length_append, List.length_cons, List.length_nil]); omega) ?_)
  rw [trA_cat (by simp only [List.length_append, List.length_cons, List.length_nil]; try omega), trS_cat (by simp only [List.length_append, List.length_cons, List.length_nil]; try omega)]
  refine V.istore_n d_Mo_tellsBy_89 (by decide) ?_
  refine V.iload_n d_Mo_tellsBy_90 rfl ?_
  refine V.aload_n d_Mo_tellsBy_91 rfl ?_
  refine V.aload_n d_Mo_tellsBy_92 rfl ?_
  refine V.aload_n d_Mo_tellsBy_93 rfl ?_
  refine V.get d_Mo_tellsBy_94 f_Mo_257_Mo mo_o rfl ?_
  first | rw [trS_n (by decide), ew] | rw [ew]
  refine V.iconst_ (nI 0) d_Mo_tellsBy_97 (by decide +kernel) ?_
  refine V.callV2 d_Mo_tellsBy_98 k_Mo_158_Mo_of_MoV mo_o (Nat.le_of_ble_eq_true rfl) (by omega) (by omega) (c_Mo_of (by omega) ?_)
  refine V.top ek0 ?_
  refine V.iconst_ (nI 2) d_Mo_tellsBy_101 (by decide +kernel) ?_
  refine V.callV2 d_Mo_tellsBy_102 k_Mo_260_Mo_creaksBy_MoV mo_o (Nat.le_of_ble_eq_true rfl) (by omega) (by omega) (c_Mo_creaksBy (tm := (tm + (([50] ++ tll k0 1)).length)) hk0 hi (by rw [trS_n (by decide)]; exact ew) (trS_20 rfl) (by have h1 := len_cr k0 hk0; have h2 := len_ln k0 hk0; have h3 := len_st k0 hk0 k0 hk0; have h4 := len_st0 k0 hk0; have h5 := len_tl0 k0 hk0; (try simp only [List.length_append, List.length_cons, List.length_nil]); omega) ?_)
  rw [trA_cat (by simp only [List.length_append, List.length_cons, List.length_nil]; try omega), trS_cat (by simp only [List.length_append, List.length_cons, List.length_nil]; try omega)]
  refine V.isub d_Mo_tellsBy_105 ?_
  refine V.iret d_Mo_tellsBy_106 rfl (Nat.le_of_ble_eq_true rfl) (Nat.le_of_ble_eq_true rfl) ?_
  exact hQ
set_option maxRecDepth 100000 in
theorem c_Mo_tellsBy_5 {i k0 tm : Nat} {x : Int32} {l : Launch} {d q n : Nat} {D : Nat → Int32} {A : Nat → Nat → Int32} {S : Nat → Int32} {h0 : HP} {Q : QT} (hk0 : k0 ≤ 6) (ek0 : D (50 + 7 * i + 0) = nI k0) (hi : i < 8) (ew : S 21 = nI i) (et : S 20 = nI tm) (hb : tm + 15 ≤ 40) (hQ : Q (some (.int (tlv k0 (D (50 + 7 * i + 1)) (nI i) 5 x))) n (mo q D (trA A tm (tll k0 5)) (trS S tm (tll k0 5)) h0)) : Ct l M_Mo_tellsBy (d + 9) 0 0 [.ref q, .int (nI 5), .int x] n (mo q D A S h0) Q := by
  refine Ct.of (fun _ => trivial) (by decide) (Nat.le_of_ble_eq_true rfl) ?_
  refine V.iconst_ (nI 0) d_Mo_tellsBy_0 (by decide +kernel) ?_
  refine V.istore_n d_Mo_tellsBy_1 (by decide) ?_
  refine V.iload_n d_Mo_tellsBy_2 rfl ?_
  refine V.lookup (tgt := 141) (off := 138) d_Mo_tellsBy_3 (by decide +kernel) (by decide +kernel) (by decide) ?_
  refine V.aload_n d_Mo_tellsBy_141 rfl ?_
  refine V.iload_n d_Mo_tellsBy_142 rfl ?_
  refine V.callS1 d_Mo_tellsBy_143 k_Mo_214_Mo_aboveS (Nat.le_of_ble_eq_true rfl) (by omega) (by omega) (c_Mo_above (by omega) ?_)
  refine V.iload_n d_Mo_tellsBy_146 rfl ?_
  refine V.callV2 d_Mo_tellsBy_147 k_Mo_269_Mo_tellsBy_MoV mo_o (Nat.le_of_ble_eq_true rfl) (by omega) (by omega) (c_Mo_tellsBy_2 (tm := tm) hk0 ek0 hi ew et (by have h1 := len_cr k0 hk0; have h2 := len_ln k0 hk0; have h3 := len_st k0 hk0 k0 hk0; have h4 := len_st0 k0 hk0; have h5 := len_tl0 k0 hk0; (try simp only [List.length_append, List.length_cons, List.length_nil]); omega) ?_)
  refine V.iret d_Mo_tellsBy_150 rfl (Nat.le_of_ble_eq_true rfl) (Nat.le_of_ble_eq_true rfl) ?_
  exact hQ
theorem d_Mo_tellsBy_107 : decode prog_14_method_75_code 107 = .ok (.aload_n 0, 1) := by decide +kernel
theorem d_Mo_tellsBy_108 : decode prog_14_method_75_code 108 = .ok (.bipush 71, 2) := by decide +kernel
theorem d_Mo_tellsBy_110 : decode prog_14_method_75_code 110 = .ok (.invokevirtual 254, 3) := by decide +kernel
theorem d_Mo_tellsBy_113 : decode prog_14_method_75_code 113 = .ok (.aload_n 0, 1) := by decide +kernel
theorem d_Mo_tellsBy_114 : decode prog_14_method_75_code 114 = .ok (.aload_n 0, 1) := by decide +kernel
theorem d_Mo_tellsBy_115 : decode prog_14_method_75_code 115 = .ok (.aload_n 0, 1) := by decide +kernel
theorem d_Mo_tellsBy_116 : decode prog_14_method_75_code 116 = .ok (.getfield 257, 3) := by decide +kernel
theorem d_Mo_tellsBy_119 : decode prog_14_method_75_code 119 = .ok (.iconst 0, 1) := by decide +kernel
theorem d_Mo_tellsBy_120 : decode prog_14_method_75_code 120 = .ok (.invokevirtual 158, 3) := by decide +kernel
theorem d_Mo_tellsBy_123 : decode prog_14_method_75_code 123 = .ok (.iload_n 2, 1) := by decide +kernel
theorem d_Mo_tellsBy_124 : decode prog_14_method_75_code 124 = .ok (.invokevirtual 263, 3) := by decide +kernel
theorem d_Mo_tellsBy_127 : decode prog_14_method_75_code 127 = .ok (.istore_n 3, 1) := by decide +kernel
theorem d_Mo_tellsBy_128 : decode prog_14_method_75_code 128 = .ok (.iload_n 3, 1) := by decide +kernel
theorem d_Mo_tellsBy_129 : decode prog_14_method_75_code 129 = .ok (.aload_n 0, 1) := by decide +kernel
theorem d_Mo_tellsBy_130 : decode prog_14_method_75_code 130 = .ok (.bipush 6, 2) := by decide +kernel
theorem d_Mo_tellsBy_132 : decode prog_14_method_75_code 132 = .ok (.invokestatic 214, 3) := by decide +kernel
theorem d_Mo_tellsBy_135 : decode prog_14_method_75_code 135 = .ok (.iload_n 2, 1) := by decide +kernel
theorem d_Mo_tellsBy_136 : decode prog_14_method_75_code 136 = .ok (.invokevirtual 269, 3) := by decide +kernel
theorem d_Mo_tellsBy_139 : decode prog_14_method_75_code 139 = .ok (.isub, 1) := by decide +kernel
theorem d_Mo_tellsBy_140 : decode prog_14_method_75_code 140 = .ok (.ireturn, 1) := by decide +kernel
set_option maxRecDepth 100000 in
theorem c_Mo_tellsBy_6 {i k0 tm : Nat} {x : Int32} {l : Launch} {d q n : Nat} {D : Nat → Int32} {A : Nat → Nat → Int32} {S : Nat → Int32} {h0 : HP} {Q : QT} (hk0 : k0 ≤ 6) (ek0 : D (50 + 7 * i + 0) = nI k0) (hi : i < 8) (ew : S 21 = nI i) (et : S 20 = nI tm) (hb : tm + 25 ≤ 40) (hQ : Q (some (.int (tlv k0 (D (50 + 7 * i + 1)) (nI i) 6 x))) n (mo q D (trA A tm (tll k0 6)) (trS S tm (tll k0 6)) h0)) : Ct l M_Mo_tellsBy (d + 9) 0 0 [.ref q, .int (nI 6), .int x] n (mo q D A S h0) Q := by
  refine Ct.of (fun _ => trivial) (by decide) (Nat.le_of_ble_eq_true rfl) ?_
  refine V.iconst_ (nI 0) d_Mo_tellsBy_0 (by decide +kernel) ?_
  refine V.istore_n d_Mo_tellsBy_1 (by decide) ?_
  refine V.iload_n d_Mo_tellsBy_2 rfl ?_
  refine V.lookup (tgt := 107) (off := 104) d_Mo_tellsBy_3 (by decide +kernel) (by decide +kernel) (by decide) ?_
  refine V.aload_n d_Mo_tellsBy_107 rfl ?_
  refine V.bipush_ (nI 71) d_Mo_tellsBy_108 (by decide +kernel) ?_
  refine V.callV1 d_Mo_tellsBy_110 k_Mo_254_Mo_ran_MoV mo_o (Nat.le_of_ble_eq_true rfl) (by omega) (by omega) (c_Mo_ran (tm := tm) (by have h1 := len_cr k0 hk0; have h2 := len_ln k0 hk0; have h3 := len_st k0 hk0 k0 hk0; have h4 := len_st0 k0 hk0; have h5 := len_tl0 k0 hk0; (try simp only [List.length_append, List.length_cons, List.length_nil]); omega) et ?_)
  refine V.aload_n d_Mo_tellsBy_113 rfl ?_
  refine V.aload_n d_Mo_tellsBy_114 rfl ?_
  refine V.aload_n d_Mo_tellsBy_115 rfl ?_
  refine V.get d_Mo_tellsBy_116 f_Mo_257_Mo mo_o rfl ?_
  first | rw [trS_n (by decide), ew] | rw [ew]
  refine V.iconst_ (nI 0) d_Mo_tellsBy_119 (by decide +kernel) ?_
  refine V.callV2 d_Mo_tellsBy_120 k_Mo_158_Mo_of_MoV mo_o (Nat.le_of_ble_eq_true rfl) (by omega) (by omega) (c_Mo_of (by omega) ?_)
  refine V.top ek0 ?_
  refine V.iload_n d_Mo_tellsBy_123 rfl ?_
  refine V.callV2 d_Mo_tellsBy_124 k_Mo_263_Mo_standsBy_MoV mo_o (Nat.le_of_ble_eq_true rfl) (by omega) (by omega) (c_Mo_standsBy (tm := (tm + ([71]).length)) hk0 hk0 ek0 hi (by rw [trS_n (by decide)]; exact ew) (trS_20 rfl) (by have h1 := len_cr k0 hk0; have h2 := len_ln k0 hk0; have h3 := len_st k0 hk0 k0 hk0; have h4 := len_st0 k0 hk0; have h5 := len_tl0 k0 hk0; (try simp only [List.length_append, List.length_cons, List.length_nil]); omega) ?_)
  rw [trA_cat (by simp only [List.length_append, List.length_cons, List.length_nil]; try omega), trS_cat (by simp only [List.length_append, List.length_cons, List.length_nil]; try omega)]
  refine V.istore_n d_Mo_tellsBy_127 (by decide) ?_
  refine V.iload_n d_Mo_tellsBy_128 rfl ?_
  refine V.aload_n d_Mo_tellsBy_129 rfl ?_
  refine V.bipush_ (nI 6) d_Mo_tellsBy_130 (by decide +kernel) ?_
  refine V.callS1 d_Mo_tellsBy_132 k_Mo_214_Mo_aboveS (Nat.le_of_ble_eq_true rfl) (by omega) (by omega) (c_Mo_above (by omega) ?_)
  refine V.iload_n d_Mo_tellsBy_135 rfl ?_
  refine V.callV2 d_Mo_tellsBy_136 k_Mo_269_Mo_tellsBy_MoV mo_o (Nat.le_of_ble_eq_true rfl) (by omega) (by omega) (c_Mo_tellsBy_3 (tm := (tm + (([71] ++ stl k0 k0)).length)) hk0 ek0 hi (by rw [trS_n (by decide)]; exact ew) (trS_20 rfl) (by have h1 := len_cr k0 hk0; have h2 := len_ln k0 hk0; have h3 := len_st k0 hk0 k0 hk0; have h4 := len_st0 k0 hk0; have h5 := len_tl0 k0 hk0; (try simp only [List.length_append, List.length_cons, List.length_nil]); omega) ?_)
  rw [trA_cat (by simp only [List.length_append, List.length_cons, List.length_nil]; try omega), trS_cat (by simp only [List.length_append, List.length_cons, List.length_nil]; try omega)]
  refine V.isub d_Mo_tellsBy_139 ?_
  refine V.iret d_Mo_tellsBy_140 rfl (Nat.le_of_ble_eq_true rfl) (Nat.le_of_ble_eq_true rfl) ?_
  exact hQ
theorem c_Mo_tellsBy {i k0 k tm : Nat} {x : Int32} {l : Launch} {d q n : Nat} {D : Nat → Int32} {A : Nat → Nat → Int32} {S : Nat → Int32} {h0 : HP} {Q : QT} (hk : k ≤ 6) (hk0 : k0 ≤ 6) (ek0 : D (50 + 7 * i + 0) = nI k0) (hi : i < 8) (ew : S 21 = nI i) (et : S 20 = nI tm) (hb : tm + 25 ≤ 40) (hQ : Q (some (.int (tlv k0 (D (50 + 7 * i + 1)) (nI i) k x))) n (mo q D (trA A tm (tll k0 k)) (trS S tm (tll k0 k)) h0)) : Ct l M_Mo_tellsBy (d + 9) 0 0 [.ref q, .int (nI k), .int x] n (mo q D A S h0) Q := by
  rcases (show k = 0 ∨ k = 1 ∨ k = 2 ∨ k = 3 ∨ k = 4 ∨ k = 5 ∨ k = 6 by omega) with rfl | rfl | rfl | rfl | rfl | rfl | rfl
  · exact c_Mo_tellsBy_0 hk0 ek0 hi ew et (by omega) hQ
  · exact c_Mo_tellsBy_1 hk0 ek0 hi ew et (by omega) hQ
  · exact c_Mo_tellsBy_2 hk0 ek0 hi ew et (by omega) hQ
  · exact c_Mo_tellsBy_3 hk0 ek0 hi ew et (by omega) hQ
  · exact c_Mo_tellsBy_4 hk0 ek0 hi ew et (by omega) hQ
  · exact c_Mo_tellsBy_5 hk0 ek0 hi ew et (by omega) hQ
  · exact c_Mo_tellsBy_6 hk0 ek0 hi ew et (by omega) hQ
