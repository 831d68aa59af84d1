theorem bd_cat {Z : Nat → Nat → Int32} {tm : Nat} {a b : List Nat} : uZ (uZ Z 51 1 (nI (tm + a.length))) 51 1 (nI (tm + a.length + b.length)) = uZ Z 51 1 (nI (tm + (a ++ b).length)) := by rw [uZ_uu, List.length_append, Nat.add_assoc]
def kcls (c : Nat) : vw_C := (cls[6 + c]?).getD ("", fun _ => ("", "", "", false), 0)
theorem kcls_ok : ∀ c, c ≤ 6 → cls[6 + c]? = some (kcls c) := fun c hc => by
  rcases (show c = 0 ∨ c = 1 ∨ c = 2 ∨ c = 3 ∨ c = 4 ∨ c = 5 ∨ c = 6 by omega) with rfl | rfl | rfl | rfl | rfl | rfl | rfl <;> rfl
def lmv (k : Nat) (m hg x : Int32) : Int32 := if k = 1 then nI 0 + m else if k = 2 then m / nI 2 else if k = 3 then nI 5 else if k = 4 then (if irm x (nI 2) = 0 then nI 0 + m else nI 0) else if k = 5 then m / nI 2 + nI 20 else if k = 6 then nI 5 + hg / nI 10 else nI 0
def gwv (k : Nat) (x : Int32) : Int32 := if k = 1 ∨ k = 4 then (if irm x (nI 3) = 0 then nI 1 else nI 0) else if k = 3 then nI 1 else if k = 6 then nI 1 * nI 2 else nI 0
def rcv (k : Nat) (hg : Int32) : Int32 := if k = 5 then nI 0 else hg / nI 20
abbrev M_Tree_limit : MD := (⟨"FelledByNames$Tree", "limit", "(I)I"⟩, prog_10_method_3_code, 2, (some .int), fun _ => True)
theorem d_Tree_limit_0 : decode prog_10_method_3_code 0 = .ok (.iconst 0, 1) := by decide +kernel
theorem d_Tree_limit_1 : decode prog_10_method_3_code 1 = .ok (.ireturn, 1) := by decide +kernel
set_option maxRecDepth 100000 in
theorem c_Tree_limit {w i : Nat} {x : Int32} {l : Launch} {d n : Nat} {R W Z : Nat → Nat → Int32} {T : Nat → Nat → Nat} {kn : Kn} {h0 : HP} {Q : QT} (hT : TI T kn n) (hw : w < 3) (hi : i < 8) (hK : tN (W w) (50 + 7 * i + 0) ≤ 6) (hQ : Q (some (.int (lmv 0 (W w (50 + 7 * i + 1)) (W w (50 + 7 * i + 5)) x))) n (co R W Z T kn h0)) : Ct l M_Tree_limit d 0 0 [.ref (T w i), .int x] n (co R W Z T kn h0) Q := by
  refine Ct.of (fun _ => trivial) (by decide) (Nat.le_of_ble_eq_true rfl) ?_
  refine V.iconst_ (nI 0) d_Tree_limit_0 (by decide +kernel) ?_
  refine V.iret d_Tree_limit_1 rfl (Nat.le_of_ble_eq_true rfl) (Nat.le_of_ble_eq_true rfl) ?_
  exact hQ
abbrev M_Beech_limit : MD := (⟨"FelledByNames$Beech", "limit", "(I)I"⟩, prog_2_method_2_code, 2, (some .int), fun _ => True)
theorem d_Beech_limit_0 : decode prog_2_method_2_code 0 = .ok (.aload_n 0, 1) := by decide +kernel
theorem d_Beech_limit_1 : decode prog_2_method_2_code 1 = .ok (.iload_n 1, 1) := by decide +kernel
theorem d_Beech_limit_2 : decode prog_2_method_2_code 2 = .ok (.invokespecial 7, 3) := by decide +kernel
theorem kB_Tree_limit : kB M_Tree_limit 1 := ⟨tm 6 (by decide +kernel) rfl, tm 638 (by decide +kernel) rfl, ⟨by decide, by decide, by decide +kernel⟩, by decide⟩
theorem k_Beech_7_Tree_limitSU : kSU "FelledByNames$Beech" 7 M_Tree_limit 1 := ⟨kB_Tree_limit, tm 619 (by decide +kernel) rfl, tm 615 (by decide +kernel) rfl, tm 526 (by decide +kernel) rfl, tm 613 (by decide +kernel) rfl, by decide⟩
theorem d_Beech_limit_5 : decode prog_2_method_2_code 5 = .ok (.aload_n 0, 1) := by decide +kernel
theorem d_Beech_limit_6 : decode prog_2_method_2_code 6 = .ok (.getfield 11, 3) := by decide +kernel
theorem f_Beech_11_Tree : fok "FelledByNames$Beech" 11 6 2 := ⟨R_Tree, F_Tree, 8, "FelledByNames$Beech", rfl, i_Tree, by decide, tm 131 (by decide +kernel) rfl, Or.inr (tm 132 (by decide +kernel) rfl), t_Tree, t_Tree_ok, n_Tree⟩
theorem f_Beech_11_Beech : fok "FelledByNames$Beech" 11 7 2 := ⟨R_Beech, F_Beech, 8, "FelledByNames$Beech", rfl, i_Beech, by decide, tm 131 (by decide +kernel) rfl, Or.inr (tm 132 (by decide +kernel) rfl), t_Beech, t_Beech_ok, n_Beech⟩
theorem f_Beech_11_Oak : fok "FelledByNames$Beech" 11 8 2 := ⟨R_Oak, F_Oak, 8, "FelledByNames$Beech", rfl, i_Oak, by decide, tm 131 (by decide +kernel) rfl, Or.inr (tm 132 (by decide +kernel) rfl), t_Oak, t_Oak_ok, n_Oak⟩
theorem f_Beech_11_Sapling : fok "FelledByNames$Beech" 11 9 2 := ⟨R_Sapling, F_Sapling, 8, "FelledByNames$Beech", rfl, i_Sapling, by decide, tm 131 (by decide +kernel) rfl, Or.inr (tm 132 (by decide +kernel) rfl), t_Sapling, t_Sapling_ok, n_Sapling⟩
theorem f_Beech_11_Wedged : fok "FelledByNames$Beech" 11 10 2 := ⟨R_Wedged, F_Wedged, 8, "FelledByNames$Beech", rfl, i_Wedged, by decide, tm 131 (by decide +kernel) rfl, Or.inr (tm 132 (by decide +kernel) rfl), t_Wedged, t_Wedged_ok, n_Wedged⟩
theorem f_Beech_11_Hollow : fok "FelledByNames$Beech" 11 11 2 := ⟨R_Hollow, F_Hollow, 8, "FelledByNames$Beech", rfl, i_Hollow, by decide, tm 131 (by decide +kernel) rfl, Or.inr (tm 132 (by decide +kernel) rfl), t_Hollow, t_Hollow_ok, n_Hollow⟩
theorem f_Beech_11_Hill : fok "FelledByNames$Beech" 11 12 2 := ⟨R_Hill, F_Hill, 8, "FelledByNames$Beech", rfl, i_Hill, by decide, tm 131 (by decide +kernel) rfl, Or.inr (tm 132 (by decide +kernel) rfl), t_Hill, t_Hill_ok, n_Hill⟩
theorem ft_Beech_11 : ∀ c, c ≤ 6 → fok "FelledByNames$Beech" 11 (6 + c) 2 := fun c hc => by
  rcases (show c = 0 ∨ c = 1 ∨ c = 2 ∨ c = 3 ∨ c = 4 ∨ c = 5 ∨ c = 6 by omega) with rfl | rfl | rfl | rfl | rfl | rfl | rfl
  · exact f_Beech_11_Tree
  · exact f_Beech_11_Beech
  · exact f_Beech_11_Oak
  · exact f_Beech_11_Sapling
  · exact f_Beech_11_Wedged
  · exact f_Beech_11_Hollow
  · exact f_Beech_11_Hill
theorem d_Beech_limit_9 : decode prog_2_method_2_code 9 = .ok (.iadd, 1) := by decide +kernel
theorem d_Beech_limit_10 : decode prog_2_method_2_code 10 = .ok (.ireturn, 1) := by decide +kernel
set_option maxRecDepth 100000 in
theorem c_Beech_limit {w i : Nat} {x : Int32} {l : Launch} {d n : Nat} {R W Z : Nat → Nat → Int32} {T : Nat → Nat → Nat} {kn : Kn} {h0 : HP} {Q : QT} (hT : TI T kn n) (hw : w < 3) (hi : i < 8) (hK : tN (W w) (50 + 7 * i + 0) ≤ 6) (hQ : Q (some (.int (lmv 1 (W w (50 + 7 * i + 1)) (W w (50 + 7 * i + 5)) x))) n (co R W Z T kn h0)) : Ct l M_Beech_limit (d + 1) 0 0 [.ref (T w i), .int x] n (co R W Z T kn h0) Q := by
  refine Ct.of (fun _ => trivial) (by decide) (Nat.le_of_ble_eq_true rfl) ?_
  refine V.aload_n d_Beech_limit_0 rfl ?_
  refine V.iload_n d_Beech_limit_1 rfl ?_
  refine V.callSU (vs := [_]) d_Beech_limit_2 k_Beech_7_Tree_limitSU (co_t hT hw hi) (kcls_ok _ hK) rfl rfl (Nat.le_of_ble_eq_true rfl) (by omega) (by omega) (c_Tree_limit hT hw hi hK ?_)
  refine V.aload_n d_Beech_limit_5 rfl ?_
  refine V.get d_Beech_limit_6 (ft_Beech_11 _ hK) (co_t hT hw hi) rfl ?_
  refine V.iadd d_Beech_limit_9 ?_
  refine V.iret d_Beech_limit_10 rfl (Nat.le_of_ble_eq_true rfl) (Nat.le_of_ble_eq_true rfl) ?_
  exact hQ
abbrev M_Oak_limit : MD := (⟨"FelledByNames$Oak", "limit", "(I)I"⟩, prog_5_method_2_code, 2, (some .int), fun _ => True)
theorem d_Oak_limit_0 : decode prog_5_method_2_code 0 = .ok (.aload_n 0, 1) := by decide +kernel
theorem d_Oak_limit_1 : decode prog_5_method_2_code 1 = .ok (.getfield 7, 3) := by decide +kernel
theorem f_Oak_7_Tree : fok "FelledByNames$Oak" 7 6 2 := ⟨R_Tree, F_Tree, 8, "FelledByNames$Oak", rfl, i_Tree, by decide, tm 129 (by decide +kernel) rfl, Or.inr (tm 130 (by decide +kernel) rfl), t_Tree, t_Tree_ok, n_Tree⟩
theorem f_Oak_7_Beech : fok "FelledByNames$Oak" 7 7 2 := ⟨R_Beech, F_Beech, 8, "FelledByNames$Oak", rfl, i_Beech, by decide, tm 129 (by decide +kernel) rfl, Or.inr (tm 130 (by decide +kernel) rfl), t_Beech, t_Beech_ok, n_Beech⟩
theorem f_Oak_7_Oak : fok "FelledByNames$Oak" 7 8 2 := ⟨R_Oak, F_Oak, 8, "FelledByNames$Oak", rfl, i_Oak, by decide, tm 129 (by decide +kernel) rfl, Or.inr (tm 130 (by decide +kernel) rfl), t_Oak, t_Oak_ok, n_Oak⟩
theorem f_Oak_7_Sapling : fok "FelledByNames$Oak" 7 9 2 := ⟨R_Sapling, F_Sapling, 8, "FelledByNames$Oak", rfl, i_Sapling, by decide, tm 129 (by decide +kernel) rfl, Or.inr (tm 130 (by decide +kernel) rfl), t_Sapling, t_Sapling_ok, n_Sapling⟩
theorem f_Oak_7_Wedged : fok "FelledByNames$Oak" 7 10 2 := ⟨R_Wedged, F_Wedged, 8, "FelledByNames$Oak", rfl, i_Wedged, by decide, tm 129 (by decide +kernel) rfl, Or.inr (tm 130 (by decide +kernel) rfl), t_Wedged, t_Wedged_ok, n_Wedged⟩
theorem f_Oak_7_Hollow : fok "FelledByNames$Oak" 7 11 2 := ⟨R_Hollow, F_Hollow, 8, "FelledByNames$Oak", rfl, i_Hollow, by decide, tm 129 (by decide +kernel) rfl, Or.inr (tm 130 (by decide +kernel) rfl), t_Hollow, t_Hollow_ok, n_Hollow⟩
theorem f_Oak_7_Hill : fok "FelledByNames$Oak" 7 12 2 := ⟨R_Hill, F_Hill, 8, "FelledByNames$Oak", rfl, i_Hill, by decide, tm 129 (by decide +kernel) rfl, Or.inr (tm 130 (by decide +kernel) rfl), t_Hill, t_Hill_ok, n_Hill⟩
theorem ft_Oak_7 : ∀ c, c ≤ 6 → fok "FelledByNames$Oak" 7 (6 + c) 2 := fun c hc => by
  rcases (show c = 0 ∨ c = 1 ∨ c = 2 ∨ c = 3 ∨ c = 4 ∨ c = 5 ∨ c = 6 by omega) with rfl | rfl | rfl | rfl | rfl | rfl | rfl
  · exact f_Oak_7_Tree
  · exact f_Oak_7_Beech
  · exact f_Oak_7_Oak
  · exact f_Oak_7_Sapling
  · exact f_Oak_7_Wedged
  · exact f_Oak_7_Hollow
  · exact f_Oak_7_Hill
theorem d_Oak_limit_4 : decode prog_5_method_2_code 4 = .ok (.iconst 2, 1) := by decide +kernel
theorem d_Oak_limit_5 : decode prog_5_method_2_code 5 = .ok (.idiv, 1) := by decide +kernel
theorem d_Oak_limit_6 : decode prog_5_method_2_code 6 = .ok (.ireturn, 1) := by decide +kernel
set_option maxRecDepth 100000 in
theorem c_Oak_limit {w i : Nat} {x : Int32} {l : Launch} {d n : Nat} {R W Z : Nat → Nat → Int32} {T : Nat → Nat → Nat} {kn : Kn} {h0 : HP} {Q : QT} (hT : TI T kn n) (hw : w < 3) (hi : i < 8) (hK : tN (W w) (50 + 7 * i + 0) ≤ 6) (hQ : Q (some (.int (lmv 2 (W w (50 + 7 * i + 1)) (W w (50 + 7 * i + 5)) x))) n (co R W Z T kn h0)) : Ct l M_Oak_limit d 0 0 [.ref (T w i), .int x] n (co R W Z T kn h0) Q := by
  refine Ct.of (fun _ => trivial) (by decide) (Nat.le_of_ble_eq_true rfl) ?_
  refine V.aload_n d_Oak_limit_0 rfl ?_
  refine V.get d_Oak_limit_1 (ft_Oak_7 _ hK) (co_t hT hw hi) rfl ?_
  refine V.iconst_ (nI 2) d_Oak_limit_4 (by decide +kernel) ?_
  refine V.idiv d_Oak_limit_5 (by decide +kernel) ?_
  refine V.iret d_Oak_limit_6 rfl (Nat.le_of_ble_eq_true rfl) (Nat.le_of_ble_eq_true rfl) ?_
  exact hQ
abbrev M_Sapling_limit : MD := (⟨"FelledByNames$Sapling", "limit", "(I)I"⟩, prog_7_method_2_code, 2, (some .int), fun _ => True)
theorem d_Sapling_limit_0 : decode prog_7_method_2_code 0 = .ok (.iconst 5, 1) := by decide +kernel
theorem d_Sapling_limit_1 : decode prog_7_method_2_code 1 = .ok (.ireturn, 1) := by decide +kernel
set_option maxRecDepth 100000 in
theorem c_Sapling_limit {w i : Nat} {x : Int32} {l : Launch} {d n : Nat} {R W Z : Nat → Nat → Int32} {T : Nat → Nat → Nat} {kn : Kn} {h0 : HP} {Q : QT} (hT : TI T kn n) (hw : w < 3) (hi : i < 8) (hK : tN (W w) (50 + 7 * i + 0) ≤ 6) (hQ : Q (some (.int (lmv 3 (W w (50 + 7 * i + 1)) (W w (50 + 7 * i + 5)) x))) n (co R W Z T kn h0)) : Ct l M_Sapling_limit d 0 0 [.ref (T w i), .int x] n (co R W Z T kn h0) Q := by
  refine Ct.of (fun _ => trivial) (by decide) (Nat.le_of_ble_eq_true rfl) ?_
  refine V.iconst_ (nI 5) d_Sapling_limit_0 (by decide +kernel) ?_
  refine V.iret d_Sapling_limit_1 rfl (Nat.le_of_ble_eq_true rfl) (Nat.le_of_ble_eq_true rfl) ?_
  exact hQ
abbrev M_Wedged_limit : MD := (⟨"FelledByNames$Wedged", "limit", "(I)I"⟩, prog_11_method_2_code, 2, (some .int), fun _ => True)
theorem d_Wedged_limit_0 : decode prog_11_method_2_code 0 = .ok (.iload_n 1, 1) := by decide +kernel
theorem d_Wedged_limit_1 : decode prog_11_method_2_code 1 = .ok (.iconst 2, 1) := by decide +kernel
theorem d_Wedged_limit_2 : decode prog_11_method_2_code 2 = .ok (.irem, 1) := by decide +kernel
theorem d_Wedged_limit_3 : decode prog_11_method_2_code 3 = .ok (.ifCond .ne 11, 3) := by decide +kernel
theorem d_Wedged_limit_14 : decode prog_11_method_2_code 14 = .ok (.iconst 0, 1) := by decide +kernel
theorem d_Wedged_limit_15 : decode prog_11_method_2_code 15 = .ok (.ireturn, 1) := by decide +kernel
theorem d_Wedged_limit_6 : decode prog_11_method_2_code 6 = .ok (.aload_n 0, 1) := by decide +kernel
theorem d_Wedged_limit_7 : decode prog_11_method_2_code 7 = .ok (.iload_n 1, 1) := by decide +kernel
theorem d_Wedged_limit_8 : decode prog_11_method_2_code 8 = .ok (.invokespecial 7, 3) := by decide +kernel
theorem kB_Beech_limit : kB M_Beech_limit 1 := ⟨tm 16 (by decide +kernel) rfl, tm 618 (by decide +kernel) rfl, ⟨by decide, by decide, by decide +kernel⟩, by decide⟩
theorem k_Wedged_7_Beech_limitSU : kSU "FelledByNames$Wedged" 7 M_Beech_limit 1 := ⟨kB_Beech_limit, tm 637 (by decide +kernel) rfl, tm 1501 (by decide +kernel) rfl, tm 571 (by decide +kernel) rfl, tm 617 (by decide +kernel) rfl, by decide⟩
theorem d_Wedged_limit_11 : decode prog_11_method_2_code 11 = .ok (.goto 4, 3) := by decide +kernel
set_option maxRecDepth 100000 in
theorem c_Wedged_limit {w i : Nat} {x : Int32} {l : Launch} {d n : Nat} {R W Z : Nat → Nat → Int32} {T : Nat → Nat → Nat} {kn : Kn} {h0 : HP} {Q : QT} (hT : TI T kn n) (hw : w < 3) (hi : i < 8) (hK : tN (W w) (50 + 7 * i + 0) ≤ 6) (hQ : Q (some (.int (lmv 4 (W w (50 + 7 * i + 1)) (W w (50 + 7 * i + 5)) x))) n (co R W Z T kn h0)) : Ct l M_Wedged_limit (d + 2) 0 0 [.ref (T w i), .int x] n (co R W Z T kn h0) Q := by
  refine Ct.of (fun _ => trivial) (by decide) (Nat.le_of_ble_eq_true rfl) ?_
  refine V.iload_n d_Wedged_limit_0 rfl ?_
  refine V.iconst_ (nI 2) d_Wedged_limit_1 (by decide +kernel) ?_
  refine V.irem d_Wedged_limit_2 (by decide +kernel) ?_
  refine V.if_ne (tgt := 14) d_Wedged_limit_3 (by decide) (fun c_3 => ?_) (fun c_3 => ?_)
  · skip
    refine V.iconst_ (nI 0) d_Wedged_limit_14 (by decide +kernel) ?_
    refine V.iret d_Wedged_limit_15 rfl (Nat.le_of_ble_eq_true rfl) (Nat.le_of_ble_eq_true rfl) ?_
    unfold lmv irm at hQ
    first | (rw [if_neg (by decide), if_neg (by decide), if_neg (by decide), if_pos rfl, if_neg c_3] at hQ; exact hQ) | (rw [if_neg (by decide), if_neg (by decide), if_neg (by decide), if_pos rfl, if_pos c_3] at hQ; exact hQ)
  · skip
    refine V.aload_n d_Wedged_limit_6 rfl ?_
    refine V.iload_n d_Wedged_limit_7 rfl ?_
    refine V.callSU (vs := [_]) d_Wedged_limit_8 k_Wedged_7_Beech_limitSU (co_t hT hw hi) (kcls_ok _ hK) rfl rfl (Nat.le_of_ble_eq_true rfl) (by omega) (by omega) (c_Beech_limit hT hw hi hK ?_)
    refine V.goto (tgt := 15) d_Wedged_limit_11 (by decide) ?_
    refine V.iret d_Wedged_limit_15 rfl (Nat.le_of_ble_eq_true rfl) (Nat.le_of_ble_eq_true rfl) ?_
    unfold lmv irm at hQ
    first | (rw [if_neg (by decide), if_neg (by decide), if_neg (by decide), if_pos rfl, if_neg c_3] at hQ; exact hQ) | (rw [if_neg (by decide), if_neg (by decide), if_neg (by decide), if_pos rfl, if_pos c_3] at hQ; exact hQ)
abbrev M_Hollow_limit : MD := (⟨"FelledByNames$Hollow", "limit", "(I)I"⟩, prog_4_method_2_code, 2, (some .int), fun _ => True)
theorem d_Hollow_limit_0 : decode prog_4_method_2_code 0 = .ok (.aload_n 0, 1) := by decide +kernel
theorem d_Hollow_limit_1 : decode prog_4_method_2_code 1 = .ok (.iload_n 1, 1) := by decide +kernel
theorem d_Hollow_limit_2 : decode prog_4_method_2_code 2 = .ok (.invokespecial 7, 3) := by decide +kernel
theorem kB_Oak_limit : kB M_Oak_limit 1 := ⟨tm 17 (by decide +kernel) rfl, tm 631 (by decide +kernel) rfl, ⟨by decide, by decide, by decide +kernel⟩, by decide⟩
theorem k_Hollow_7_Oak_limitSU : kSU "FelledByNames$Hollow" 7 M_Oak_limit 1 := ⟨kB_Oak_limit, tm 629 (by decide +kernel) rfl, tm 1500 (by decide +kernel) rfl, tm 586 (by decide +kernel) rfl, tm 630 (by decide +kernel) rfl, by decide⟩
theorem d_Hollow_limit_5 : decode prog_4_method_2_code 5 = .ok (.bipush 20, 2) := by decide +kernel
theorem d_Hollow_limit_7 : decode prog_4_method_2_code 7 = .ok (.iadd, 1) := by decide +kernel
theorem d_Hollow_limit_8 : decode prog_4_method_2_code 8 = .ok (.ireturn, 1) := by decide +kernel
set_option maxRecDepth 100000 in
theorem c_Hollow_limit {w i : Nat} {x : Int32} {l : Launch} {d n : Nat} {R W Z : Nat → Nat → Int32} {T : Nat → Nat → Nat} {kn : Kn} {h0 : HP} {Q : QT} (hT : TI T kn n) (hw : w < 3) (hi : i < 8) (hK : tN (W w) (50 + 7 * i + 0) ≤ 6) (hQ : Q (some (.int (lmv 5 (W w (50 + 7 * i + 1)) (W w (50 + 7 * i + 5)) x))) n (co R W Z T kn h0)) : Ct l M_Hollow_limit (d + 1) 0 0 [.ref (T w i), .int x] n (co R W Z T kn h0) Q := by
  refine Ct.of (fun _ => trivial) (by decide) (Nat.le_of_ble_eq_true rfl) ?_
  refine V.aload_n d_Hollow_limit_0 rfl ?_
  refine V.iload_n d_Hollow_limit_1 rfl ?_
  refine V.callSU (vs := [_]) d_Hollow_limit_2 k_Hollow_7_Oak_limitSU (co_t hT hw hi) (kcls_ok _ hK) rfl rfl (Nat.le_of_ble_eq_true rfl) (by omega) (by omega) (c_Oak_limit hT hw hi hK ?_)
  refine V.bipush_ (nI 20) d_Hollow_limit_5 (by decide +kernel) ?_
  refine V.iadd d_Hollow_limit_7 ?_
  refine V.iret d_Hollow_limit_8 rfl (Nat.le_of_ble_eq_true rfl) (Nat.le_of_ble_eq_true rfl) ?_
  exact hQ
abbrev M_Hill_limit : MD := (⟨"FelledByNames$Hill", "limit", "(I)I"⟩, prog_3_method_2_code, 2, (some .int), fun _ => True)
theorem d_Hill_limit_0 : decode prog_3_method_2_code 0 = .ok (.aload_n 0, 1) := by decide +kernel
theorem d_Hill_limit_1 : decode prog_3_method_2_code 1 = .ok (.iload_n 1, 1) := by decide +kernel
theorem d_Hill_limit_2 : decode prog_3_method_2_code 2 = .ok (.invokespecial 7, 3) := by decide +kernel
theorem kB_Sapling_limit : kB M_Sapling_limit 1 := ⟨tm 18 (by decide +kernel) rfl, tm 625 (by decide +kernel) rfl, ⟨by decide, by decide, by decide +kernel⟩, by decide⟩
theorem k_Hill_7_Sapling_limitSU : kSU "FelledByNames$Hill" 7 M_Sapling_limit 1 := ⟨kB_Sapling_limit, tm 623 (by decide +kernel) rfl, tm 1499 (by decide +kernel) rfl, tm 601 (by decide +kernel) rfl, tm 624 (by decide +kernel) rfl, by decide⟩
theorem d_Hill_limit_5 : decode prog_3_method_2_code 5 = .ok (.aload_n 0, 1) := by decide +kernel
theorem d_Hill_limit_6 : decode prog_3_method_2_code 6 = .ok (.getfield 11, 3) := by decide +kernel
theorem f_Hill_11_Tree : fok "FelledByNames$Hill" 11 6 6 := ⟨R_Tree, F_Tree, 8, "FelledByNames$Hill", rfl, i_Tree, by decide, tm 145 (by decide +kernel) rfl, Or.inr (tm 146 (by decide +kernel) rfl), t_Tree, t_Tree_ok, n_Tree⟩
theorem f_Hill_11_Beech : fok "FelledByNames$Hill" 11 7 6 := ⟨R_Beech, F_Beech, 8, "FelledByNames$Hill", rfl, i_Beech, by decide, tm 145 (by decide +kernel) rfl, Or.inr (tm 146 (by decide +kernel) rfl), t_Beech, t_Beech_ok, n_Beech⟩
theorem f_Hill_11_Oak : fok "FelledByNames$Hill" 11 8 6 := ⟨R_Oak, F_Oak, 8, "FelledByNames$Hill", rfl, i_Oak, by decide, tm 145 (by decide +kernel) rfl, Or.inr (tm 146 (by decide +kernel) rfl), t_Oak, t_Oak_ok, n_Oak⟩
theorem f_Hill_11_Sapling : fok "FelledByNames$Hill" 11 9 6 := ⟨R_Sapling, F_Sapling, 8, "FelledByNames$Hill", rfl, i_Sapling, by decide, tm 145 (by decide +kernel) rfl, Or.inr (tm 146 (by decide +kernel) rfl), t_Sapling, t_Sapling_ok, n_Sapling⟩
theorem f_Hill_11_Wedged : fok "FelledByNames$Hill" 11 10 6 := ⟨R_Wedged, F_Wedged, 8, "FelledByNames$Hill", rfl, i_Wedged, by decide, tm 145 (by decide +kernel) rfl, Or.inr (tm 146 (by decide +kernel) rfl), t_Wedged, t_Wedged_ok, n_Wedged⟩
theorem f_Hill_11_Hollow : fok "FelledByNames$Hill" 11 11 6 := ⟨R_Hollow, F_Hollow, 8, "FelledByNames$Hill", rfl, i_Hollow, by decide, tm 145 (by decide +kernel) rfl, Or.inr (tm 146 (by decide +kernel) rfl), t_Hollow, t_Hollow_ok, n_Hollow⟩
theorem f_Hill_11_Hill : fok "FelledByNames$Hill" 11 12 6 := ⟨R_Hill, F_Hill, 8, "FelledByNames$Hill", rfl, i_Hill, by decide, tm 145 (by decide +kernel) rfl, Or.inr (tm 146 (by decide +kernel) rfl), t_Hill, t_Hill_ok, n_Hill⟩
theorem ft_Hill_11 : ∀ c, c ≤ 6 → fok "FelledByNames$Hill" 11 (6 + c) 6 := fun c hc => by
  rcases (show c = 0 ∨ c = 1 ∨ c = 2 ∨ c = 3 ∨ c = 4 ∨ c = 5 ∨ c = 6 by omega) with rfl | rfl | rfl | rfl | rfl | rfl | rfl
  · exact f_Hill_11_Tree
  · exact f_Hill_11_Beech
  · exact f_Hill_11_Oak
  · exact f_Hill_11_Sapling
  · exact f_Hill_11_Wedged
  · exact f_Hill_11_Hollow
  · exact f_Hill_11_Hill
theorem d_Hill_limit_9 : decode prog_3_method_2_code 9 = .ok (.bipush 10, 2) := by decide +kernel
theorem d_Hill_limit_11 : decode prog_3_method_2_code 11 = .ok (.idiv, 1) := by decide +kernel
theorem d_Hill_limit_12 : decode prog_3_method_2_code 12 = .ok (.iadd, 1) := by decide +kernel
theorem d_Hill_limit_13 : decode prog_3_method_2_code 13 = .ok (.ireturn, 1) := by decide +kernel
set_option maxRecDepth 100000 in
theorem c_Hill_limit {w i : Nat} {x : Int32} {l : Launch} {d n : Nat} {R W Z : Nat → Nat → Int32} {T : Nat → Nat → Nat} {kn : Kn} {h0 : HP} {Q : QT} (hT : TI T kn n) (hw : w < 3) (hi : i < 8) (hK : tN (W w) (50 + 7 * i + 0) ≤ 6) (hQ : Q (some (.int (lmv 6 (W w (50 + 7 * i + 1)) (W w (50 + 7 * i + 5)) x))) n (co R W Z T kn h0)) : Ct l M_Hill_limit (d + 1) 0 0 [.ref (T w i), .int x] n (co R W Z T kn h0) Q := by
  refine Ct.of (fun _ => trivial) (by decide) (Nat.le_of_ble_eq_true rfl) ?_
  refine V.aload_n d_Hill_limit_0 rfl ?_
  refine V.iload_n d_Hill_limit_1 rfl ?_
  refine V.callSU (vs := [_]) d_Hill_limit_2 k_Hill_7_Sapling_limitSU (co_t hT hw hi) (kcls_ok _ hK) rfl rfl (Nat.le_of_ble_eq_true rfl) (by omega) (by omega) (c_Sapling_limit hT hw hi hK ?_)
  refine V.aload_n d_Hill_limit_5 rfl ?_
  refine V.get d_Hill_limit_6 (ft_Hill_11 _ hK) (co_t hT hw hi) rfl ?_
  refine V.bipush_ (nI 10) d_Hill_limit_9 (by decide +kernel) ?_
  refine V.idiv d_Hill_limit_11 (by decide +kernel) ?_
  refine V.iadd d_Hill_limit_12 ?_
  refine V.iret d_Hill_limit_13 rfl (Nat.le_of_ble_eq_true rfl) (Nat.le_of_ble_eq_true rfl) ?_
  exact hQ
abbrev M_Tree_grows : MD := (⟨"FelledByNames$Tree", "grows", "(I)I"⟩, prog_10_method_4_code, 2, (some .int), fun _ => True)
theorem d_Tree_grows_0 : decode prog_10_method_4_code 0 = .ok (.iconst 0, 1) := by decide +kernel
theorem d_Tree_grows_1 : decode prog_10_method_4_code 1 = .ok (.ireturn, 1) := by decide +kernel
set_option maxRecDepth 100000 in
theorem c_Tree_grows {w i : Nat} {x : Int32} {l : Launch} {d n : Nat} {R W Z : Nat → Nat → Int32} {T : Nat → Nat → Nat} {kn : Kn} {h0 : HP} {Q : QT} (hT : TI T kn n) (hw : w < 3) (hi : i < 8) (hK : tN (W w) (50 + 7 * i + 0) ≤ 6) (hQ : Q (some (.int (gwv 0 x))) n (co R W Z T kn h0)) : Ct l M_Tree_grows d 0 0 [.ref (T w i), .int x] n (co R W Z T kn h0) Q := by
  refine Ct.of (fun _ => trivial) (by decide) (Nat.le_of_ble_eq_true rfl) ?_
  refine V.iconst_ (nI 0) d_Tree_grows_0 (by decide +kernel) ?_
  refine V.iret d_Tree_grows_1 rfl (Nat.le_of_ble_eq_true rfl) (Nat.le_of_ble_eq_true rfl) ?_
  exact hQ
abbrev M_Beech_grows : MD := (⟨"FelledByNames$Beech", "grows", "(I)I"⟩, prog_2_method_3_code, 2, (some .int), fun _ => True)
theorem d_Beech_grows_0 : decode prog_2_method_3_code 0 = .ok (.iload_n 1, 1) := by decide +kernel
theorem d_Beech_grows_1 : decode prog_2_method_3_code 1 = .ok (.iconst 3, 1) := by decide +kernel
theorem d_Beech_grows_2 : decode prog_2_method_3_code 2 = .ok (.irem, 1) := by decide +kernel
theorem d_Beech_grows_3 : decode prog_2_method_3_code 3 = .ok (.ifCond .ne 7, 3) := by decide +kernel
theorem d_Beech_grows_10 : decode prog_2_method_3_code 10 = .ok (.iconst 0, 1) := by decide +kernel
theorem d_Beech_grows_11 : decode prog_2_method_3_code 11 = .ok (.ireturn, 1) := by decide +kernel
theorem d_Beech_grows_6 : decode prog_2_method_3_code 6 = .ok (.iconst 1, 1) := by decide +kernel
theorem d_Beech_grows_7 : decode prog_2_method_3_code 7 = .ok (.goto 4, 3) := by decide +kernel
set_option maxRecDepth 100000 in
theorem c_Beech_grows {w i : Nat} {x : Int32} {l : Launch} {d n : Nat} {R W Z : Nat → Nat → Int32} {T : Nat → Nat → Nat} {kn : Kn} {h0 : HP} {Q : QT} (hT : TI T kn n) (hw : w < 3) (hi : i < 8) (hK : tN (W w) (50 + 7 * i + 0) ≤ 6) (hQ : Q (some (.int (gwv 1 x))) n (co R W Z T kn h0)) : Ct l M_Beech_grows d 0 0 [.ref (T w i), .int x] n (co R W Z T kn h0) Q := by
  refine Ct.of (fun _ => trivial) (by decide) (Nat.le_of_ble_eq_true rfl) ?_
  refine V.iload_n d_Beech_grows_0 rfl ?_
  refine V.iconst_ (nI 3) d_Beech_grows_1 (by decide +kernel) ?_
  refine V.irem d_Beech_grows_2 (by decide +kernel) ?_
  refine V.if_ne (tgt := 10) d_Beech_grows_3 (by decide) (fun c_3 => ?_) (fun c_3 => ?_)
  · skip
    refine V.iconst_ (nI 0) d_Beech_grows_10 (by decide +kernel) ?_
    refine V.iret d_Beech_grows_11 rfl (Nat.le_of_ble_eq_true rfl) (Nat.le_of_ble_eq_true rfl) ?_
    unfold gwv irm at hQ
    first | (rw [if_pos (Or.inl rfl), if_pos c_3] at hQ; exact hQ) | (rw [if_pos (Or.inl rfl), if_neg c_3] at hQ; exact hQ)
  · skip
    refine V.iconst_ (nI 1) d_Beech_grows_6 (by decide +kernel) ?_
    refine V.goto (tgt := 11) d_Beech_grows_7 (by decide) ?_
    refine V.iret d_Beech_grows_11 rfl (Nat.le_of_ble_eq_true rfl) (Nat.le_of_ble_eq_true rfl) ?_
    unfold gwv irm at hQ
    first | (rw [if_pos (Or.inl rfl), if_pos c_3] at hQ; exact hQ) | (rw [if_pos (Or.inl rfl), if_neg c_3] at hQ; exact hQ)
abbrev M_Sapling_grows : MD := (⟨"FelledByNames$Sapling", "grows", "(I)I"⟩, prog_7_method_3_code, 2, (some .int), fun _ => True)
theorem d_Sapling_grows_0 : decode prog_7_method_3_code 0 = .ok (.iconst 1, 1) := by decide +kernel
theorem d_Sapling_grows_1 : decode prog_7_method_3_code 1 = .ok (.ireturn, 1) := by decide +kernel
set_option maxRecDepth 100000 in
theorem c_Sapling_grows {w i : Nat} {x : Int32} {l : Launch} {d n : Nat} {R W Z : Nat → Nat → Int32} {T : Nat → Nat → Nat} {kn : Kn} {h0 : HP} {Q : QT} (hT : TI T kn n) (hw : w < 3) (hi : i < 8) (hK : tN (W w) (50 + 7 * i + 0) ≤ 6) (hQ : Q (some (.int (gwv 3 x))) n (co R W Z T kn h0)) : Ct l M_Sapling_grows d 0 0 [.ref (T w i), .int x] n (co R W Z T kn h0) Q := by
  refine Ct.of (fun _ => trivial) (by decide) (Nat.le_of_ble_eq_true rfl) ?_
  refine V.iconst_ (nI 1) d_Sapling_grows_0 (by decide +kernel) ?_
  refine V.iret d_Sapling_grows_1 rfl (Nat.le_of_ble_eq_true rfl) (Nat.le_of_ble_eq_true rfl) ?_
  exact hQ
abbrev M_Hill_grows : MD := (⟨"FelledByNames$Hill", "grows", "(I)I"⟩, prog_3_method_3_code, 2, (some .int), fun _ => True)
theorem d_Hill_grows_0 : decode prog_3_method_3_code 0 = .ok (.aload_n 0, 1) := by decide +kernel
theorem d_Hill_grows_1 : decode prog_3_method_3_code 1 = .ok (.iload_n 1, 1) := by decide +kernel
theorem d_Hill_grows_2 : decode prog_3_method_3_code 2 = .ok (.invokespecial 17, 3) := by decide +kernel
theorem kB_Sapling_grows : kB M_Sapling_grows 1 := ⟨tm 18 (by decide +kernel) rfl, tm 739 (by decide +kernel) rfl, ⟨by decide, by decide, by decide +kernel⟩, by decide⟩
theorem k_Hill_17_Sapling_growsSU : kSU "FelledByNames$Hill" 17 M_Sapling_grows 1 := ⟨kB_Sapling_grows, tm 737 (by decide +kernel) rfl, tm 1502 (by decide +kernel) rfl, tm 601 (by decide +kernel) rfl, tm 738 (by decide +kernel) rfl, by decide⟩
theorem d_Hill_grows_5 : decode prog_3_method_3_code 5 = .ok (.iconst 2, 1) := by decide +kernel
theorem d_Hill_grows_6 : decode prog_3_method_3_code 6 = .ok (.imul, 1) := by decide +kernel
theorem d_Hill_grows_7 : decode prog_3_method_3_code 7 = .ok (.ireturn, 1) := by decide +kernel
set_option maxRecDepth 100000 in
theorem c_Hill_grows {w i : Nat} {x : Int32} {l : Launch} {d n : Nat} {R W Z : Nat → Nat → Int32} {T : Nat → Nat → Nat} {kn : Kn} {h0 : HP} {Q : QT} (hT : TI T kn n) (hw : w < 3) (hi : i < 8) (hK : tN (W w) (50 + 7 * i + 0) ≤ 6) (hQ : Q (some (.int (gwv 6 x))) n (co R W Z T kn h0)) : Ct l M_Hill_grows (d + 1) 0 0 [.ref (T w i), .int x] n (co R W Z T kn h0) Q := by
  refine Ct.of (fun _ => trivial) (by decide) (Nat.le_of_ble_eq_true rfl) ?_
  refine V.aload_n d_Hill_grows_0 rfl ?_
  refine V.iload_n d_Hill_grows_1 rfl ?_
  refine V.callSU (vs := [_]) d_Hill_grows_2 k_Hill_17_Sapling_growsSU (co_t hT hw hi) (kcls_ok _ hK) rfl rfl (Nat.le_of_ble_eq_true rfl) (by omega) (by omega) (c_Sapling_grows hT hw hi hK ?_)
  refine V.iconst_ (nI 2) d_Hill_grows_5 (by decide +kernel) ?_
  refine V.imul d_Hill_grows_6 ?_
  refine V.iret d_Hill_grows_7 rfl (Nat.le_of_ble_eq_true rfl) (Nat.le_of_ble_eq_true rfl) ?_
  exact hQ
abbrev M_Tree_reaches : MD := (⟨"FelledByNames$Tree", "reaches", "()I"⟩, prog_10_method_5_code, 1, (some .int), fun _ => True)
theorem d_Tree_reaches_0 : decode prog_10_method_5_code 0 = .ok (.aload_n 0, 1) := by decide +kernel
theorem d_Tree_reaches_1 : decode prog_10_method_5_code 1 = .ok (.getfield 22, 3) := by decide +kernel
theorem f_Tree_22_Tree : fok "FelledByNames$Tree" 22 6 6 := ⟨R_Tree, F_Tree, 8, "FelledByNames$Tree", rfl, i_Tree, by decide, tm 144 (by decide +kernel) rfl, Or.inl rfl, t_Tree, t_Tree_ok, n_Tree⟩
theorem f_Tree_22_Beech : fok "FelledByNames$Tree" 22 7 6 := ⟨R_Beech, F_Beech, 8, "FelledByNames$Tree", rfl, i_Beech, by decide, tm 144 (by decide +kernel) rfl, Or.inl rfl, t_Beech, t_Beech_ok, n_Beech⟩
theorem f_Tree_22_Oak : fok "FelledByNames$Tree" 22 8 6 := ⟨R_Oak, F_Oak, 8, "FelledByNames$Tree", rfl, i_Oak, by decide, tm 144 (by decide +kernel) rfl, Or.inl rfl, t_Oak, t_Oak_ok, n_Oak⟩
theorem f_Tree_22_Sapling : fok "FelledByNames$Tree" 22 9 6 := ⟨R_Sapling, F_Sapling, 8, "FelledByNames$Tree", rfl, i_Sapling, by decide, tm 144 (by decide +kernel) rfl, Or.inl rfl, t_Sapling, t_Sapling_ok, n_Sapling⟩
theorem f_Tree_22_Wedged : fok "FelledByNames$Tree" 22 10 6 := ⟨R_Wedged, F_Wedged, 8, "FelledByNames$Tree", rfl, i_Wedged, by decide, tm 144 (by decide +kernel) rfl, Or.inl rfl, t_Wedged, t_Wedged_ok, n_Wedged⟩
theorem f_Tree_22_Hollow : fok "FelledByNames$Tree" 22 11 6 := ⟨R_Hollow, F_Hollow, 8, "FelledByNames$Tree", rfl, i_Hollow, by decide, tm 144 (by decide +kernel) rfl, Or.inl rfl, t_Hollow, t_Hollow_ok, n_Hollow⟩
theorem f_Tree_22_Hill : fok "FelledByNames$Tree" 22 12 6 := ⟨R_Hill, F_Hill, 8, "FelledByNames$Tree", rfl, i_Hill, by decide, tm 144 (by decide +kernel) rfl, Or.inl rfl, t_Hill, t_Hill_ok, n_Hill⟩
theorem ft_Tree_22 : ∀ c, c ≤ 6 → fok "FelledByNames$Tree" 22 (6 + c) 6 := fun c hc => by
  rcases (show c = 0 ∨ c = 1 ∨ c = 2 ∨ c = 3 ∨ c = 4 ∨ c = 5 ∨ c = 6 by omega) with rfl | rfl | rfl | rfl | rfl | rfl | rfl
  · exact f_Tree_22_Tree
  · exact f_Tree_22_Beech
  · exact f_Tree_22_Oak
  · exact f_Tree_22_Sapling
  · exact f_Tree_22_Wedged
  · exact f_Tree_22_Hollow
  · exact f_Tree_22_Hill
theorem d_Tree_reaches_4 : decode prog_10_method_5_code 4 = .ok (.bipush 20, 2) := by decide +kernel
theorem d_Tree_reaches_6 : decode prog_10_method_5_code 6 = .ok (.idiv, 1) := by decide +kernel
theorem d_Tree_reaches_7 : decode prog_10_method_5_code 7 = .ok (.ireturn, 1) := by decide +kernel
set_option maxRecDepth 100000 in
theorem c_Tree_reaches {w i : Nat} {x : Int32} {l : Launch} {d n : Nat} {R W Z : Nat → Nat → Int32} {T : Nat → Nat → Nat} {kn : Kn} {h0 : HP} {Q : QT} (hT : TI T kn n) (hw : w < 3) (hi : i < 8) (hK : tN (W w) (50 + 7 * i + 0) ≤ 6) (hQ : Q (some (.int (rcv 0 (W w (50 + 7 * i + 5))))) n (co R W Z T kn h0)) : Ct l M_Tree_reaches d 0 0 [.ref (T w i)] n (co R W Z T kn h0) Q := by
  refine Ct.of (fun _ => trivial) (by decide) (Nat.le_of_ble_eq_true rfl) ?_
  refine V.aload_n d_Tree_reaches_0 rfl ?_
  refine V.get d_Tree_reaches_1 (ft_Tree_22 _ hK) (co_t hT hw hi) rfl ?_
  refine V.bipush_ (nI 20) d_Tree_reaches_4 (by decide +kernel) ?_
  refine V.idiv d_Tree_reaches_6 (by decide +kernel) ?_
  refine V.iret d_Tree_reaches_7 rfl (Nat.le_of_ble_eq_true rfl) (Nat.le_of_ble_eq_true rfl) ?_
  exact hQ
abbrev M_Hollow_reaches : MD := (⟨"FelledByNames$Hollow", "reaches", "()I"⟩, prog_4_method_3_code, 1, (some .int), fun _ => True)
theorem d_Hollow_reaches_0 : decode prog_4_method_3_code 0 = .ok (.iconst 0, 1) := by decide +kernel
theorem d_Hollow_reaches_1 : decode prog_4_method_3_code 1 = .ok (.ireturn, 1) := by decide +kernel
set_option maxRecDepth 100000 in
theorem c_Hollow_reaches {w i : Nat} {x : Int32} {l : Launch} {d n : Nat} {R W Z : Nat → Nat → Int32} {T : Nat → Nat → Nat} {kn : Kn} {h0 : HP} {Q : QT} (hT : TI T kn n) (hw : w < 3) (hi : i < 8) (hK : tN (W w) (50 + 7 * i + 0) ≤ 6) (hQ : Q (some (.int (rcv 5 (W w (50 + 7 * i + 5))))) n (co R W Z T kn h0)) : Ct l M_Hollow_reaches d 0 0 [.ref (T w i)] n (co R W Z T kn h0) Q := by
  refine Ct.of (fun _ => trivial) (by decide) (Nat.le_of_ble_eq_true rfl) ?_
  refine V.iconst_ (nI 0) d_Hollow_reaches_0 (by decide +kernel) ?_
  refine V.iret d_Hollow_reaches_1 rfl (Nat.le_of_ble_eq_true rfl) (Nat.le_of_ble_eq_true rfl) ?_
  exact hQ
abbrev M_Tree_creaks : MD := (⟨"FelledByNames$Tree", "creaks", "(ILFelledByNames$Row;)I"⟩, prog_10_method_6_code, 3, (some .int), fun _ => True)
theorem d_Tree_creaks_0 : decode prog_10_method_6_code 0 = .ok (.aload_n 2, 1) := by decide +kernel
theorem d_Tree_creaks_1 : decode prog_10_method_6_code 1 = .ok (.bipush 10, 2) := by decide +kernel
theorem d_Tree_creaks_3 : decode prog_10_method_6_code 3 = .ok (.invokevirtual 35, 3) := by decide +kernel
theorem kB_Row_add : kB M_Row_add 1 := ⟨tm 2 (by decide +kernel) rfl, tm 174 (by decide +kernel) rfl, ⟨by decide, by decide, by decide +kernel⟩, by decide⟩
theorem k_Tree_35_Row_add_RowV : kV "FelledByNames$Tree" 35 1 M_Row_add 1 := ⟨kB_Row_add, tm 905 (by decide +kernel) rfl, tm 170 (by decide +kernel) rfl, tm 171 (by decide +kernel) rfl, _, rfl, rfl⟩
theorem d_Tree_creaks_6 : decode prog_10_method_6_code 6 = .ok (.iload_n 1, 1) := by decide +kernel
theorem d_Tree_creaks_7 : decode prog_10_method_6_code 7 = .ok (.aload_n 0, 1) := by decide +kernel
theorem d_Tree_creaks_8 : decode prog_10_method_6_code 8 = .ok (.getfield 32, 3) := by decide +kernel
theorem f_Tree_32_Tree : fok "FelledByNames$Tree" 32 6 1 := ⟨R_Tree, F_Tree, 8, "FelledByNames$Tree", rfl, i_Tree, by decide, tm 123 (by decide +kernel) rfl, Or.inl rfl, t_Tree, t_Tree_ok, n_Tree⟩
theorem f_Tree_32_Beech : fok "FelledByNames$Tree" 32 7 1 := ⟨R_Beech, F_Beech, 8, "FelledByNames$Tree", rfl, i_Beech, by decide, tm 123 (by decide +kernel) rfl, Or.inl rfl, t_Beech, t_Beech_ok, n_Beech⟩
theorem f_Tree_32_Oak : fok "FelledByNames$Tree" 32 8 1 := ⟨R_Oak, F_Oak, 8, "FelledByNames$Tree", rfl, i_Oak, by decide, tm 123 (by decide +kernel) rfl, Or.inl rfl, t_Oak, t_Oak_ok, n_Oak⟩
theorem f_Tree_32_Sapling : fok "FelledByNames$Tree" 32 9 1 := ⟨R_Sapling, F_Sapling, 8, "FelledByNames$Tree", rfl, i_Sapling, by decide, tm 123 (by decide +kernel) rfl, Or.inl rfl, t_Sapling, t_Sapling_ok, n_Sapling⟩
theorem f_Tree_32_Wedged : fok "FelledByNames$Tree" 32 10 1 := ⟨R_Wedged, F_Wedged, 8, "FelledByNames$Tree", rfl, i_Wedged, by decide, tm 123 (by decide +kernel) rfl, Or.inl rfl, t_Wedged, t_Wedged_ok, n_Wedged⟩
theorem f_Tree_32_Hollow : fok "FelledByNames$Tree" 32 11 1 := ⟨R_Hollow, F_Hollow, 8, "FelledByNames$Tree", rfl, i_Hollow, by decide, tm 123 (by decide +kernel) rfl, Or.inl rfl, t_Hollow, t_Hollow_ok, n_Hollow⟩
theorem f_Tree_32_Hill : fok "FelledByNames$Tree" 32 12 1 := ⟨R_Hill, F_Hill, 8, "FelledByNames$Tree", rfl, i_Hill, by decide, tm 123 (by decide +kernel) rfl, Or.inl rfl, t_Hill, t_Hill_ok, n_Hill⟩
theorem ft_Tree_32 : ∀ c, c ≤ 6 → fok "FelledByNames$Tree" 32 (6 + c) 1 := fun c hc => by
  rcases (show c = 0 ∨ c = 1 ∨ c = 2 ∨ c = 3 ∨ c = 4 ∨ c = 5 ∨ c = 6 by omega) with rfl | rfl | rfl | rfl | rfl | rfl | rfl
  · exact f_Tree_32_Tree
  · exact f_Tree_32_Beech
  · exact f_Tree_32_Oak
  · exact f_Tree_32_Sapling
  · exact f_Tree_32_Wedged
  · exact f_Tree_32_Hollow
  · exact f_Tree_32_Hill
theorem d_Tree_creaks_11 : decode prog_10_method_6_code 11 = .ok (.iadd, 1) := by decide +kernel
theorem d_Tree_creaks_12 : decode prog_10_method_6_code 12 = .ok (.ireturn, 1) := by decide +kernel
set_option maxRecDepth 100000 in
theorem c_Tree_creaks {w i tm : Nat} {x : Int32} {l : Launch} {d n : Nat} {R W Z : Nat → Nat → Int32} {T : Nat → Nat → Nat} {kn : Kn} {h0 : HP} {Q : QT} (hT : TI T kn n) (hw : w < 3) (hi : i < 8) (hK : tN (W w) (50 + 7 * i + 0) ≤ 6) (et : Z 51 1 = nI tm) (hb : tm + 1 ≤ 40) (hQ : Q (some (.int (crv 0 (nI i) x))) n (co (uA R 52 (wrt (R 52) tm (crl 0))) W (uZ Z 51 1 (nI (tm + (crl 0).length))) T kn h0)) : Ct l M_Tree_creaks (d + 1) 0 0 [.ref (T w i), .int x, .ref 51] n (co R W Z T kn h0) Q := by
  refine Ct.of (fun _ => trivial) (by decide) (Nat.le_of_ble_eq_true rfl) ?_
  refine V.aload_n d_Tree_creaks_0 rfl ?_
  refine V.bipush_ (nI 10) d_Tree_creaks_1 (by decide +kernel) ?_
  refine V.callV1 d_Tree_creaks_3 k_Tree_35_Row_add_RowV (co_s (sc_rw rfl)) (Nat.le_of_ble_eq_true rfl) (by omega) (by omega) (c_Row_add (a := 51) (N := 40) (sz := tm) rfl rfl et (by (have h1 := len_cr _ hK; have h2 := len_ln _ hK; have h3 := len_st _ hK _ hK; have h4 := len_st0 _ hK; have h5 := len_tl0 _ hK; (try simp only [List.length_append, List.length_cons, List.length_nil]); omega)) (by decide) (fun _ => ?_) (fun z => absurd z (by (have h1 := len_cr _ hK; have h2 := len_ln _ hK; have h3 := len_st _ hK _ hK; have h4 := len_st0 _ hK; have h5 := len_tl0 _ hK; (try simp only [List.length_append, List.length_cons, List.length_nil]); omega))))
  refine V.eqH (h' := co (uA R 52 (wrt (R 52) tm ([10]))) W (uZ Z 51 1 (nI (tm + ([10]).length))) T kn h0) (by first | rfl | (congr 1)) ?_
  refine V.iload_n d_Tree_creaks_6 rfl ?_
  refine V.aload_n d_Tree_creaks_7 rfl ?_
  refine V.get d_Tree_creaks_8 (ft_Tree_32 _ hK) (co_t hT hw hi) rfl ?_
  refine V.iadd d_Tree_creaks_11 ?_
  refine V.iret d_Tree_creaks_12 rfl (Nat.le_of_ble_eq_true rfl) (Nat.le_of_ble_eq_true rfl) ?_
  exact hQ
abbrev M_Beech_creaks : MD := (⟨"FelledByNames$Beech", "creaks", "(ILFelledByNames$Row;)I"⟩, prog_2_method_4_code, 3, (some .int), fun _ => True)
theorem d_Beech_creaks_0 : decode prog_2_method_4_code 0 = .ok (.aload_n 2, 1) := by decide +kernel
theorem d_Beech_creaks_1 : decode prog_2_method_4_code 1 = .ok (.bipush 20, 2) := by decide +kernel
theorem d_Beech_creaks_3 : decode prog_2_method_4_code 3 = .ok (.invokevirtual 17, 3) := by decide +kernel
theorem k_Beech_17_Row_add_RowV : kV "FelledByNames$Beech" 17 1 M_Row_add 1 := ⟨kB_Row_add, tm 897 (by decide +kernel) rfl, tm 170 (by decide +kernel) rfl, tm 171 (by decide +kernel) rfl, _, rfl, rfl⟩
theorem d_Beech_creaks_6 : decode prog_2_method_4_code 6 = .ok (.aload_n 0, 1) := by decide +kernel
theorem d_Beech_creaks_7 : decode prog_2_method_4_code 7 = .ok (.iload_n 1, 1) := by decide +kernel
theorem d_Beech_creaks_8 : decode prog_2_method_4_code 8 = .ok (.aload_n 2, 1) := by decide +kernel
theorem d_Beech_creaks_9 : decode prog_2_method_4_code 9 = .ok (.invokespecial 23, 3) := by decide +kernel
theorem kB_Tree_creaks : kB M_Tree_creaks 2 := ⟨tm 6 (by decide +kernel) rfl, tm 904 (by decide +kernel) rfl, ⟨by decide, by decide, by decide +kernel⟩, by decide⟩
theorem k_Beech_23_Tree_creaksSU : kSU "FelledByNames$Beech" 23 M_Tree_creaks 2 := ⟨kB_Tree_creaks, tm 898 (by decide +kernel) rfl, tm 893 (by decide +kernel) rfl, tm 526 (by decide +kernel) rfl, tm 891 (by decide +kernel) rfl, by decide⟩
theorem d_Beech_creaks_12 : decode prog_2_method_4_code 12 = .ok (.iconst 3, 1) := by decide +kernel
theorem d_Beech_creaks_13 : decode prog_2_method_4_code 13 = .ok (.imul, 1) := by decide +kernel
theorem d_Beech_creaks_14 : decode prog_2_method_4_code 14 = .ok (.ireturn, 1) := by decide +kernel
set_option maxRecDepth 100000 in
theorem c_Beech_creaks {w i tm : Nat} {x : Int32} {l : Launch} {d n : Nat} {R W Z : Nat → Nat → Int32} {T : Nat → Nat → Nat} {kn : Kn} {h0 : HP} {Q : QT} (hT : TI T kn n) (hw : w < 3) (hi : i < 8) (hK : tN (W w) (50 + 7 * i + 0) ≤ 6) (et : Z 51 1 = nI tm) (hb : tm + 2 ≤ 40) (hQ : Q (some (.int (crv 1 (nI i) x))) n (co (uA R 52 (wrt (R 52) tm (crl 1))) W (uZ Z 51 1 (nI (tm + (crl 1).length))) T kn h0)) : Ct l M_Beech_creaks (d + 2) 0 0 [.ref (T w i), .int x, .ref 51] n (co R W Z T kn h0) Q := by
  refine Ct.of (fun _ => trivial) (by decide) (Nat.le_of_ble_eq_true rfl) ?_
  refine V.aload_n d_Beech_creaks_0 rfl ?_
  refine V.bipush_ (nI 20) d_Beech_creaks_1 (by decide +kernel) ?_
  refine V.callV1 d_Beech_creaks_3 k_Beech_17_Row_add_RowV (co_s (sc_rw rfl)) (Nat.le_of_ble_eq_true rfl) (by omega) (by omega) (c_Row_add (a := 51) (N := 40) (sz := tm) rfl rfl et (by (have h1 := len_cr _ hK; have h2 := len_ln _ hK; have h3 := len_st _ hK _ hK; have h4 := len_st0 _ hK; have h5 := len_tl0 _ hK; (try simp only [List.length_append, List.length_cons, List.length_nil]); omega)) (by decide) (fun _ => ?_) (fun z => absurd z (by (have h1 := len_cr _ hK; have h2 := len_ln _ hK; have h3 := len_st _ hK _ hK; have h4 := len_st0 _ hK; have h5 := len_tl0 _ hK; (try simp only [List.length_append, List.length_cons, List.length_nil]); omega))))
  refine V.eqH (h' := co (uA R 52 (wrt (R 52) tm ([20]))) W (uZ Z 51 1 (nI (tm + ([20]).length))) T kn h0) (by first | rfl | (congr 1)) ?_
  refine V.aload_n d_Beech_creaks_6 rfl ?_
  refine V.iload_n d_Beech_creaks_7 rfl ?_
  refine V.aload_n d_Beech_creaks_8 rfl ?_
  refine V.callSU (vs := [_, _]) d_Beech_creaks_9 k_Beech_23_Tree_creaksSU (co_t hT hw hi) (kcls_ok _ hK) rfl rfl (Nat.le_of_ble_eq_true rfl) (by omega) (by omega) (c_Tree_creaks hT hw hi hK (tm := (tm + ([20]).length)) uZ_s (by (have h1 := len_cr _ hK; have h2 := len_ln _ hK; have h3 := len_st _ hK _ hK; have h4 := len_st0 _ hK; have h5 := len_tl0 _ hK; (try simp only [List.length_append, List.length_cons, List.length_nil]); omega)) ?_)
  refine V.eqH (h' := co (uA R 52 (wrt (R 52) tm (([20] ++ crl 0)))) W (uZ Z 51 1 (nI (tm + (([20] ++ crl 0)).length))) T kn h0) (by rw [uA_s, uA_uu, ← wrt_cat, bd_cat]) ?_
  refine V.iconst_ (nI 3) d_Beech_creaks_12 (by decide +kernel) ?_
  refine V.imul d_Beech_creaks_13 ?_
  refine V.iret d_Beech_creaks_14 rfl (Nat.le_of_ble_eq_true rfl) (Nat.le_of_ble_eq_true rfl) ?_
  exact hQ
abbrev M_Tree_leans : MD := (⟨"FelledByNames$Tree", "leans", "(ILFelledByNames$Row;)I"⟩, prog_10_method_8_code, 3, (some .int), fun _ => True)
theorem d_Tree_leans_0 : decode prog_10_method_8_code 0 = .ok (.aload_n 2, 1) := by decide +kernel
theorem d_Tree_leans_1 : decode prog_10_method_8_code 1 = .ok (.bipush 12, 2) := by decide +kernel
theorem d_Tree_leans_3 : decode prog_10_method_8_code 3 = .ok (.invokevirtual 35, 3) := by decide +kernel
theorem d_Tree_leans_6 : decode prog_10_method_8_code 6 = .ok (.iload_n 1, 1) := by decide +kernel
theorem d_Tree_leans_7 : decode prog_10_method_8_code 7 = .ok (.aload_n 0, 1) := by decide +kernel
theorem d_Tree_leans_8 : decode prog_10_method_8_code 8 = .ok (.getfield 7, 3) := by decide +kernel
theorem f_Tree_7_Tree : fok "FelledByNames$Tree" 7 6 2 := ⟨R_Tree, F_Tree, 8, "FelledByNames$Tree", rfl, i_Tree, by decide, tm 128 (by decide +kernel) rfl, Or.inl rfl, t_Tree, t_Tree_ok, n_Tree⟩
theorem f_Tree_7_Beech : fok "FelledByNames$Tree" 7 7 2 := ⟨R_Beech, F_Beech, 8, "FelledByNames$Tree", rfl, i_Beech, by decide, tm 128 (by decide +kernel) rfl, Or.inl rfl, t_Beech, t_Beech_ok, n_Beech⟩
theorem f_Tree_7_Oak : fok "FelledByNames$Tree" 7 8 2 := ⟨R_Oak, F_Oak, 8, "FelledByNames$Tree", rfl, i_Oak, by decide, tm 128 (by decide +kernel) rfl, Or.inl rfl, t_Oak, t_Oak_ok, n_Oak⟩
theorem f_Tree_7_Sapling : fok "FelledByNames$Tree" 7 9 2 := ⟨R_Sapling, F_Sapling, 8, "FelledByNames$Tree", rfl, i_Sapling, by decide, tm 128 (by decide +kernel) rfl, Or.inl rfl, t_Sapling, t_Sapling_ok, n_Sapling⟩
theorem f_Tree_7_Wedged : fok "FelledByNames$Tree" 7 10 2 := ⟨R_Wedged, F_Wedged, 8, "FelledByNames$Tree", rfl, i_Wedged, by decide, tm 128 (by decide +kernel) rfl, Or.inl rfl, t_Wedged, t_Wedged_ok, n_Wedged⟩
theorem f_Tree_7_Hollow : fok "FelledByNames$Tree" 7 11 2 := ⟨R_Hollow, F_Hollow, 8, "FelledByNames$Tree", rfl, i_Hollow, by decide, tm 128 (by decide +kernel) rfl, Or.inl rfl, t_Hollow, t_Hollow_ok, n_Hollow⟩
theorem f_Tree_7_Hill : fok "FelledByNames$Tree" 7 12 2 := ⟨R_Hill, F_Hill, 8, "FelledByNames$Tree", rfl, i_Hill, by decide, tm 128 (by decide +kernel) rfl, Or.inl rfl, t_Hill, t_Hill_ok, n_Hill⟩
theorem ft_Tree_7 : ∀ c, c ≤ 6 → fok "FelledByNames$Tree" 7 (6 + c) 2 := fun c hc => by
  rcases (show c = 0 ∨ c = 1 ∨ c = 2 ∨ c = 3 ∨ c = 4 ∨ c = 5 ∨ c = 6 by omega) with rfl | rfl | rfl | rfl | rfl | rfl | rfl
  · exact f_Tree_7_Tree
  · exact f_Tree_7_Beech
  · exact f_Tree_7_Oak
  · exact f_Tree_7_Sapling
  · exact f_Tree_7_Wedged
  · exact f_Tree_7_Hollow
  · exact f_Tree_7_Hill
theorem d_Tree_leans_11 : decode prog_10_method_8_code 11 = .ok (.isub, 1) := by decide +kernel
theorem d_Tree_leans_12 : decode prog_10_method_8_code 12 = .ok (.ireturn, 1) := by decide +kernel
set_option maxRecDepth 100000 in
theorem c_Tree_leans {w i tm : Nat} {x : Int32} {l : Launch} {d n : Nat} {R W Z : Nat → Nat → Int32} {T : Nat → Nat → Nat} {kn : Kn} {h0 : HP} {Q : QT} (hT : TI T kn n) (hw : w < 3) (hi : i < 8) (hK : tN (W w) (50 + 7 * i + 0) ≤ 6) (et : Z 51 1 = nI tm) (hb : tm + 1 ≤ 40) (hQ : Q (some (.int (lnv 0 (W w (50 + 7 * i + 1)) (nI i) x))) n (co (uA R 52 (wrt (R 52) tm (lnl 0))) W (uZ Z 51 1 (nI (tm + (lnl 0).length))) T kn h0)) : Ct l M_Tree_leans (d + 1) 0 0 [.ref (T w i), .int x, .ref 51] n (co R W Z T kn h0) Q := by
  refine Ct.of (fun _ => trivial) (by decide) (Nat.le_of_ble_eq_true rfl) ?_
  refine V.aload_n d_Tree_leans_0 rfl ?_
  refine V.bipush_ (nI 12) d_Tree_leans_1 (by decide +kernel) ?_
  refine V.callV1 d_Tree_leans_3 k_Tree_35_Row_add_RowV (co_s (sc_rw rfl)) (Nat.le_of_ble_eq_true rfl) (by omega) (by omega) (c_Row_add (a := 51) (N := 40) (sz := tm) rfl rfl et (by (have h1 := len_cr _ hK; have h2 := len_ln _ hK; have h3 := len_st _ hK _ hK; have h4 := len_st0 _ hK; have h5 := len_tl0 _ hK; (try simp only [List.length_append, List.length_cons, List.length_nil]); omega)) (by decide) (fun _ => ?_) (fun z => absurd z (by (have h1 := len_cr _ hK; have h2 := len_ln _ hK; have h3 := len_st _ hK _ hK; have h4 := len_st0 _ hK; have h5 := len_tl0 _ hK; (try simp only [List.length_append, List.length_cons, List.length_nil]); omega))))
  refine V.eqH (h' := co (uA R 52 (wrt (R 52) tm ([12]))) W (uZ Z 51 1 (nI (tm + ([12]).length))) T kn h0) (by first | rfl | (congr 1)) ?_
  refine V.iload_n d_Tree_leans_6 rfl ?_
  refine V.aload_n d_Tree_leans_7 rfl ?_
  refine V.get d_Tree_leans_8 (ft_Tree_7 _ hK) (co_t hT hw hi) rfl ?_
  refine V.isub d_Tree_leans_11 ?_
  refine V.iret d_Tree_leans_12 rfl (Nat.le_of_ble_eq_true rfl) (Nat.le_of_ble_eq_true rfl) ?_
  exact hQ
abbrev M_Sapling_leans : MD := (⟨"FelledByNames$Sapling", "leans", "(ILFelledByNames$Row;)I"⟩, prog_7_method_4_code, 3, (some .int), fun _ => True)
theorem d_Sapling_leans_0 : decode prog_7_method_4_code 0 = .ok (.aload_n 2, 1) := by decide +kernel
theorem d_Sapling_leans_1 : decode prog_7_method_4_code 1 = .ok (.bipush 40, 2) := by decide +kernel
theorem d_Sapling_leans_3 : decode prog_7_method_4_code 3 = .ok (.invokevirtual 7, 3) := by decide +kernel
theorem k_Sapling_7_Row_add_RowV : kV "FelledByNames$Sapling" 7 1 M_Row_add 1 := ⟨kB_Row_add, tm 940 (by decide +kernel) rfl, tm 170 (by decide +kernel) rfl, tm 171 (by decide +kernel) rfl, _, rfl, rfl⟩
theorem d_Sapling_leans_6 : decode prog_7_method_4_code 6 = .ok (.aload_n 0, 1) := by decide +kernel
theorem d_Sapling_leans_7 : decode prog_7_method_4_code 7 = .ok (.iload_n 1, 1) := by decide +kernel
theorem d_Sapling_leans_8 : decode prog_7_method_4_code 8 = .ok (.aload_n 2, 1) := by decide +kernel
theorem d_Sapling_leans_9 : decode prog_7_method_4_code 9 = .ok (.invokespecial 13, 3) := by decide +kernel
theorem kB_Tree_leans : kB M_Tree_leans 2 := ⟨tm 6 (by decide +kernel) rfl, tm 927 (by decide +kernel) rfl, ⟨by decide, by decide, by decide +kernel⟩, by decide⟩
theorem k_Sapling_13_Tree_leansSU : kSU "FelledByNames$Sapling" 13 M_Tree_leans 2 := ⟨kB_Tree_leans, tm 941 (by decide +kernel) rfl, tm 1504 (by decide +kernel) rfl, tm 556 (by decide +kernel) rfl, tm 926 (by decide +kernel) rfl, by decide⟩
theorem d_Sapling_leans_12 : decode prog_7_method_4_code 12 = .ok (.ineg, 1) := by decide +kernel
theorem d_Sapling_leans_13 : decode prog_7_method_4_code 13 = .ok (.ireturn, 1) := by decide +kernel
set_option maxRecDepth 100000 in
theorem c_Sapling_leans {w i tm : Nat} {x : Int32} {l : Launch} {d n : Nat} {R W Z : Nat → Nat → Int32} {T : Nat → Nat → Nat} {kn : Kn} {h0 : HP} {Q : QT} (hT : TI T kn n) (hw : w < 3) (hi : i < 8) (hK : tN (W w) (50 + 7 * i + 0) ≤ 6) (et : Z 51 1 = nI tm) (hb : tm + 2 ≤ 40) (hQ : Q (some (.int (lnv 3 (W w (50 + 7 * i + 1)) (nI i) x))) n (co (uA R 52 (wrt (R 52) tm (lnl 3))) W (uZ Z 51 1 (nI (tm + (lnl 3).length))) T kn h0)) : Ct l M_Sapling_leans (d + 2) 0 0 [.ref (T w i), .int x, .ref 51] n (co R W Z T kn h0) Q := by
  refine Ct.of (fun _ => trivial) (by decide) (Nat.le_of_ble_eq_true rfl) ?_
  refine V.aload_n d_Sapling_leans_0 rfl ?_
  refine V.bipush_ (nI 40) d_Sapling_leans_1 (by decide +kernel) ?_
  refine V.callV1 d_Sapling_leans_3 k_Sapling_7_Row_add_RowV (co_s (sc_rw rfl)) (Nat.le_of_ble_eq_true rfl) (by omega) (by omega) (c_Row_add (a := 51) (N := 40) (sz := tm) rfl rfl et (by (have h1 := len_cr _ hK; have h2 := len_ln _ hK; have h3 := len_st _ hK _ hK; have h4 := len_st0 _ hK; have h5 := len_tl0 _ hK; (try simp only [List.length_append, List.length_cons, List.length_nil]); omega)) (by decide) (fun _ => ?_) (fun z => absurd z (by (have h1 := len_cr _ hK; have h2 := len_ln _ hK; have h3 := len_st _ hK _ hK; have h4 := len_st0 _ hK; have h5 := len_tl0 _ hK; (try simp only [List.length_append, List.length_cons, List.length_nil]); omega))))
  refine V.eqH (h' := co (uA R 52 (wrt (R 52) tm ([40]))) W (uZ Z 51 1 (nI (tm + ([40]).length))) T kn h0) (by first | rfl | (congr 1)) ?_
  refine V.aload_n d_Sapling_leans_6 rfl ?_
  refine V.iload_n d_Sapling_leans_7 rfl ?_
  refine V.aload_n d_Sapling_leans_8 rfl ?_
  refine V.callSU (vs := [_, _]) d_Sapling_leans_9 k_Sapling_13_Tree_leansSU (co_t hT hw hi) (kcls_ok _ hK) rfl rfl (Nat.le_of_ble_eq_true rfl) (by omega) (by omega) (c_Tree_leans hT hw hi hK (tm := (tm + ([40]).length)) uZ_s (by (have h1 := len_cr _ hK; have h2 := len_ln _ hK; have h3 := len_st _ hK _ hK; have h4 := len_st0 _ hK; have h5 := len_tl0 _ hK; (try simp only [List.length_append, List.length_cons, List.length_nil]); omega)) ?_)
  refine V.eqH (h' := co (uA R 52 (wrt (R 52) tm (([40] ++ lnl 0)))) W (uZ Z 51 1 (nI (tm + (([40] ++ lnl 0)).length))) T kn h0) (by rw [uA_s, uA_uu, ← wrt_cat, bd_cat]) ?_
  refine V.ineg d_Sapling_leans_12 ?_
  refine V.iret d_Sapling_leans_13 rfl (Nat.le_of_ble_eq_true rfl) (Nat.le_of_ble_eq_true rfl) ?_
  exact hQ
abbrev M_Hill_leans : MD := (⟨"FelledByNames$Hill", "leans", "(ILFelledByNames$Row;)I"⟩, prog_3_method_4_code, 3, (some .int), fun _ => True)
theorem d_Hill_leans_0 : decode prog_3_method_4_code 0 = .ok (.aload_n 2, 1) := by decide +kernel
theorem d_Hill_leans_1 : decode prog_3_method_4_code 1 = .ok (.bipush 70, 2) := by decide +kernel
theorem d_Hill_leans_3 : decode prog_3_method_4_code 3 = .ok (.invokevirtual 20, 3) := by decide +kernel
theorem k_Hill_20_Row_add_RowV : kV "FelledByNames$Hill" 20 1 M_Row_add 1 := ⟨kB_Row_add, tm 936 (by decide +kernel) rfl, tm 170 (by decide +kernel) rfl, tm 171 (by decide +kernel) rfl, _, rfl, rfl⟩
theorem d_Hill_leans_6 : decode prog_3_method_4_code 6 = .ok (.aload_n 0, 1) := by decide +kernel
theorem d_Hill_leans_7 : decode prog_3_method_4_code 7 = .ok (.iload_n 1, 1) := by decide +kernel
theorem d_Hill_leans_8 : decode prog_3_method_4_code 8 = .ok (.aload_n 2, 1) := by decide +kernel
theorem d_Hill_leans_9 : decode prog_3_method_4_code 9 = .ok (.invokespecial 26, 3) := by decide +kernel
theorem kB_Sapling_leans : kB M_Sapling_leans 2 := ⟨tm 18 (by decide +kernel) rfl, tm 939 (by decide +kernel) rfl, ⟨by decide, by decide, by decide +kernel⟩, by decide⟩
theorem k_Hill_26_Sapling_leansSU : kSU "FelledByNames$Hill" 26 M_Sapling_leans 2 := ⟨kB_Sapling_leans, tm 937 (by decide +kernel) rfl, tm 1507 (by decide +kernel) rfl, tm 601 (by decide +kernel) rfl, tm 938 (by decide +kernel) rfl, by decide⟩
theorem d_Hill_leans_12 : decode prog_3_method_4_code 12 = .ok (.aload_n 0, 1) := by decide +kernel
theorem d_Hill_leans_13 : decode prog_3_method_4_code 13 = .ok (.getfield 30, 3) := by decide +kernel
theorem f_Hill_30_Tree : fok "FelledByNames$Hill" 30 6 1 := ⟨R_Tree, F_Tree, 8, "FelledByNames$Hill", rfl, i_Tree, by decide, tm 124 (by decide +kernel) rfl, Or.inr (tm 125 (by decide +kernel) rfl), t_Tree, t_Tree_ok, n_Tree⟩
theorem f_Hill_30_Beech : fok "FelledByNames$Hill" 30 7 1 := ⟨R_Beech, F_Beech, 8, "FelledByNames$Hill", rfl, i_Beech, by decide, tm 124 (by decide +kernel) rfl, Or.inr (tm 125 (by decide +kernel) rfl), t_Beech, t_Beech_ok, n_Beech⟩
theorem f_Hill_30_Oak : fok "FelledByNames$Hill" 30 8 1 := ⟨R_Oak, F_Oak, 8, "FelledByNames$Hill", rfl, i_Oak, by decide, tm 124 (by decide +kernel) rfl, Or.inr (tm 125 (by decide +kernel) rfl), t_Oak, t_Oak_ok, n_Oak⟩
theorem f_Hill_30_Sapling : fok "FelledByNames$Hill" 30 9 1 := ⟨R_Sapling, F_Sapling, 8, "FelledByNames$Hill", rfl, i_Sapling, by decide, tm 124 (by decide +kernel) rfl, Or.inr (tm 125 (by decide +kernel) rfl), t_Sapling, t_Sapling_ok, n_Sapling⟩
theorem f_Hill_30_Wedged : fok "FelledByNames$Hill" 30 10 1 := ⟨R_Wedged, F_Wedged, 8, "FelledByNames$Hill", rfl, i_Wedged, by decide, tm 124 (by decide +kernel) rfl, Or.inr (tm 125 (by decide +kernel) rfl), t_Wedged, t_Wedged_ok, n_Wedged⟩
theorem f_Hill_30_Hollow : fok "FelledByNames$Hill" 30 11 1 := ⟨R_Hollow, F_Hollow, 8, "FelledByNames$Hill", rfl, i_Hollow, by decide, tm 124 (by decide +kernel) rfl, Or.inr (tm 125 (by decide +kernel) rfl), t_Hollow, t_Hollow_ok, n_Hollow⟩
theorem f_Hill_30_Hill : fok "FelledByNames$Hill" 30 12 1 := ⟨R_Hill, F_Hill, 8, "FelledByNames$Hill", rfl, i_Hill, by decide, tm 124 (by decide +kernel) rfl, Or.inr (tm 125 (by decide +kernel) rfl), t_Hill, t_Hill_ok, n_Hill⟩
theorem ft_Hill_30 : ∀ c, c ≤ 6 → fok "FelledByNames$Hill" 30 (6 + c) 1 := fun c hc => by
  rcases (show c = 0 ∨ c = 1 ∨ c = 2 ∨ c = 3 ∨ c = 4 ∨ c = 5 ∨ c = 6 by omega) with rfl | rfl | rfl | rfl | rfl | rfl | rfl
  · exact f_Hill_30_Tree
  · exact f_Hill_30_Beech
  · exact f_Hill_30_Oak
  · exact f_Hill_30_Sapling
  · exact f_Hill_30_Wedged
  · exact f_Hill_30_Hollow
  · exact f_Hill_30_Hill
theorem d_Hill_leans_16 : decode prog_3_method_4_code 16 = .ok (.ixor, 1) := by decide +kernel
theorem d_Hill_leans_17 : decode prog_3_method_4_code 17 = .ok (.ireturn, 1) := by decide +kernel
set_option maxRecDepth 100000 in
theorem c_Hill_leans {w i tm : Nat} {x : Int32} {l : Launch} {d n : Nat} {R W Z : Nat → Nat → Int32} {T : Nat → Nat → Nat} {kn : Kn} {h0 : HP} {Q : QT} (hT : TI T kn n) (hw : w < 3) (hi : i < 8) (hK : tN (W w) (50 + 7 * i + 0) ≤ 6) (et : Z 51 1 = nI tm) (hb : tm + 3 ≤ 40) (hQ : Q (some (.int (lnv 6 (W w (50 + 7 * i + 1)) (nI i) x))) n (co (uA R 52 (wrt (R 52) tm (lnl 6))) W (uZ Z 51 1 (nI (tm + (lnl 6).length))) T kn h0)) : Ct l M_Hill_leans (d + 3) 0 0 [.ref (T w i), .int x, .ref 51] n (co R W Z T kn h0) Q := by
  refine Ct.of (fun _ => trivial) (by decide) (Nat.le_of_ble_eq_true rfl) ?_
  refine V.aload_n d_Hill_leans_0 rfl ?_
  refine V.bipush_ (nI 70) d_Hill_leans_1 (by decide +kernel) ?_
  refine V.callV1 d_Hill_leans_3 k_Hill_20_Row_add_RowV (co_s (sc_rw rfl)) (Nat.le_of_ble_eq_true rfl) (by omega) (by omega) (c_Row_add (a := 51) (N := 40) (sz := tm) rfl rfl et (by (have h1 := len_cr _ hK; have h2 := len_ln _ hK; have h3 := len_st _ hK _ hK; have h4 := len_st0 _ hK; have h5 := len_tl0 _ hK; (try simp only [List.length_append, List.length_cons, List.length_nil]); omega)) (by decide) (fun _ => ?_) (fun z => absurd z (by (have h1 := len_cr _ hK; have h2 := len_ln _ hK; have h3 := len_st _ hK _ hK; have h4 := len_st0 _ hK; have h5 := len_tl0 _ hK; (try simp only [List.length_append, List.length_cons, List.length_nil]); omega))))
  refine V.eqH (h' := co (uA R 52 (wrt (R 52) tm ([70]))) W (uZ Z 51 1 (nI (tm + ([70]).length))) T kn h0) (by first | rfl | (congr 1)) ?_
  refine V.aload_n d_Hill_leans_6 rfl ?_
  refine V.iload_n d_Hill_leans_7 rfl ?_
  refine V.aload_n d_Hill_leans_8 rfl ?_
  refine V.callSU (vs := [_, _]) d_Hill_leans_9 k_Hill_26_Sapling_leansSU (co_t hT hw hi) (kcls_ok _ hK) rfl rfl (Nat.le_of_ble_eq_true rfl) (by omega) (by omega) (c_Sapling_leans hT hw hi hK (tm := (tm + ([70]).length)) uZ_s (by (have h1 := len_cr _ hK; have h2 := len_ln _ hK; have h3 := len_st _ hK _ hK; have h4 := len_st0 _ hK; have h5 := len_tl0 _ hK; (try simp only [List.length_append, List.length_cons, List.length_nil]); omega)) ?_)
  refine V.eqH (h' := co (uA R 52 (wrt (R 52) tm (([70] ++ lnl 3)))) W (uZ Z 51 1 (nI (tm + (([70] ++ lnl 3)).length))) T kn h0) (by rw [uA_s, uA_uu, ← wrt_cat, bd_cat]) ?_
  refine V.aload_n d_Hill_leans_12 rfl ?_
  refine V.get d_Hill_leans_13 (ft_Hill_30 _ hK) (co_t hT hw hi) rfl ?_
  refine V.ixor d_Hill_leans_16 ?_
  refine V.iret d_Hill_leans_17 rfl (Nat.le_of_ble_eq_true rfl) (Nat.le_of_ble_eq_true rfl) ?_
  exact hQ
abbrev M_Tree_stands : MD := (⟨"FelledByNames$Tree", "stands", "(ILFelledByNames$Row;)I"⟩, prog_10_method_7_code, 3, (some .int), fun _ => True)
theorem d_Tree_stands_0 : decode prog_10_method_7_code 0 = .ok (.aload_n 2, 1) := by decide +kernel
theorem d_Tree_stands_1 : decode prog_10_method_7_code 1 = .ok (.bipush 11, 2) := by decide +kernel
theorem d_Tree_stands_3 : decode prog_10_method_7_code 3 = .ok (.invokevirtual 35, 3) := by decide +kernel
theorem d_Tree_stands_6 : decode prog_10_method_7_code 6 = .ok (.aload_n 0, 1) := by decide +kernel
theorem d_Tree_stands_7 : decode prog_10_method_7_code 7 = .ok (.iload_n 1, 1) := by decide +kernel
theorem d_Tree_stands_8 : decode prog_10_method_7_code 8 = .ok (.aload_n 2, 1) := by decide +kernel
theorem d_Tree_stands_9 : decode prog_10_method_7_code 9 = .ok (.invokevirtual 41, 3) := by decide +kernel
theorem k_Tree_41_Tree_creaks_TreeU : kU "FelledByNames$Tree" 41 6 "FelledByNames$Tree" ⟨"FelledByNames$Tree", "creaks", "(ILFelledByNames$Row;)I"⟩ M_Tree_creaks 2 := ⟨kB_Tree_creaks, tm 932 (by decide +kernel) rfl, tm 893 (by decide +kernel) rfl, ⟨by decide, by decide⟩, tm 891 (by decide +kernel) rfl, ⟨prog_10_method_6_code, 3, (some .int), tm 904 (by decide +kernel) rfl⟩, by decide +kernel, tm 891 (by decide +kernel) rfl, _, rfl, tm 892 (by decide +kernel) rfl⟩
theorem kB_Beech_creaks : kB M_Beech_creaks 2 := ⟨tm 16 (by decide +kernel) rfl, tm 896 (by decide +kernel) rfl, ⟨by decide, by decide, by decide +kernel⟩, by decide⟩
theorem k_Tree_41_Beech_creaks_BeechU : kU "FelledByNames$Tree" 41 7 "FelledByNames$Tree" ⟨"FelledByNames$Tree", "creaks", "(ILFelledByNames$Row;)I"⟩ M_Beech_creaks 2 := ⟨kB_Beech_creaks, tm 932 (by decide +kernel) rfl, tm 893 (by decide +kernel) rfl, ⟨by decide, by decide⟩, tm 891 (by decide +kernel) rfl, ⟨prog_10_method_6_code, 3, (some .int), tm 904 (by decide +kernel) rfl⟩, by decide +kernel, tm 895 (by decide +kernel) rfl, _, rfl, tm 894 (by decide +kernel) rfl⟩
theorem k_Tree_41_Tree_creaks_OakU : kU "FelledByNames$Tree" 41 8 "FelledByNames$Tree" ⟨"FelledByNames$Tree", "creaks", "(ILFelledByNames$Row;)I"⟩ M_Tree_creaks 2 := ⟨kB_Tree_creaks, tm 932 (by decide +kernel) rfl, tm 893 (by decide +kernel) rfl, ⟨by decide, by decide⟩, tm 891 (by decide +kernel) rfl, ⟨prog_10_method_6_code, 3, (some .int), tm 904 (by decide +kernel) rfl⟩, by decide +kernel, tm 891 (by decide +kernel) rfl, _, rfl, tm 901 (by decide +kernel) rfl⟩
theorem k_Tree_41_Tree_creaks_SaplingU : kU "FelledByNames$Tree" 41 9 "FelledByNames$Tree" ⟨"FelledByNames$Tree", "creaks", "(ILFelledByNames$Row;)I"⟩ M_Tree_creaks 2 := ⟨kB_Tree_creaks, tm 932 (by decide +kernel) rfl, tm 893 (by decide +kernel) rfl, ⟨by decide, by decide⟩, tm 891 (by decide +kernel) rfl, ⟨prog_10_method_6_code, 3, (some .int), tm 904 (by decide +kernel) rfl⟩, by decide +kernel, tm 891 (by decide +kernel) rfl, _, rfl, tm 902 (by decide +kernel) rfl⟩
theorem k_Tree_41_Beech_creaks_WedgedU : kU "FelledByNames$Tree" 41 10 "FelledByNames$Tree" ⟨"FelledByNames$Tree", "creaks", "(ILFelledByNames$Row;)I"⟩ M_Beech_creaks 2 := ⟨kB_Beech_creaks, tm 932 (by decide +kernel) rfl, tm 893 (by decide +kernel) rfl, ⟨by decide, by decide⟩, tm 891 (by decide +kernel) rfl, ⟨prog_10_method_6_code, 3, (some .int), tm 904 (by decide +kernel) rfl⟩, by decide +kernel, tm 895 (by decide +kernel) rfl, _, rfl, tm 903 (by decide +kernel) rfl⟩
theorem k_Tree_41_Tree_creaks_HollowU : kU "FelledByNames$Tree" 41 11 "FelledByNames$Tree" ⟨"FelledByNames$Tree", "creaks", "(ILFelledByNames$Row;)I"⟩ M_Tree_creaks 2 := ⟨kB_Tree_creaks, tm 932 (by decide +kernel) rfl, tm 893 (by decide +kernel) rfl, ⟨by decide, by decide⟩, tm 891 (by decide +kernel) rfl, ⟨prog_10_method_6_code, 3, (some .int), tm 904 (by decide +kernel) rfl⟩, by decide +kernel, tm 891 (by decide +kernel) rfl, _, rfl, tm 900 (by decide +kernel) rfl⟩
theorem k_Tree_41_Tree_creaks_HillU : kU "FelledByNames$Tree" 41 12 "FelledByNames$Tree" ⟨"FelledByNames$Tree", "creaks", "(ILFelledByNames$Row;)I"⟩ M_Tree_creaks 2 := ⟨kB_Tree_creaks, tm 932 (by decide +kernel) rfl, tm 893 (by decide +kernel) rfl, ⟨by decide, by decide⟩, tm 891 (by decide +kernel) rfl, ⟨prog_10_method_6_code, 3, (some .int), tm 904 (by decide +kernel) rfl⟩, by decide +kernel, tm 891 (by decide +kernel) rfl, _, rfl, tm 899 (by decide +kernel) rfl⟩
theorem vs_Tree_41 {l : Launch} {M : MD} {d mc ms pc : Nat} {ls : List (Nat × Value)} {st : List Value} {n c s w i : Nat} {R W Z : Nat → Nat → Int32} {T : Nat → Nat → Nat} {kn : Kn} {h0 : HP} {Q : QT} {x : Int32} {tm : Nat} (hd : decode M.2.1 pc = .ok (.invokevirtual 41, 3)) (hM0 : M.1.cls = "FelledByNames$Tree") (hT : TI T kn n) (hw : w < 3) (hi : i < 8) (hK : tN (W w) (50 + 7 * i + 0) ≤ 6) (et : Z 51 1 = nI tm) (hb : tm + 2 ≤ 40) (hs8 : (st.map fun v => v.category).sum ≤ 8) (hc0 : c ≤ mc) (hs0 : s ≤ ms) (kk : V l M (d + 3) mc ms (pc + 3) ls (.int (crv (tN (W w) (50 + 7 * i + 0)) (nI i) x) :: st) n (co (uA R 52 (wrt (R 52) tm (crl (tN (W w) (50 + 7 * i + 0))))) W (uZ Z 51 1 (nI (tm + (crl (tN (W w) (50 + 7 * i + 0))).length))) T kn h0) c s Q) : V l M (d + 3) mc ms pc ls (.ref 51 :: .int x :: .ref (T w i) :: st) n (co R W Z T kn h0) c s Q := by
  have hb0 := co_t (R := R) (W := W) (Z := Z) (h0 := h0) hT hw hi
  unfold trc at hb0
  have hK0 := hK
  generalize hk : (tN (W w) (50 + 7 * i + 0)) = k at hK hb0 kk
  rcases (show k = 0 ∨ k = 1 ∨ k = 2 ∨ k = 3 ∨ k = 4 ∨ k = 5 ∨ k = 6 by omega) with rfl | rfl | rfl | rfl | rfl | rfl | rfl
  · refine V.callU (M := M) (vs := [.int x, .ref 51]) (by exact hd) (by rw [hM0]; exact k_Tree_41_Tree_creaks_TreeU) hb0 rfl rfl hs8 (by omega) (by omega) (c_Tree_creaks (d := d + 1) hT hw hi hK0 et (by omega) ?_)
    first | exact kk | (rw [hk]; exact kk)
  · refine V.callU (M := M) (vs := [.int x, .ref 51]) (by exact hd) (by rw [hM0]; exact k_Tree_41_Beech_creaks_BeechU) hb0 rfl rfl hs8 (by omega) (by omega) (c_Beech_creaks (d := d + 0) hT hw hi hK0 et (by omega) ?_)
    first | exact kk | (rw [hk]; exact kk)
  · refine V.callU (M := M) (vs := [.int x, .ref 51]) (by exact hd) (by rw [hM0]; exact k_Tree_41_Tree_creaks_OakU) hb0 rfl rfl hs8 (by omega) (by omega) (c_Tree_creaks (d := d + 1) hT hw hi hK0 et (by omega) ?_)
    first | exact kk | (rw [hk]; exact kk)
  · refine V.callU (M := M) (vs := [.int x, .ref 51]) (by exact hd) (by rw [hM0]; exact k_Tree_41_Tree_creaks_SaplingU) hb0 rfl rfl hs8 (by omega) (by omega) (c_Tree_creaks (d := d + 1) hT hw hi hK0 et (by omega) ?_)
    first | exact kk | (rw [hk]; exact kk)
  · refine V.callU (M := M) (vs := [.int x, .ref 51]) (by exact hd) (by rw [hM0]; exact k_Tree_41_Beech_creaks_WedgedU) hb0 rfl rfl hs8 (by omega) (by omega) (c_Beech_creaks (d := d + 0) hT hw hi hK0 et (by omega) ?_)
    first | exact kk | (rw [hk]; exact kk)
  · refine V.callU (M := M) (vs := [.int x, .ref 51]) (by exact hd) (by rw [hM0]; exact k_Tree_41_Tree_creaks_HollowU) hb0 rfl rfl hs8 (by omega) (by omega) (c_Tree_creaks (d := d + 1) hT hw hi hK0 et (by omega) ?_)
    first | exact kk | (rw [hk]; exact kk)
  · refine V.callU (M := M) (vs := [.int x, .ref 51]) (by exact hd) (by rw [hM0]; exact k_Tree_41_Tree_creaks_HillU) hb0 rfl rfl hs8 (by omega) (by omega) (c_Tree_creaks (d := d + 1) hT hw hi hK0 et (by omega) ?_)
    first | exact kk | (rw [hk]; exact kk)
theorem d_Tree_stands_12 : decode prog_10_method_7_code 12 = .ok (.iconst 2, 1) := by decide +kernel
theorem d_Tree_stands_13 : decode prog_10_method_7_code 13 = .ok (.imul, 1) := by decide +kernel
theorem d_Tree_stands_14 : decode prog_10_method_7_code 14 = .ok (.ireturn, 1) := by decide +kernel
set_option maxRecDepth 100000 in
theorem c_Tree_stands {w i tm : Nat} {x : Int32} {l : Launch} {d n : Nat} {R W Z : Nat → Nat → Int32} {T : Nat → Nat → Nat} {kn : Kn} {h0 : HP} {Q : QT} (hT : TI T kn n) (hw : w < 3) (hi : i < 8) (hK : tN (W w) (50 + 7 * i + 0) ≤ 6) (et : Z 51 1 = nI tm) (hb : tm + 3 ≤ 40) (hQ : Q (some (.int (stv (tN (W w) (50 + 7 * i + 0)) (W w (50 + 7 * i + 1)) (nI i) 0 x))) n (co (uA R 52 (wrt (R 52) tm (stl (tN (W w) (50 + 7 * i + 0)) 0))) W (uZ Z 51 1 (nI (tm + (stl (tN (W w) (50 + 7 * i + 0)) 0).length))) T kn h0)) : Ct l M_Tree_stands (d + 3) 0 0 [.ref (T w i), .int x, .ref 51] n (co R W Z T kn h0) Q := by
  refine Ct.of (fun _ => trivial) (by decide) (Nat.le_of_ble_eq_true rfl) ?_
  refine V.aload_n d_Tree_stands_0 rfl ?_
  refine V.bipush_ (nI 11) d_Tree_stands_1 (by decide +kernel) ?_
  refine V.callV1 d_Tree_stands_3 k_Tree_35_Row_add_RowV (co_s (sc_rw rfl)) (Nat.le_of_ble_eq_true rfl) (by omega) (by omega) (c_Row_add (a := 51) (N := 40) (sz := tm) rfl rfl et (by (have h1 := len_cr _ hK; have h2 := len_ln _ hK; have h3 := len_st _ hK _ hK; have h4 := len_st0 _ hK; have h5 := len_tl0 _ hK; (try simp only [List.length_append, List.length_cons, List.length_nil]); omega)) (by decide) (fun _ => ?_) (fun z => absurd z (by (have h1 := len_cr _ hK; have h2 := len_ln _ hK; have h3 := len_st _ hK _ hK; have h4 := len_st0 _ hK; have h5 := len_tl0 _ hK; (try simp only [List.length_append, List.length_cons, List.length_nil]); omega))))
  refine V.eqH (h' := co (uA R 52 (wrt (R 52) tm ([11]))) W (uZ Z 51 1 (nI (tm + ([11]).length))) T kn h0) (by first | rfl | (congr 1)) ?_
  refine V.aload_n d_Tree_stands_6 rfl ?_
  refine V.iload_n d_Tree_stands_7 rfl ?_
  refine V.aload_n d_Tree_stands_8 rfl ?_
  refine vs_Tree_41 d_Tree_stands_9 rfl hT hw hi hK (tm := (tm + ([11]).length)) uZ_s (by (have h1 := len_cr _ hK; have h2 := len_ln _ hK; have h3 := len_st _ hK _ hK; have h4 := len_st0 _ hK; have h5 := len_tl0 _ hK; (try simp only [List.length_append, List.length_cons, List.length_nil]); omega)) (Nat.le_of_ble_eq_true rfl) (by omega) (by omega) ?_
  refine V.eqH (h' := co (uA R 52 (wrt (R 52) tm (([11] ++ crl (tN (W w) (50 + 7 * i + 0)))))) W (uZ Z 51 1 (nI (tm + (([11] ++ crl (tN (W w) (50 + 7 * i + 0)))).length))) T kn h0) (by rw [uA_s, uA_uu, ← wrt_cat, bd_cat]) ?_
  refine V.iconst_ (nI 2) d_Tree_stands_12 (by decide +kernel) ?_
  refine V.imul d_Tree_stands_13 ?_
  refine V.iret d_Tree_stands_14 rfl (Nat.le_of_ble_eq_true rfl) (Nat.le_of_ble_eq_true rfl) ?_
  exact hQ
abbrev M_Oak_stands : MD := (⟨"FelledByNames$Oak", "stands", "(ILFelledByNames$Row;)I"⟩, prog_5_method_3_code, 3, (some .int), fun _ => True)
theorem d_Oak_stands_0 : decode prog_5_method_3_code 0 = .ok (.aload_n 2, 1) := by decide +kernel
theorem d_Oak_stands_1 : decode prog_5_method_3_code 1 = .ok (.bipush 30, 2) := by decide +kernel
theorem d_Oak_stands_3 : decode prog_5_method_3_code 3 = .ok (.invokevirtual 13, 3) := by decide +kernel
theorem k_Oak_13_Row_add_RowV : kV "FelledByNames$Oak" 13 1 M_Row_add 1 := ⟨kB_Row_add, tm 919 (by decide +kernel) rfl, tm 170 (by decide +kernel) rfl, tm 171 (by decide +kernel) rfl, _, rfl, rfl⟩
theorem d_Oak_stands_6 : decode prog_5_method_3_code 6 = .ok (.aload_n 0, 1) := by decide +kernel
theorem d_Oak_stands_7 : decode prog_5_method_3_code 7 = .ok (.iload_n 1, 1) := by decide +kernel
theorem d_Oak_stands_8 : decode prog_5_method_3_code 8 = .ok (.aload_n 2, 1) := by decide +kernel
theorem d_Oak_stands_9 : decode prog_5_method_3_code 9 = .ok (.invokespecial 19, 3) := by decide +kernel
theorem kB_Tree_stands : kB M_Tree_stands 2 := ⟨tm 6 (by decide +kernel) rfl, tm 931 (by decide +kernel) rfl, ⟨by decide, by decide, by decide +kernel⟩, by decide⟩
theorem k_Oak_19_Tree_standsSU : kSU "FelledByNames$Oak" 19 M_Tree_stands 2 := ⟨kB_Tree_stands, tm 920 (by decide +kernel) rfl, tm 909 (by decide +kernel) rfl, tm 541 (by decide +kernel) rfl, tm 907 (by decide +kernel) rfl, by decide⟩
theorem d_Oak_stands_12 : decode prog_5_method_3_code 12 = .ok (.aload_n 0, 1) := by decide +kernel
theorem d_Oak_stands_13 : decode prog_5_method_3_code 13 = .ok (.iconst 1, 1) := by decide +kernel
theorem d_Oak_stands_14 : decode prog_5_method_3_code 14 = .ok (.aload_n 2, 1) := by decide +kernel
theorem d_Oak_stands_15 : decode prog_5_method_3_code 15 = .ok (.invokevirtual 23, 3) := by decide +kernel
theorem k_Oak_23_Tree_leans_OakU : kU "FelledByNames$Oak" 23 8 "FelledByNames$Tree" ⟨"FelledByNames$Oak", "leans", "(ILFelledByNames$Row;)I"⟩ M_Tree_leans 2 := ⟨kB_Tree_leans, tm 921 (by decide +kernel) rfl, tm 922 (by decide +kernel) rfl, ⟨by decide, by decide⟩, tm 926 (by decide +kernel) rfl, ⟨prog_10_method_8_code, 3, (some .int), tm 927 (by decide +kernel) rfl⟩, by decide +kernel, tm 926 (by decide +kernel) rfl, _, rfl, tm 925 (by decide +kernel) rfl⟩
theorem k_Oak_23_Tree_leans_HollowU : kU "FelledByNames$Oak" 23 11 "FelledByNames$Tree" ⟨"FelledByNames$Oak", "leans", "(ILFelledByNames$Row;)I"⟩ M_Tree_leans 2 := ⟨kB_Tree_leans, tm 921 (by decide +kernel) rfl, tm 922 (by decide +kernel) rfl, ⟨by decide, by decide⟩, tm 926 (by decide +kernel) rfl, ⟨prog_10_method_8_code, 3, (some .int), tm 927 (by decide +kernel) rfl⟩, by decide +kernel, tm 926 (by decide +kernel) rfl, _, rfl, tm 924 (by decide +kernel) rfl⟩
theorem vs_Oak_23 {l : Launch} {M : MD} {d mc ms pc : Nat} {ls : List (Nat × Value)} {st : List Value} {n c s w i : Nat} {R W Z : Nat → Nat → Int32} {T : Nat → Nat → Nat} {kn : Kn} {h0 : HP} {Q : QT} {x : Int32} {tm : Nat} (hd : decode M.2.1 pc = .ok (.invokevirtual 23, 3)) (hM0 : M.1.cls = "FelledByNames$Oak") (hT : TI T kn n) (hw : w < 3) (hi : i < 8) (hK : tN (W w) (50 + 7 * i + 0) ≤ 6) (hc : (tN (W w) (50 + 7 * i + 0)) = 2 ∨ (tN (W w) (50 + 7 * i + 0)) = 5) (et : Z 51 1 = nI tm) (hb : tm + 3 ≤ 40) (hs8 : (st.map fun v => v.category).sum ≤ 8) (hc0 : c ≤ mc) (hs0 : s ≤ ms) (kk : V l M (d + 4) mc ms (pc + 3) ls (.int (lnv (tN (W w) (50 + 7 * i + 0)) (W w (50 + 7 * i + 1)) (nI i) x) :: st) n (co (uA R 52 (wrt (R 52) tm (lnl (tN (W w) (50 + 7 * i + 0))))) W (uZ Z 51 1 (nI (tm + (lnl (tN (W w) (50 + 7 * i + 0))).length))) T kn h0) c s Q) : V l M (d + 4) mc ms pc ls (.ref 51 :: .int x :: .ref (T w i) :: st) n (co R W Z T kn h0) c s Q := by
  have hb0 := co_t (R := R) (W := W) (Z := Z) (h0 := h0) hT hw hi
  unfold trc at hb0
  have hK0 := hK
  generalize hk : (tN (W w) (50 + 7 * i + 0)) = k at hK hb0 kk hc
  rcases (show k = 2 ∨ k = 5 by omega) with rfl | rfl
  · refine V.callU (M := M) (vs := [.int x, .ref 51]) (by exact hd) (by rw [hM0]; exact k_Oak_23_Tree_leans_OakU) hb0 rfl rfl hs8 (by omega) (by omega) (c_Tree_leans (d := d + 2) hT hw hi hK0 et (by omega) ?_)
    first | exact kk | (rw [hk]; exact kk)
  · refine V.callU (M := M) (vs := [.int x, .ref 51]) (by exact hd) (by rw [hM0]; exact k_Oak_23_Tree_leans_HollowU) hb0 rfl rfl hs8 (by omega) (by omega) (c_Tree_leans (d := d + 2) hT hw hi hK0 et (by omega) ?_)
    first | exact kk | (rw [hk]; exact kk)
theorem d_Oak_stands_18 : decode prog_5_method_3_code 18 = .ok (.isub, 1) := by decide +kernel
theorem d_Oak_stands_19 : decode prog_5_method_3_code 19 = .ok (.ireturn, 1) := by decide +kernel
set_option maxRecDepth 100000 in
theorem c_Oak_stands {w i tm : Nat} {x : Int32} {l : Launch} {d n : Nat} {R W Z : Nat → Nat → Int32} {T : Nat → Nat → Nat} {kn : Kn} {h0 : HP} {Q : QT} (hT : TI T kn n) (hw : w < 3) (hi : i < 8) (hK : tN (W w) (50 + 7 * i + 0) ≤ 6) (hc : (tN (W w) (50 + 7 * i + 0)) = 2 ∨ (tN (W w) (50 + 7 * i + 0)) = 5) (et : Z 51 1 = nI tm) (hb : tm + 7 ≤ 40) (hQ : Q (some (.int (stv (tN (W w) (50 + 7 * i + 0)) (W w (50 + 7 * i + 1)) (nI i) 2 x))) n (co (uA R 52 (wrt (R 52) tm (stl (tN (W w) (50 + 7 * i + 0)) 2))) W (uZ Z 51 1 (nI (tm + (stl (tN (W w) (50 + 7 * i + 0)) 2).length))) T kn h0)) : Ct l M_Oak_stands (d + 4) 0 0 [.ref (T w i), .int x, .ref 51] n (co R W Z T kn h0) Q := by
  refine Ct.of (fun _ => trivial) (by decide) (Nat.le_of_ble_eq_true rfl) ?_
  refine V.aload_n d_Oak_stands_0 rfl ?_
  refine V.bipush_ (nI 30) d_Oak_stands_1 (by decide +kernel) ?_
  refine V.callV1 d_Oak_stands_3 k_Oak_13_Row_add_RowV (co_s (sc_rw rfl)) (Nat.le_of_ble_eq_true rfl) (by omega) (by omega) (c_Row_add (a := 51) (N := 40) (sz := tm) rfl rfl et (by (have h1 := len_cr _ hK; have h2 := len_ln _ hK; have h3 := len_st _ hK _ hK; have h4 := len_st0 _ hK; have h5 := len_tl0 _ hK; (try simp only [List.length_append, List.length_cons, List.length_nil]); omega)) (by decide) (fun _ => ?_) (fun z => absurd z (by (have h1 := len_cr _ hK; have h2 := len_ln _ hK; have h3 := len_st _ hK _ hK; have h4 := len_st0 _ hK; have h5 := len_tl0 _ hK; (try simp only [List.length_append, List.length_cons, List.length_nil]); omega))))
  refine V.eqH (h' := co (uA R 52 (wrt (R 52) tm ([30]))) W (uZ Z 51 1 (nI (tm + ([30]).length))) T kn h0) (by first | rfl | (congr 1)) ?_
  refine V.aload_n d_Oak_stands_6 rfl ?_
  refine V.iload_n d_Oak_stands_7 rfl ?_
  refine V.aload_n d_Oak_stands_8 rfl ?_
  refine V.callSU (vs := [_, _]) d_Oak_stands_9 k_Oak_19_Tree_standsSU (co_t hT hw hi) (kcls_ok _ hK) rfl rfl (Nat.le_of_ble_eq_true rfl) (by omega) (by omega) (c_Tree_stands hT hw hi hK (tm := (tm + ([30]).length)) uZ_s (by (have h1 := len_cr _ hK; have h2 := len_ln _ hK; have h3 := len_st _ hK _ hK; have h4 := len_st0 _ hK; have h5 := len_tl0 _ hK; (try simp only [List.length_append, List.length_cons, List.length_nil]); omega)) ?_)
  refine V.eqH (h' := co (uA R 52 (wrt (R 52) tm (([30] ++ stl (tN (W w) (50 + 7 * i + 0)) 0)))) W (uZ Z 51 1 (nI (tm + (([30] ++ stl (tN (W w) (50 + 7 * i + 0)) 0)).length))) T kn h0) (by rw [uA_s, uA_uu, ← wrt_cat, bd_cat]) ?_
  refine V.aload_n d_Oak_stands_12 rfl ?_
  refine V.iconst_ (nI 1) d_Oak_stands_13 (by decide +kernel) ?_
  refine V.aload_n d_Oak_stands_14 rfl ?_
  refine vs_Oak_23 d_Oak_stands_15 rfl hT hw hi hK (by omega) (tm := (tm + (([30] ++ stl (tN (W w) (50 + 7 * i + 0)) 0)).length)) uZ_s (by (have h1 := len_cr _ hK; have h2 := len_ln _ hK; have h3 := len_st _ hK _ hK; have h4 := len_st0 _ hK; have h5 := len_tl0 _ hK; (try simp only [List.length_append, List.length_cons, List.length_nil]); omega)) (Nat.le_of_ble_eq_true rfl) (by omega) (by omega) ?_
  refine V.eqH (h' := co (uA R 52 (wrt (R 52) tm ((([30] ++ stl (tN (W w) (50 + 7 * i + 0)) 0) ++ lnl (tN (W w) (50 + 7 * i + 0)))))) W (uZ Z 51 1 (nI (tm + ((([30] ++ stl (tN (W w) (50 + 7 * i + 0)) 0) ++ lnl (tN (W w) (50 + 7 * i + 0)))).length))) T kn h0) (by rw [uA_s, uA_uu, ← wrt_cat, bd_cat]) ?_
  refine V.isub d_Oak_stands_18 ?_
  refine V.iret d_Oak_stands_19 rfl (Nat.le_of_ble_eq_true rfl) (Nat.le_of_ble_eq_true rfl) ?_
  exact hQ
abbrev M_Hollow_stands : MD := (⟨"FelledByNames$Hollow", "stands", "(ILFelledByNames$Row;)I"⟩, prog_4_method_4_code, 3, (some .int), fun _ => True)
theorem d_Hollow_stands_0 : decode prog_4_method_4_code 0 = .ok (.aload_n 2, 1) := by decide +kernel
theorem d_Hollow_stands_1 : decode prog_4_method_4_code 1 = .ok (.bipush 60, 2) := by decide +kernel
theorem d_Hollow_stands_3 : decode prog_4_method_4_code 3 = .ok (.invokevirtual 11, 3) := by decide +kernel
theorem k_Hollow_11_Row_add_RowV : kV "FelledByNames$Hollow" 11 1 M_Row_add 1 := ⟨kB_Row_add, tm 915 (by decide +kernel) rfl, tm 170 (by decide +kernel) rfl, tm 171 (by decide +kernel) rfl, _, rfl, rfl⟩
theorem d_Hollow_stands_6 : decode prog_4_method_4_code 6 = .ok (.aload_n 0, 1) := by decide +kernel
theorem d_Hollow_stands_7 : decode prog_4_method_4_code 7 = .ok (.iload_n 1, 1) := by decide +kernel
theorem d_Hollow_stands_8 : decode prog_4_method_4_code 8 = .ok (.iconst 1, 1) := by decide +kernel
theorem d_Hollow_stands_9 : decode prog_4_method_4_code 9 = .ok (.iadd, 1) := by decide +kernel
theorem d_Hollow_stands_10 : decode prog_4_method_4_code 10 = .ok (.aload_n 2, 1) := by decide +kernel
theorem d_Hollow_stands_11 : decode prog_4_method_4_code 11 = .ok (.invokespecial 17, 3) := by decide +kernel
theorem kB_Oak_stands : kB M_Oak_stands 2 := ⟨tm 17 (by decide +kernel) rfl, tm 918 (by decide +kernel) rfl, ⟨by decide, by decide, by decide +kernel⟩, by decide⟩
theorem k_Hollow_17_Oak_standsSU : kSU "FelledByNames$Hollow" 17 M_Oak_stands 2 := ⟨kB_Oak_stands, tm 916 (by decide +kernel) rfl, tm 1503 (by decide +kernel) rfl, tm 586 (by decide +kernel) rfl, tm 917 (by decide +kernel) rfl, by decide⟩
theorem d_Hollow_stands_14 : decode prog_4_method_4_code 14 = .ok (.ireturn, 1) := by decide +kernel
set_option maxRecDepth 100000 in
theorem c_Hollow_stands {w i tm : Nat} {x : Int32} {l : Launch} {d n : Nat} {R W Z : Nat → Nat → Int32} {T : Nat → Nat → Nat} {kn : Kn} {h0 : HP} {Q : QT} (hT : TI T kn n) (hw : w < 3) (hi : i < 8) (hK : tN (W w) (50 + 7 * i + 0) ≤ 6) (hc : (tN (W w) (50 + 7 * i + 0)) = 5) (et : Z 51 1 = nI tm) (hb : tm + 8 ≤ 40) (hQ : Q (some (.int (stv (tN (W w) (50 + 7 * i + 0)) (W w (50 + 7 * i + 1)) (nI i) 5 x))) n (co (uA R 52 (wrt (R 52) tm (stl (tN (W w) (50 + 7 * i + 0)) 5))) W (uZ Z 51 1 (nI (tm + (stl (tN (W w) (50 + 7 * i + 0)) 5).length))) T kn h0)) : Ct l M_Hollow_stands (d + 5) 0 0 [.ref (T w i), .int x, .ref 51] n (co R W Z T kn h0) Q := by
  refine Ct.of (fun _ => trivial) (by decide) (Nat.le_of_ble_eq_true rfl) ?_
  refine V.aload_n d_Hollow_stands_0 rfl ?_
  refine V.bipush_ (nI 60) d_Hollow_stands_1 (by decide +kernel) ?_
  refine V.callV1 d_Hollow_stands_3 k_Hollow_11_Row_add_RowV (co_s (sc_rw rfl)) (Nat.le_of_ble_eq_true rfl) (by omega) (by omega) (c_Row_add (a := 51) (N := 40) (sz := tm) rfl rfl et (by (have h1 := len_cr _ hK; have h2 := len_ln _ hK; have h3 := len_st _ hK _ hK; have h4 := len_st0 _ hK; have h5 := len_tl0 _ hK; (try simp only [List.length_append, List.length_cons, List.length_nil]); omega)) (by decide) (fun _ => ?_) (fun z => absurd z (by (have h1 := len_cr _ hK; have h2 := len_ln _ hK; have h3 := len_st _ hK _ hK; have h4 := len_st0 _ hK; have h5 := len_tl0 _ hK; (try simp only [List.length_append, List.length_cons, List.length_nil]); omega))))
  refine V.eqH (h' := co (uA R 52 (wrt (R 52) tm ([60]))) W (uZ Z 51 1 (nI (tm + ([60]).length))) T kn h0) (by first | rfl | (congr 1)) ?_
  refine V.aload_n d_Hollow_stands_6 rfl ?_
  refine V.iload_n d_Hollow_stands_7 rfl ?_
  refine V.iconst_ (nI 1) d_Hollow_stands_8 (by decide +kernel) ?_
  refine V.iadd d_Hollow_stands_9 ?_
  refine V.aload_n d_Hollow_stands_10 rfl ?_
  refine V.callSU (vs := [_, _]) d_Hollow_stands_11 k_Hollow_17_Oak_standsSU (co_t hT hw hi) (kcls_ok _ hK) rfl rfl (Nat.le_of_ble_eq_true rfl) (by omega) (by omega) (c_Oak_stands hT hw hi hK (by omega) (tm := (tm + ([60]).length)) uZ_s (by (have h1 := len_cr _ hK; have h2 := len_ln _ hK; have h3 := len_st _ hK _ hK; have h4 := len_st0 _ hK; have h5 := len_tl0 _ hK; (try simp only [List.length_append, List.length_cons, List.length_nil]); omega)) ?_)
  refine V.eqH (h' := co (uA R 52 (wrt (R 52) tm (([60] ++ stl (tN (W w) (50 + 7 * i + 0)) 2)))) W (uZ Z 51 1 (nI (tm + (([60] ++ stl (tN (W w) (50 + 7 * i + 0)) 2)).length))) T kn h0) (by rw [uA_s, uA_uu, ← wrt_cat, bd_cat]) ?_
  refine V.iret d_Hollow_stands_14 rfl (Nat.le_of_ble_eq_true rfl) (Nat.le_of_ble_eq_true rfl) ?_
  exact hQ
abbrev M_Tree_tells : MD := (⟨"FelledByNames$Tree", "tells", "(ILFelledByNames$Row;)I"⟩, prog_10_method_9_code, 3, (some .int), fun _ => True)
theorem d_Tree_tells_0 : decode prog_10_method_9_code 0 = .ok (.aload_n 2, 1) := by decide +kernel
theorem d_Tree_tells_1 : decode prog_10_method_9_code 1 = .ok (.bipush 13, 2) := by decide +kernel
theorem d_Tree_tells_3 : decode prog_10_method_9_code 3 = .ok (.invokevirtual 35, 3) := by decide +kernel
theorem d_Tree_tells_6 : decode prog_10_method_9_code 6 = .ok (.aload_n 0, 1) := by decide +kernel
theorem d_Tree_tells_7 : decode prog_10_method_9_code 7 = .ok (.iload_n 1, 1) := by decide +kernel
theorem d_Tree_tells_8 : decode prog_10_method_9_code 8 = .ok (.aload_n 2, 1) := by decide +kernel
theorem d_Tree_tells_9 : decode prog_10_method_9_code 9 = .ok (.invokevirtual 45, 3) := by decide +kernel
theorem k_Tree_45_Tree_stands_TreeU : kU "FelledByNames$Tree" 45 6 "FelledByNames$Tree" ⟨"FelledByNames$Tree", "stands", "(ILFelledByNames$Row;)I"⟩ M_Tree_stands 2 := ⟨kB_Tree_stands, tm 971 (by decide +kernel) rfl, tm 909 (by decide +kernel) rfl, ⟨by decide, by decide⟩, tm 907 (by decide +kernel) rfl, ⟨prog_10_method_7_code, 3, (some .int), tm 931 (by decide +kernel) rfl⟩, by decide +kernel, tm 907 (by decide +kernel) rfl, _, rfl, tm 908 (by decide +kernel) rfl⟩
theorem k_Tree_45_Tree_stands_BeechU : kU "FelledByNames$Tree" 45 7 "FelledByNames$Tree" ⟨"FelledByNames$Tree", "stands", "(ILFelledByNames$Row;)I"⟩ M_Tree_stands 2 := ⟨kB_Tree_stands, tm 971 (by decide +kernel) rfl, tm 909 (by decide +kernel) rfl, ⟨by decide, by decide⟩, tm 907 (by decide +kernel) rfl, ⟨prog_10_method_7_code, 3, (some .int), tm 931 (by decide +kernel) rfl⟩, by decide +kernel, tm 907 (by decide +kernel) rfl, _, rfl, tm 910 (by decide +kernel) rfl⟩
theorem k_Tree_45_Oak_stands_OakU : kU "FelledByNames$Tree" 45 8 "FelledByNames$Tree" ⟨"FelledByNames$Tree", "stands", "(ILFelledByNames$Row;)I"⟩ M_Oak_stands 2 := ⟨kB_Oak_stands, tm 971 (by decide +kernel) rfl, tm 909 (by decide +kernel) rfl, ⟨by decide, by decide⟩, tm 907 (by decide +kernel) rfl, ⟨prog_10_method_7_code, 3, (some .int), tm 931 (by decide +kernel) rfl⟩, by decide +kernel, tm 917 (by decide +kernel) rfl, _, rfl, tm 928 (by decide +kernel) rfl⟩
theorem k_Tree_45_Tree_stands_SaplingU : kU "FelledByNames$Tree" 45 9 "FelledByNames$Tree" ⟨"FelledByNames$Tree", "stands", "(ILFelledByNames$Row;)I"⟩ M_Tree_stands 2 := ⟨kB_Tree_stands, tm 971 (by decide +kernel) rfl, tm 909 (by decide +kernel) rfl, ⟨by decide, by decide⟩, tm 907 (by decide +kernel) rfl, ⟨prog_10_method_7_code, 3, (some .int), tm 931 (by decide +kernel) rfl⟩, by decide +kernel, tm 907 (by decide +kernel) rfl, _, rfl, tm 929 (by decide +kernel) rfl⟩
theorem k_Tree_45_Tree_stands_WedgedU : kU "FelledByNames$Tree" 45 10 "FelledByNames$Tree" ⟨"FelledByNames$Tree", "stands", "(ILFelledByNames$Row;)I"⟩ M_Tree_stands 2 := ⟨kB_Tree_stands, tm 971 (by decide +kernel) rfl, tm 909 (by decide +kernel) rfl, ⟨by decide, by decide⟩, tm 907 (by decide +kernel) rfl, ⟨prog_10_method_7_code, 3, (some .int), tm 931 (by decide +kernel) rfl⟩, by decide +kernel, tm 907 (by decide +kernel) rfl, _, rfl, tm 930 (by decide +kernel) rfl⟩
theorem kB_Hollow_stands : kB M_Hollow_stands 2 := ⟨tm 20 (by decide +kernel) rfl, tm 914 (by decide +kernel) rfl, ⟨by decide, by decide, by decide +kernel⟩, by decide⟩
theorem k_Tree_45_Hollow_stands_HollowU : kU "FelledByNames$Tree" 45 11 "FelledByNames$Tree" ⟨"FelledByNames$Tree", "stands", "(ILFelledByNames$Row;)I"⟩ M_Hollow_stands 2 := ⟨kB_Hollow_stands, tm 971 (by decide +kernel) rfl, tm 909 (by decide +kernel) rfl, ⟨by decide, by decide⟩, tm 907 (by decide +kernel) rfl, ⟨prog_10_method_7_code, 3, (some .int), tm 931 (by decide +kernel) rfl⟩, by decide +kernel, tm 913 (by decide +kernel) rfl, _, rfl, tm 912 (by decide +kernel) rfl⟩
theorem k_Tree_45_Tree_stands_HillU : kU "FelledByNames$Tree" 45 12 "FelledByNames$Tree" ⟨"FelledByNames$Tree", "stands", "(ILFelledByNames$Row;)I"⟩ M_Tree_stands 2 := ⟨kB_Tree_stands, tm 971 (by decide +kernel) rfl, tm 909 (by decide +kernel) rfl, ⟨by decide, by decide⟩, tm 907 (by decide +kernel) rfl, ⟨prog_10_method_7_code, 3, (some .int), tm 931 (by decide +kernel) rfl⟩, by decide +kernel, tm 907 (by decide +kernel) rfl, _, rfl, tm 911 (by decide +kernel) rfl⟩
theorem vs_Tree_45 {l : Launch} {M : MD} {d mc ms pc : Nat} {ls : List (Nat × Value)} {st : List Value} {n c s w i : Nat} {R W Z : Nat → Nat → Int32} {T : Nat → Nat → Nat} {kn : Kn} {h0 : HP} {Q : QT} {x : Int32} {tm : Nat} (hd : decode M.2.1 pc = .ok (.invokevirtual 45, 3)) (hM0 : M.1.cls = "FelledByNames$Tree") (hT : TI T kn n) (hw : w < 3) (hi : i < 8) (hK : tN (W w) (50 + 7 * i + 0) ≤ 6) (et : Z 51 1 = nI tm) (hb : tm + 8 ≤ 40) (hs8 : (st.map fun v => v.category).sum ≤ 8) (hc0 : c ≤ mc) (hs0 : s ≤ ms) (kk : V l M (d + 6) mc ms (pc + 3) ls (.int (stv (tN (W w) (50 + 7 * i + 0)) (W w (50 + 7 * i + 1)) (nI i) (tN (W w) (50 + 7 * i + 0)) x) :: st) n (co (uA R 52 (wrt (R 52) tm (stl (tN (W w) (50 + 7 * i + 0)) (tN (W w) (50 + 7 * i + 0))))) W (uZ Z 51 1 (nI (tm + (stl (tN (W w) (50 + 7 * i + 0)) (tN (W w) (50 + 7 * i + 0))).length))) T kn h0) c s Q) : V l M (d + 6) mc ms pc ls (.ref 51 :: .int x :: .ref (T w i) :: st) n (co R W Z T kn h0) c s Q := by
  have hb0 := co_t (R := R) (W := W) (Z := Z) (h0 := h0) hT hw hi
  unfold trc at hb0
  have hK0 := hK
  generalize hk : (tN (W w) (50 + 7 * i + 0)) = k at hK hb0 kk
  rcases (show k = 0 ∨ k = 1 ∨ k = 2 ∨ k = 3 ∨ k = 4 ∨ k = 5 ∨ k = 6 by omega) with rfl | rfl | rfl | rfl | rfl | rfl | rfl
  · refine V.callU (M := M) (vs := [.int x, .ref 51]) (by exact hd) (by rw [hM0]; exact k_Tree_45_Tree_stands_TreeU) hb0 rfl rfl hs8 (by omega) (by omega) (c_Tree_stands (d := d + 2) hT hw hi hK0 et (by omega) ?_)
    first | exact kk | (rw [hk]; exact kk)
  · refine V.callU (M := M) (vs := [.int x, .ref 51]) (by exact hd) (by rw [hM0]; exact k_Tree_45_Tree_stands_BeechU) hb0 rfl rfl hs8 (by omega) (by omega) (c_Tree_stands (d := d + 2) hT hw hi hK0 et (by omega) ?_)
    first | exact kk | (rw [hk]; exact kk)
  · refine V.callU (M := M) (vs := [.int x, .ref 51]) (by exact hd) (by rw [hM0]; exact k_Tree_45_Oak_stands_OakU) hb0 rfl rfl hs8 (by omega) (by omega) (c_Oak_stands (d := d + 1) hT hw hi hK0 (by omega) et (by omega) ?_)
    first | exact kk | (rw [hk]; exact kk)
  · refine V.callU (M := M) (vs := [.int x, .ref 51]) (by exact hd) (by rw [hM0]; exact k_Tree_45_Tree_stands_SaplingU) hb0 rfl rfl hs8 (by omega) (by omega) (c_Tree_stands (d := d + 2) hT hw hi hK0 et (by omega) ?_)
    first | exact kk | (rw [hk]; exact kk)
  · refine V.callU (M := M) (vs := [.int x, .ref 51]) (by exact hd) (by rw [hM0]; exact k_Tree_45_Tree_stands_WedgedU) hb0 rfl rfl hs8 (by omega) (by omega) (c_Tree_stands (d := d + 2) hT hw hi hK0 et (by omega) ?_)
    first | exact kk | (rw [hk]; exact kk)
  · refine V.callU (M := M) (vs := [.int x, .ref 51]) (by exact hd) (by rw [hM0]; exact k_Tree_45_Hollow_stands_HollowU) hb0 rfl rfl hs8 (by omega) (by omega) (c_Hollow_stands (d := d + 0) hT hw hi hK0 (by omega) et (by omega) ?_)
    first | exact kk | (rw [hk]; exact kk)
  · refine V.callU (M := M) (vs := [.int x, .ref 51]) (by exact hd) (by rw [hM0]; exact k_Tree_45_Tree_stands_HillU) hb0 rfl rfl hs8 (by omega) (by omega) (c_Tree_stands (d := d + 2) hT hw hi hK0 et (by omega) ?_)
    first | exact kk | (rw [hk]; exact kk)
theorem d_Tree_tells_12 : decode prog_10_method_9_code 12 = .ok (.aload_n 0, 1) := by decide +kernel
theorem d_Tree_tells_13 : decode prog_10_method_9_code 13 = .ok (.iload_n 1, 1) := by decide +kernel
theorem d_Tree_tells_14 : decode prog_10_method_9_code 14 = .ok (.aload_n 2, 1) := by decide +kernel
theorem d_Tree_tells_15 : decode prog_10_method_9_code 15 = .ok (.invokevirtual 48, 3) := by decide +kernel
theorem k_Tree_48_Tree_leans_TreeU : kU "FelledByNames$Tree" 48 6 "FelledByNames$Tree" ⟨"FelledByNames$Tree", "leans", "(ILFelledByNames$Row;)I"⟩ M_Tree_leans 2 := ⟨kB_Tree_leans, tm 972 (by decide +kernel) rfl, tm 1504 (by decide +kernel) rfl, ⟨by decide, by decide⟩, tm 926 (by decide +kernel) rfl, ⟨prog_10_method_8_code, 3, (some .int), tm 927 (by decide +kernel) rfl⟩, by decide +kernel, tm 926 (by decide +kernel) rfl, _, rfl, tm 1511 (by decide +kernel) rfl⟩
theorem k_Tree_48_Tree_leans_BeechU : kU "FelledByNames$Tree" 48 7 "FelledByNames$Tree" ⟨"FelledByNames$Tree", "leans", "(ILFelledByNames$Row;)I"⟩ M_Tree_leans 2 := ⟨kB_Tree_leans, tm 972 (by decide +kernel) rfl, tm 1504 (by decide +kernel) rfl, ⟨by decide, by decide⟩, tm 926 (by decide +kernel) rfl, ⟨prog_10_method_8_code, 3, (some .int), tm 927 (by decide +kernel) rfl⟩, by decide +kernel, tm 926 (by decide +kernel) rfl, _, rfl, tm 1505 (by decide +kernel) rfl⟩
theorem k_Tree_48_Tree_leans_OakU : kU "FelledByNames$Tree" 48 8 "FelledByNames$Tree" ⟨"FelledByNames$Tree", "leans", "(ILFelledByNames$Row;)I"⟩ M_Tree_leans 2 := ⟨kB_Tree_leans, tm 972 (by decide +kernel) rfl, tm 1504 (by decide +kernel) rfl, ⟨by decide, by decide⟩, tm 926 (by decide +kernel) rfl, ⟨prog_10_method_8_code, 3, (some .int), tm 927 (by decide +kernel) rfl⟩, by decide +kernel, tm 926 (by decide +kernel) rfl, _, rfl, tm 1509 (by decide +kernel) rfl⟩
theorem k_Tree_48_Sapling_leans_SaplingU : kU "FelledByNames$Tree" 48 9 "FelledByNames$Tree" ⟨"FelledByNames$Tree", "leans", "(ILFelledByNames$Row;)I"⟩ M_Sapling_leans 2 := ⟨kB_Sapling_leans, tm 972 (by decide +kernel) rfl, tm 1504 (by decide +kernel) rfl, ⟨by decide, by decide⟩, tm 926 (by decide +kernel) rfl, ⟨prog_10_method_8_code, 3, (some .int), tm 927 (by decide +kernel) rfl⟩, by decide +kernel, tm 938 (by decide +kernel) rfl, _, rfl, tm 1510 (by decide +kernel) rfl⟩
theorem k_Tree_48_Tree_leans_WedgedU : kU "FelledByNames$Tree" 48 10 "FelledByNames$Tree" ⟨"FelledByNames$Tree", "leans", "(ILFelledByNames$Row;)I"⟩ M_Tree_leans 2 := ⟨kB_Tree_leans, tm 972 (by decide +kernel) rfl, tm 1504 (by decide +kernel) rfl, ⟨by decide, by decide⟩, tm 926 (by decide +kernel) rfl, ⟨prog_10_method_8_code, 3, (some .int), tm 927 (by decide +kernel) rfl⟩, by decide +kernel, tm 926 (by decide +kernel) rfl, _, rfl, tm 1512 (by decide +kernel) rfl⟩
theorem k_Tree_48_Tree_leans_HollowU : kU "FelledByNames$Tree" 48 11 "FelledByNames$Tree" ⟨"FelledByNames$Tree", "leans", "(ILFelledByNames$Row;)I"⟩ M_Tree_leans 2 := ⟨kB_Tree_leans, tm 972 (by decide +kernel) rfl, tm 1504 (by decide +kernel) rfl, ⟨by decide, by decide⟩, tm 926 (by decide +kernel) rfl, ⟨prog_10_method_8_code, 3, (some .int), tm 927 (by decide +kernel) rfl⟩, by decide +kernel, tm 926 (by decide +kernel) rfl, _, rfl, tm 1508 (by decide +kernel) rfl⟩
theorem kB_Hill_leans : kB M_Hill_leans 2 := ⟨tm 21 (by decide +kernel) rfl, tm 935 (by decide +kernel) rfl, ⟨by decide, by decide, by decide +kernel⟩, by decide⟩
theorem k_Tree_48_Hill_leans_HillU : kU "FelledByNames$Tree" 48 12 "FelledByNames$Tree" ⟨"FelledByNames$Tree", "leans", "(ILFelledByNames$Row;)I"⟩ M_Hill_leans 2 := ⟨kB_Hill_leans, tm 972 (by decide +kernel) rfl, tm 1504 (by decide +kernel) rfl, ⟨by decide, by decide⟩, tm 926 (by decide +kernel) rfl, ⟨prog_10_method_8_code, 3, (some .int), tm 927 (by decide +kernel) rfl⟩, by decide +kernel, tm 934 (by decide +kernel) rfl, _, rfl, tm 1506 (by decide +kernel) rfl⟩
theorem vs_Tree_48 {l : Launch} {M : MD} {d mc ms pc : Nat} {ls : List (Nat × Value)} {st : List Value} {n c s w i : Nat} {R W Z : Nat → Nat → Int32} {T : Nat → Nat → Nat} {kn : Kn} {h0 : HP} {Q : QT} {x : Int32} {tm : Nat} (hd : decode M.2.1 pc = .ok (.invokevirtual 48, 3)) (hM0 : M.1.cls = "FelledByNames$Tree") (hT : TI T kn n) (hw : w < 3) (hi : i < 8) (hK : tN (W w) (50 + 7 * i + 0) ≤ 6) (et : Z 51 1 = nI tm) (hb : tm + 3 ≤ 40) (hs8 : (st.map fun v => v.category).sum ≤ 8) (hc0 : c ≤ mc) (hs0 : s ≤ ms) (kk : V l M (d + 4) mc ms (pc + 3) ls (.int (lnv (tN (W w) (50 + 7 * i + 0)) (W w (50 + 7 * i + 1)) (nI i) x) :: st) n (co (uA R 52 (wrt (R 52) tm (lnl (tN (W w) (50 + 7 * i + 0))))) W (uZ Z 51 1 (nI (tm + (lnl (tN (W w) (50 + 7 * i + 0))).length))) T kn h0) c s Q) : V l M (d + 4) mc ms pc ls (.ref 51 :: .int x :: .ref (T w i) :: st) n (co R W Z T kn h0) c s Q := by
  have hb0 := co_t (R := R) (W := W) (Z := Z) (h0 := h0) hT hw hi
  unfold trc at hb0
  have hK0 := hK
  generalize hk : (tN (W w) (50 + 7 * i + 0)) = k at hK hb0 kk
  rcases (show k = 0 ∨ k = 1 ∨ k = 2 ∨ k = 3 ∨ k = 4 ∨ k = 5 ∨ k = 6 by omega) with rfl | rfl | rfl | rfl | rfl | rfl | rfl
  · refine V.callU (M := M) (vs := [.int x, .ref 51]) (by exact hd) (by rw [hM0]; exact k_Tree_48_Tree_leans_TreeU) hb0 rfl rfl hs8 (by omega) (by omega) (c_Tree_leans (d := d + 2) hT hw hi hK0 et (by omega) ?_)
    first | exact kk | (rw [hk]; exact kk)
  · refine V.callU (M := M) (vs := [.int x, .ref 51]) (by exact hd) (by rw [hM0]; exact k_Tree_48_Tree_leans_BeechU) hb0 rfl rfl hs8 (by omega) (by omega) (c_Tree_leans (d := d + 2) hT hw hi hK0 et (by omega) ?_)
    first | exact kk | (rw [hk]; exact kk)
  · refine V.callU (M := M) (vs := [.int x, .ref 51]) (by exact hd) (by rw [hM0]; exact k_Tree_48_Tree_leans_OakU) hb0 rfl rfl hs8 (by omega) (by omega) (c_Tree_leans (d := d + 2) hT hw hi hK0 et (by omega) ?_)
    first | exact kk | (rw [hk]; exact kk)
  · refine V.callU (M := M) (vs := [.int x, .ref 51]) (by exact hd) (by rw [hM0]; exact k_Tree_48_Sapling_leans_SaplingU) hb0 rfl rfl hs8 (by omega) (by omega) (c_Sapling_leans (d := d + 1) hT hw hi hK0 et (by omega) ?_)
    first | exact kk | (rw [hk]; exact kk)
  · refine V.callU (M := M) (vs := [.int x, .ref 51]) (by exact hd) (by rw [hM0]; exact k_Tree_48_Tree_leans_WedgedU) hb0 rfl rfl hs8 (by omega) (by omega) (c_Tree_leans (d := d + 2) hT hw hi hK0 et (by omega) ?_)
    first | exact kk | (rw [hk]; exact kk)
  · refine V.callU (M := M) (vs := [.int x, .ref 51]) (by exact hd) (by rw [hM0]; exact k_Tree_48_Tree_leans_HollowU) hb0 rfl rfl hs8 (by omega) (by omega) (c_Tree_leans (d := d + 2) hT hw hi hK0 et (by omega) ?_)
    first | exact kk | (rw [hk]; exact kk)
  · refine V.callU (M := M) (vs := [.int x, .ref 51]) (by exact hd) (by rw [hM0]; exact k_Tree_48_Hill_leans_HillU) hb0 rfl rfl hs8 (by omega) (by omega) (c_Hill_leans (d := d + 0) hT hw hi hK0 et (by omega) ?_)
    first | exact kk | (rw [hk]; exact kk)
theorem d_Tree_tells_18 : decode prog_10_method_9_code 18 = .ok (.ixor, 1) := by decide +kernel
theorem d_Tree_tells_19 : decode prog_10_method_9_code 19 = .ok (.ireturn, 1) := by decide +kernel
set_option maxRecDepth 100000 in
theorem c_Tree_tells {w i tm : Nat} {x : Int32} {l : Launch} {d n : Nat} {R W Z : Nat → Nat → Int32} {T : Nat → Nat → Nat} {kn : Kn} {h0 : HP} {Q : QT} (hT : TI T kn n) (hw : w < 3) (hi : i < 8) (hK : tN (W w) (50 + 7 * i + 0) ≤ 6) (et : Z 51 1 = nI tm) (hb : tm + 12 ≤ 40) (hQ : Q (some (.int (tlv (tN (W w) (50 + 7 * i + 0)) (W w (50 + 7 * i + 1)) (nI i) 0 x))) n (co (uA R 52 (wrt (R 52) tm (tll (tN (W w) (50 + 7 * i + 0)) 0))) W (uZ Z 51 1 (nI (tm + (tll (tN (W w) (50 + 7 * i + 0)) 0).length))) T kn h0)) : Ct l M_Tree_tells (d + 6) 0 0 [.ref (T w i), .int x, .ref 51] n (co R W Z T kn h0) Q := by
  refine Ct.of (fun _ => trivial) (by decide) (Nat.le_of_ble_eq_true rfl) ?_
  refine V.aload_n d_Tree_tells_0 rfl ?_
  refine V.bipush_ (nI 13) d_Tree_tells_1 (by decide +kernel) ?_
  refine V.callV1 d_Tree_tells_3 k_Tree_35_Row_add_RowV (co_s (sc_rw rfl)) (Nat.le_of_ble_eq_true rfl) (by omega) (by omega) (c_Row_add (a := 51) (N := 40) (sz := tm) rfl rfl et (by (have h1 := len_cr _ hK; have h2 := len_ln _ hK; have h3 := len_st _ hK _ hK; have h4 := len_st0 _ hK; have h5 := len_tl0 _ hK; (try simp only [List.length_append, List.length_cons, List.length_nil]); omega)) (by decide) (fun _ => ?_) (fun z => absurd z (by (have h1 := len_cr _ hK; have h2 := len_ln _ hK; have h3 := len_st _ hK _ hK; have h4 := len_st0 _ hK; have h5 := len_tl0 _ hK; (try simp only [List.length_append, List.length_cons, List.length_nil]); omega))))
  refine V.eqH (h' := co (uA R 52 (wrt (R 52) tm ([13]))) W (uZ Z 51 1 (nI (tm + ([13]).length))) T kn h0) (by first | rfl | (congr 1)) ?_
  refine V.aload_n d_Tree_tells_6 rfl ?_
  refine V.iload_n d_Tree_tells_7 rfl ?_
  refine V.aload_n d_Tree_tells_8 rfl ?_
  refine vs_Tree_45 d_Tree_tells_9 rfl hT hw hi hK (tm := (tm + ([13]).length)) uZ_s (by (have h1 := len_cr _ hK; have h2 := len_ln _ hK; have h3 := len_st _ hK _ hK; have h4 := len_st0 _ hK; have h5 := len_tl0 _ hK; (try simp only [List.length_append, List.length_cons, List.length_nil]); omega)) (Nat.le_of_ble_eq_true rfl) (by omega) (by omega) ?_
  refine V.eqH (h' := co (uA R 52 (wrt (R 52) tm (([13] ++ stl (tN (W w) (50 + 7 * i + 0)) (tN (W w) (50 + 7 * i + 0)))))) W (uZ Z 51 1 (nI (tm + (([13] ++ stl (tN (W w) (50 + 7 * i + 0)) (tN (W w) (50 + 7 * i + 0)))).length))) T kn h0) (by rw [uA_s, uA_uu, ← wrt_cat, bd_cat]) ?_
  refine V.aload_n d_Tree_tells_12 rfl ?_
  refine V.iload_n d_Tree_tells_13 rfl ?_
  refine V.aload_n d_Tree_tells_14 rfl ?_
  refine vs_Tree_48 d_Tree_tells_15 rfl hT hw hi hK (tm := (tm + (([13] ++ stl (tN (W w) (50 + 7 * i + 0)) (tN (W w) (50 + 7 * i + 0)))).length)) uZ_s (by (have h1 := len_cr _ hK; have h2 := len_ln _ hK; have h3 := len_st _ hK _ hK; have h4 := len_st0 _ hK; have h5 := len_tl0 _ hK; (try simp only [List.length_append, List.length_cons, List.length_nil]); omega)) (Nat.le_of_ble_eq_true rfl) (by omega) (by omega) ?_
  refine V.eqH (h' := co (uA R 52 (wrt (R 52) tm ((([13] ++ stl (tN (W w) (50 + 7 * i + 0)) (tN (W w) (50 + 7 * i + 0))) ++ lnl (tN (W w) (50 + 7 * i + 0)))))) W (uZ Z 51 1 (nI (tm + ((([13] ++ stl (tN (W w) (50 + 7 * i + 0)) (tN (W w) (50 + 7 * i + 0))) ++ lnl (tN (W w) (50 + 7 * i + 0)))).length))) T kn h0) (by rw [uA_s, uA_uu, ← wrt_cat, bd_cat]) ?_
  refine V.ixor d_Tree_tells_18 ?_
  refine V.iret d_Tree_tells_19 rfl (Nat.le_of_ble_eq_true rfl) (Nat.le_of_ble_eq_true rfl) ?_
  exact hQ
abbrev M_Wedged_tells : MD := (⟨"FelledByNames$Wedged", "tells", "(ILFelledByNames$Row;)I"⟩, prog_11_method_3_code, 3, (some .int), fun _ => True)
theorem d_Wedged_tells_0 : decode prog_11_method_3_code 0 = .ok (.aload_n 2, 1) := by decide +kernel
theorem d_Wedged_tells_1 : decode prog_11_method_3_code 1 = .ok (.bipush 50, 2) := by decide +kernel
theorem d_Wedged_tells_3 : decode prog_11_method_3_code 3 = .ok (.invokevirtual 11, 3) := by decide +kernel
theorem k_Wedged_11_Row_add_RowV : kV "FelledByNames$Wedged" 11 1 M_Row_add 1 := ⟨kB_Row_add, tm 963 (by decide +kernel) rfl, tm 170 (by decide +kernel) rfl, tm 171 (by decide +kernel) rfl, _, rfl, rfl⟩
theorem d_Wedged_tells_6 : decode prog_11_method_3_code 6 = .ok (.aload_n 0, 1) := by decide +kernel
theorem d_Wedged_tells_7 : decode prog_11_method_3_code 7 = .ok (.iload_n 1, 1) := by decide +kernel
theorem d_Wedged_tells_8 : decode prog_11_method_3_code 8 = .ok (.aload_n 2, 1) := by decide +kernel
theorem d_Wedged_tells_9 : decode prog_11_method_3_code 9 = .ok (.invokespecial 17, 3) := by decide +kernel
theorem kB_Tree_tells : kB M_Tree_tells 2 := ⟨tm 6 (by decide +kernel) rfl, tm 970 (by decide +kernel) rfl, ⟨by decide, by decide, by decide +kernel⟩, by decide⟩
theorem k_Wedged_17_Tree_tellsG : kSG "FelledByNames$Wedged" 17 ⟨"FelledByNames$Beech", "tells", "(ILFelledByNames$Row;)I"⟩ M_Tree_tells 2 := ⟨kB_Tree_tells, tm 964 (by decide +kernel) rfl, tm 965 (by decide +kernel) rfl, tm 571 (by decide +kernel) rfl, tm 526 (by decide +kernel) rfl, tm 943 (by decide +kernel) rfl, by decide, rfl, rfl⟩
theorem d_Wedged_tells_12 : decode prog_11_method_3_code 12 = .ok (.aload_n 0, 1) := by decide +kernel
theorem d_Wedged_tells_13 : decode prog_11_method_3_code 13 = .ok (.iconst 2, 1) := by decide +kernel
theorem d_Wedged_tells_14 : decode prog_11_method_3_code 14 = .ok (.aload_n 2, 1) := by decide +kernel
theorem d_Wedged_tells_15 : decode prog_11_method_3_code 15 = .ok (.invokevirtual 21, 3) := by decide +kernel
theorem k_Wedged_21_Beech_creaks_WedgedU : kU "FelledByNames$Wedged" 21 10 "FelledByNames$Beech" ⟨"FelledByNames$Wedged", "creaks", "(ILFelledByNames$Row;)I"⟩ M_Beech_creaks 2 := ⟨kB_Beech_creaks, tm 966 (by decide +kernel) rfl, tm 967 (by decide +kernel) rfl, ⟨by decide, by decide⟩, tm 895 (by decide +kernel) rfl, ⟨prog_2_method_4_code, 3, (some .int), tm 896 (by decide +kernel) rfl⟩, by decide +kernel, tm 895 (by decide +kernel) rfl, _, rfl, tm 969 (by decide +kernel) rfl⟩
theorem vs_Wedged_21 {l : Launch} {M : MD} {d mc ms pc : Nat} {ls : List (Nat × Value)} {st : List Value} {n c s w i : Nat} {R W Z : Nat → Nat → Int32} {T : Nat → Nat → Nat} {kn : Kn} {h0 : HP} {Q : QT} {x : Int32} {tm : Nat} (hd : decode M.2.1 pc = .ok (.invokevirtual 21, 3)) (hM0 : M.1.cls = "FelledByNames$Wedged") (hT : TI T kn n) (hw : w < 3) (hi : i < 8) (hK : tN (W w) (50 + 7 * i + 0) ≤ 6) (hc : (tN (W w) (50 + 7 * i + 0)) = 4) (et : Z 51 1 = nI tm) (hb : tm + 2 ≤ 40) (hs8 : (st.map fun v => v.category).sum ≤ 8) (hc0 : c ≤ mc) (hs0 : s ≤ ms) (kk : V l M (d + 3) mc ms (pc + 3) ls (.int (crv (tN (W w) (50 + 7 * i + 0)) (nI i) x) :: st) n (co (uA R 52 (wrt (R 52) tm (crl (tN (W w) (50 + 7 * i + 0))))) W (uZ Z 51 1 (nI (tm + (crl (tN (W w) (50 + 7 * i + 0))).length))) T kn h0) c s Q) : V l M (d + 3) mc ms pc ls (.ref 51 :: .int x :: .ref (T w i) :: st) n (co R W Z T kn h0) c s Q := by
  have hb0 := co_t (R := R) (W := W) (Z := Z) (h0 := h0) hT hw hi
  unfold trc at hb0
  have hK0 := hK
  generalize hk : (tN (W w) (50 + 7 * i + 0)) = k at hK hb0 kk hc
  rcases (show k = 4 by omega) with rfl
  · refine V.callU (M := M) (vs := [.int x, .ref 51]) (by exact hd) (by rw [hM0]; exact k_Wedged_21_Beech_creaks_WedgedU) hb0 rfl rfl hs8 (by omega) (by omega) (c_Beech_creaks (d := d + 0) hT hw hi hK0 et (by omega) ?_)
    first | exact kk | (rw [hk]; exact kk)
theorem d_Wedged_tells_18 : decode prog_11_method_3_code 18 = .ok (.isub, 1) := by decide +kernel
theorem d_Wedged_tells_19 : decode prog_11_method_3_code 19 = .ok (.ireturn, 1) := by decide +kernel
set_option maxRecDepth 100000 in
theorem c_Wedged_tells {w i tm : Nat} {x : Int32} {l : Launch} {d n : Nat} {R W Z : Nat → Nat → Int32} {T : Nat → Nat → Nat} {kn : Kn} {h0 : HP} {Q : QT} (hT : TI T kn n) (hw : w < 3) (hi : i < 8) (hK : tN (W w) (50 + 7 * i + 0) ≤ 6) (hc : (tN (W w) (50 + 7 * i + 0)) = 4) (et : Z 51 1 = nI tm) (hb : tm + 15 ≤ 40) (hQ : Q (some (.int (tlv (tN (W w) (50 + 7 * i + 0)) (W w (50 + 7 * i + 1)) (nI i) 4 x))) n (co (uA R 52 (wrt (R 52) tm (tll (tN (W w) (50 + 7 * i + 0)) 4))) W (uZ Z 51 1 (nI (tm + (tll (tN (W w) (50 + 7 * i + 0)) 4).length))) T kn h0)) : Ct l M_Wedged_tells (d + 7) 0 0 [.ref (T w i), .int x, .ref 51] n (co R W Z T kn h0) Q := by
  refine Ct.of (fun _ => trivial) (by decide) (Nat.le_of_ble_eq_true rfl) ?_
  refine V.aload_n d_Wedged_tells_0 rfl ?_
  refine V.bipush_ (nI 50) d_Wedged_tells_1 (by decide +kernel) ?_
  refine V.callV1 d_Wedged_tells_3 k_Wedged_11_Row_add_RowV (co_s (sc_rw rfl)) (Nat.le_of_ble_eq_true rfl) (by omega) (by omega) (c_Row_add (a := 51) (N := 40) (sz := tm) rfl rfl et (by (have h1 := len_cr _ hK; have h2 := len_ln _ hK; have h3 := len_st _ hK _ hK; have h4 := len_st0 _ hK; have h5 := len_tl0 _ hK; (try simp only [List.length_append, List.length_cons, List.length_nil]); omega)) (by decide) (fun _ => ?_) (fun z => absurd z (by (have h1 := len_cr _ hK; have h2 := len_ln _ hK; have h3 := len_st _ hK _ hK; have h4 := len_st0 _ hK; have h5 := len_tl0 _ hK; (try simp only [List.length_append, List.length_cons, List.length_nil]); omega))))
  refine V.eqH (h' := co (uA R 52 (wrt (R 52) tm ([50]))) W (uZ Z 51 1 (nI (tm + ([50]).length))) T kn h0) (by first | rfl | (congr 1)) ?_
  refine V.aload_n d_Wedged_tells_6 rfl ?_
  refine V.iload_n d_Wedged_tells_7 rfl ?_
  refine V.aload_n d_Wedged_tells_8 rfl ?_
  refine V.callSG (vs := [_, _]) d_Wedged_tells_9 k_Wedged_17_Tree_tellsG (co_t hT hw hi) (kcls_ok _ hK) rfl rfl (Nat.le_of_ble_eq_true rfl) (by omega) (by omega) (c_Tree_tells hT hw hi hK (tm := (tm + ([50]).length)) uZ_s (by (have h1 := len_cr _ hK; have h2 := len_ln _ hK; have h3 := len_st _ hK _ hK; have h4 := len_st0 _ hK; have h5 := len_tl0 _ hK; (try simp only [List.length_append, List.length_cons, List.length_nil]); omega)) ?_)
  refine V.eqH (h' := co (uA R 52 (wrt (R 52) tm (([50] ++ tll (tN (W w) (50 + 7 * i + 0)) 0)))) W (uZ Z 51 1 (nI (tm + (([50] ++ tll (tN (W w) (50 + 7 * i + 0)) 0)).length))) T kn h0) (by rw [uA_s, uA_uu, ← wrt_cat, bd_cat]) ?_
  refine V.aload_n d_Wedged_tells_12 rfl ?_
  refine V.iconst_ (nI 2) d_Wedged_tells_13 (by decide +kernel) ?_
  refine V.aload_n d_Wedged_tells_14 rfl ?_
  refine vs_Wedged_21 d_Wedged_tells_15 rfl hT hw hi hK (by omega) (tm := (tm + (([50] ++ tll (tN (W w) (50 + 7 * i + 0)) 0)).length)) uZ_s (by (have h1 := len_cr _ hK; have h2 := len_ln _ hK; have h3 := len_st _ hK _ hK; have h4 := len_st0 _ hK; have h5 := len_tl0 _ hK; (try simp only [List.length_append, List.length_cons, List.length_nil]); omega)) (Nat.le_of_ble_eq_true rfl) (by omega) (by omega) ?_
  refine V.eqH (h' := co (uA R 52 (wrt (R 52) tm ((([50] ++ tll (tN (W w) (50 + 7 * i + 0)) 0) ++ crl (tN (W w) (50 + 7 * i + 0)))))) W (uZ Z 51 1 (nI (tm + ((([50] ++ tll (tN (W w) (50 + 7 * i + 0)) 0) ++ crl (tN (W w) (50 + 7 * i + 0)))).length))) T kn h0) (by rw [uA_s, uA_uu, ← wrt_cat, bd_cat]) ?_
  refine V.isub d_Wedged_tells_18 ?_
  refine V.iret d_Wedged_tells_19 rfl (Nat.le_of_ble_eq_true rfl) (Nat.le_of_ble_eq_true rfl) ?_
  exact hQ
abbrev M_Hill_tells : MD := (⟨"FelledByNames$Hill", "tells", "(ILFelledByNames$Row;)I"⟩, prog_3_method_5_code, 3, (some .int), fun _ => True)
theorem d_Hill_tells_0 : decode prog_3_method_5_code 0 = .ok (.aload_n 2, 1) := by decide +kernel
theorem d_Hill_tells_1 : decode prog_3_method_5_code 1 = .ok (.bipush 71, 2) := by decide +kernel
theorem d_Hill_tells_3 : decode prog_3_method_5_code 3 = .ok (.invokevirtual 20, 3) := by decide +kernel
theorem d_Hill_tells_6 : decode prog_3_method_5_code 6 = .ok (.aload_n 0, 1) := by decide +kernel
theorem d_Hill_tells_7 : decode prog_3_method_5_code 7 = .ok (.iload_n 1, 1) := by decide +kernel
theorem d_Hill_tells_8 : decode prog_3_method_5_code 8 = .ok (.aload_n 2, 1) := by decide +kernel
theorem d_Hill_tells_9 : decode prog_3_method_5_code 9 = .ok (.invokevirtual 33, 3) := by decide +kernel
theorem k_Hill_33_Tree_stands_HillU : kU "FelledByNames$Hill" 33 12 "FelledByNames$Tree" ⟨"FelledByNames$Hill", "stands", "(ILFelledByNames$Row;)I"⟩ M_Tree_stands 2 := ⟨kB_Tree_stands, tm 950 (by decide +kernel) rfl, tm 951 (by decide +kernel) rfl, ⟨by decide, by decide⟩, tm 907 (by decide +kernel) rfl, ⟨prog_10_method_7_code, 3, (some .int), tm 931 (by decide +kernel) rfl⟩, by decide +kernel, tm 907 (by decide +kernel) rfl, _, rfl, tm 953 (by decide +kernel) rfl⟩
theorem vs_Hill_33 {l : Launch} {M : MD} {d mc ms pc : Nat} {ls : List (Nat × Value)} {st : List Value} {n c s w i : Nat} {R W Z : Nat → Nat → Int32} {T : Nat → Nat → Nat} {kn : Kn} {h0 : HP} {Q : QT} {x : Int32} {tm : Nat} (hd : decode M.2.1 pc = .ok (.invokevirtual 33, 3)) (hM0 : M.1.cls = "FelledByNames$Hill") (hT : TI T kn n) (hw : w < 3) (hi : i < 8) (hK : tN (W w) (50 + 7 * i + 0) ≤ 6) (hc : (tN (W w) (50 + 7 * i + 0)) = 6) (et : Z 51 1 = nI tm) (hb : tm + 8 ≤ 40) (hs8 : (st.map fun v => v.category).sum ≤ 8) (hc0 : c ≤ mc) (hs0 : s ≤ ms) (kk : V l M (d + 6) mc ms (pc + 3) ls (.int (stv (tN (W w) (50 + 7 * i + 0)) (W w (50 + 7 * i + 1)) (nI i) (tN (W w) (50 + 7 * i + 0)) x) :: st) n (co (uA R 52 (wrt (R 52) tm (stl (tN (W w) (50 + 7 * i + 0)) (tN (W w) (50 + 7 * i + 0))))) W (uZ Z 51 1 (nI (tm + (stl (tN (W w) (50 + 7 * i + 0)) (tN (W w) (50 + 7 * i + 0))).length))) T kn h0) c s Q) : V l M (d + 6) mc ms pc ls (.ref 51 :: .int x :: .ref (T w i) :: st) n (co R W Z T kn h0) c s Q := by
  have hb0 := co_t (R := R) (W := W) (Z := Z) (h0 := h0) hT hw hi
  unfold trc at hb0
  have hK0 := hK
  generalize hk : (tN (W w) (50 + 7 * i + 0)) = k at hK hb0 kk hc
  rcases (show k = 6 by omega) with rfl
  · refine V.callU (M := M) (vs := [.int x, .ref 51]) (by exact hd) (by rw [hM0]; exact k_Hill_33_Tree_stands_HillU) hb0 rfl rfl hs8 (by omega) (by omega) (c_Tree_stands (d := d + 2) hT hw hi hK0 et (by omega) ?_)
    first | exact kk | (rw [hk]; exact kk)
theorem d_Hill_tells_12 : decode prog_3_method_5_code 12 = .ok (.aload_n 0, 1) := by decide +kernel
theorem d_Hill_tells_13 : decode prog_3_method_5_code 13 = .ok (.iload_n 1, 1) := by decide +kernel
theorem d_Hill_tells_14 : decode prog_3_method_5_code 14 = .ok (.aload_n 2, 1) := by decide +kernel
theorem d_Hill_tells_15 : decode prog_3_method_5_code 15 = .ok (.invokespecial 36, 3) := by decide +kernel
theorem k_Hill_36_Tree_tellsG : kSG "FelledByNames$Hill" 36 ⟨"FelledByNames$Sapling", "tells", "(ILFelledByNames$Row;)I"⟩ M_Tree_tells 2 := ⟨kB_Tree_tells, tm 954 (by decide +kernel) rfl, tm 955 (by decide +kernel) rfl, tm 601 (by decide +kernel) rfl, tm 556 (by decide +kernel) rfl, tm 943 (by decide +kernel) rfl, by decide, rfl, rfl⟩
theorem d_Hill_tells_18 : decode prog_3_method_5_code 18 = .ok (.isub, 1) := by decide +kernel
theorem d_Hill_tells_19 : decode prog_3_method_5_code 19 = .ok (.ireturn, 1) := by decide +kernel
set_option maxRecDepth 100000 in
theorem c_Hill_tells {w i tm : Nat} {x : Int32} {l : Launch} {d n : Nat} {R W Z : Nat → Nat → Int32} {T : Nat → Nat → Nat} {kn : Kn} {h0 : HP} {Q : QT} (hT : TI T kn n) (hw : w < 3) (hi : i < 8) (hK : tN (W w) (50 + 7 * i + 0) ≤ 6) (hc : (tN (W w) (50 + 7 * i + 0)) = 6) (et : Z 51 1 = nI tm) (hb : tm + 21 ≤ 40) (hQ : Q (some (.int (tlv (tN (W w) (50 + 7 * i + 0)) (W w (50 + 7 * i + 1)) (nI i) 6 x))) n (co (uA R 52 (wrt (R 52) tm (tll (tN (W w) (50 + 7 * i + 0)) 6))) W (uZ Z 51 1 (nI (tm + (tll (tN (W w) (50 + 7 * i + 0)) 6).length))) T kn h0)) : Ct l M_Hill_tells (d + 7) 0 0 [.ref (T w i), .int x, .ref 51] n (co R W Z T kn h0) Q := by
  refine Ct.of (fun _ => trivial) (by decide) (Nat.le_of_ble_eq_true rfl) ?_
  refine V.aload_n d_Hill_tells_0 rfl ?_
  refine V.bipush_ (nI 71) d_Hill_tells_1 (by decide +kernel) ?_
  refine V.callV1 d_Hill_tells_3 k_Hill_20_Row_add_RowV (co_s (sc_rw rfl)) (Nat.le_of_ble_eq_true rfl) (by omega) (by omega) (c_Row_add (a := 51) (N := 40) (sz := tm) rfl rfl et (by (have h1 := len_cr _ hK; have h2 := len_ln _ hK; have h3 := len_st _ hK _ hK; have h4 := len_st0 _ hK; have h5 := len_tl0 _ hK; (try simp only [List.length_append, List.length_cons, List.length_nil]); omega)) (by decide) (fun _ => ?_) (fun z => absurd z (by (have h1 := len_cr _ hK; have h2 := len_ln _ hK; have h3 := len_st _ hK _ hK; have h4 := len_st0 _ hK; have h5 := len_tl0 _ hK; (try simp only [List.length_append, List.length_cons, List.length_nil]); omega))))
  refine V.eqH (h' := co (uA R 52 (wrt (R 52) tm ([71]))) W (uZ Z 51 1 (nI (tm + ([71]).length))) T kn h0) (by first | rfl | (congr 1)) ?_
  refine V.aload_n d_Hill_tells_6 rfl ?_
  refine V.iload_n d_Hill_tells_7 rfl ?_
  refine V.aload_n d_Hill_tells_8 rfl ?_
  refine vs_Hill_33 d_Hill_tells_9 rfl hT hw hi hK (by omega) (tm := (tm + ([71]).length)) uZ_s (by (have h1 := len_cr _ hK; have h2 := len_ln _ hK; have h3 := len_st _ hK _ hK; have h4 := len_st0 _ hK; have h5 := len_tl0 _ hK; (try simp only [List.length_append, List.length_cons, List.length_nil]); omega)) (Nat.le_of_ble_eq_true rfl) (by omega) (by omega) ?_
  refine V.eqH (h' := co (uA R 52 (wrt (R 52) tm (([71] ++ stl (tN (W w) (50 + 7 * i + 0)) (tN (W w) (50 + 7 * i + 0)))))) W (uZ Z 51 1 (nI (tm + (([71] ++ stl (tN (W w) (50 + 7 * i + 0)) (tN (W w) (50 + 7 * i + 0)))).length))) T kn h0) (by rw [uA_s, uA_uu, ← wrt_cat, bd_cat]) ?_
  refine V.aload_n d_Hill_tells_12 rfl ?_
  refine V.iload_n d_Hill_tells_13 rfl ?_
  refine V.aload_n d_Hill_tells_14 rfl ?_
  refine V.callSG (vs := [_, _]) d_Hill_tells_15 k_Hill_36_Tree_tellsG (co_t hT hw hi) (kcls_ok _ hK) rfl rfl (Nat.le_of_ble_eq_true rfl) (by omega) (by omega) (c_Tree_tells hT hw hi hK (tm := (tm + (([71] ++ stl (tN (W w) (50 + 7 * i + 0)) (tN (W w) (50 + 7 * i + 0)))).length)) uZ_s (by (have h1 := len_cr _ hK; have h2 := len_ln _ hK; have h3 := len_st _ hK _ hK; have h4 := len_st0 _ hK; have h5 := len_tl0 _ hK; (try simp only [List.length_append, List.length_cons, List.length_nil]); omega)) ?_)
  refine V.eqH (h' := co (uA R 52 (wrt (R 52) tm ((([71] ++ stl (tN (W w) (50 + 7 * i + 0)) (tN (W w) (50 + 7 * i + 0))) ++ tll (tN (W w) (50 + 7 * i + 0)) 0)))) W (uZ Z 51 1 (nI (tm + ((([71] ++ stl (tN (W w) (50 + 7 * i + 0)) (tN (W w) (50 + 7 * i + 0))) ++ tll (tN (W w) (50 + 7 * i + 0)) 0)).length))) T kn h0) (by rw [uA_s, uA_uu, ← wrt_cat, bd_cat]) ?_
  refine V.isub d_Hill_tells_18 ?_
  refine V.iret d_Hill_tells_19 rfl (Nat.le_of_ble_eq_true rfl) (Nat.le_of_ble_eq_true rfl) ?_
  exact hQ
