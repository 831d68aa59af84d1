def drz (z : Int32) : Int32 := z * nI 1103515245 + nI 12345
def drv (z : Int32) : Int32 := (drz z).toUInt32 >>> ((nI 8).toUInt32 &&& Int32.toUInt32 31) |>.toInt32
theorem drv_nat (z : Int32) : ∃ m, m < 2 ^ 24 ∧ drv z = nI m := by
  have h1 := pk_ushr (drz z) (nI 8) 8 (by decide +kernel)
  have h2 : (drz z).toBitVec.toNat < 2 ^ 32 := (drz z).toBitVec.isLt
  refine ⟨(drz z).toBitVec.toNat / 2 ^ 8, by omega, ?_⟩
  apply Int32.toBitVec_inj.mp
  apply BitVec.eq_of_toNat_eq
  rw [pk_tn (by omega)]
  exact h1
def drD (D : Nat → Int32) : Nat → Int32 := upd (upd D 5 (drz (D 5))) (44 + (drv (D 5)).toNatClampNeg % 6) (nI ((drv (D 5)).toNatClampNeg / 8 % 10))
def lsD (cv wv : Int32 → Int32 → Int32 → Int32) (N n : Nat) (D : Nat → Int32) : XX := itr (fun _ X => ((dayD cv wv N (drD X.1)).1, X.2 ++ (dayD cv wv N (drD X.1)).2)) n (D, [])
theorem drD_x {D : Nat → Int32} {j : Nat} (hj : j ≠ 5) (hk : j < 44 ∨ 50 ≤ j) : drD D j = D j := by
  unfold drD
  rw [pk_un (by have := Nat.mod_lt (drv (D 5)).toNatClampNeg (show 0 < 6 by decide); omega), pk_un hj]
theorem lsD_s {cv wv : Int32 → Int32 → Int32 → Int32} {N k : Nat} {D : Nat → Int32} : lsD cv wv N (k + 1) D = ((dayD cv wv N (drD (lsD cv wv N k D).1)).1, (lsD cv wv N k D).2 ++ (dayD cv wv N (drD (lsD cv wv N k D).1)).2) := rfl
theorem DW.loose {cv wv : Int32 → Int32 → Int32 → Int32} {D : Nat → Int32} {N len0 len1 : Nat} {W0 W1 : Nat → Nat} (hN : N ≤ 8) (h : DW D N W0 len0 W1 len1) : ∀ k, DW (lsD cv wv N k D).1 N W0 len0 W1 len1 := by
  intro k
  induction k with
  | zero => exact h
  | succ k ih => exact (ih.up hN (fun j hj => drD_x (by omega) (by omega))).day hN
theorem lsD_len {cv wv : Int32 → Int32 → Int32 → Int32} {N : Nat} (hN : N ≤ 8) {D : Nat → Int32} : ∀ k, (lsD cv wv N k D).2.length ≤ 8 * k := by
  intro k
  induction k with
  | zero => exact Nat.le_refl _
  | succ k ih =>
    rw [lsD_s, List.length_append]
    have := dayD_len (cv := cv) (wv := wv) hN (D := drD (lsD cv wv N k D).1)
    omega
abbrev M_Mo_drawn : MD := (⟨"FelledByNamesModel", "drawn", "()I"⟩, prog_14_method_54_code, 1, (some .int), fun _ => True)
theorem d_Mo_drawn_0 : decode prog_14_method_54_code 0 = .ok (.aload_n 0, 1) := by decide +kernel
theorem d_Mo_drawn_1 : decode prog_14_method_54_code 1 = .ok (.getfield 7, 3) := by decide +kernel
theorem d_Mo_drawn_4 : decode prog_14_method_54_code 4 = .ok (.iconst 5, 1) := by decide +kernel
theorem d_Mo_drawn_5 : decode prog_14_method_54_code 5 = .ok (.aload_n 0, 1) := by decide +kernel
theorem d_Mo_drawn_6 : decode prog_14_method_54_code 6 = .ok (.getfield 7, 3) := by decide +kernel
theorem d_Mo_drawn_9 : decode prog_14_method_54_code 9 = .ok (.iconst 5, 1) := by decide +kernel
theorem d_Mo_drawn_10 : decode prog_14_method_54_code 10 = .ok (.iaload, 1) := by decide +kernel
theorem d_Mo_drawn_11 : decode prog_14_method_54_code 11 = .ok (.ldc 222, 2) := by decide +kernel
theorem d_Mo_drawn_13 : decode prog_14_method_54_code 13 = .ok (.imul, 1) := by decide +kernel
theorem d_Mo_drawn_14 : decode prog_14_method_54_code 14 = .ok (.sipush 12345, 3) := by decide +kernel
theorem d_Mo_drawn_17 : decode prog_14_method_54_code 17 = .ok (.iadd, 1) := by decide +kernel
theorem d_Mo_drawn_18 : decode prog_14_method_54_code 18 = .ok (.iastore, 1) := by decide +kernel
theorem d_Mo_drawn_19 : decode prog_14_method_54_code 19 = .ok (.aload_n 0, 1) := by decide +kernel
theorem d_Mo_drawn_20 : decode prog_14_method_54_code 20 = .ok (.getfield 7, 3) := by decide +kernel
theorem d_Mo_drawn_23 : decode prog_14_method_54_code 23 = .ok (.iconst 5, 1) := by decide +kernel
theorem d_Mo_drawn_24 : decode prog_14_method_54_code 24 = .ok (.iaload, 1) := by decide +kernel
theorem d_Mo_drawn_25 : decode prog_14_method_54_code 25 = .ok (.bipush 8, 2) := by decide +kernel
theorem d_Mo_drawn_27 : decode prog_14_method_54_code 27 = .ok (.iushr, 1) := by decide +kernel
theorem d_Mo_drawn_28 : decode prog_14_method_54_code 28 = .ok (.ireturn, 1) := by decide +kernel
set_option maxRecDepth 100000 in
theorem c_Mo_drawn  {l : Launch} {d q n : Nat} {D : Nat → Int32} {A : Nat → Nat → Int32} {S : Nat → Int32} {h0 : HP} {Q : QT} (hQ : Q (some (.int (drv (D 5)))) n (mo q (upd D 5 (drz (D 5))) A S h0)) : Ct l M_Mo_drawn d 0 0 [.ref q] n (mo q D A S h0) Q := by
  refine Ct.of (fun _ => trivial) (by decide) (Nat.le_of_ble_eq_true rfl) ?_
  refine V.aload_n d_Mo_drawn_0 rfl ?_
  refine V.get d_Mo_drawn_1 f_Mo_7_Mo mo_o rfl ?_
  refine V.iconst_ (nI 5) d_Mo_drawn_4 (by decide +kernel) ?_
  refine V.aload_n d_Mo_drawn_5 rfl ?_
  refine V.get d_Mo_drawn_6 f_Mo_7_Mo mo_o rfl ?_
  refine V.iconst_ (nI 5) d_Mo_drawn_9 (by decide +kernel) ?_
  refine V.mldd d_Mo_drawn_10 (by omega) ?_
  refine V.ldc (v := 1103515245) d_Mo_drawn_11 (tm 1346 (by decide +kernel) rfl) ?_
  refine V.top (y := nI 1103515245) rfl ?_
  refine V.imul d_Mo_drawn_13 ?_
  refine V.sipush_ (nI 12345) d_Mo_drawn_14 (by decide +kernel) ?_
  refine V.iadd d_Mo_drawn_17 ?_
  refine V.mstd d_Mo_drawn_18 (by omega) ?_
  refine V.aload_n d_Mo_drawn_19 rfl ?_
  refine V.get d_Mo_drawn_20 f_Mo_7_Mo mo_o rfl ?_
  refine V.iconst_ (nI 5) d_Mo_drawn_23 (by decide +kernel) ?_
  refine V.mldd d_Mo_drawn_24 (by omega) ?_
  rw [pk_us]
  refine V.bipush_ (nI 8) d_Mo_drawn_25 (by decide +kernel) ?_
  refine V.iushr d_Mo_drawn_27 ?_
  refine V.iret d_Mo_drawn_28 rfl (Nat.le_of_ble_eq_true rfl) (Nat.le_of_ble_eq_true rfl) ?_
  exact hQ
abbrev M_Mo_loose : MD := (⟨"FelledByNamesModel", "loose", "(I)I"⟩, prog_14_method_55_code, 4, (some .int), fun _ => True)
theorem d_Mo_loose_0 : decode prog_14_method_55_code 0 = .ok (.iload_n 1, 1) := by decide +kernel
theorem d_Mo_loose_1 : decode prog_14_method_55_code 1 = .ok (.i2l, 1) := by decide +kernel
theorem d_Mo_loose_2 : decode prog_14_method_55_code 2 = .ok (.lconst 1, 1) := by decide +kernel
theorem d_Mo_loose_3 : decode prog_14_method_55_code 3 = .ok (.ldc2_w 223, 3) := by decide +kernel
theorem d_Mo_loose_6 : decode prog_14_method_55_code 6 = .ok (.invokestatic 56, 3) := by decide +kernel
theorem d_Mo_loose_9 : decode prog_14_method_55_code 9 = .ok (.ifCond .ne 9, 3) := by decide +kernel
theorem d_Mo_loose_18 : decode prog_14_method_55_code 18 = .ok (.aload_n 0, 1) := by decide +kernel
theorem d_Mo_loose_19 : decode prog_14_method_55_code 19 = .ok (.getfield 7, 3) := by decide +kernel
theorem d_Mo_loose_22 : decode prog_14_method_55_code 22 = .ok (.iconst 1, 1) := by decide +kernel
theorem d_Mo_loose_23 : decode prog_14_method_55_code 23 = .ok (.iaload, 1) := by decide +kernel
theorem d_Mo_loose_24 : decode prog_14_method_55_code 24 = .ok (.iload_n 1, 1) := by decide +kernel
theorem d_Mo_loose_25 : decode prog_14_method_55_code 25 = .ok (.iadd, 1) := by decide +kernel
theorem d_Mo_loose_26 : decode prog_14_method_55_code 26 = .ok (.sipush 9999, 3) := by decide +kernel
theorem d_Mo_loose_29 : decode prog_14_method_55_code 29 = .ok (.if_icmp .le 9, 3) := by decide +kernel
theorem d_Mo_loose_38 : decode prog_14_method_55_code 38 = .ok (.aload_n 0, 1) := by decide +kernel
theorem d_Mo_loose_39 : decode prog_14_method_55_code 39 = .ok (.iconst 0, 1) := by decide +kernel
theorem d_Mo_loose_40 : decode prog_14_method_55_code 40 = .ok (.putfield 168, 3) := by decide +kernel
theorem d_Mo_loose_43 : decode prog_14_method_55_code 43 = .ok (.iconst 0, 1) := by decide +kernel
theorem d_Mo_loose_44 : decode prog_14_method_55_code 44 = .ok (.istore_n 2, 1) := by decide +kernel
theorem d_Mo_loose_45 : decode prog_14_method_55_code 45 = .ok (.iload_n 2, 1) := by decide +kernel
theorem d_Mo_loose_46 : decode prog_14_method_55_code 46 = .ok (.iload_n 1, 1) := by decide +kernel
theorem d_Mo_loose_47 : decode prog_14_method_55_code 47 = .ok (.if_icmp .ge 37, 3) := by decide +kernel
theorem d_Mo_loose_84 : decode prog_14_method_55_code 84 = .ok (.aload_n 0, 1) := by decide +kernel
theorem d_Mo_loose_85 : decode prog_14_method_55_code 85 = .ok (.getfield 168, 3) := by decide +kernel
theorem d_Mo_loose_88 : decode prog_14_method_55_code 88 = .ok (.ireturn, 1) := by decide +kernel
theorem d_Mo_loose_50 : decode prog_14_method_55_code 50 = .ok (.aload_n 0, 1) := by decide +kernel
theorem d_Mo_loose_51 : decode prog_14_method_55_code 51 = .ok (.invokevirtual 225, 3) := by decide +kernel
theorem kB_Mo_drawn : kB M_Mo_drawn 0 := ⟨tm 15 (by decide +kernel) rfl, tm 1345 (by decide +kernel) rfl, ⟨by decide, by decide, by decide +kernel⟩, by decide⟩
theorem k_Mo_225_Mo_drawn_MoV : kV "FelledByNamesModel" 225 5 M_Mo_drawn 0 := ⟨kB_Mo_drawn, tm 1342 (by decide +kernel) rfl, tm 1344 (by decide +kernel) rfl, tp 40 (by decide +kernel) rfl, _, rfl, rfl⟩
theorem d_Mo_loose_54 : decode prog_14_method_55_code 54 = .ok (.istore_n 3, 1) := by decide +kernel
theorem d_Mo_loose_55 : decode prog_14_method_55_code 55 = .ok (.aload_n 0, 1) := by decide +kernel
theorem d_Mo_loose_56 : decode prog_14_method_55_code 56 = .ok (.getfield 7, 3) := by decide +kernel
theorem d_Mo_loose_59 : decode prog_14_method_55_code 59 = .ok (.bipush 44, 2) := by decide +kernel
theorem d_Mo_loose_61 : decode prog_14_method_55_code 61 = .ok (.iload_n 3, 1) := by decide +kernel
theorem d_Mo_loose_62 : decode prog_14_method_55_code 62 = .ok (.bipush 6, 2) := by decide +kernel
theorem d_Mo_loose_64 : decode prog_14_method_55_code 64 = .ok (.irem, 1) := by decide +kernel
theorem d_Mo_loose_65 : decode prog_14_method_55_code 65 = .ok (.iadd, 1) := by decide +kernel
theorem d_Mo_loose_66 : decode prog_14_method_55_code 66 = .ok (.iload_n 3, 1) := by decide +kernel
theorem d_Mo_loose_67 : decode prog_14_method_55_code 67 = .ok (.bipush 8, 2) := by decide +kernel
theorem d_Mo_loose_69 : decode prog_14_method_55_code 69 = .ok (.idiv, 1) := by decide +kernel
theorem d_Mo_loose_70 : decode prog_14_method_55_code 70 = .ok (.bipush 10, 2) := by decide +kernel
theorem d_Mo_loose_72 : decode prog_14_method_55_code 72 = .ok (.irem, 1) := by decide +kernel
theorem d_Mo_loose_73 : decode prog_14_method_55_code 73 = .ok (.iastore, 1) := by decide +kernel
theorem d_Mo_loose_74 : decode prog_14_method_55_code 74 = .ok (.aload_n 0, 1) := by decide +kernel
theorem d_Mo_loose_75 : decode prog_14_method_55_code 75 = .ok (.invokevirtual 186, 3) := by decide +kernel
theorem d_Mo_loose_78 : decode prog_14_method_55_code 78 = .ok (.iinc 2 1, 3) := by decide +kernel
theorem d_Mo_loose_81 : decode prog_14_method_55_code 81 = .ok (.goto (-36), 3) := by decide +kernel
theorem d_Mo_loose_32 : decode prog_14_method_55_code 32 = .ok (.aload_n 0, 1) := by decide +kernel
theorem d_Mo_loose_33 : decode prog_14_method_55_code 33 = .ok (.iconst 3, 1) := by decide +kernel
theorem d_Mo_loose_34 : decode prog_14_method_55_code 34 = .ok (.invokevirtual 138, 3) := by decide +kernel
theorem d_Mo_loose_37 : decode prog_14_method_55_code 37 = .ok (.ireturn, 1) := by decide +kernel
theorem d_Mo_loose_12 : decode prog_14_method_55_code 12 = .ok (.aload_n 0, 1) := by decide +kernel
theorem d_Mo_loose_13 : decode prog_14_method_55_code 13 = .ok (.iconst 1, 1) := by decide +kernel
theorem d_Mo_loose_14 : decode prog_14_method_55_code 14 = .ok (.invokevirtual 138, 3) := by decide +kernel
theorem d_Mo_loose_17 : decode prog_14_method_55_code 17 = .ok (.ireturn, 1) := by decide +kernel
set_option maxRecDepth 100000 in
theorem c_Mo_loose {dy : Nat} {x : Int32} {N fm len0 len1 : Nat} {W0 W1 : Nat → Nat} {l : Launch} {d q n : Nat} {D : Nat → Int32} {A : Nat → Nat → Int32} {S : Nat → Int32} {h0 : HP} {Q : QT} (hN : N ≤ 8) (hD : DW D N W0 len0 W1 len1) (hf : fm < 2 ^ 25) (ef : S 18 = nI fm) (hdy : dy ≤ 9999) (ed : D 1 = nI dy) (hE : wi x (nI 1) (nI 40) = false → Q (some (.int (-1000000000 - nI 1))) n (mo q D (uA A 3 (upd (A 3) 1 (A 3 1 + nI 1))) S h0)) (hS : ∀ k, 1 ≤ k → k ≤ 40 → x = nI k → 9999 < dy + k → Q (some (.int (-1000000000 - nI 3))) n (mo q D (uA A 3 (upd (A 3) 3 (A 3 3 + nI 1))) S h0)) (hOk : ∀ k, 1 ≤ k → k ≤ 40 → x = nI k → dy + k ≤ 9999 → ∀ (A1 : Nat → Nat → Int32), (∀ j, j ≠ 4 → j ≠ 6 → j ≠ 7 → j ≠ 8 → j ≠ 9 → A1 j = A j) → Q (some (.int (nI (lsD (tgv 0 W0 len0) (tgv 1 W1 len1) N k D).2.length))) n (mo q (lsD (tgv 0 W0 len0) (tgv 1 W1 len1) N k D).1 A1 (uS S 18 (nI (lsD (tgv 0 W0 len0) (tgv 1 W1 len1) N k D).2.length)) h0)) : Ct l M_Mo_loose (d + 6) 0 0 [.ref q, .int x] n (mo q D A S h0) Q := by
  refine Ct.of (fun _ => trivial) (by decide) (Nat.le_of_ble_eq_true rfl) ?_
  refine V.iload_n d_Mo_loose_0 rfl ?_
  refine V.i2l d_Mo_loose_1 ?_
  refine V.lconst_ ((nI 1).toInt64) d_Mo_loose_2 (by decide +kernel) ?_
  refine V.ldc2 (v := 40) d_Mo_loose_3 (tm 1341 (by decide +kernel) rfl) ?_
  refine V.eqS (st' := .long ((nI 40).toInt64) :: _) rfl ?_
  refine V.callS3 d_Mo_loose_6 k_Mo_56_Mo_inS (Nat.le_of_ble_eq_true rfl) (by omega) (by omega) (c_Mo_in ?_)
  refine V.ifneB (tgt := 18) d_Mo_loose_9 (by decide) (fun c_9 => ?_) (fun c_9 => ?_)
  · skip
    obtain ⟨k, h1k, hk, rfl⟩ := wi_nat1 (by decide) c_9
    refine V.aload_n d_Mo_loose_18 rfl ?_
    refine V.get d_Mo_loose_19 f_Mo_7_Mo mo_o rfl ?_
    refine V.iconst_ (nI 1) d_Mo_loose_22 (by decide +kernel) ?_
    refine V.mldd d_Mo_loose_23 (by omega) ?_
    refine V.top ed ?_
    refine V.iload_n d_Mo_loose_24 rfl ?_
    refine V.addN d_Mo_loose_25 ?_
    refine V.sipush_ (nI 9999) d_Mo_loose_26 (by decide +kernel) ?_
    refine V.leN (tgt := 38) d_Mo_loose_29 (by decide) (by omega) (by omega) (fun c_29 => ?_) (fun c_29 => ?_)
    · skip
      refine V.aload_n d_Mo_loose_38 rfl ?_
      refine V.iconst_ (nI 0) d_Mo_loose_39 (by decide +kernel) ?_
      refine V.mput d_Mo_loose_40 f_Mo_168_Mo fp_Mo_18 rfl (by decide) ?_
      refine V.iconst_ (nI 0) d_Mo_loose_43 (by decide +kernel) ?_
      refine V.istore_n d_Mo_loose_44 (by decide) ?_
      refine V.eqH (h' := mo q (lsD (tgv 0 W0 len0) (tgv 1 W1 len1) N 0 D).1 A (uS S 18 (nI (lsD (tgv 0 W0 len0) (tgv 1 W1 len1) N 0 D).2.length)) h0) rfl ?_
      refine V.lc (ls' := [(0, .ref q), (1, .int (nI k)), (2, .int (nI 0))]) rfl ?_
      refine up_to (G := fun m => ∀ A1 : Nat → Nat → Int32, (∀ j, j ≠ 4 → j ≠ 6 → j ≠ 7 → j ≠ 8 → j ≠ 9 → A1 j = A j) → V l M_Mo_loose (d + 6) 0 0 45 [(0, .ref q), (1, .int (nI k)), (2, .int (nI m))] [] n (mo q (lsD (tgv 0 W0 len0) (tgv 1 W1 len1) N m D).1 A1 (uS S 18 (nI (lsD (tgv 0 W0 len0) (tgv 1 W1 len1) N m D).2.length)) h0) 0 0 Q) (k) ?_ (fun m hm hn => ?_) 0 (by omega) A (fun _ _ _ _ _ _ => rfl)
      · skip
        intro A1 hA1
        refine V.iload_n d_Mo_loose_45 rfl ?_
        refine V.iload_n d_Mo_loose_46 rfl ?_
        refine V.geN (tgt := 84) d_Mo_loose_47 (by decide) (by omega) (by omega) (fun c_47 => ?_) (fun c_47 => ?_)
        · skip
          refine V.aload_n d_Mo_loose_84 rfl ?_
          refine V.get d_Mo_loose_85 f_Mo_168_Mo mo_o rfl ?_
          rw [uS_s]
          refine V.iret d_Mo_loose_88 rfl (Nat.le_of_ble_eq_true rfl) (Nat.le_of_ble_eq_true rfl) ?_
          exact hOk k h1k hk rfl (by omega) A1 hA1
        · skip
          exact absurd c_47 (by omega)
      · skip
        intro A1 hA1
        have hX := (hD.loose (cv := tgv 0 W0 len0) (wv := tgv 1 W1 len1) hN m).up hN (fun j hj => drD_x (D := (lsD (tgv 0 W0 len0) (tgv 1 W1 len1) N m D).1) (by omega) (by omega))
        have hlen := lsD_len (cv := tgv 0 W0 len0) (wv := tgv 1 W1 len1) hN (D := D) m
        rw [lsD_s] at hn
        obtain ⟨v, hv, ev⟩ := drv_nat ((lsD (tgv 0 W0 len0) (tgv 1 W1 len1) N m D).1 5)
        refine V.iload_n d_Mo_loose_45 rfl ?_
        refine V.iload_n d_Mo_loose_46 rfl ?_
        refine V.geN (tgt := 84) d_Mo_loose_47 (by decide) (by omega) (by omega) (fun c_47 => ?_) (fun c_47 => ?_)
        · skip
          exact absurd c_47 (by omega)
        · skip
          refine V.aload_n d_Mo_loose_50 rfl ?_
          refine V.callV0 d_Mo_loose_51 k_Mo_225_Mo_drawn_MoV mo_o (Nat.le_of_ble_eq_true rfl) (by omega) (by omega) (c_Mo_drawn ?_)
          refine V.top ev ?_
          refine V.istore_n d_Mo_loose_54 (by decide) ?_
          refine V.aload_n d_Mo_loose_55 rfl ?_
          refine V.get d_Mo_loose_56 f_Mo_7_Mo mo_o rfl ?_
          refine V.bipush_ (nI 44) d_Mo_loose_59 (by decide +kernel) ?_
          refine V.iload_n d_Mo_loose_61 rfl ?_
          refine V.bipush_ (nI 6) d_Mo_loose_62 (by decide +kernel) ?_
          refine V.remN d_Mo_loose_64 (by omega) (by omega) (by omega) ?_
          refine V.addN d_Mo_loose_65 ?_
          refine V.iload_n d_Mo_loose_66 rfl ?_
          refine V.bipush_ (nI 8) d_Mo_loose_67 (by decide +kernel) ?_
          refine V.divN d_Mo_loose_69 (by omega) (by omega) (by omega) ?_
          refine V.bipush_ (nI 10) d_Mo_loose_70 (by decide +kernel) ?_
          refine V.remN d_Mo_loose_72 (by omega) (by omega) (by omega) ?_
          refine V.mstd d_Mo_loose_73 (by omega) ?_
          refine V.eqH (h' := mo q (drD (lsD (tgv 0 W0 len0) (tgv 1 W1 len1) N m D).1) A1 (uS S 18 (nI (lsD (tgv 0 W0 len0) (tgv 1 W1 len1) N m D).2.length)) h0) (by unfold drD; rw [ev, nI_clamp (by omega)]) ?_
          refine V.aload_n d_Mo_loose_74 rfl ?_
          refine V.callV0 d_Mo_loose_75 k_Mo_186_Mo_dayGoes_MoV mo_o (Nat.le_of_ble_eq_true rfl) (by omega) (by omega) (c_Mo_dayGoes hN hX.1 hX.2.1 hX.2.2.1 hX.2.2.2.1 (by omega) uS_s (fun A2 hA2 hA92 => ?_))
          refine V.incN d_Mo_loose_78 rfl (by decide) ?_
          refine V.goto (tgt := 45) d_Mo_loose_81 (by decide) ?_
          rw [uS_uu]
          refine V.lc (ls' := [(0, .ref q), (1, .int (nI k)), (2, .int (nI (m + 1)))]) rfl ?_
          refine V.eqH ?_ (hn A2 (fun j h1 h2 h3 h4 h5 => (hA2 j h1 h2 h3 h4 h5).trans (hA1 j h1 h2 h3 h4 h5)))
          rw [List.length_append]
    · skip
      refine V.aload_n d_Mo_loose_32 rfl ?_
      refine V.iconst_ (nI 3) d_Mo_loose_33 (by decide +kernel) ?_
      refine V.callV1 d_Mo_loose_34 k_Mo_138_Mo_finds_MoV mo_o (Nat.le_of_ble_eq_true rfl) (by omega) (by omega) (c_Mo_finds (by omega) ?_)
      refine V.iret d_Mo_loose_37 rfl (Nat.le_of_ble_eq_true rfl) (Nat.le_of_ble_eq_true rfl) ?_
      exact hS k h1k hk rfl (by omega)
  · skip
    refine V.aload_n d_Mo_loose_12 rfl ?_
    refine V.iconst_ (nI 1) d_Mo_loose_13 (by decide +kernel) ?_
    refine V.callV1 d_Mo_loose_14 k_Mo_138_Mo_finds_MoV mo_o (Nat.le_of_ble_eq_true rfl) (by omega) (by omega) (c_Mo_finds (by omega) ?_)
    refine V.iret d_Mo_loose_17 rfl (Nat.le_of_ble_eq_true rfl) (Nat.le_of_ble_eq_true rfl) ?_
    exact hE c_9
