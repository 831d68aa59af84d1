def vcv (a k0 : Nat) (m w x : Int32) : Int32 := if a = 0 then crv k0 w x else if a = 1 then stv k0 m w k0 x else if a = 2 then lnv k0 m w x else tlv k0 m w k0 x
def vcl (a k0 : Nat) : List Nat := if a = 0 then crl k0 else if a = 1 then stl k0 k0 else if a = 2 then lnl k0 else tll k0 k0
def hrn (y w z : Int32) : Bool := decide (0 ≤ y) && decide (0 ≤ w) && decide (w ≤ z - y)
theorem hrn_nat {y w : Int32} {z : Nat} (hz : z ≤ 40) (h : hrn y w (nI z) = true) : ∃ a k, a + k ≤ z ∧ y = nI a ∧ w = nI k := by
  unfold hrn at h
  simp only [Bool.and_eq_true, decide_eq_true_eq] at h
  obtain ⟨⟨h1, h2⟩, h3⟩ := h
  have e0 : (nI z).toInt = (z : Int) := nI_toInt (by omega)
  have y0 : 0 ≤ y.toInt := by have := Int32.le_iff_toInt_le.mp h1; simpa using this
  have w0 : 0 ≤ w.toInt := by have := Int32.le_iff_toInt_le.mp h2; simpa using this
  have y1 : y.toInt < 2 ^ 31 := Int32.toInt_lt y
  have h4 := Int32.le_iff_toInt_le.mp h3
  rw [Int32.toInt_sub, e0] at h4
  have e1 : ((z : Int) - y.toInt).bmod (2 ^ 32) = (z : Int) - y.toInt := by
    rw [Int.bmod_def]
    by_cases hq : y.toInt ≤ (z : Int)
    · rw [Int.emod_eq_of_lt (by omega) (by omega), if_pos (by omega)]
    · rw [show ((z : Int) - y.toInt) % ((2 ^ 32 : Nat) : Int) = (z : Int) - y.toInt + 2 ^ 32 by omega, if_neg (by omega)]
      omega
  rw [e1] at h4
  obtain ⟨a, ha, ea⟩ := nI_of2 (x := y) (nI_toInt (show z < 2 ^ 31 by omega)) (Int32.not_lt.mpr h1) (Int32.le_iff_toInt_le.mpr (by rw [e0]; omega))
  obtain ⟨k, hk, ek⟩ := nI_of2 (x := w) (nI_toInt (show z < 2 ^ 31 by omega)) (Int32.not_lt.mpr h2) (Int32.le_iff_toInt_le.mpr (by rw [e0]; omega))
  refine ⟨a, k, ?_, ea, ek⟩
  rw [ea, ek, nI_toInt (show a < 2 ^ 31 by omega), nI_toInt (show k < 2 ^ 31 by omega)] at h4
  omega
def sgc (f g : Nat → Int32) (b k : Nat) : Nat → Int32 := fun t => if b ≤ t ∧ t < b + k then g (t - b) else f t
theorem sgc_0 {f g : Nat → Int32} {b : Nat} : sgc f g b 0 = f := by
  funext t
  unfold sgc
  rw [if_neg (by omega)]
theorem sgc_s {f g : Nat → Int32} {b k : Nat} : upd (sgc f g b k) (b + k) (g k) = sgc f g b (k + 1) := by
  funext t
  unfold upd sgc
  by_cases ht : t = b + k
  · rw [if_pos ht, if_pos (by omega), show t - b = k by omega]
  · rw [if_neg ht]
    by_cases h1 : b ≤ t ∧ t < b + k
    · rw [if_pos h1, if_pos (by omega)]
    · rw [if_neg h1, if_neg (by omega)]
theorem sgc_eq {f g g' : Nat → Int32} {b k : Nat} (h : ∀ t, t < k → g t = g' t) : sgc f g b k = sgc f g' b k := by
  funext t
  unfold sgc
  by_cases h1 : b ≤ t ∧ t < b + k
  · rw [if_pos h1, if_pos h1, h _ (by omega)]
  · rw [if_neg h1, if_neg h1]
abbrev M_Mo_voice : MD := (⟨"FelledByNamesModel", "voice", "(III)I"⟩, prog_14_method_76_code, 5, (some .int), fun _ => True)
theorem d_Mo_voice_0 : decode prog_14_method_76_code 0 = .ok (.aload_n 0, 1) := by decide +kernel
theorem d_Mo_voice_1 : decode prog_14_method_76_code 1 = .ok (.iload_n 1, 1) := by decide +kernel
theorem d_Mo_voice_2 : decode prog_14_method_76_code 2 = .ok (.invokevirtual 207, 3) := by decide +kernel
theorem d_Mo_voice_5 : decode prog_14_method_76_code 5 = .ok (.ifCond .eq 15, 3) := by decide +kernel
theorem d_Mo_voice_20 : decode prog_14_method_76_code 20 = .ok (.aload_n 0, 1) := by decide +kernel
theorem d_Mo_voice_21 : decode prog_14_method_76_code 21 = .ok (.iconst 1, 1) := by decide +kernel
theorem d_Mo_voice_22 : decode prog_14_method_76_code 22 = .ok (.invokevirtual 138, 3) := by decide +kernel
theorem d_Mo_voice_25 : decode prog_14_method_76_code 25 = .ok (.ireturn, 1) := by decide +kernel
theorem d_Mo_voice_8 : decode prog_14_method_76_code 8 = .ok (.iload_n 2, 1) := by decide +kernel
theorem d_Mo_voice_9 : decode prog_14_method_76_code 9 = .ok (.i2l, 1) := by decide +kernel
theorem d_Mo_voice_10 : decode prog_14_method_76_code 10 = .ok (.lconst 0, 1) := by decide +kernel
theorem d_Mo_voice_11 : decode prog_14_method_76_code 11 = .ok (.ldc2_w 272, 3) := by decide +kernel
theorem d_Mo_voice_14 : decode prog_14_method_76_code 14 = .ok (.invokestatic 56, 3) := by decide +kernel
theorem d_Mo_voice_17 : decode prog_14_method_76_code 17 = .ok (.ifCond .ne 9, 3) := by decide +kernel
theorem d_Mo_voice_26 : decode prog_14_method_76_code 26 = .ok (.aload_n 0, 1) := by decide +kernel
theorem d_Mo_voice_27 : decode prog_14_method_76_code 27 = .ok (.iload_n 1, 1) := by decide +kernel
theorem d_Mo_voice_28 : decode prog_14_method_76_code 28 = .ok (.putfield 257, 3) := by decide +kernel
theorem fp_Mo_21 : fpk 5 21 (.int) := ⟨_, _, _, rfl, rfl, by decide +kernel⟩
theorem d_Mo_voice_31 : decode prog_14_method_76_code 31 = .ok (.aload_n 0, 1) := by decide +kernel
theorem d_Mo_voice_32 : decode prog_14_method_76_code 32 = .ok (.iconst 0, 1) := by decide +kernel
theorem d_Mo_voice_33 : decode prog_14_method_76_code 33 = .ok (.putfield 251, 3) := by decide +kernel
theorem d_Mo_voice_36 : decode prog_14_method_76_code 36 = .ok (.aload_n 0, 1) := by decide +kernel
theorem d_Mo_voice_37 : decode prog_14_method_76_code 37 = .ok (.aload_n 0, 1) := by decide +kernel
theorem d_Mo_voice_38 : decode prog_14_method_76_code 38 = .ok (.getfield 257, 3) := by decide +kernel
theorem d_Mo_voice_41 : decode prog_14_method_76_code 41 = .ok (.iconst 0, 1) := by decide +kernel
theorem d_Mo_voice_42 : decode prog_14_method_76_code 42 = .ok (.invokevirtual 158, 3) := by decide +kernel
theorem d_Mo_voice_45 : decode prog_14_method_76_code 45 = .ok (.istore 4, 2) := by decide +kernel
theorem d_Mo_voice_47 : decode prog_14_method_76_code 47 = .ok (.iload_n 2, 1) := by decide +kernel
theorem d_Mo_voice_48 : decode prog_14_method_76_code 48 = .ok (.ifCond .ne 13, 3) := by decide +kernel
theorem d_Mo_voice_61 : decode prog_14_method_76_code 61 = .ok (.iload_n 2, 1) := by decide +kernel
theorem d_Mo_voice_62 : decode prog_14_method_76_code 62 = .ok (.iconst 1, 1) := by decide +kernel
theorem d_Mo_voice_63 : decode prog_14_method_76_code 63 = .ok (.if_icmp .ne 13, 3) := by decide +kernel
theorem d_Mo_voice_76 : decode prog_14_method_76_code 76 = .ok (.iload_n 2, 1) := by decide +kernel
theorem d_Mo_voice_77 : decode prog_14_method_76_code 77 = .ok (.iconst 2, 1) := by decide +kernel
theorem d_Mo_voice_78 : decode prog_14_method_76_code 78 = .ok (.if_icmp .ne 13, 3) := by decide +kernel
theorem d_Mo_voice_91 : decode prog_14_method_76_code 91 = .ok (.aload_n 0, 1) := by decide +kernel
theorem d_Mo_voice_92 : decode prog_14_method_76_code 92 = .ok (.iload 4, 2) := by decide +kernel
theorem d_Mo_voice_94 : decode prog_14_method_76_code 94 = .ok (.iload_n 3, 1) := by decide +kernel
theorem d_Mo_voice_95 : decode prog_14_method_76_code 95 = .ok (.invokevirtual 269, 3) := by decide +kernel
theorem d_Mo_voice_98 : decode prog_14_method_76_code 98 = .ok (.ireturn, 1) := by decide +kernel
theorem d_Mo_voice_81 : decode prog_14_method_76_code 81 = .ok (.aload_n 0, 1) := by decide +kernel
theorem d_Mo_voice_82 : decode prog_14_method_76_code 82 = .ok (.iload 4, 2) := by decide +kernel
theorem d_Mo_voice_84 : decode prog_14_method_76_code 84 = .ok (.iload_n 3, 1) := by decide +kernel
theorem d_Mo_voice_85 : decode prog_14_method_76_code 85 = .ok (.invokevirtual 266, 3) := by decide +kernel
theorem d_Mo_voice_88 : decode prog_14_method_76_code 88 = .ok (.goto 10, 3) := by decide +kernel
theorem d_Mo_voice_66 : decode prog_14_method_76_code 66 = .ok (.aload_n 0, 1) := by decide +kernel
theorem d_Mo_voice_67 : decode prog_14_method_76_code 67 = .ok (.iload 4, 2) := by decide +kernel
theorem d_Mo_voice_69 : decode prog_14_method_76_code 69 = .ok (.iload_n 3, 1) := by decide +kernel
theorem d_Mo_voice_70 : decode prog_14_method_76_code 70 = .ok (.invokevirtual 263, 3) := by decide +kernel
theorem d_Mo_voice_73 : decode prog_14_method_76_code 73 = .ok (.goto 25, 3) := by decide +kernel
theorem d_Mo_voice_51 : decode prog_14_method_76_code 51 = .ok (.aload_n 0, 1) := by decide +kernel
theorem d_Mo_voice_52 : decode prog_14_method_76_code 52 = .ok (.iload 4, 2) := by decide +kernel
theorem d_Mo_voice_54 : decode prog_14_method_76_code 54 = .ok (.iload_n 3, 1) := by decide +kernel
theorem d_Mo_voice_55 : decode prog_14_method_76_code 55 = .ok (.invokevirtual 260, 3) := by decide +kernel
theorem d_Mo_voice_58 : decode prog_14_method_76_code 58 = .ok (.goto 40, 3) := by decide +kernel
set_option maxRecDepth 100000 in
theorem c_Mo_voice {N : Nat} {x y z : Int32} {l : Launch} {d q n : Nat} {D : Nat → Int32} {A : Nat → Nat → Int32} {S : Nat → Int32} {h0 : HP} {Q : QT} (hN : N ≤ 8) (e0 : D 0 = nI N) (hT : TS D N) (hE : (wi x (nI 0) (nI N - nI 1) && wi y (nI 0) (nI 3)) = false → Q (some (.int (-1000000000 - nI 1))) n (mo q D (uA A 3 (upd (A 3) 1 (A 3 1 + nI 1))) S h0)) (hOk : ∀ i a k0, i < N → a ≤ 3 → x = nI i → y = nI a → k0 ≤ 6 → D (50 + 7 * i + 0) = nI k0 → Q (some (.int (vcv a k0 (D (50 + 7 * i + 1)) (nI i) z))) n (mo q D (trA A 0 (vcl a k0)) (trS (uS (uS S 21 (nI i)) 20 (nI 0)) 0 (vcl a k0)) h0)) : Ct l M_Mo_voice (d + 10) 0 0 [.ref q, .int x, .int y, .int z] n (mo q D A S h0) Q := by
  refine Ct.of (fun _ => trivial) (by decide) (Nat.le_of_ble_eq_true rfl) ?_
  refine V.aload_n d_Mo_voice_0 rfl ?_
  refine V.iload_n d_Mo_voice_1 rfl ?_
  refine V.callV1 d_Mo_voice_2 k_Mo_207_Mo_isTree_MoV mo_o (Nat.le_of_ble_eq_true rfl) (by omega) (by omega) (c_Mo_isTree ?_)
  rw [e0]
  refine V.ifeqB (tgt := 20) d_Mo_voice_5 (by decide) (fun c_5 => ?_) (fun c_5 => ?_)
  · skip
    refine V.aload_n d_Mo_voice_20 rfl ?_
    refine V.iconst_ (nI 1) d_Mo_voice_21 (by decide +kernel) ?_
    refine V.callV1 d_Mo_voice_22 k_Mo_138_Mo_finds_MoV mo_o (Nat.le_of_ble_eq_true rfl) (by omega) (by omega) (c_Mo_finds (by omega) ?_)
    refine V.iret d_Mo_voice_25 rfl (Nat.le_of_ble_eq_true rfl) (Nat.le_of_ble_eq_true rfl) ?_
    exact hE (by simp only [c_5, Bool.and_false, Bool.false_and, Bool.and_true, Bool.true_and])
  · skip
    refine V.iload_n d_Mo_voice_8 rfl ?_
    refine V.i2l d_Mo_voice_9 ?_
    refine V.lconst_ ((nI 0).toInt64) d_Mo_voice_10 (by decide +kernel) ?_
    refine V.ldc2 (v := 3) d_Mo_voice_11 (tm 1394 (by decide +kernel) rfl) ?_
    refine V.eqS (st' := .long ((nI 3).toInt64) :: _) rfl ?_
    refine V.callS3 d_Mo_voice_14 k_Mo_56_Mo_inS (Nat.le_of_ble_eq_true rfl) (by omega) (by omega) (c_Mo_in ?_)
    refine V.ifneB (tgt := 26) d_Mo_voice_17 (by decide) (fun c_17 => ?_) (fun c_17 => ?_)
    · skip
      obtain ⟨i, hi, rfl⟩ := tre_nat hN c_5
      obtain ⟨a, ha, rfl⟩ := wi_nat (by decide) c_17
      obtain ⟨k0, hk0, ek0⟩ := (hT i hi).1
      have hi8 : i < 8 := by omega
      refine V.aload_n d_Mo_voice_26 rfl ?_
      refine V.iload_n d_Mo_voice_27 rfl ?_
      refine V.mput d_Mo_voice_28 f_Mo_257_Mo fp_Mo_21 rfl (by decide) ?_
      refine V.aload_n d_Mo_voice_31 rfl ?_
      refine V.iconst_ (nI 0) d_Mo_voice_32 (by decide +kernel) ?_
      refine V.mput d_Mo_voice_33 f_Mo_251_Mo fp_Mo_20 rfl (by decide) ?_
      refine V.aload_n d_Mo_voice_36 rfl ?_
      refine V.aload_n d_Mo_voice_37 rfl ?_
      refine V.get d_Mo_voice_38 f_Mo_257_Mo mo_o rfl ?_
      rw [uS_n (by decide), uS_s]
      refine V.iconst_ (nI 0) d_Mo_voice_41 (by decide +kernel) ?_
      refine V.callV2 d_Mo_voice_42 k_Mo_158_Mo_of_MoV mo_o (Nat.le_of_ble_eq_true rfl) (by omega) (by omega) (c_Mo_of (by omega) ?_)
      refine V.top ek0 ?_
      refine V.istore d_Mo_voice_45 (by decide) ?_
      refine V.iload_n d_Mo_voice_47 rfl ?_
      refine V.if_ne (tgt := 61) d_Mo_voice_48 (by decide) (fun c_48 => ?_) (fun c_48 => ?_)
      · skip
        refine V.iload_n d_Mo_voice_61 rfl ?_
        refine V.iconst_ (nI 1) d_Mo_voice_62 (by decide +kernel) ?_
        refine V.neN (tgt := 76) d_Mo_voice_63 (by decide) (by omega) (by omega) (fun c_63 => ?_) (fun c_63 => ?_)
        · skip
          refine V.iload_n d_Mo_voice_76 rfl ?_
          refine V.iconst_ (nI 2) d_Mo_voice_77 (by decide +kernel) ?_
          refine V.neN (tgt := 91) d_Mo_voice_78 (by decide) (by omega) (by omega) (fun c_78 => ?_) (fun c_78 => ?_)
          · skip
            refine V.aload_n d_Mo_voice_91 rfl ?_
            refine V.iload d_Mo_voice_92 rfl ?_
            refine V.iload_n d_Mo_voice_94 rfl ?_
            refine V.callV2 d_Mo_voice_95 k_Mo_269_Mo_tellsBy_MoV mo_o (Nat.le_of_ble_eq_true rfl) (by omega) (by omega) (c_Mo_tellsBy (tm := 0) hk0 hk0 ek0 hi8 (show uS (uS S 21 (nI i)) 20 (nI 0) 21 = nI i by rw [uS_n (by decide), uS_s]) uS_s (by omega) ?_)
            refine V.iret d_Mo_voice_98 rfl (Nat.le_of_ble_eq_true rfl) (Nat.le_of_ble_eq_true rfl) ?_
            have hOk' := hOk i a k0 hi ha rfl rfl hk0 ek0
            unfold vcv vcl at hOk'
            first
            | (have za : a = 0 := (nI_eq (by omega) (by decide)).mp c_48; subst za; exact hOk')
            | (have za : a = 1 := c_63; subst za; exact hOk')
            | (have za : a = 2 := c_78; subst za; exact hOk')
            | (have z0 : ¬ a = 0 := (fun z => c_48 (by rw [z]; rfl)); have za : a = 3 := by omega
               subst za; exact hOk')
          · skip
            refine V.aload_n d_Mo_voice_81 rfl ?_
            refine V.iload d_Mo_voice_82 rfl ?_
            refine V.iload_n d_Mo_voice_84 rfl ?_
            refine V.callV2 d_Mo_voice_85 k_Mo_266_Mo_leansBy_MoV mo_o (Nat.le_of_ble_eq_true rfl) (by omega) (by omega) (c_Mo_leansBy (tm := 0) hk0 hi8 (show uS (uS S 21 (nI i)) 20 (nI 0) 21 = nI i by rw [uS_n (by decide), uS_s]) uS_s (by omega) ?_)
            refine V.goto (tgt := 98) d_Mo_voice_88 (by decide) ?_
            refine V.iret d_Mo_voice_98 rfl (Nat.le_of_ble_eq_true rfl) (Nat.le_of_ble_eq_true rfl) ?_
            have hOk' := hOk i a k0 hi ha rfl rfl hk0 ek0
            unfold vcv vcl at hOk'
            first
            | (have za : a = 0 := (nI_eq (by omega) (by decide)).mp c_48; subst za; exact hOk')
            | (have za : a = 1 := c_63; subst za; exact hOk')
            | (have za : a = 2 := c_78; subst za; exact hOk')
            | (have z0 : ¬ a = 0 := (fun z => c_48 (by rw [z]; rfl)); have za : a = 3 := by omega
               subst za; exact hOk')
        · skip
          refine V.aload_n d_Mo_voice_66 rfl ?_
          refine V.iload d_Mo_voice_67 rfl ?_
          refine V.iload_n d_Mo_voice_69 rfl ?_
          refine V.callV2 d_Mo_voice_70 k_Mo_263_Mo_standsBy_MoV mo_o (Nat.le_of_ble_eq_true rfl) (by omega) (by omega) (c_Mo_standsBy (tm := 0) hk0 hk0 ek0 hi8 (show uS (uS S 21 (nI i)) 20 (nI 0) 21 = nI i by rw [uS_n (by decide), uS_s]) uS_s (by omega) ?_)
          refine V.goto (tgt := 98) d_Mo_voice_73 (by decide) ?_
          refine V.iret d_Mo_voice_98 rfl (Nat.le_of_ble_eq_true rfl) (Nat.le_of_ble_eq_true rfl) ?_
          have hOk' := hOk i a k0 hi ha rfl rfl hk0 ek0
          unfold vcv vcl at hOk'
          first
          | (have za : a = 0 := (nI_eq (by omega) (by decide)).mp c_48; subst za; exact hOk')
          | (have za : a = 1 := c_63; subst za; exact hOk')
          | (have za : a = 2 := c_78; subst za; exact hOk')
          | (have z0 : ¬ a = 0 := (fun z => c_48 (by rw [z]; rfl)); have za : a = 3 := by omega
             subst za; exact hOk')
      · skip
        refine V.aload_n d_Mo_voice_51 rfl ?_
        refine V.iload d_Mo_voice_52 rfl ?_
        refine V.iload_n d_Mo_voice_54 rfl ?_
        refine V.callV2 d_Mo_voice_55 k_Mo_260_Mo_creaksBy_MoV mo_o (Nat.le_of_ble_eq_true rfl) (by omega) (by omega) (c_Mo_creaksBy (tm := 0) hk0 hi8 (show uS (uS S 21 (nI i)) 20 (nI 0) 21 = nI i by rw [uS_n (by decide), uS_s]) uS_s (by omega) ?_)
        refine V.goto (tgt := 98) d_Mo_voice_58 (by decide) ?_
        refine V.iret d_Mo_voice_98 rfl (Nat.le_of_ble_eq_true rfl) (Nat.le_of_ble_eq_true rfl) ?_
        have hOk' := hOk i a k0 hi ha rfl rfl hk0 ek0
        unfold vcv vcl at hOk'
        first
        | (have za : a = 0 := (nI_eq (by omega) (by decide)).mp c_48; subst za; exact hOk')
        | (have za : a = 1 := c_63; subst za; exact hOk')
        | (have za : a = 2 := c_78; subst za; exact hOk')
        | (have z0 : ¬ a = 0 := (fun z => c_48 (by rw [z]; rfl)); have za : a = 3 := by omega
           subst za; exact hOk')
    · skip
      refine V.aload_n d_Mo_voice_20 rfl ?_
      refine V.iconst_ (nI 1) d_Mo_voice_21 (by decide +kernel) ?_
      refine V.callV1 d_Mo_voice_22 k_Mo_138_Mo_finds_MoV mo_o (Nat.le_of_ble_eq_true rfl) (by omega) (by omega) (c_Mo_finds (by omega) ?_)
      refine V.iret d_Mo_voice_25 rfl (Nat.le_of_ble_eq_true rfl) (Nat.le_of_ble_eq_true rfl) ?_
      exact hE (by simp only [c_5, c_17, Bool.and_false, Bool.false_and, Bool.and_true, Bool.true_and])
abbrev M_Mo_move : MD := (⟨"FelledByNamesModel", "move", "(IIIII)I"⟩, prog_14_method_81_code, 7, (some .int), fun _ => True)
theorem d_Mo_move_0 : decode prog_14_method_81_code 0 = .ok (.iload_n 1, 1) := by decide +kernel
theorem d_Mo_move_1 : decode prog_14_method_81_code 1 = .ok (.invokestatic 245, 3) := by decide +kernel
theorem d_Mo_move_4 : decode prog_14_method_81_code 4 = .ok (.ifCond .eq 10, 3) := by decide +kernel
theorem d_Mo_move_14 : decode prog_14_method_81_code 14 = .ok (.aload_n 0, 1) := by decide +kernel
theorem d_Mo_move_15 : decode prog_14_method_81_code 15 = .ok (.iconst 1, 1) := by decide +kernel
theorem d_Mo_move_16 : decode prog_14_method_81_code 16 = .ok (.invokevirtual 138, 3) := by decide +kernel
theorem d_Mo_move_19 : decode prog_14_method_81_code 19 = .ok (.ireturn, 1) := by decide +kernel
theorem d_Mo_move_7 : decode prog_14_method_81_code 7 = .ok (.iload_n 3, 1) := by decide +kernel
theorem d_Mo_move_8 : decode prog_14_method_81_code 8 = .ok (.invokestatic 245, 3) := by decide +kernel
theorem d_Mo_move_11 : decode prog_14_method_81_code 11 = .ok (.ifCond .ne 9, 3) := by decide +kernel
theorem d_Mo_move_20 : decode prog_14_method_81_code 20 = .ok (.aload_n 0, 1) := by decide +kernel
theorem d_Mo_move_21 : decode prog_14_method_81_code 21 = .ok (.getfield 43, 3) := by decide +kernel
theorem d_Mo_move_24 : decode prog_14_method_81_code 24 = .ok (.iload_n 1, 1) := by decide +kernel
theorem d_Mo_move_25 : decode prog_14_method_81_code 25 = .ok (.iaload, 1) := by decide +kernel
theorem d_Mo_move_26 : decode prog_14_method_81_code 26 = .ok (.ifCond .eq 12, 3) := by decide +kernel
theorem d_Mo_move_38 : decode prog_14_method_81_code 38 = .ok (.aload_n 0, 1) := by decide +kernel
theorem d_Mo_move_39 : decode prog_14_method_81_code 39 = .ok (.iconst 2, 1) := by decide +kernel
theorem d_Mo_move_40 : decode prog_14_method_81_code 40 = .ok (.invokevirtual 138, 3) := by decide +kernel
theorem d_Mo_move_43 : decode prog_14_method_81_code 43 = .ok (.ireturn, 1) := by decide +kernel
theorem d_Mo_move_29 : decode prog_14_method_81_code 29 = .ok (.aload_n 0, 1) := by decide +kernel
theorem d_Mo_move_30 : decode prog_14_method_81_code 30 = .ok (.getfield 43, 3) := by decide +kernel
theorem d_Mo_move_33 : decode prog_14_method_81_code 33 = .ok (.iload_n 3, 1) := by decide +kernel
theorem d_Mo_move_34 : decode prog_14_method_81_code 34 = .ok (.iaload, 1) := by decide +kernel
theorem d_Mo_move_35 : decode prog_14_method_81_code 35 = .ok (.ifCond .ne 9, 3) := by decide +kernel
theorem d_Mo_move_44 : decode prog_14_method_81_code 44 = .ok (.aload_n 0, 1) := by decide +kernel
theorem d_Mo_move_45 : decode prog_14_method_81_code 45 = .ok (.getfield 43, 3) := by decide +kernel
theorem d_Mo_move_48 : decode prog_14_method_81_code 48 = .ok (.iload_n 1, 1) := by decide +kernel
theorem d_Mo_move_49 : decode prog_14_method_81_code 49 = .ok (.iaload, 1) := by decide +kernel
theorem d_Mo_move_50 : decode prog_14_method_81_code 50 = .ok (.aload_n 0, 1) := by decide +kernel
theorem d_Mo_move_51 : decode prog_14_method_81_code 51 = .ok (.getfield 43, 3) := by decide +kernel
theorem d_Mo_move_54 : decode prog_14_method_81_code 54 = .ok (.iload_n 3, 1) := by decide +kernel
theorem d_Mo_move_55 : decode prog_14_method_81_code 55 = .ok (.iaload, 1) := by decide +kernel
theorem d_Mo_move_56 : decode prog_14_method_81_code 56 = .ok (.if_icmp .eq 9, 3) := by decide +kernel
theorem d_Mo_move_65 : decode prog_14_method_81_code 65 = .ok (.iload 5, 2) := by decide +kernel
theorem d_Mo_move_67 : decode prog_14_method_81_code 67 = .ok (.ifCond .lt 39, 3) := by decide +kernel
theorem d_Mo_move_106 : decode prog_14_method_81_code 106 = .ok (.aload_n 0, 1) := by decide +kernel
theorem d_Mo_move_107 : decode prog_14_method_81_code 107 = .ok (.iconst 1, 1) := by decide +kernel
theorem d_Mo_move_108 : decode prog_14_method_81_code 108 = .ok (.invokevirtual 138, 3) := by decide +kernel
theorem d_Mo_move_111 : decode prog_14_method_81_code 111 = .ok (.ireturn, 1) := by decide +kernel
theorem d_Mo_move_70 : decode prog_14_method_81_code 70 = .ok (.iload_n 2, 1) := by decide +kernel
theorem d_Mo_move_71 : decode prog_14_method_81_code 71 = .ok (.ifCond .lt 35, 3) := by decide +kernel
theorem d_Mo_move_74 : decode prog_14_method_81_code 74 = .ok (.iload 4, 2) := by decide +kernel
theorem d_Mo_move_76 : decode prog_14_method_81_code 76 = .ok (.ifCond .lt 30, 3) := by decide +kernel
theorem d_Mo_move_79 : decode prog_14_method_81_code 79 = .ok (.iload 5, 2) := by decide +kernel
theorem d_Mo_move_81 : decode prog_14_method_81_code 81 = .ok (.aload_n 0, 1) := by decide +kernel
theorem d_Mo_move_82 : decode prog_14_method_81_code 82 = .ok (.getfield 46, 3) := by decide +kernel
theorem d_Mo_move_85 : decode prog_14_method_81_code 85 = .ok (.iload_n 1, 1) := by decide +kernel
theorem d_Mo_move_86 : decode prog_14_method_81_code 86 = .ok (.iaload, 1) := by decide +kernel
theorem d_Mo_move_87 : decode prog_14_method_81_code 87 = .ok (.iload_n 2, 1) := by decide +kernel
theorem d_Mo_move_88 : decode prog_14_method_81_code 88 = .ok (.isub, 1) := by decide +kernel
theorem d_Mo_move_89 : decode prog_14_method_81_code 89 = .ok (.if_icmp .gt 17, 3) := by decide +kernel
theorem d_Mo_move_92 : decode prog_14_method_81_code 92 = .ok (.iload 5, 2) := by decide +kernel
theorem d_Mo_move_94 : decode prog_14_method_81_code 94 = .ok (.aload_n 0, 1) := by decide +kernel
theorem d_Mo_move_95 : decode prog_14_method_81_code 95 = .ok (.getfield 46, 3) := by decide +kernel
theorem d_Mo_move_98 : decode prog_14_method_81_code 98 = .ok (.iload_n 3, 1) := by decide +kernel
theorem d_Mo_move_99 : decode prog_14_method_81_code 99 = .ok (.iaload, 1) := by decide +kernel
theorem d_Mo_move_100 : decode prog_14_method_81_code 100 = .ok (.iload 4, 2) := by decide +kernel
theorem d_Mo_move_102 : decode prog_14_method_81_code 102 = .ok (.isub, 1) := by decide +kernel
theorem d_Mo_move_103 : decode prog_14_method_81_code 103 = .ok (.if_icmp .le 9, 3) := by decide +kernel
theorem d_Mo_move_112 : decode prog_14_method_81_code 112 = .ok (.iconst 0, 1) := by decide +kernel
theorem d_Mo_move_113 : decode prog_14_method_81_code 113 = .ok (.istore 6, 2) := by decide +kernel
theorem d_Mo_move_115 : decode prog_14_method_81_code 115 = .ok (.iload 6, 2) := by decide +kernel
theorem d_Mo_move_117 : decode prog_14_method_81_code 117 = .ok (.iload 5, 2) := by decide +kernel
theorem d_Mo_move_119 : decode prog_14_method_81_code 119 = .ok (.if_icmp .ge 30, 3) := by decide +kernel
theorem d_Mo_move_149 : decode prog_14_method_81_code 149 = .ok (.iconst 0, 1) := by decide +kernel
theorem d_Mo_move_150 : decode prog_14_method_81_code 150 = .ok (.istore 6, 2) := by decide +kernel
theorem d_Mo_move_152 : decode prog_14_method_81_code 152 = .ok (.iload 6, 2) := by decide +kernel
theorem d_Mo_move_154 : decode prog_14_method_81_code 154 = .ok (.iload 5, 2) := by decide +kernel
theorem d_Mo_move_156 : decode prog_14_method_81_code 156 = .ok (.if_icmp .ge 31, 3) := by decide +kernel
theorem d_Mo_move_187 : decode prog_14_method_81_code 187 = .ok (.iload 5, 2) := by decide +kernel
theorem d_Mo_move_189 : decode prog_14_method_81_code 189 = .ok (.ireturn, 1) := by decide +kernel
theorem d_Mo_move_159 : decode prog_14_method_81_code 159 = .ok (.aload_n 0, 1) := by decide +kernel
theorem d_Mo_move_160 : decode prog_14_method_81_code 160 = .ok (.getfield 49, 3) := by decide +kernel
theorem d_Mo_move_163 : decode prog_14_method_81_code 163 = .ok (.bipush 40, 2) := by decide +kernel
theorem d_Mo_move_165 : decode prog_14_method_81_code 165 = .ok (.iload_n 3, 1) := by decide +kernel
theorem d_Mo_move_166 : decode prog_14_method_81_code 166 = .ok (.imul, 1) := by decide +kernel
theorem d_Mo_move_167 : decode prog_14_method_81_code 167 = .ok (.iload 4, 2) := by decide +kernel
theorem d_Mo_move_169 : decode prog_14_method_81_code 169 = .ok (.iadd, 1) := by decide +kernel
theorem d_Mo_move_170 : decode prog_14_method_81_code 170 = .ok (.iload 6, 2) := by decide +kernel
theorem d_Mo_move_172 : decode prog_14_method_81_code 172 = .ok (.iadd, 1) := by decide +kernel
theorem d_Mo_move_173 : decode prog_14_method_81_code 173 = .ok (.aload_n 0, 1) := by decide +kernel
theorem d_Mo_move_174 : decode prog_14_method_81_code 174 = .ok (.getfield 52, 3) := by decide +kernel
theorem f_Mo_52_Mo : fok "FelledByNamesModel" 52 5 25 := ⟨R_Mo, F_Mo, 26, "FelledByNamesModel", rfl, i_Mo, by decide, tm 1084 (by decide +kernel) rfl, Or.inl rfl, t_Mo, t_Mo_ok, n_Mo⟩
theorem d_Mo_move_177 : decode prog_14_method_81_code 177 = .ok (.iload 6, 2) := by decide +kernel
theorem d_Mo_move_179 : decode prog_14_method_81_code 179 = .ok (.iaload, 1) := by decide +kernel
theorem d_Mo_move_180 : decode prog_14_method_81_code 180 = .ok (.iastore, 1) := by decide +kernel
theorem d_Mo_move_181 : decode prog_14_method_81_code 181 = .ok (.iinc 6 1, 3) := by decide +kernel
theorem d_Mo_move_184 : decode prog_14_method_81_code 184 = .ok (.goto (-32), 3) := by decide +kernel
theorem d_Mo_move_122 : decode prog_14_method_81_code 122 = .ok (.aload_n 0, 1) := by decide +kernel
theorem d_Mo_move_123 : decode prog_14_method_81_code 123 = .ok (.getfield 52, 3) := by decide +kernel
theorem d_Mo_move_126 : decode prog_14_method_81_code 126 = .ok (.iload 6, 2) := by decide +kernel
theorem d_Mo_move_128 : decode prog_14_method_81_code 128 = .ok (.aload_n 0, 1) := by decide +kernel
theorem d_Mo_move_129 : decode prog_14_method_81_code 129 = .ok (.getfield 49, 3) := by decide +kernel
theorem d_Mo_move_132 : decode prog_14_method_81_code 132 = .ok (.bipush 40, 2) := by decide +kernel
theorem d_Mo_move_134 : decode prog_14_method_81_code 134 = .ok (.iload_n 1, 1) := by decide +kernel
theorem d_Mo_move_135 : decode prog_14_method_81_code 135 = .ok (.imul, 1) := by decide +kernel
theorem d_Mo_move_136 : decode prog_14_method_81_code 136 = .ok (.iload_n 2, 1) := by decide +kernel
theorem d_Mo_move_137 : decode prog_14_method_81_code 137 = .ok (.iadd, 1) := by decide +kernel
theorem d_Mo_move_138 : decode prog_14_method_81_code 138 = .ok (.iload 6, 2) := by decide +kernel
theorem d_Mo_move_140 : decode prog_14_method_81_code 140 = .ok (.iadd, 1) := by decide +kernel
theorem d_Mo_move_141 : decode prog_14_method_81_code 141 = .ok (.iaload, 1) := by decide +kernel
theorem d_Mo_move_142 : decode prog_14_method_81_code 142 = .ok (.iastore, 1) := by decide +kernel
theorem d_Mo_move_143 : decode prog_14_method_81_code 143 = .ok (.iinc 6 1, 3) := by decide +kernel
theorem d_Mo_move_146 : decode prog_14_method_81_code 146 = .ok (.goto (-31), 3) := by decide +kernel
theorem d_Mo_move_59 : decode prog_14_method_81_code 59 = .ok (.aload_n 0, 1) := by decide +kernel
theorem d_Mo_move_60 : decode prog_14_method_81_code 60 = .ok (.iconst 5, 1) := by decide +kernel
theorem d_Mo_move_61 : decode prog_14_method_81_code 61 = .ok (.invokevirtual 138, 3) := by decide +kernel
theorem d_Mo_move_64 : decode prog_14_method_81_code 64 = .ok (.ireturn, 1) := by decide +kernel
set_option maxRecDepth 100000 in
theorem c_Mo_move {x y u v w : Int32} {l : Launch} {d q n : Nat} {D : Nat → Int32} {A : Nat → Nat → Int32} {S : Nat → Int32} {h0 : HP} {Q : QT} (hSz : ∀ i, i < 4 → NB (A 12) i 40) (hE : (wi x (nI 0) (nI 3) && wi u (nI 0) (nI 3)) = false → Q (some (.int (-1000000000 - nI 1))) n (mo q D (uA A 3 (upd (A 3) 1 (A 3 1 + nI 1))) S h0)) (hNo : ∀ i j, i ≤ 3 → j ≤ 3 → x = nI i → u = nI j →  (A 11 i = 0 ∨ A 11 j = 0) → Q (some (.int (-1000000000 - nI 2))) n (mo q D (uA A 3 (upd (A 3) 2 (A 3 2 + nI 1))) S h0)) (hKd : ∀ i j, i ≤ 3 → j ≤ 3 → x = nI i → u = nI j → ¬ A 11 i = 0 → ¬ A 11 j = 0 →  ¬ A 11 i = A 11 j → Q (some (.int (-1000000000 - nI 5))) n (mo q D (uA A 3 (upd (A 3) 5 (A 3 5 + nI 1))) S h0)) (hB : ∀ i j si sj, i ≤ 3 → j ≤ 3 → x = nI i → u = nI j → ¬ A 11 i = 0 → ¬ A 11 j = 0 → A 11 i = A 11 j → A 12 i = nI si → A 12 j = nI sj → si ≤ 40 → sj ≤ 40 →  (hrn y w (nI si) && hrn v w (nI sj)) = false → Q (some (.int (-1000000000 - nI 1))) n (mo q D (uA A 3 (upd (A 3) 1 (A 3 1 + nI 1))) S h0)) (hOk : ∀ i j si sj a b k, i ≤ 3 → j ≤ 3 → x = nI i → u = nI j → ¬ A 11 i = 0 → ¬ A 11 j = 0 → A 11 i = A 11 j → A 12 i = nI si → A 12 j = nI sj → si ≤ 40 → sj ≤ 40 →  a + k ≤ si → b + k ≤ sj → y = nI a → v = nI b → w = nI k → ∀ L14 : Nat → Int32, Q (some (.int (nI k))) n (mo q D (uA (uA A 14 L14) 13 (sgc (A 13) (fun t => A 13 (40 * i + a + t)) (40 * j + b) k)) S h0)) : Ct l M_Mo_move (d + 2) 0 0 [.ref q, .int x, .int y, .int u, .int v, .int w] n (mo q D A S h0) Q := by
  refine Ct.of (fun _ => trivial) (by decide) (Nat.le_of_ble_eq_true rfl) ?_
  refine V.iload_n d_Mo_move_0 rfl ?_
  refine V.callS1 d_Mo_move_1 k_Mo_245_Mo_isSheetS (Nat.le_of_ble_eq_true rfl) (by omega) (by omega) (c_Mo_isSheet ?_)
  refine V.ifeqB (tgt := 14) d_Mo_move_4 (by decide) (fun c_4 => ?_) (fun c_4 => ?_)
  · skip
    refine V.aload_n d_Mo_move_14 rfl ?_
    refine V.iconst_ (nI 1) d_Mo_move_15 (by decide +kernel) ?_
    refine V.callV1 d_Mo_move_16 k_Mo_138_Mo_finds_MoV mo_o (Nat.le_of_ble_eq_true rfl) (by omega) (by omega) (c_Mo_finds (by omega) ?_)
    refine V.iret d_Mo_move_19 rfl (Nat.le_of_ble_eq_true rfl) (Nat.le_of_ble_eq_true rfl) ?_
    exact hE (by simp only [c_4, Bool.and_false, Bool.false_and, Bool.and_true, Bool.true_and])
  · skip
    refine V.iload_n d_Mo_move_7 rfl ?_
    refine V.callS1 d_Mo_move_8 k_Mo_245_Mo_isSheetS (Nat.le_of_ble_eq_true rfl) (by omega) (by omega) (c_Mo_isSheet ?_)
    refine V.ifneB (tgt := 20) d_Mo_move_11 (by decide) (fun c_11 => ?_) (fun c_11 => ?_)
    · skip
      obtain ⟨i, hi, rfl⟩ := wi_nat (by decide) c_4
      obtain ⟨j, hj, rfl⟩ := wi_nat (by decide) c_11
      obtain ⟨si, hsi, esi⟩ := hSz i (by omega)
      obtain ⟨sj, hsj, esj⟩ := hSz j (by omega)
      refine V.aload_n d_Mo_move_20 rfl ?_
      refine V.get d_Mo_move_21 f_Mo_43_Mo mo_o rfl ?_
      refine V.iload_n d_Mo_move_24 rfl ?_
      refine V.mlda 11 (by decide) (by decide) d_Mo_move_25 (by first | omega | (show _ < 4; omega)) ?_
      refine V.if_eq (tgt := 38) d_Mo_move_26 (by decide) (fun c_26 => ?_) (fun c_26 => ?_)
      · skip
        refine V.aload_n d_Mo_move_38 rfl ?_
        refine V.iconst_ (nI 2) d_Mo_move_39 (by decide +kernel) ?_
        refine V.callV1 d_Mo_move_40 k_Mo_138_Mo_finds_MoV mo_o (Nat.le_of_ble_eq_true rfl) (by omega) (by omega) (c_Mo_finds (by omega) ?_)
        refine V.iret d_Mo_move_43 rfl (Nat.le_of_ble_eq_true rfl) (Nat.le_of_ble_eq_true rfl) ?_
        exact hNo i j hi hj rfl rfl (by first | exact Or.inl c_26 | exact Or.inr c_35)
      · skip
        refine V.aload_n d_Mo_move_29 rfl ?_
        refine V.get d_Mo_move_30 f_Mo_43_Mo mo_o rfl ?_
        refine V.iload_n d_Mo_move_33 rfl ?_
        refine V.mlda 11 (by decide) (by decide) d_Mo_move_34 (by first | omega | (show _ < 4; omega)) ?_
        refine V.if_ne (tgt := 44) d_Mo_move_35 (by decide) (fun c_35 => ?_) (fun c_35 => ?_)
        · skip
          refine V.aload_n d_Mo_move_44 rfl ?_
          refine V.get d_Mo_move_45 f_Mo_43_Mo mo_o rfl ?_
          refine V.iload_n d_Mo_move_48 rfl ?_
          refine V.mlda 11 (by decide) (by decide) d_Mo_move_49 (by first | omega | (show _ < 4; omega)) ?_
          refine V.aload_n d_Mo_move_50 rfl ?_
          refine V.get d_Mo_move_51 f_Mo_43_Mo mo_o rfl ?_
          refine V.iload_n d_Mo_move_54 rfl ?_
          refine V.mlda 11 (by decide) (by decide) d_Mo_move_55 (by first | omega | (show _ < 4; omega)) ?_
          refine V.icmp_eq (tgt := 65) d_Mo_move_56 (by decide) (fun c_56 => ?_) (fun c_56 => ?_)
          · skip
            refine V.iload d_Mo_move_65 rfl ?_
            refine V.if_lt (tgt := 106) d_Mo_move_67 (by decide) (fun c_67 => ?_) (fun c_67 => ?_)
            · skip
              refine V.aload_n d_Mo_move_106 rfl ?_
              refine V.iconst_ (nI 1) d_Mo_move_107 (by decide +kernel) ?_
              refine V.callV1 d_Mo_move_108 k_Mo_138_Mo_finds_MoV mo_o (Nat.le_of_ble_eq_true rfl) (by omega) (by omega) (c_Mo_finds (by omega) ?_)
              refine V.iret d_Mo_move_111 rfl (Nat.le_of_ble_eq_true rfl) (Nat.le_of_ble_eq_true rfl) ?_
              refine hB i j si sj hi hj rfl rfl c_26 c_35 c_56 esi esj hsi hsj ?_
              unfold hrn
              first
              | (rw [decide_eq_false (Int32.not_le.mpr c_67)]; simp)
              | (rw [decide_eq_false (Int32.not_le.mpr c_71)]; simp)
              | (rw [decide_eq_false (Int32.not_le.mpr c_76)]; simp)
              | (rw [decide_eq_false (Int32.not_le.mpr c_89)]; simp)
              | (rw [decide_eq_false c_103]; simp)
            · skip
              refine V.iload_n d_Mo_move_70 rfl ?_
              refine V.if_lt (tgt := 106) d_Mo_move_71 (by decide) (fun c_71 => ?_) (fun c_71 => ?_)
              · skip
                refine V.aload_n d_Mo_move_106 rfl ?_
                refine V.iconst_ (nI 1) d_Mo_move_107 (by decide +kernel) ?_
                refine V.callV1 d_Mo_move_108 k_Mo_138_Mo_finds_MoV mo_o (Nat.le_of_ble_eq_true rfl) (by omega) (by omega) (c_Mo_finds (by omega) ?_)
                refine V.iret d_Mo_move_111 rfl (Nat.le_of_ble_eq_true rfl) (Nat.le_of_ble_eq_true rfl) ?_
                refine hB i j si sj hi hj rfl rfl c_26 c_35 c_56 esi esj hsi hsj ?_
                unfold hrn
                first
                | (rw [decide_eq_false (Int32.not_le.mpr c_67)]; simp)
                | (rw [decide_eq_false (Int32.not_le.mpr c_71)]; simp)
                | (rw [decide_eq_false (Int32.not_le.mpr c_76)]; simp)
                | (rw [decide_eq_false (Int32.not_le.mpr c_89)]; simp)
                | (rw [decide_eq_false c_103]; simp)
              · skip
                refine V.iload d_Mo_move_74 rfl ?_
                refine V.if_lt (tgt := 106) d_Mo_move_76 (by decide) (fun c_76 => ?_) (fun c_76 => ?_)
                · skip
                  refine V.aload_n d_Mo_move_106 rfl ?_
                  refine V.iconst_ (nI 1) d_Mo_move_107 (by decide +kernel) ?_
                  refine V.callV1 d_Mo_move_108 k_Mo_138_Mo_finds_MoV mo_o (Nat.le_of_ble_eq_true rfl) (by omega) (by omega) (c_Mo_finds (by omega) ?_)
                  refine V.iret d_Mo_move_111 rfl (Nat.le_of_ble_eq_true rfl) (Nat.le_of_ble_eq_true rfl) ?_
                  refine hB i j si sj hi hj rfl rfl c_26 c_35 c_56 esi esj hsi hsj ?_
                  unfold hrn
                  first
                  | (rw [decide_eq_false (Int32.not_le.mpr c_67)]; simp)
                  | (rw [decide_eq_false (Int32.not_le.mpr c_71)]; simp)
                  | (rw [decide_eq_false (Int32.not_le.mpr c_76)]; simp)
                  | (rw [decide_eq_false (Int32.not_le.mpr c_89)]; simp)
                  | (rw [decide_eq_false c_103]; simp)
                · skip
                  refine V.iload d_Mo_move_79 rfl ?_
                  refine V.aload_n d_Mo_move_81 rfl ?_
                  refine V.get d_Mo_move_82 f_Mo_46_Mo mo_o rfl ?_
                  refine V.iload_n d_Mo_move_85 rfl ?_
                  refine V.mlda 12 (by decide) (by decide) d_Mo_move_86 (by first | omega | (show _ < 4; omega)) ?_
                  refine V.top esi ?_
                  refine V.iload_n d_Mo_move_87 rfl ?_
                  refine V.isub d_Mo_move_88 ?_
                  refine V.icmp_gt (tgt := 106) d_Mo_move_89 (by decide) (fun c_89 => ?_) (fun c_89 => ?_)
                  · skip
                    refine V.aload_n d_Mo_move_106 rfl ?_
                    refine V.iconst_ (nI 1) d_Mo_move_107 (by decide +kernel) ?_
                    refine V.callV1 d_Mo_move_108 k_Mo_138_Mo_finds_MoV mo_o (Nat.le_of_ble_eq_true rfl) (by omega) (by omega) (c_Mo_finds (by omega) ?_)
                    refine V.iret d_Mo_move_111 rfl (Nat.le_of_ble_eq_true rfl) (Nat.le_of_ble_eq_true rfl) ?_
                    refine hB i j si sj hi hj rfl rfl c_26 c_35 c_56 esi esj hsi hsj ?_
                    unfold hrn
                    first
                    | (rw [decide_eq_false (Int32.not_le.mpr c_67)]; simp)
                    | (rw [decide_eq_false (Int32.not_le.mpr c_71)]; simp)
                    | (rw [decide_eq_false (Int32.not_le.mpr c_76)]; simp)
                    | (rw [decide_eq_false (Int32.not_le.mpr c_89)]; simp)
                    | (rw [decide_eq_false c_103]; simp)
                  · skip
                    refine V.iload d_Mo_move_92 rfl ?_
                    refine V.aload_n d_Mo_move_94 rfl ?_
                    refine V.get d_Mo_move_95 f_Mo_46_Mo mo_o rfl ?_
                    refine V.iload_n d_Mo_move_98 rfl ?_
                    refine V.mlda 12 (by decide) (by decide) d_Mo_move_99 (by first | omega | (show _ < 4; omega)) ?_
                    refine V.top esj ?_
                    refine V.iload d_Mo_move_100 rfl ?_
                    refine V.isub d_Mo_move_102 ?_
                    refine V.icmp_le (tgt := 112) d_Mo_move_103 (by decide) (fun c_103 => ?_) (fun c_103 => ?_)
                    · skip
                      have hr1 : hrn y w (nI si) = true := by
                        unfold hrn
                        simp only [Bool.and_eq_true, decide_eq_true_eq]
                        exact ⟨⟨Int32.not_lt.mp c_71, Int32.not_lt.mp c_67⟩, Int32.not_lt.mp c_89⟩
                      have hr2 : hrn v w (nI sj) = true := by
                        unfold hrn
                        simp only [Bool.and_eq_true, decide_eq_true_eq]
                        exact ⟨⟨Int32.not_lt.mp c_76, Int32.not_lt.mp c_67⟩, c_103⟩
                      obtain ⟨a, k, hak, rfl, rfl⟩ := hrn_nat hsi hr1
                      obtain ⟨b, k2, hbk, rfl, ek2⟩ := hrn_nat hsj hr2
                      have ek3 : k = k2 := (nI_eq (by omega) (by omega)).mp ek2
                      subst ek3
                      refine V.iconst_ (nI 0) d_Mo_move_112 (by decide +kernel) ?_
                      refine V.istore d_Mo_move_113 (by decide) ?_
                      refine V.eqH (h' := mo q D (uA A 14 (cpN 0 (fun t => A 13 (40 * i + a + t)) (A 14))) S h0) (by rw [cpN_0, uA_id]) ?_
                      refine V.lc (ls' := [(0, .ref q), (1, .int (nI i)), (2, .int (nI a)), (3, .int (nI j)), (4, .int (nI b)), (5, .int (nI k)), (6, .int (nI 0))]) rfl ?_
                      refine up_to (G := fun t => V l M_Mo_move (d + 2) 0 0 115 [(0, .ref q), (1, .int (nI i)), (2, .int (nI a)), (3, .int (nI j)), (4, .int (nI b)), (5, .int (nI k)), (6, .int (nI t))] [] n (mo q D (uA A 14 (cpN t (fun t => A 13 (40 * i + a + t)) (A 14))) S h0) 0 0 Q) (k) ?_ (fun t ht hn => ?_) 0 (by omega)
                      · skip
                        refine V.iload d_Mo_move_115 rfl ?_
                        refine V.iload d_Mo_move_117 rfl ?_
                        refine V.geN (tgt := 149) d_Mo_move_119 (by decide) (by omega) (by omega) (fun c_119 => ?_) (fun c_119 => ?_)
                        · skip
                          refine V.iconst_ (nI 0) d_Mo_move_149 (by decide +kernel) ?_
                          refine V.istore d_Mo_move_150 (by decide) ?_
                          refine V.eqH (h' := mo q D (uA (uA A 14 (cpN k (fun t => A 13 (40 * i + a + t)) (A 14))) 13 (sgc (A 13) (cpN k (fun t => A 13 (40 * i + a + t)) (A 14)) (40 * j + b) 0)) S h0) (by rw [sgc_0]; congr 1; funext z; by_cases hz : z = 13 <;> simp [uA, hz]) ?_
                          refine V.lc (ls' := [(0, .ref q), (1, .int (nI i)), (2, .int (nI a)), (3, .int (nI j)), (4, .int (nI b)), (5, .int (nI k)), (6, .int (nI 0))]) rfl ?_
                          refine up_to (G := fun t => V l M_Mo_move (d + 2) 0 0 152 [(0, .ref q), (1, .int (nI i)), (2, .int (nI a)), (3, .int (nI j)), (4, .int (nI b)), (5, .int (nI k)), (6, .int (nI t))] [] n (mo q D (uA (uA A 14 (cpN k (fun t => A 13 (40 * i + a + t)) (A 14))) 13 (sgc (A 13) (cpN k (fun t => A 13 (40 * i + a + t)) (A 14)) (40 * j + b) t)) S h0) 0 0 Q) (k) ?_ (fun t ht hn => ?_) 0 (by omega)
                          · skip
                            refine V.iload d_Mo_move_152 rfl ?_
                            refine V.iload d_Mo_move_154 rfl ?_
                            refine V.geN (tgt := 187) d_Mo_move_156 (by decide) (by omega) (by omega) (fun c_156 => ?_) (fun c_156 => ?_)
                            · skip
                              refine V.iload d_Mo_move_187 rfl ?_
                              refine V.iret d_Mo_move_189 rfl (Nat.le_of_ble_eq_true rfl) (Nat.le_of_ble_eq_true rfl) ?_
                              have hOk' := hOk i j si sj a b k hi hj rfl rfl c_26 c_35 c_56 esi esj hsi hsj hak hbk rfl rfl rfl (cpN k (fun t => A 13 (40 * i + a + t)) (A 14))
                              rw [sgc_eq (g' := (fun t => A 13 (40 * i + a + t))) (fun t ht => by unfold cpN; rw [if_pos ht])]
                              exact hOk'
                            · skip
                              exact absurd c_156 (by omega)
                          · skip
                            rw [← sgc_s] at hn
                            refine V.iload d_Mo_move_152 rfl ?_
                            refine V.iload d_Mo_move_154 rfl ?_
                            refine V.geN (tgt := 187) d_Mo_move_156 (by decide) (by omega) (by omega) (fun c_156 => ?_) (fun c_156 => ?_)
                            · skip
                              exact absurd c_156 (by omega)
                            · skip
                              refine V.aload_n d_Mo_move_159 rfl ?_
                              refine V.get d_Mo_move_160 f_Mo_49_Mo mo_o rfl ?_
                              refine V.bipush_ (nI 40) d_Mo_move_163 (by decide +kernel) ?_
                              refine V.iload_n d_Mo_move_165 rfl ?_
                              refine V.mulN d_Mo_move_166 ?_
                              refine V.iload d_Mo_move_167 rfl ?_
                              refine V.addN d_Mo_move_169 ?_
                              refine V.iload d_Mo_move_170 rfl ?_
                              refine V.addN d_Mo_move_172 ?_
                              refine V.aload_n d_Mo_move_173 rfl ?_
                              refine V.get d_Mo_move_174 f_Mo_52_Mo mo_o rfl ?_
                              refine V.iload d_Mo_move_177 rfl ?_
                              refine V.mlda 14 (by decide) (by decide) d_Mo_move_179 (by first | omega | (show _ < 40; omega)) ?_
                              refine V.msta 13 (by decide) (by decide) d_Mo_move_180 (by first | omega | (show _ < 160; omega)) ?_
                              refine V.incN d_Mo_move_181 rfl (by decide) ?_
                              refine V.goto (tgt := 152) d_Mo_move_184 (by decide) ?_
                              rw [uA_uu, uA_s, uA_n (show (14 : Nat) ≠ 13 by decide), uA_s]
                              exact V.lc rfl hn
                        · skip
                          exact absurd c_119 (by omega)
                      · skip
                        rw [← cpN_s] at hn
                        refine V.iload d_Mo_move_115 rfl ?_
                        refine V.iload d_Mo_move_117 rfl ?_
                        refine V.geN (tgt := 149) d_Mo_move_119 (by decide) (by omega) (by omega) (fun c_119 => ?_) (fun c_119 => ?_)
                        · skip
                          exact absurd c_119 (by omega)
                        · skip
                          refine V.aload_n d_Mo_move_122 rfl ?_
                          refine V.get d_Mo_move_123 f_Mo_52_Mo mo_o rfl ?_
                          refine V.iload d_Mo_move_126 rfl ?_
                          refine V.aload_n d_Mo_move_128 rfl ?_
                          refine V.get d_Mo_move_129 f_Mo_49_Mo mo_o rfl ?_
                          refine V.bipush_ (nI 40) d_Mo_move_132 (by decide +kernel) ?_
                          refine V.iload_n d_Mo_move_134 rfl ?_
                          refine V.mulN d_Mo_move_135 ?_
                          refine V.iload_n d_Mo_move_136 rfl ?_
                          refine V.addN d_Mo_move_137 ?_
                          refine V.iload d_Mo_move_138 rfl ?_
                          refine V.addN d_Mo_move_140 ?_
                          refine V.mlda 13 (by decide) (by decide) d_Mo_move_141 (by first | omega | (show _ < 160; omega)) ?_
                          refine V.msta 14 (by decide) (by decide) d_Mo_move_142 (by first | omega | (show _ < 40; omega)) ?_
                          refine V.incN d_Mo_move_143 rfl (by decide) ?_
                          refine V.goto (tgt := 115) d_Mo_move_146 (by decide) ?_
                          rw [uA_uu, uA_s, uA_n (show (13 : Nat) ≠ 14 by decide)]
                          exact V.lc rfl hn
                    · skip
                      refine V.aload_n d_Mo_move_106 rfl ?_
                      refine V.iconst_ (nI 1) d_Mo_move_107 (by decide +kernel) ?_
                      refine V.callV1 d_Mo_move_108 k_Mo_138_Mo_finds_MoV mo_o (Nat.le_of_ble_eq_true rfl) (by omega) (by omega) (c_Mo_finds (by omega) ?_)
                      refine V.iret d_Mo_move_111 rfl (Nat.le_of_ble_eq_true rfl) (Nat.le_of_ble_eq_true rfl) ?_
                      refine hB i j si sj hi hj rfl rfl c_26 c_35 c_56 esi esj hsi hsj ?_
                      unfold hrn
                      first
                      | (rw [decide_eq_false (Int32.not_le.mpr c_67)]; simp)
                      | (rw [decide_eq_false (Int32.not_le.mpr c_71)]; simp)
                      | (rw [decide_eq_false (Int32.not_le.mpr c_76)]; simp)
                      | (rw [decide_eq_false (Int32.not_le.mpr c_89)]; simp)
                      | (rw [decide_eq_false c_103]; simp)
          · skip
            refine V.aload_n d_Mo_move_59 rfl ?_
            refine V.iconst_ (nI 5) d_Mo_move_60 (by decide +kernel) ?_
            refine V.callV1 d_Mo_move_61 k_Mo_138_Mo_finds_MoV mo_o (Nat.le_of_ble_eq_true rfl) (by omega) (by omega) (c_Mo_finds (by omega) ?_)
            refine V.iret d_Mo_move_64 rfl (Nat.le_of_ble_eq_true rfl) (Nat.le_of_ble_eq_true rfl) ?_
            exact hKd i j hi hj rfl rfl c_26 c_35 c_56
        · skip
          refine V.aload_n d_Mo_move_38 rfl ?_
          refine V.iconst_ (nI 2) d_Mo_move_39 (by decide +kernel) ?_
          refine V.callV1 d_Mo_move_40 k_Mo_138_Mo_finds_MoV mo_o (Nat.le_of_ble_eq_true rfl) (by omega) (by omega) (c_Mo_finds (by omega) ?_)
          refine V.iret d_Mo_move_43 rfl (Nat.le_of_ble_eq_true rfl) (Nat.le_of_ble_eq_true rfl) ?_
          exact hNo i j hi hj rfl rfl (by first | exact Or.inl c_26 | exact Or.inr c_35)
    · skip
      refine V.aload_n d_Mo_move_14 rfl ?_
      refine V.iconst_ (nI 1) d_Mo_move_15 (by decide +kernel) ?_
      refine V.callV1 d_Mo_move_16 k_Mo_138_Mo_finds_MoV mo_o (Nat.le_of_ble_eq_true rfl) (by omega) (by omega) (c_Mo_finds (by omega) ?_)
      refine V.iret d_Mo_move_19 rfl (Nat.le_of_ble_eq_true rfl) (Nat.le_of_ble_eq_true rfl) ?_
      exact hE (by simp only [c_4, c_11, Bool.and_false, Bool.false_and, Bool.and_true, Bool.true_and])
def tlD (D : Nat → Int32) (v : Nat) : Nat → Nat → Int32 := fun p => itr (fun p E => upd E (44 + p) (nI v)) p D
theorem tlD_x {D : Nat → Int32} {v j : Nat} (hj : j < 44 ∨ 50 ≤ j) : ∀ p, p ≤ 6 → tlD D v p j = D j := by
  intro p
  induction p with
  | zero => intro _; rfl
  | succ p ih =>
    intro hp
    show upd (tlD D v p) (44 + p) _ j = D j
    rw [pk_un (by omega)]
    exact ih (by omega)
def tlI (f : Nat → Int32) (g : Int32) (i : Nat) : Nat → Bool := fun t => itr (fun t b => b && decide (f (40 * i + t) = ((g >>> (nI t &&& 31)) &&& nI 1))) t true
def tlB (cv wv : Int32 → Int32 → Int32 → Int32) (N : Nat) (D : Nat → Int32) (k i : Nat) (f : Nat → Int32) : Nat → Nat × Int32 := fun v => itr (fun v ml => if tlI f (stb (dsD cv wv N k (tlD D v 6)).1 N) i N = true then (ml.1 + 1, if ml.1 = 0 then nI v else ml.2) else ml) v (0, -1)
theorem tlB_le {cv wv : Int32 → Int32 → Int32 → Int32} {N : Nat} {D : Nat → Int32} {k i : Nat} {f : Nat → Int32} : ∀ v, (tlB cv wv N D k i f v).1 ≤ v := by
  intro v
  induction v with
  | zero => exact Nat.le_refl _
  | succ v ih =>
    show (if tlI f (stb (dsD cv wv N k (tlD D v 6)).1 N) i N = true then ((tlB cv wv N D k i f v).1 + 1, if (tlB cv wv N D k i f v).1 = 0 then nI v else (tlB cv wv N D k i f v).2) else tlB cv wv N D k i f v).1 ≤ v + 1
    split
    · show (tlB cv wv N D k i f v).1 + 1 ≤ v + 1; omega
    · omega
theorem tlB_s {cv wv : Int32 → Int32 → Int32 → Int32} {N : Nat} {D : Nat → Int32} {k i : Nat} {f : Nat → Int32} (v : Nat) : tlB cv wv N D k i f (v + 1) = if tlI f (stb (dsD cv wv N k (tlD D v 6)).1 N) i N = true then ((tlB cv wv N D k i f v).1 + 1, if (tlB cv wv N D k i f v).1 = 0 then nI v else (tlB cv wv N D k i f v).2) else tlB cv wv N D k i f v := rfl
abbrev M_Mo_talked : MD := (⟨"FelledByNamesModel", "talked", "(II)I"⟩, prog_14_method_62_code, 10, (some .int), fun _ => True)
theorem d_Mo_talked_0 : decode prog_14_method_62_code 0 = .ok (.iload_n 1, 1) := by decide +kernel
theorem d_Mo_talked_1 : decode prog_14_method_62_code 1 = .ok (.invokestatic 245, 3) := by decide +kernel
theorem d_Mo_talked_4 : decode prog_14_method_62_code 4 = .ok (.ifCond .eq 13, 3) := by decide +kernel
theorem d_Mo_talked_17 : decode prog_14_method_62_code 17 = .ok (.aload_n 0, 1) := by decide +kernel
theorem d_Mo_talked_18 : decode prog_14_method_62_code 18 = .ok (.iconst 1, 1) := by decide +kernel
theorem d_Mo_talked_19 : decode prog_14_method_62_code 19 = .ok (.invokevirtual 138, 3) := by decide +kernel
theorem d_Mo_talked_22 : decode prog_14_method_62_code 22 = .ok (.ireturn, 1) := by decide +kernel
theorem d_Mo_talked_7 : decode prog_14_method_62_code 7 = .ok (.iload_n 2, 1) := by decide +kernel
theorem d_Mo_talked_8 : decode prog_14_method_62_code 8 = .ok (.i2l, 1) := by decide +kernel
theorem d_Mo_talked_9 : decode prog_14_method_62_code 9 = .ok (.lconst 0, 1) := by decide +kernel
theorem d_Mo_talked_10 : decode prog_14_method_62_code 10 = .ok (.lconst 1, 1) := by decide +kernel
theorem d_Mo_talked_11 : decode prog_14_method_62_code 11 = .ok (.invokestatic 56, 3) := by decide +kernel
theorem d_Mo_talked_14 : decode prog_14_method_62_code 14 = .ok (.ifCond .ne 9, 3) := by decide +kernel
theorem d_Mo_talked_23 : decode prog_14_method_62_code 23 = .ok (.aload_n 0, 1) := by decide +kernel
theorem d_Mo_talked_24 : decode prog_14_method_62_code 24 = .ok (.getfield 46, 3) := by decide +kernel
theorem d_Mo_talked_27 : decode prog_14_method_62_code 27 = .ok (.iload_n 1, 1) := by decide +kernel
theorem d_Mo_talked_28 : decode prog_14_method_62_code 28 = .ok (.iaload, 1) := by decide +kernel
theorem d_Mo_talked_29 : decode prog_14_method_62_code 29 = .ok (.istore_n 3, 1) := by decide +kernel
theorem d_Mo_talked_30 : decode prog_14_method_62_code 30 = .ok (.aload_n 0, 1) := by decide +kernel
theorem d_Mo_talked_31 : decode prog_14_method_62_code 31 = .ok (.getfield 43, 3) := by decide +kernel
theorem d_Mo_talked_34 : decode prog_14_method_62_code 34 = .ok (.iload_n 1, 1) := by decide +kernel
theorem d_Mo_talked_35 : decode prog_14_method_62_code 35 = .ok (.iaload, 1) := by decide +kernel
theorem d_Mo_talked_36 : decode prog_14_method_62_code 36 = .ok (.ifCond .eq 39, 3) := by decide +kernel
theorem d_Mo_talked_75 : decode prog_14_method_62_code 75 = .ok (.aload_n 0, 1) := by decide +kernel
theorem d_Mo_talked_76 : decode prog_14_method_62_code 76 = .ok (.iconst 2, 1) := by decide +kernel
theorem d_Mo_talked_77 : decode prog_14_method_62_code 77 = .ok (.invokevirtual 138, 3) := by decide +kernel
theorem d_Mo_talked_80 : decode prog_14_method_62_code 80 = .ok (.ireturn, 1) := by decide +kernel
theorem d_Mo_talked_39 : decode prog_14_method_62_code 39 = .ok (.iload_n 3, 1) := by decide +kernel
theorem d_Mo_talked_40 : decode prog_14_method_62_code 40 = .ok (.aload_n 0, 1) := by decide +kernel
theorem d_Mo_talked_41 : decode prog_14_method_62_code 41 = .ok (.getfield 7, 3) := by decide +kernel
theorem d_Mo_talked_44 : decode prog_14_method_62_code 44 = .ok (.iconst 0, 1) := by decide +kernel
theorem d_Mo_talked_45 : decode prog_14_method_62_code 45 = .ok (.iaload, 1) := by decide +kernel
theorem d_Mo_talked_46 : decode prog_14_method_62_code 46 = .ok (.iconst 1, 1) := by decide +kernel
theorem d_Mo_talked_47 : decode prog_14_method_62_code 47 = .ok (.iadd, 1) := by decide +kernel
theorem d_Mo_talked_48 : decode prog_14_method_62_code 48 = .ok (.if_icmp .ne 27, 3) := by decide +kernel
theorem d_Mo_talked_51 : decode prog_14_method_62_code 51 = .ok (.aload_n 0, 1) := by decide +kernel
theorem d_Mo_talked_52 : decode prog_14_method_62_code 52 = .ok (.getfield 49, 3) := by decide +kernel
theorem d_Mo_talked_55 : decode prog_14_method_62_code 55 = .ok (.bipush 40, 2) := by decide +kernel
theorem d_Mo_talked_57 : decode prog_14_method_62_code 57 = .ok (.iload_n 1, 1) := by decide +kernel
theorem d_Mo_talked_58 : decode prog_14_method_62_code 58 = .ok (.imul, 1) := by decide +kernel
theorem d_Mo_talked_59 : decode prog_14_method_62_code 59 = .ok (.iload_n 3, 1) := by decide +kernel
theorem d_Mo_talked_60 : decode prog_14_method_62_code 60 = .ok (.iadd, 1) := by decide +kernel
theorem d_Mo_talked_61 : decode prog_14_method_62_code 61 = .ok (.iconst 1, 1) := by decide +kernel
theorem d_Mo_talked_62 : decode prog_14_method_62_code 62 = .ok (.isub, 1) := by decide +kernel
theorem d_Mo_talked_63 : decode prog_14_method_62_code 63 = .ok (.iaload, 1) := by decide +kernel
theorem d_Mo_talked_64 : decode prog_14_method_62_code 64 = .ok (.i2l, 1) := by decide +kernel
theorem d_Mo_talked_65 : decode prog_14_method_62_code 65 = .ok (.lconst 0, 1) := by decide +kernel
theorem d_Mo_talked_66 : decode prog_14_method_62_code 66 = .ok (.ldc2_w 240, 3) := by decide +kernel
theorem d_Mo_talked_69 : decode prog_14_method_62_code 69 = .ok (.invokestatic 56, 3) := by decide +kernel
theorem d_Mo_talked_72 : decode prog_14_method_62_code 72 = .ok (.ifCond .ne 9, 3) := by decide +kernel
theorem d_Mo_talked_81 : decode prog_14_method_62_code 81 = .ok (.aload_n 0, 1) := by decide +kernel
theorem d_Mo_talked_82 : decode prog_14_method_62_code 82 = .ok (.invokevirtual 228, 3) := by decide +kernel
theorem d_Mo_talked_85 : decode prog_14_method_62_code 85 = .ok (.iconst 0, 1) := by decide +kernel
theorem d_Mo_talked_86 : decode prog_14_method_62_code 86 = .ok (.istore 4, 2) := by decide +kernel
theorem d_Mo_talked_88 : decode prog_14_method_62_code 88 = .ok (.iconst (-1), 1) := by decide +kernel
theorem d_Mo_talked_89 : decode prog_14_method_62_code 89 = .ok (.istore 5, 2) := by decide +kernel
theorem d_Mo_talked_91 : decode prog_14_method_62_code 91 = .ok (.iconst 0, 1) := by decide +kernel
theorem d_Mo_talked_92 : decode prog_14_method_62_code 92 = .ok (.istore 6, 2) := by decide +kernel
theorem d_Mo_talked_94 : decode prog_14_method_62_code 94 = .ok (.iload 6, 2) := by decide +kernel
theorem d_Mo_talked_96 : decode prog_14_method_62_code 96 = .ok (.bipush 10, 2) := by decide +kernel
theorem d_Mo_talked_98 : decode prog_14_method_62_code 98 = .ok (.if_icmp .ge 147, 3) := by decide +kernel
theorem d_Mo_talked_245 : decode prog_14_method_62_code 245 = .ok (.iload_n 2, 1) := by decide +kernel
theorem d_Mo_talked_246 : decode prog_14_method_62_code 246 = .ok (.ifCond .ne 8, 3) := by decide +kernel
theorem d_Mo_talked_254 : decode prog_14_method_62_code 254 = .ok (.iload 4, 2) := by decide +kernel
theorem d_Mo_talked_256 : decode prog_14_method_62_code 256 = .ok (.ifCond .ne 11, 3) := by decide +kernel
theorem d_Mo_talked_267 : decode prog_14_method_62_code 267 = .ok (.iload 5, 2) := by decide +kernel
theorem d_Mo_talked_269 : decode prog_14_method_62_code 269 = .ok (.ireturn, 1) := by decide +kernel
theorem d_Mo_talked_259 : decode prog_14_method_62_code 259 = .ok (.aload_n 0, 1) := by decide +kernel
theorem d_Mo_talked_260 : decode prog_14_method_62_code 260 = .ok (.iconst 2, 1) := by decide +kernel
theorem d_Mo_talked_261 : decode prog_14_method_62_code 261 = .ok (.invokevirtual 138, 3) := by decide +kernel
theorem d_Mo_talked_264 : decode prog_14_method_62_code 264 = .ok (.goto 5, 3) := by decide +kernel
theorem d_Mo_talked_249 : decode prog_14_method_62_code 249 = .ok (.iload 4, 2) := by decide +kernel
theorem d_Mo_talked_251 : decode prog_14_method_62_code 251 = .ok (.goto 18, 3) := by decide +kernel
theorem d_Mo_talked_101 : decode prog_14_method_62_code 101 = .ok (.iconst 0, 1) := by decide +kernel
theorem d_Mo_talked_102 : decode prog_14_method_62_code 102 = .ok (.istore 7, 2) := by decide +kernel
theorem d_Mo_talked_104 : decode prog_14_method_62_code 104 = .ok (.iload 7, 2) := by decide +kernel
theorem d_Mo_talked_106 : decode prog_14_method_62_code 106 = .ok (.bipush 6, 2) := by decide +kernel
theorem d_Mo_talked_108 : decode prog_14_method_62_code 108 = .ok (.if_icmp .ge 21, 3) := by decide +kernel
theorem d_Mo_talked_129 : decode prog_14_method_62_code 129 = .ok (.aload_n 0, 1) := by decide +kernel
theorem d_Mo_talked_130 : decode prog_14_method_62_code 130 = .ok (.aload_n 0, 1) := by decide +kernel
theorem d_Mo_talked_131 : decode prog_14_method_62_code 131 = .ok (.getfield 49, 3) := by decide +kernel
theorem d_Mo_talked_134 : decode prog_14_method_62_code 134 = .ok (.bipush 40, 2) := by decide +kernel
theorem d_Mo_talked_136 : decode prog_14_method_62_code 136 = .ok (.iload_n 1, 1) := by decide +kernel
theorem d_Mo_talked_137 : decode prog_14_method_62_code 137 = .ok (.imul, 1) := by decide +kernel
theorem d_Mo_talked_138 : decode prog_14_method_62_code 138 = .ok (.iload_n 3, 1) := by decide +kernel
theorem d_Mo_talked_139 : decode prog_14_method_62_code 139 = .ok (.iadd, 1) := by decide +kernel
theorem d_Mo_talked_140 : decode prog_14_method_62_code 140 = .ok (.iconst 1, 1) := by decide +kernel
theorem d_Mo_talked_141 : decode prog_14_method_62_code 141 = .ok (.isub, 1) := by decide +kernel
theorem d_Mo_talked_142 : decode prog_14_method_62_code 142 = .ok (.iaload, 1) := by decide +kernel
theorem d_Mo_talked_143 : decode prog_14_method_62_code 143 = .ok (.invokevirtual 237, 3) := by decide +kernel
theorem d_Mo_talked_146 : decode prog_14_method_62_code 146 = .ok (.istore 7, 2) := by decide +kernel
theorem d_Mo_talked_148 : decode prog_14_method_62_code 148 = .ok (.iconst 1, 1) := by decide +kernel
theorem d_Mo_talked_149 : decode prog_14_method_62_code 149 = .ok (.istore 8, 2) := by decide +kernel
theorem d_Mo_talked_151 : decode prog_14_method_62_code 151 = .ok (.iconst 0, 1) := by decide +kernel
theorem d_Mo_talked_152 : decode prog_14_method_62_code 152 = .ok (.istore 9, 2) := by decide +kernel
theorem d_Mo_talked_154 : decode prog_14_method_62_code 154 = .ok (.iload 9, 2) := by decide +kernel
theorem d_Mo_talked_156 : decode prog_14_method_62_code 156 = .ok (.aload_n 0, 1) := by decide +kernel
theorem d_Mo_talked_157 : decode prog_14_method_62_code 157 = .ok (.getfield 7, 3) := by decide +kernel
theorem d_Mo_talked_160 : decode prog_14_method_62_code 160 = .ok (.iconst 0, 1) := by decide +kernel
theorem d_Mo_talked_161 : decode prog_14_method_62_code 161 = .ok (.iaload, 1) := by decide +kernel
theorem d_Mo_talked_162 : decode prog_14_method_62_code 162 = .ok (.if_icmp .ge 43, 3) := by decide +kernel
theorem d_Mo_talked_205 : decode prog_14_method_62_code 205 = .ok (.iload 8, 2) := by decide +kernel
theorem d_Mo_talked_207 : decode prog_14_method_62_code 207 = .ok (.ifCond .eq 13, 3) := by decide +kernel
theorem d_Mo_talked_220 : decode prog_14_method_62_code 220 = .ok (.iload 5, 2) := by decide +kernel
theorem d_Mo_talked_222 : decode prog_14_method_62_code 222 = .ok (.istore 5, 2) := by decide +kernel
theorem d_Mo_talked_224 : decode prog_14_method_62_code 224 = .ok (.iload 4, 2) := by decide +kernel
theorem d_Mo_talked_226 : decode prog_14_method_62_code 226 = .ok (.iload 8, 2) := by decide +kernel
theorem d_Mo_talked_228 : decode prog_14_method_62_code 228 = .ok (.ifCond .eq 7, 3) := by decide +kernel
theorem d_Mo_talked_235 : decode prog_14_method_62_code 235 = .ok (.iconst 0, 1) := by decide +kernel
theorem d_Mo_talked_236 : decode prog_14_method_62_code 236 = .ok (.iadd, 1) := by decide +kernel
theorem d_Mo_talked_237 : decode prog_14_method_62_code 237 = .ok (.istore 4, 2) := by decide +kernel
theorem d_Mo_talked_239 : decode prog_14_method_62_code 239 = .ok (.iinc 6 1, 3) := by decide +kernel
theorem d_Mo_talked_242 : decode prog_14_method_62_code 242 = .ok (.goto (-148), 3) := by decide +kernel
theorem d_Mo_talked_231 : decode prog_14_method_62_code 231 = .ok (.iconst 1, 1) := by decide +kernel
theorem d_Mo_talked_232 : decode prog_14_method_62_code 232 = .ok (.goto 4, 3) := by decide +kernel
theorem d_Mo_talked_210 : decode prog_14_method_62_code 210 = .ok (.iload 4, 2) := by decide +kernel
theorem d_Mo_talked_212 : decode prog_14_method_62_code 212 = .ok (.ifCond .ne 8, 3) := by decide +kernel
theorem d_Mo_talked_215 : decode prog_14_method_62_code 215 = .ok (.iload 6, 2) := by decide +kernel
theorem d_Mo_talked_217 : decode prog_14_method_62_code 217 = .ok (.goto 5, 3) := by decide +kernel
theorem d_Mo_talked_165 : decode prog_14_method_62_code 165 = .ok (.iload 8, 2) := by decide +kernel
theorem d_Mo_talked_167 : decode prog_14_method_62_code 167 = .ok (.ifCond .eq 29, 3) := by decide +kernel
theorem d_Mo_talked_196 : decode prog_14_method_62_code 196 = .ok (.iconst 0, 1) := by decide +kernel
theorem d_Mo_talked_197 : decode prog_14_method_62_code 197 = .ok (.istore 8, 2) := by decide +kernel
theorem d_Mo_talked_199 : decode prog_14_method_62_code 199 = .ok (.iinc 9 1, 3) := by decide +kernel
theorem d_Mo_talked_202 : decode prog_14_method_62_code 202 = .ok (.goto (-48), 3) := by decide +kernel
theorem d_Mo_talked_170 : decode prog_14_method_62_code 170 = .ok (.aload_n 0, 1) := by decide +kernel
theorem d_Mo_talked_171 : decode prog_14_method_62_code 171 = .ok (.getfield 49, 3) := by decide +kernel
theorem d_Mo_talked_174 : decode prog_14_method_62_code 174 = .ok (.bipush 40, 2) := by decide +kernel
theorem d_Mo_talked_176 : decode prog_14_method_62_code 176 = .ok (.iload_n 1, 1) := by decide +kernel
theorem d_Mo_talked_177 : decode prog_14_method_62_code 177 = .ok (.imul, 1) := by decide +kernel
theorem d_Mo_talked_178 : decode prog_14_method_62_code 178 = .ok (.iload 9, 2) := by decide +kernel
theorem d_Mo_talked_180 : decode prog_14_method_62_code 180 = .ok (.iadd, 1) := by decide +kernel
theorem d_Mo_talked_181 : decode prog_14_method_62_code 181 = .ok (.iaload, 1) := by decide +kernel
theorem d_Mo_talked_182 : decode prog_14_method_62_code 182 = .ok (.iload 7, 2) := by decide +kernel
theorem d_Mo_talked_184 : decode prog_14_method_62_code 184 = .ok (.iload 9, 2) := by decide +kernel
theorem d_Mo_talked_186 : decode prog_14_method_62_code 186 = .ok (.ishr, 1) := by decide +kernel
theorem d_Mo_talked_187 : decode prog_14_method_62_code 187 = .ok (.iconst 1, 1) := by decide +kernel
theorem d_Mo_talked_188 : decode prog_14_method_62_code 188 = .ok (.iand, 1) := by decide +kernel
theorem d_Mo_talked_189 : decode prog_14_method_62_code 189 = .ok (.if_icmp .ne 7, 3) := by decide +kernel
theorem d_Mo_talked_192 : decode prog_14_method_62_code 192 = .ok (.iconst 1, 1) := by decide +kernel
theorem d_Mo_talked_193 : decode prog_14_method_62_code 193 = .ok (.goto 4, 3) := by decide +kernel
theorem d_Mo_talked_111 : decode prog_14_method_62_code 111 = .ok (.aload_n 0, 1) := by decide +kernel
theorem d_Mo_talked_112 : decode prog_14_method_62_code 112 = .ok (.getfield 7, 3) := by decide +kernel
theorem d_Mo_talked_115 : decode prog_14_method_62_code 115 = .ok (.bipush 44, 2) := by decide +kernel
theorem d_Mo_talked_117 : decode prog_14_method_62_code 117 = .ok (.iload 7, 2) := by decide +kernel
theorem d_Mo_talked_119 : decode prog_14_method_62_code 119 = .ok (.iadd, 1) := by decide +kernel
theorem d_Mo_talked_120 : decode prog_14_method_62_code 120 = .ok (.iload 6, 2) := by decide +kernel
theorem d_Mo_talked_122 : decode prog_14_method_62_code 122 = .ok (.iastore, 1) := by decide +kernel
theorem d_Mo_talked_123 : decode prog_14_method_62_code 123 = .ok (.iinc 7 1, 3) := by decide +kernel
theorem d_Mo_talked_126 : decode prog_14_method_62_code 126 = .ok (.goto (-22), 3) := by decide +kernel
set_option maxRecDepth 100000 in
theorem c_Mo_talked {x y : Int32} {N fm len0 len1 : Nat} {W0 W1 : Nat → Nat} {l : Launch} {d q n : Nat} {D : Nat → Int32} {A : Nat → Nat → Int32} {S : Nat → Int32} {h0 : HP} {Q : QT} (hN : N ≤ 8) (hD : DW D N W0 len0 W1 len1) (hf : fm < 2 ^ 25) (ef : S 18 = nI fm) (hSz : ∀ i, i < 4 → NB (A 12) i 40) (hE : (wi x (nI 0) (nI 3) && wi y (nI 0) (nI 1)) = false → Q (some (.int (-1000000000 - nI 1))) n (mo q D (uA A 3 (upd (A 3) 1 (A 3 1 + nI 1))) S h0)) (hNo : ∀ i z sz, i ≤ 3 → z ≤ 1 → x = nI i → y = nI z →  A 12 i = nI sz → sz ≤ 40 → (A 11 i = 0 ∨ sz ≠ N + 1 ∨ (sz = N + 1 ∧ wi (A 13 (40 * i + N)) (nI 0) (nI 30) = false)) → Q (some (.int (-1000000000 - nI 2))) n (mo q D (uA A 3 (upd (A 3) 2 (A 3 2 + nI 1))) S h0)) (hN2 : ∀ i z k, i ≤ 3 → z ≤ 1 → x = nI i → y = nI z → ¬ A 11 i = 0 → A 12 i = nI (N + 1) → A 13 (40 * i + N) = nI k → k ≤ 30 →  z = 1 → (tlB (tgv 0 W0 len0) (tgv 1 W1 len1) N D k i (A 13) 10).1 = 0 → ∀ (A1 : Nat → Nat → Int32) (f1 : Nat), (∀ j, j ≠ 2 → j ≠ 4 → j ≠ 6 → j ≠ 7 → j ≠ 8 → j ≠ 9 → A1 j = A j) → f1 ≤ fm + 40000 →  Q (some (.int (-1000000000 - nI 2))) n (mo q D (uA A1 3 (upd (A 3) 2 (A 3 2 + nI 1))) (uS S 18 (nI f1)) h0)) (hOk : ∀ i z k, i ≤ 3 → z ≤ 1 → x = nI i → y = nI z → ¬ A 11 i = 0 → A 12 i = nI (N + 1) → A 13 (40 * i + N) = nI k → k ≤ 30 →  (z = 0 ∨ ¬ (tlB (tgv 0 W0 len0) (tgv 1 W1 len1) N D k i (A 13) 10).1 = 0) → ∀ (A1 : Nat → Nat → Int32) (f1 : Nat), (∀ j, j ≠ 2 → j ≠ 4 → j ≠ 6 → j ≠ 7 → j ≠ 8 → j ≠ 9 → A1 j = A j) → f1 ≤ fm + 40000 →  Q (some (.int (if z = 0 then nI (tlB (tgv 0 W0 len0) (tgv 1 W1 len1) N D k i (A 13) 10).1 else (tlB (tgv 0 W0 len0) (tgv 1 W1 len1) N D k i (A 13) 10).2))) n (mo q D A1 (uS S 18 (nI f1)) h0)) : Ct l M_Mo_talked (d + 8) 0 0 [.ref q, .int x, .int y] n (mo q D A S h0) Q := by
  refine Ct.of (fun _ => trivial) (by decide) (Nat.le_of_ble_eq_true rfl) ?_
  refine V.iload_n d_Mo_talked_0 rfl ?_
  refine V.callS1 d_Mo_talked_1 k_Mo_245_Mo_isSheetS (Nat.le_of_ble_eq_true rfl) (by omega) (by omega) (c_Mo_isSheet ?_)
  refine V.ifeqB (tgt := 17) d_Mo_talked_4 (by decide) (fun c_4 => ?_) (fun c_4 => ?_)
  · skip
    refine V.aload_n d_Mo_talked_17 rfl ?_
    refine V.iconst_ (nI 1) d_Mo_talked_18 (by decide +kernel) ?_
    refine V.callV1 d_Mo_talked_19 k_Mo_138_Mo_finds_MoV mo_o (Nat.le_of_ble_eq_true rfl) (by omega) (by omega) (c_Mo_finds (by omega) ?_)
    refine V.iret d_Mo_talked_22 rfl (Nat.le_of_ble_eq_true rfl) (Nat.le_of_ble_eq_true rfl) ?_
    exact hE (by simp only [c_4, Bool.and_false, Bool.false_and, Bool.and_true, Bool.true_and])
  · skip
    refine V.iload_n d_Mo_talked_7 rfl ?_
    refine V.i2l d_Mo_talked_8 ?_
    refine V.lconst_ ((nI 0).toInt64) d_Mo_talked_9 (by decide +kernel) ?_
    refine V.lconst_ ((nI 1).toInt64) d_Mo_talked_10 (by decide +kernel) ?_
    refine V.callS3 d_Mo_talked_11 k_Mo_56_Mo_inS (Nat.le_of_ble_eq_true rfl) (by omega) (by omega) (c_Mo_in ?_)
    refine V.ifneB (tgt := 23) d_Mo_talked_14 (by decide) (fun c_14 => ?_) (fun c_14 => ?_)
    · skip
      obtain ⟨i, hi, rfl⟩ := wi_nat (by decide) c_4
      obtain ⟨z, hz, rfl⟩ := wi_nat (by decide) c_14
      obtain ⟨sz, hsz, esz⟩ := hSz i (by omega)
      refine V.aload_n d_Mo_talked_23 rfl ?_
      refine V.get d_Mo_talked_24 f_Mo_46_Mo mo_o rfl ?_
      refine V.iload_n d_Mo_talked_27 rfl ?_
      refine V.mlda 12 (by decide) (by decide) d_Mo_talked_28 (by first | omega | (show _ < 4; omega)) ?_
      refine V.top esz ?_
      refine V.istore_n d_Mo_talked_29 (by decide) ?_
      refine V.aload_n d_Mo_talked_30 rfl ?_
      refine V.get d_Mo_talked_31 f_Mo_43_Mo mo_o rfl ?_
      refine V.iload_n d_Mo_talked_34 rfl ?_
      refine V.mlda 11 (by decide) (by decide) d_Mo_talked_35 (by first | omega | (show _ < 4; omega)) ?_
      refine V.if_eq (tgt := 75) d_Mo_talked_36 (by decide) (fun c_36 => ?_) (fun c_36 => ?_)
      · skip
        refine V.aload_n d_Mo_talked_75 rfl ?_
        refine V.iconst_ (nI 2) d_Mo_talked_76 (by decide +kernel) ?_
        refine V.callV1 d_Mo_talked_77 k_Mo_138_Mo_finds_MoV mo_o (Nat.le_of_ble_eq_true rfl) (by omega) (by omega) (c_Mo_finds (by omega) ?_)
        refine V.iret d_Mo_talked_80 rfl (Nat.le_of_ble_eq_true rfl) (Nat.le_of_ble_eq_true rfl) ?_
        first
        | exact hNo i z sz hi hz rfl rfl esz hsz (Or.inl c_36)
        | exact hNo i z sz hi hz rfl rfl esz hsz (Or.inr (Or.inl c_48))
        | exact hNo i z (N + 1) hi hz rfl rfl esz hsz (Or.inr (Or.inr ⟨rfl, c_72⟩))
      · skip
        refine V.iload_n d_Mo_talked_39 rfl ?_
        refine V.aload_n d_Mo_talked_40 rfl ?_
        refine V.get d_Mo_talked_41 f_Mo_7_Mo mo_o rfl ?_
        refine V.iconst_ (nI 0) d_Mo_talked_44 (by decide +kernel) ?_
        skip
        refine V.mldd d_Mo_talked_45 (by omega) ?_
        refine V.top hD.1 ?_
        refine V.iconst_ (nI 1) d_Mo_talked_46 (by decide +kernel) ?_
        refine V.addN d_Mo_talked_47 ?_
        refine V.neN (tgt := 75) d_Mo_talked_48 (by decide) (by omega) (by omega) (fun c_48 => ?_) (fun c_48 => ?_)
        · skip
          refine V.aload_n d_Mo_talked_75 rfl ?_
          refine V.iconst_ (nI 2) d_Mo_talked_76 (by decide +kernel) ?_
          refine V.callV1 d_Mo_talked_77 k_Mo_138_Mo_finds_MoV mo_o (Nat.le_of_ble_eq_true rfl) (by omega) (by omega) (c_Mo_finds (by omega) ?_)
          refine V.iret d_Mo_talked_80 rfl (Nat.le_of_ble_eq_true rfl) (Nat.le_of_ble_eq_true rfl) ?_
          first
          | exact hNo i z sz hi hz rfl rfl esz hsz (Or.inl c_36)
          | exact hNo i z sz hi hz rfl rfl esz hsz (Or.inr (Or.inl c_48))
          | exact hNo i z (N + 1) hi hz rfl rfl esz hsz (Or.inr (Or.inr ⟨rfl, c_72⟩))
        · skip
          have esz2 : sz = N + 1 := c_48
          subst esz2
          refine V.aload_n d_Mo_talked_51 rfl ?_
          refine V.get d_Mo_talked_52 f_Mo_49_Mo mo_o rfl ?_
          refine V.bipush_ (nI 40) d_Mo_talked_55 (by decide +kernel) ?_
          refine V.iload_n d_Mo_talked_57 rfl ?_
          refine V.mulN d_Mo_talked_58 ?_
          refine V.iload_n d_Mo_talked_59 rfl ?_
          refine V.addN d_Mo_talked_60 ?_
          refine V.iconst_ (nI 1) d_Mo_talked_61 (by decide +kernel) ?_
          refine V.subN d_Mo_talked_62 (by omega) ?_
          rw [show 40 * i + (N + 1) - 1 = 40 * i + N by omega]
          refine V.mlda 13 (by decide) (by decide) d_Mo_talked_63 (by first | omega | (show _ < 160; omega)) ?_
          refine V.i2l d_Mo_talked_64 ?_
          refine V.lconst_ ((nI 0).toInt64) d_Mo_talked_65 (by decide +kernel) ?_
          refine V.ldc2 (v := 30) d_Mo_talked_66 (tm 1379 (by decide +kernel) rfl) ?_
          refine V.eqS (st' := .long ((nI 30).toInt64) :: _) rfl ?_
          refine V.callS3 d_Mo_talked_69 k_Mo_56_Mo_inS (Nat.le_of_ble_eq_true rfl) (by omega) (by omega) (c_Mo_in ?_)
          refine V.ifneB (tgt := 81) d_Mo_talked_72 (by decide) (fun c_72 => ?_) (fun c_72 => ?_)
          · skip
            obtain ⟨k, hk, ek⟩ := wi_nat (by decide) c_72
            refine V.aload_n d_Mo_talked_81 rfl ?_
            refine V.callV0 d_Mo_talked_82 k_Mo_228_Mo_keepAside_MoV mo_o (Nat.le_of_ble_eq_true rfl) (by omega) (by omega) (c_Mo_keepAside ?_)
            refine V.iconst_ (nI 0) d_Mo_talked_85 (by decide +kernel) ?_
            refine V.istore d_Mo_talked_86 (by decide) ?_
            refine V.iconst_ (-1) d_Mo_talked_88 (by decide +kernel) ?_
            refine V.istore d_Mo_talked_89 (by decide) ?_
            refine V.iconst_ (nI 0) d_Mo_talked_91 (by decide +kernel) ?_
            refine V.istore d_Mo_talked_92 (by decide) ?_
            refine V.eqH (h' := mo q D (uA A 2 (cpN 106 D (A 2))) (uS S 18 (nI fm)) h0) (by rw [show uS S 18 (nI fm) = S from uS_18 ef]) ?_
            refine V.lc (ls' := [(0, .ref q), (1, .int (nI i)), (2, .int (nI z)), (3, .int (nI (N + 1))), (4, .int (nI (tlB (tgv 0 W0 len0) (tgv 1 W1 len1) N D k i (A 13) 0).1)), (5, .int (tlB (tgv 0 W0 len0) (tgv 1 W1 len1) N D k i (A 13) 0).2), (6, .int (nI 0))]) rfl ?_
            refine up_to (G := fun v => ∀ (A1 : Nat → Nat → Int32) (f1 : Nat), (∀ j, j ≠ 2 → j ≠ 4 → j ≠ 6 → j ≠ 7 → j ≠ 8 → j ≠ 9 → A1 j = A j) → A1 2 = cpN 106 D (A 2) → f1 ≤ fm + 500 * v → V l M_Mo_talked (d + 8) 0 0 94 [(0, .ref q), (1, .int (nI i)), (2, .int (nI z)), (3, .int (nI (N + 1))), (4, .int (nI (tlB (tgv 0 W0 len0) (tgv 1 W1 len1) N D k i (A 13) v).1)), (5, .int (tlB (tgv 0 W0 len0) (tgv 1 W1 len1) N D k i (A 13) v).2), (6, .int (nI v))] [] n (mo q D A1 (uS S 18 (nI f1)) h0) 0 0 Q) (10) ?_ (fun v hv hn => ?_) 0 (by omega) (uA A 2 (cpN 106 D (A 2))) fm (fun j h1 _ _ _ _ _ => uA_n h1) uA_s (by omega)
            · skip
              intro A1 f1 hA1 hA12 hf1
              refine V.iload d_Mo_talked_94 rfl ?_
              refine V.bipush_ (nI 10) d_Mo_talked_96 (by decide +kernel) ?_
              refine V.geN (tgt := 245) d_Mo_talked_98 (by decide) (by omega) (by omega) (fun c_98 => ?_) (fun c_98 => ?_)
              · skip
                refine V.iload_n d_Mo_talked_245 rfl ?_
                refine V.if_ne (tgt := 254) d_Mo_talked_246 (by decide) (fun c_246 => ?_) (fun c_246 => ?_)
                · skip
                  refine V.iload d_Mo_talked_254 rfl ?_
                  refine V.if_ne (tgt := 267) d_Mo_talked_256 (by decide) (fun c_256 => ?_) (fun c_256 => ?_)
                  · skip
                    refine V.iload d_Mo_talked_267 rfl ?_
                    refine V.iret d_Mo_talked_269 rfl (Nat.le_of_ble_eq_true rfl) (Nat.le_of_ble_eq_true rfl) ?_
                    first
                    | (have hOk' := hOk i z k hi hz rfl rfl c_36 esz ek hk (Or.inl ((nI_eq (by omega) (by decide)).mp (show nI z = nI 0 from c_246))) A1 f1 hA1 (by omega)
                       rw [if_pos ((nI_eq (by omega) (by decide)).mp (show nI z = nI 0 from c_246))] at hOk'
                       exact hOk')
                    | (have hz1 : ¬ z = 0 := fun e => c_246 (by rw [e]; rfl)
                       have hN2' := hN2 i z k hi hz rfl rfl c_36 esz ek hk (by omega) ((nI_eq (by have := tlB_le (cv := tgv 0 W0 len0) (wv := tgv 1 W1 len1) (N := N) (D := D) (k := k) (i := i) (f := A 13) 10; omega) (by decide)).mp (show nI (tlB (tgv 0 W0 len0) (tgv 1 W1 len1) N D k i (A 13) 10).1 = nI 0 from c_256)) A1 f1 hA1 (by omega)
                       rw [hA1 3 (by decide) (by decide) (by decide) (by decide) (by decide) (by decide)]
                       exact hN2')
                    | (have hz1 : ¬ z = 0 := fun e => c_246 (by rw [e]; rfl)
                       have hOk' := hOk i z k hi hz rfl rfl c_36 esz ek hk (Or.inr (fun e => c_256 (by rw [e]; rfl))) A1 f1 hA1 (by omega)
                       rw [if_neg hz1] at hOk'
                       exact hOk')
                  · skip
                    refine V.aload_n d_Mo_talked_259 rfl ?_
                    refine V.iconst_ (nI 2) d_Mo_talked_260 (by decide +kernel) ?_
                    refine V.callV1 d_Mo_talked_261 k_Mo_138_Mo_finds_MoV mo_o (Nat.le_of_ble_eq_true rfl) (by omega) (by omega) (c_Mo_finds (by omega) ?_)
                    refine V.goto (tgt := 269) d_Mo_talked_264 (by decide) ?_
                    refine V.iret d_Mo_talked_269 rfl (Nat.le_of_ble_eq_true rfl) (Nat.le_of_ble_eq_true rfl) ?_
                    first
                    | (have hOk' := hOk i z k hi hz rfl rfl c_36 esz ek hk (Or.inl ((nI_eq (by omega) (by decide)).mp (show nI z = nI 0 from c_246))) A1 f1 hA1 (by omega)
                       rw [if_pos ((nI_eq (by omega) (by decide)).mp (show nI z = nI 0 from c_246))] at hOk'
                       exact hOk')
                    | (have hz1 : ¬ z = 0 := fun e => c_246 (by rw [e]; rfl)
                       have hN2' := hN2 i z k hi hz rfl rfl c_36 esz ek hk (by omega) ((nI_eq (by have := tlB_le (cv := tgv 0 W0 len0) (wv := tgv 1 W1 len1) (N := N) (D := D) (k := k) (i := i) (f := A 13) 10; omega) (by decide)).mp (show nI (tlB (tgv 0 W0 len0) (tgv 1 W1 len1) N D k i (A 13) 10).1 = nI 0 from c_256)) A1 f1 hA1 (by omega)
                       rw [hA1 3 (by decide) (by decide) (by decide) (by decide) (by decide) (by decide)]
                       exact hN2')
                    | (have hz1 : ¬ z = 0 := fun e => c_246 (by rw [e]; rfl)
                       have hOk' := hOk i z k hi hz rfl rfl c_36 esz ek hk (Or.inr (fun e => c_256 (by rw [e]; rfl))) A1 f1 hA1 (by omega)
                       rw [if_neg hz1] at hOk'
                       exact hOk')
                · skip
                  refine V.iload d_Mo_talked_249 rfl ?_
                  refine V.goto (tgt := 269) d_Mo_talked_251 (by decide) ?_
                  refine V.iret d_Mo_talked_269 rfl (Nat.le_of_ble_eq_true rfl) (Nat.le_of_ble_eq_true rfl) ?_
                  first
                  | (have hOk' := hOk i z k hi hz rfl rfl c_36 esz ek hk (Or.inl ((nI_eq (by omega) (by decide)).mp (show nI z = nI 0 from c_246))) A1 f1 hA1 (by omega)
                     rw [if_pos ((nI_eq (by omega) (by decide)).mp (show nI z = nI 0 from c_246))] at hOk'
                     exact hOk')
                  | (have hz1 : ¬ z = 0 := fun e => c_246 (by rw [e]; rfl)
                     have hN2' := hN2 i z k hi hz rfl rfl c_36 esz ek hk (by omega) ((nI_eq (by have := tlB_le (cv := tgv 0 W0 len0) (wv := tgv 1 W1 len1) (N := N) (D := D) (k := k) (i := i) (f := A 13) 10; omega) (by decide)).mp (show nI (tlB (tgv 0 W0 len0) (tgv 1 W1 len1) N D k i (A 13) 10).1 = nI 0 from c_256)) A1 f1 hA1 (by omega)
                     rw [hA1 3 (by decide) (by decide) (by decide) (by decide) (by decide) (by decide)]
                     exact hN2')
                  | (have hz1 : ¬ z = 0 := fun e => c_246 (by rw [e]; rfl)
                     have hOk' := hOk i z k hi hz rfl rfl c_36 esz ek hk (Or.inr (fun e => c_256 (by rw [e]; rfl))) A1 f1 hA1 (by omega)
                     rw [if_neg hz1] at hOk'
                     exact hOk')
              · skip
                exact absurd c_98 (by omega)
            · skip
              intro A1 f1 hA1 hA12 hf1
              have hle := tlB_le (cv := tgv 0 W0 len0) (wv := tgv 1 W1 len1) (N := N) (D := D) (k := k) (i := i) (f := A 13) v
              have h13 : A1 13 = A 13 := hA1 13 (by decide) (by decide) (by decide) (by decide) (by decide) (by decide)
              rw [tlB_s] at hn
              refine V.iload d_Mo_talked_94 rfl ?_
              refine V.bipush_ (nI 10) d_Mo_talked_96 (by decide +kernel) ?_
              refine V.geN (tgt := 245) d_Mo_talked_98 (by decide) (by omega) (by omega) (fun c_98 => ?_) (fun c_98 => ?_)
              · skip
                exact absurd c_98 (by omega)
              · skip
                refine V.iconst_ (nI 0) d_Mo_talked_101 (by decide +kernel) ?_
                refine V.istore d_Mo_talked_102 (by decide) ?_
                refine V.lc (ls' := [(0, .ref q), (1, .int (nI i)), (2, .int (nI z)), (3, .int (nI (N + 1))), (4, .int (nI (tlB (tgv 0 W0 len0) (tgv 1 W1 len1) N D k i (A 13) v).1)), (5, .int (tlB (tgv 0 W0 len0) (tgv 1 W1 len1) N D k i (A 13) v).2), (6, .int (nI v)), (7, .int (nI 0))]) rfl ?_
                refine up_to (G := fun p => V l M_Mo_talked (d + 8) 0 0 104 [(0, .ref q), (1, .int (nI i)), (2, .int (nI z)), (3, .int (nI (N + 1))), (4, .int (nI (tlB (tgv 0 W0 len0) (tgv 1 W1 len1) N D k i (A 13) v).1)), (5, .int (tlB (tgv 0 W0 len0) (tgv 1 W1 len1) N D k i (A 13) v).2), (6, .int (nI v)), (7, .int (nI p))] [] n (mo q (tlD D v p) A1 (uS S 18 (nI f1)) h0) 0 0 Q) (6) ?_ (fun p hp hn => ?_) 0 (by omega)
                · skip
                  refine V.iload d_Mo_talked_104 rfl ?_
                  refine V.bipush_ (nI 6) d_Mo_talked_106 (by decide +kernel) ?_
                  refine V.geN (tgt := 129) d_Mo_talked_108 (by decide) (by omega) (by omega) (fun c_108 => ?_) (fun c_108 => ?_)
                  · skip
                    refine V.aload_n d_Mo_talked_129 rfl ?_
                    refine V.aload_n d_Mo_talked_130 rfl ?_
                    refine V.get d_Mo_talked_131 f_Mo_49_Mo mo_o rfl ?_
                    refine V.bipush_ (nI 40) d_Mo_talked_134 (by decide +kernel) ?_
                    refine V.iload_n d_Mo_talked_136 rfl ?_
                    refine V.mulN d_Mo_talked_137 ?_
                    refine V.iload_n d_Mo_talked_138 rfl ?_
                    refine V.addN d_Mo_talked_139 ?_
                    refine V.iconst_ (nI 1) d_Mo_talked_140 (by decide +kernel) ?_
                    refine V.subN d_Mo_talked_141 (by omega) ?_
                    refine V.mlda 13 (by decide) (by decide) d_Mo_talked_142 (by first | omega | (show _ < 160; omega)) ?_
                    refine V.top (show A1 13 (40 * i + (N + 1) - 1) = nI k by rw [h13, show 40 * i + (N + 1) - 1 = 40 * i + N by omega]; exact ek) ?_
                    refine V.callV1 d_Mo_talked_143 k_Mo_237_Mo_standBehind_MoV mo_o (Nat.le_of_ble_eq_true rfl) (by omega) (by omega) (c_Mo_standBehind (fm := f1) hN (hD.up hN (fun j hj => tlD_x (by omega) 6 (by omega))) (by omega) uS_s (by omega) (fun A2 hA2 => ?_))
                    have hl2 := dsD_len (cv := tgv 0 W0 len0) (wv := tgv 1 W1 len1) hN (D := tlD D v 6) k
                    have hbk : cpN 106 (cpN 106 D (A 2)) (dsD (tgv 0 W0 len0) (tgv 1 W1 len1) N k (tlD D v 6)).1 = D := bk (fun j hj => (dsD_x hN (by unfold kpt; omega) k).trans (tlD_x (by omega) 6 (by omega)))
                    rw [hA12, hbk, uS_uu]
                    refine V.istore d_Mo_talked_146 (by decide) ?_
                    refine V.iconst_ (nI 1) d_Mo_talked_148 (by decide +kernel) ?_
                    refine V.istore d_Mo_talked_149 (by decide) ?_
                    refine V.iconst_ (nI 0) d_Mo_talked_151 (by decide +kernel) ?_
                    refine V.istore d_Mo_talked_152 (by decide) ?_
                    have h132 : A2 13 = A 13 := (hA2 13 (by decide) (by decide) (by decide) (by decide) (by decide)).trans h13
                    refine V.lc (ls' := [(0, .ref q), (1, .int (nI i)), (2, .int (nI z)), (3, .int (nI (N + 1))), (4, .int (nI (tlB (tgv 0 W0 len0) (tgv 1 W1 len1) N D k i (A 13) v).1)), (5, .int (tlB (tgv 0 W0 len0) (tgv 1 W1 len1) N D k i (A 13) v).2), (6, .int (nI v)), (7, .int (stb (dsD (tgv 0 W0 len0) (tgv 1 W1 len1) N k (tlD D v 6)).1 N)), (8, .int (bi (tlI (A 13) (stb (dsD (tgv 0 W0 len0) (tgv 1 W1 len1) N k (tlD D v 6)).1 N) i 0))), (9, .int (nI 0))]) rfl ?_
                    refine up_to (G := fun t => V l M_Mo_talked (d + 8) 0 0 154 [(0, .ref q), (1, .int (nI i)), (2, .int (nI z)), (3, .int (nI (N + 1))), (4, .int (nI (tlB (tgv 0 W0 len0) (tgv 1 W1 len1) N D k i (A 13) v).1)), (5, .int (tlB (tgv 0 W0 len0) (tgv 1 W1 len1) N D k i (A 13) v).2), (6, .int (nI v)), (7, .int (stb (dsD (tgv 0 W0 len0) (tgv 1 W1 len1) N k (tlD D v 6)).1 N)), (8, .int (bi (tlI (A 13) (stb (dsD (tgv 0 W0 len0) (tgv 1 W1 len1) N k (tlD D v 6)).1 N) i t))), (9, .int (nI t))] [] n (mo q D A2 (uS S 18 (nI (f1 + (dsD (tgv 0 W0 len0) (tgv 1 W1 len1) N k (tlD D v 6)).2.length))) h0) 0 0 Q) (N) ?_ (fun t ht hn => ?_) 0 (by omega)
                    · skip
                      refine V.iload d_Mo_talked_154 rfl ?_
                      refine V.aload_n d_Mo_talked_156 rfl ?_
                      refine V.get d_Mo_talked_157 f_Mo_7_Mo mo_o rfl ?_
                      refine V.iconst_ (nI 0) d_Mo_talked_160 (by decide +kernel) ?_
                      refine V.mldd d_Mo_talked_161 (by omega) ?_
                      refine V.top hD.1 ?_
                      refine V.geN (tgt := 205) d_Mo_talked_162 (by decide) (by omega) (by omega) (fun c_162 => ?_) (fun c_162 => ?_)
                      · skip
                        refine V.iload d_Mo_talked_205 rfl ?_
                        refine V.ifeqB (tgt := 220) d_Mo_talked_207 (by decide) (fun c_207 => ?_) (fun c_207 => ?_)
                        · skip
                          refine V.iload d_Mo_talked_220 rfl ?_
                          refine V.istore d_Mo_talked_222 (by decide) ?_
                          refine V.iload d_Mo_talked_224 rfl ?_
                          refine V.iload d_Mo_talked_226 rfl ?_
                          refine V.ifeqB (tgt := 235) d_Mo_talked_228 (by decide) (fun c_228 => ?_) (fun c_228 => ?_)
                          · skip
                            refine V.iconst_ (nI 0) d_Mo_talked_235 (by decide +kernel) ?_
                            refine V.addN d_Mo_talked_236 ?_
                            refine V.istore d_Mo_talked_237 (by decide) ?_
                            refine V.incN d_Mo_talked_239 rfl (by decide) ?_
                            refine V.goto (tgt := 94) d_Mo_talked_242 (by decide) ?_
                            first
                            | exact absurd (c_207.symm.trans c_228) (by decide)
                            | (rw [if_neg (by rw [c_207]; decide)] at hn; exact V.lc rfl (hn A2 _ (fun j h1 h2 h3 h4 h5 h6 => (hA2 j h2 h3 h4 h5 h6).trans (hA1 j h1 h2 h3 h4 h5 h6)) ((hA2 2 (by decide) (by decide) (by decide) (by decide) (by decide)).trans hA12) (by omega)))
                            | (rw [if_pos c_207, if_pos ((nI_eq (by omega) (by decide)).mp (show nI (tlB (tgv 0 W0 len0) (tgv 1 W1 len1) N D k i (A 13) v).1 = nI 0 from c_212))] at hn; exact V.lc rfl (hn A2 _ (fun j h1 h2 h3 h4 h5 h6 => (hA2 j h2 h3 h4 h5 h6).trans (hA1 j h1 h2 h3 h4 h5 h6)) ((hA2 2 (by decide) (by decide) (by decide) (by decide) (by decide)).trans hA12) (by omega)))
                            | (rw [if_pos c_207, if_neg (fun e => c_212 (by rw [e]; rfl))] at hn; exact V.lc rfl (hn A2 _ (fun j h1 h2 h3 h4 h5 h6 => (hA2 j h2 h3 h4 h5 h6).trans (hA1 j h1 h2 h3 h4 h5 h6)) ((hA2 2 (by decide) (by decide) (by decide) (by decide) (by decide)).trans hA12) (by omega)))
                          · skip
                            refine V.iconst_ (nI 1) d_Mo_talked_231 (by decide +kernel) ?_
                            refine V.goto (tgt := 236) d_Mo_talked_232 (by decide) ?_
                            refine V.addN d_Mo_talked_236 ?_
                            refine V.istore d_Mo_talked_237 (by decide) ?_
                            refine V.incN d_Mo_talked_239 rfl (by decide) ?_
                            refine V.goto (tgt := 94) d_Mo_talked_242 (by decide) ?_
                            first
                            | exact absurd (c_207.symm.trans c_228) (by decide)
                            | (rw [if_neg (by rw [c_207]; decide)] at hn; exact V.lc rfl (hn A2 _ (fun j h1 h2 h3 h4 h5 h6 => (hA2 j h2 h3 h4 h5 h6).trans (hA1 j h1 h2 h3 h4 h5 h6)) ((hA2 2 (by decide) (by decide) (by decide) (by decide) (by decide)).trans hA12) (by omega)))
                            | (rw [if_pos c_207, if_pos ((nI_eq (by omega) (by decide)).mp (show nI (tlB (tgv 0 W0 len0) (tgv 1 W1 len1) N D k i (A 13) v).1 = nI 0 from c_212))] at hn; exact V.lc rfl (hn A2 _ (fun j h1 h2 h3 h4 h5 h6 => (hA2 j h2 h3 h4 h5 h6).trans (hA1 j h1 h2 h3 h4 h5 h6)) ((hA2 2 (by decide) (by decide) (by decide) (by decide) (by decide)).trans hA12) (by omega)))
                            | (rw [if_pos c_207, if_neg (fun e => c_212 (by rw [e]; rfl))] at hn; exact V.lc rfl (hn A2 _ (fun j h1 h2 h3 h4 h5 h6 => (hA2 j h2 h3 h4 h5 h6).trans (hA1 j h1 h2 h3 h4 h5 h6)) ((hA2 2 (by decide) (by decide) (by decide) (by decide) (by decide)).trans hA12) (by omega)))
                        · skip
                          refine V.iload d_Mo_talked_210 rfl ?_
                          refine V.if_ne (tgt := 220) d_Mo_talked_212 (by decide) (fun c_212 => ?_) (fun c_212 => ?_)
                          · skip
                            refine V.iload d_Mo_talked_220 rfl ?_
                            refine V.istore d_Mo_talked_222 (by decide) ?_
                            refine V.iload d_Mo_talked_224 rfl ?_
                            refine V.iload d_Mo_talked_226 rfl ?_
                            refine V.ifeqB (tgt := 235) d_Mo_talked_228 (by decide) (fun c_228 => ?_) (fun c_228 => ?_)
                            · skip
                              refine V.iconst_ (nI 0) d_Mo_talked_235 (by decide +kernel) ?_
                              refine V.addN d_Mo_talked_236 ?_
                              refine V.istore d_Mo_talked_237 (by decide) ?_
                              refine V.incN d_Mo_talked_239 rfl (by decide) ?_
                              refine V.goto (tgt := 94) d_Mo_talked_242 (by decide) ?_
                              first
                              | exact absurd (c_207.symm.trans c_228) (by decide)
                              | (rw [if_neg (by rw [c_207]; decide)] at hn; exact V.lc rfl (hn A2 _ (fun j h1 h2 h3 h4 h5 h6 => (hA2 j h2 h3 h4 h5 h6).trans (hA1 j h1 h2 h3 h4 h5 h6)) ((hA2 2 (by decide) (by decide) (by decide) (by decide) (by decide)).trans hA12) (by omega)))
                              | (rw [if_pos c_207, if_pos ((nI_eq (by omega) (by decide)).mp (show nI (tlB (tgv 0 W0 len0) (tgv 1 W1 len1) N D k i (A 13) v).1 = nI 0 from c_212))] at hn; exact V.lc rfl (hn A2 _ (fun j h1 h2 h3 h4 h5 h6 => (hA2 j h2 h3 h4 h5 h6).trans (hA1 j h1 h2 h3 h4 h5 h6)) ((hA2 2 (by decide) (by decide) (by decide) (by decide) (by decide)).trans hA12) (by omega)))
                              | (rw [if_pos c_207, if_neg (fun e => c_212 (by rw [e]; rfl))] at hn; exact V.lc rfl (hn A2 _ (fun j h1 h2 h3 h4 h5 h6 => (hA2 j h2 h3 h4 h5 h6).trans (hA1 j h1 h2 h3 h4 h5 h6)) ((hA2 2 (by decide) (by decide) (by decide) (by decide) (by decide)).trans hA12) (by omega)))
                            · skip
                              refine V.iconst_ (nI 1) d_Mo_talked_231 (by decide +kernel) ?_
                              refine V.goto (tgt := 236) d_Mo_talked_232 (by decide) ?_
                              refine V.addN d_Mo_talked_236 ?_
                              refine V.istore d_Mo_talked_237 (by decide) ?_
                              refine V.incN d_Mo_talked_239 rfl (by decide) ?_
                              refine V.goto (tgt := 94) d_Mo_talked_242 (by decide) ?_
                              first
                              | exact absurd (c_207.symm.trans c_228) (by decide)
                              | (rw [if_neg (by rw [c_207]; decide)] at hn; exact V.lc rfl (hn A2 _ (fun j h1 h2 h3 h4 h5 h6 => (hA2 j h2 h3 h4 h5 h6).trans (hA1 j h1 h2 h3 h4 h5 h6)) ((hA2 2 (by decide) (by decide) (by decide) (by decide) (by decide)).trans hA12) (by omega)))
                              | (rw [if_pos c_207, if_pos ((nI_eq (by omega) (by decide)).mp (show nI (tlB (tgv 0 W0 len0) (tgv 1 W1 len1) N D k i (A 13) v).1 = nI 0 from c_212))] at hn; exact V.lc rfl (hn A2 _ (fun j h1 h2 h3 h4 h5 h6 => (hA2 j h2 h3 h4 h5 h6).trans (hA1 j h1 h2 h3 h4 h5 h6)) ((hA2 2 (by decide) (by decide) (by decide) (by decide) (by decide)).trans hA12) (by omega)))
                              | (rw [if_pos c_207, if_neg (fun e => c_212 (by rw [e]; rfl))] at hn; exact V.lc rfl (hn A2 _ (fun j h1 h2 h3 h4 h5 h6 => (hA2 j h2 h3 h4 h5 h6).trans (hA1 j h1 h2 h3 h4 h5 h6)) ((hA2 2 (by decide) (by decide) (by decide) (by decide) (by decide)).trans hA12) (by omega)))
                          · skip
                            refine V.iload d_Mo_talked_215 rfl ?_
                            refine V.goto (tgt := 222) d_Mo_talked_217 (by decide) ?_
                            refine V.istore d_Mo_talked_222 (by decide) ?_
                            refine V.iload d_Mo_talked_224 rfl ?_
                            refine V.iload d_Mo_talked_226 rfl ?_
                            refine V.ifeqB (tgt := 235) d_Mo_talked_228 (by decide) (fun c_228 => ?_) (fun c_228 => ?_)
                            · skip
                              refine V.iconst_ (nI 0) d_Mo_talked_235 (by decide +kernel) ?_
                              refine V.addN d_Mo_talked_236 ?_
                              refine V.istore d_Mo_talked_237 (by decide) ?_
                              refine V.incN d_Mo_talked_239 rfl (by decide) ?_
                              refine V.goto (tgt := 94) d_Mo_talked_242 (by decide) ?_
                              first
                              | exact absurd (c_207.symm.trans c_228) (by decide)
                              | (rw [if_neg (by rw [c_207]; decide)] at hn; exact V.lc rfl (hn A2 _ (fun j h1 h2 h3 h4 h5 h6 => (hA2 j h2 h3 h4 h5 h6).trans (hA1 j h1 h2 h3 h4 h5 h6)) ((hA2 2 (by decide) (by decide) (by decide) (by decide) (by decide)).trans hA12) (by omega)))
                              | (rw [if_pos c_207, if_pos ((nI_eq (by omega) (by decide)).mp (show nI (tlB (tgv 0 W0 len0) (tgv 1 W1 len1) N D k i (A 13) v).1 = nI 0 from c_212))] at hn; exact V.lc rfl (hn A2 _ (fun j h1 h2 h3 h4 h5 h6 => (hA2 j h2 h3 h4 h5 h6).trans (hA1 j h1 h2 h3 h4 h5 h6)) ((hA2 2 (by decide) (by decide) (by decide) (by decide) (by decide)).trans hA12) (by omega)))
                              | (rw [if_pos c_207, if_neg (fun e => c_212 (by rw [e]; rfl))] at hn; exact V.lc rfl (hn A2 _ (fun j h1 h2 h3 h4 h5 h6 => (hA2 j h2 h3 h4 h5 h6).trans (hA1 j h1 h2 h3 h4 h5 h6)) ((hA2 2 (by decide) (by decide) (by decide) (by decide) (by decide)).trans hA12) (by omega)))
                            · skip
                              refine V.iconst_ (nI 1) d_Mo_talked_231 (by decide +kernel) ?_
                              refine V.goto (tgt := 236) d_Mo_talked_232 (by decide) ?_
                              refine V.addN d_Mo_talked_236 ?_
                              refine V.istore d_Mo_talked_237 (by decide) ?_
                              refine V.incN d_Mo_talked_239 rfl (by decide) ?_
                              refine V.goto (tgt := 94) d_Mo_talked_242 (by decide) ?_
                              first
                              | exact absurd (c_207.symm.trans c_228) (by decide)
                              | (rw [if_neg (by rw [c_207]; decide)] at hn; exact V.lc rfl (hn A2 _ (fun j h1 h2 h3 h4 h5 h6 => (hA2 j h2 h3 h4 h5 h6).trans (hA1 j h1 h2 h3 h4 h5 h6)) ((hA2 2 (by decide) (by decide) (by decide) (by decide) (by decide)).trans hA12) (by omega)))
                              | (rw [if_pos c_207, if_pos ((nI_eq (by omega) (by decide)).mp (show nI (tlB (tgv 0 W0 len0) (tgv 1 W1 len1) N D k i (A 13) v).1 = nI 0 from c_212))] at hn; exact V.lc rfl (hn A2 _ (fun j h1 h2 h3 h4 h5 h6 => (hA2 j h2 h3 h4 h5 h6).trans (hA1 j h1 h2 h3 h4 h5 h6)) ((hA2 2 (by decide) (by decide) (by decide) (by decide) (by decide)).trans hA12) (by omega)))
                              | (rw [if_pos c_207, if_neg (fun e => c_212 (by rw [e]; rfl))] at hn; exact V.lc rfl (hn A2 _ (fun j h1 h2 h3 h4 h5 h6 => (hA2 j h2 h3 h4 h5 h6).trans (hA1 j h1 h2 h3 h4 h5 h6)) ((hA2 2 (by decide) (by decide) (by decide) (by decide) (by decide)).trans hA12) (by omega)))
                      · skip
                        exact absurd c_162 (by omega)
                    · skip
                      have eI : tlI (A 13) (stb (dsD (tgv 0 W0 len0) (tgv 1 W1 len1) N k (tlD D v 6)).1 N) i (t + 1) = (tlI (A 13) (stb (dsD (tgv 0 W0 len0) (tgv 1 W1 len1) N k (tlD D v 6)).1 N) i t && decide (A 13 (40 * i + t) = (((stb (dsD (tgv 0 W0 len0) (tgv 1 W1 len1) N k (tlD D v 6)).1 N) >>> (nI t &&& 31)) &&& nI 1))) := rfl
                      rw [eI] at hn
                      refine V.iload d_Mo_talked_154 rfl ?_
                      refine V.aload_n d_Mo_talked_156 rfl ?_
                      refine V.get d_Mo_talked_157 f_Mo_7_Mo mo_o rfl ?_
                      refine V.iconst_ (nI 0) d_Mo_talked_160 (by decide +kernel) ?_
                      refine V.mldd d_Mo_talked_161 (by omega) ?_
                      refine V.top hD.1 ?_
                      refine V.geN (tgt := 205) d_Mo_talked_162 (by decide) (by omega) (by omega) (fun c_162 => ?_) (fun c_162 => ?_)
                      · skip
                        exact absurd c_162 (by omega)
                      · skip
                        refine V.iload d_Mo_talked_165 rfl ?_
                        refine V.ifeqB (tgt := 196) d_Mo_talked_167 (by decide) (fun c_167 => ?_) (fun c_167 => ?_)
                        · skip
                          refine V.iconst_ (nI 0) d_Mo_talked_196 (by decide +kernel) ?_
                          refine V.istore d_Mo_talked_197 (by decide) ?_
                          refine V.incN d_Mo_talked_199 rfl (by decide) ?_
                          refine V.goto (tgt := 154) d_Mo_talked_202 (by decide) ?_
                          first
                          | (rw [c_167, Bool.false_and] at hn; exact V.lc rfl hn)
                          | (rw [c_167, decide_eq_true (show A 13 (40 * i + t) = _ from h132 ▸ c_189), Bool.true_and] at hn; exact V.lc rfl hn)
                          | (rw [c_167, decide_eq_false (show ¬ A 13 (40 * i + t) = _ from h132 ▸ c_189), Bool.true_and] at hn; exact V.lc rfl hn)
                        · skip
                          refine V.aload_n d_Mo_talked_170 rfl ?_
                          refine V.get d_Mo_talked_171 f_Mo_49_Mo mo_o rfl ?_
                          refine V.bipush_ (nI 40) d_Mo_talked_174 (by decide +kernel) ?_
                          refine V.iload_n d_Mo_talked_176 rfl ?_
                          refine V.mulN d_Mo_talked_177 ?_
                          refine V.iload d_Mo_talked_178 rfl ?_
                          refine V.addN d_Mo_talked_180 ?_
                          refine V.mlda 13 (by decide) (by decide) d_Mo_talked_181 (by first | omega | (show _ < 160; omega)) ?_
                          refine V.iload d_Mo_talked_182 rfl ?_
                          refine V.iload d_Mo_talked_184 rfl ?_
                          refine V.ishr d_Mo_talked_186 ?_
                          refine V.iconst_ (nI 1) d_Mo_talked_187 (by decide +kernel) ?_
                          refine V.iand d_Mo_talked_188 ?_
                          refine V.icmp_ne (tgt := 196) d_Mo_talked_189 (by decide) (fun c_189 => ?_) (fun c_189 => ?_)
                          · skip
                            refine V.iconst_ (nI 0) d_Mo_talked_196 (by decide +kernel) ?_
                            refine V.istore d_Mo_talked_197 (by decide) ?_
                            refine V.incN d_Mo_talked_199 rfl (by decide) ?_
                            refine V.goto (tgt := 154) d_Mo_talked_202 (by decide) ?_
                            first
                            | (rw [c_167, Bool.false_and] at hn; exact V.lc rfl hn)
                            | (rw [c_167, decide_eq_true (show A 13 (40 * i + t) = _ from h132 ▸ c_189), Bool.true_and] at hn; exact V.lc rfl hn)
                            | (rw [c_167, decide_eq_false (show ¬ A 13 (40 * i + t) = _ from h132 ▸ c_189), Bool.true_and] at hn; exact V.lc rfl hn)
                          · skip
                            refine V.iconst_ (nI 1) d_Mo_talked_192 (by decide +kernel) ?_
                            refine V.goto (tgt := 197) d_Mo_talked_193 (by decide) ?_
                            refine V.istore d_Mo_talked_197 (by decide) ?_
                            refine V.incN d_Mo_talked_199 rfl (by decide) ?_
                            refine V.goto (tgt := 154) d_Mo_talked_202 (by decide) ?_
                            first
                            | (rw [c_167, Bool.false_and] at hn; exact V.lc rfl hn)
                            | (rw [c_167, decide_eq_true (show A 13 (40 * i + t) = _ from h132 ▸ c_189), Bool.true_and] at hn; exact V.lc rfl hn)
                            | (rw [c_167, decide_eq_false (show ¬ A 13 (40 * i + t) = _ from h132 ▸ c_189), Bool.true_and] at hn; exact V.lc rfl hn)
                  · skip
                    exact absurd c_108 (by omega)
                · skip
                  refine V.iload d_Mo_talked_104 rfl ?_
                  refine V.bipush_ (nI 6) d_Mo_talked_106 (by decide +kernel) ?_
                  refine V.geN (tgt := 129) d_Mo_talked_108 (by decide) (by omega) (by omega) (fun c_108 => ?_) (fun c_108 => ?_)
                  · skip
                    exact absurd c_108 (by omega)
                  · skip
                    refine V.aload_n d_Mo_talked_111 rfl ?_
                    refine V.get d_Mo_talked_112 f_Mo_7_Mo mo_o rfl ?_
                    refine V.bipush_ (nI 44) d_Mo_talked_115 (by decide +kernel) ?_
                    refine V.iload d_Mo_talked_117 rfl ?_
                    refine V.addN d_Mo_talked_119 ?_
                    refine V.iload d_Mo_talked_120 rfl ?_
                    refine V.mstd d_Mo_talked_122 (by omega) ?_
                    refine V.incN d_Mo_talked_123 rfl (by decide) ?_
                    refine V.goto (tgt := 104) d_Mo_talked_126 (by decide) ?_
                    exact V.lc rfl hn
          · skip
            refine V.aload_n d_Mo_talked_75 rfl ?_
            refine V.iconst_ (nI 2) d_Mo_talked_76 (by decide +kernel) ?_
            refine V.callV1 d_Mo_talked_77 k_Mo_138_Mo_finds_MoV mo_o (Nat.le_of_ble_eq_true rfl) (by omega) (by omega) (c_Mo_finds (by omega) ?_)
            refine V.iret d_Mo_talked_80 rfl (Nat.le_of_ble_eq_true rfl) (Nat.le_of_ble_eq_true rfl) ?_
            first
            | exact hNo i z sz hi hz rfl rfl esz hsz (Or.inl c_36)
            | exact hNo i z sz hi hz rfl rfl esz hsz (Or.inr (Or.inl c_48))
            | exact hNo i z (N + 1) hi hz rfl rfl esz hsz (Or.inr (Or.inr ⟨rfl, c_72⟩))
    · skip
      refine V.aload_n d_Mo_talked_17 rfl ?_
      refine V.iconst_ (nI 1) d_Mo_talked_18 (by decide +kernel) ?_
      refine V.callV1 d_Mo_talked_19 k_Mo_138_Mo_finds_MoV mo_o (Nat.le_of_ble_eq_true rfl) (by omega) (by omega) (c_Mo_finds (by omega) ?_)
      refine V.iret d_Mo_talked_22 rfl (Nat.le_of_ble_eq_true rfl) (Nat.le_of_ble_eq_true rfl) ?_
      exact hE (by simp only [c_4, c_14, Bool.and_false, Bool.false_and, Bool.and_true, Bool.true_and])
