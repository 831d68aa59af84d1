def Cd (D : Nat → Int32) (u : Nat) (W : Nat → Nat) (len : Nat) : Prop := D (106 + u) = nI len ∧ (∀ k, k < len → D (128 + 50 * u + k) = nI (W k)) ∧ (len = 0 ∨ Wf W len) ∧ len ≤ 50
def tgv (u : Nat) (W : Nat → Nat) (len : Nat) (a b c : Int32) : Int32 := if u = 0 then hld (if len = 0 then -b else evc a b c W len) (-9) (nI 9) else hld (if len = 0 then a else evc a b c W len) (nI 0) (nI 99)
def gdn (wv : Int32 → Int32 → Int32 → Int32) (D : Nat → Int32) (i : Nat) : Nat → Int32 :=
  upd (upd (upd D 4 (hld (D 4 + wv (D (50 + 7 * i + 5)) (D (50 + 7 * i + 1)) (D (50 + 7 * i + 4))) (nI 0) (nI 99999))) 3 (hld (D 3 + (if wi (D 2 - D (50 + 7 * i + 4)) (nI 1) (rch D i) = true then nI 1 else nI 0)) (nI 0) (nI 999))) (50 + 7 * i + 6) (nI 0)
theorem rch_u {D : Nat → Int32} {j i : Nat} {x : Int32} (hj : j < 50) : rch (upd D j x) i = rch D i := by
  unfold rch
  rw [pk_un (by omega), pk_un (by omega)]
/-- the row of those that fell, m ahead of them -/
def wrf (f : Nat → Int32) (m : Nat) (t : Nat) : Nat → Int32 := if m < 8 then upd f m (nI t) else f
abbrev M_Mo_textGives : MD := (⟨"FelledByNamesModel", "textGives", "(IIII)I"⟩, prog_14_method_31_code, 6, (some .int), fun _ => True)
theorem d_Mo_textGives_0 : decode prog_14_method_31_code 0 = .ok (.iload_n 1, 1) := by decide +kernel
theorem d_Mo_textGives_1 : decode prog_14_method_31_code 1 = .ok (.ifCond .ne 8, 3) := by decide +kernel
theorem d_Mo_textGives_9 : decode prog_14_method_31_code 9 = .ok (.iload_n 2, 1) := by decide +kernel
theorem d_Mo_textGives_10 : decode prog_14_method_31_code 10 = .ok (.istore 5, 2) := by decide +kernel
theorem d_Mo_textGives_12 : decode prog_14_method_31_code 12 = .ok (.aload_n 0, 1) := by decide +kernel
theorem d_Mo_textGives_13 : decode prog_14_method_31_code 13 = .ok (.getfield 7, 3) := by decide +kernel
theorem d_Mo_textGives_16 : decode prog_14_method_31_code 16 = .ok (.bipush 106, 2) := by decide +kernel
theorem d_Mo_textGives_18 : decode prog_14_method_31_code 18 = .ok (.iload_n 1, 1) := by decide +kernel
theorem d_Mo_textGives_19 : decode prog_14_method_31_code 19 = .ok (.iadd, 1) := by decide +kernel
theorem d_Mo_textGives_20 : decode prog_14_method_31_code 20 = .ok (.iaload, 1) := by decide +kernel
theorem d_Mo_textGives_21 : decode prog_14_method_31_code 21 = .ok (.ifCond .le 48, 3) := by decide +kernel
theorem d_Mo_textGives_69 : decode prog_14_method_31_code 69 = .ok (.iload_n 1, 1) := by decide +kernel
theorem d_Mo_textGives_70 : decode prog_14_method_31_code 70 = .ok (.ifCond .ne 15, 3) := by decide +kernel
theorem d_Mo_textGives_85 : decode prog_14_method_31_code 85 = .ok (.iload 5, 2) := by decide +kernel
theorem d_Mo_textGives_87 : decode prog_14_method_31_code 87 = .ok (.iconst 0, 1) := by decide +kernel
theorem d_Mo_textGives_88 : decode prog_14_method_31_code 88 = .ok (.bipush 99, 2) := by decide +kernel
theorem d_Mo_textGives_90 : decode prog_14_method_31_code 90 = .ok (.invokestatic 151, 3) := by decide +kernel
theorem kB_Mo_held : kB M_Mo_held 3 := ⟨tm 15 (by decide +kernel) rfl, tm 1227 (by decide +kernel) rfl, ⟨by decide, by decide, by decide +kernel⟩, by decide⟩
theorem k_Mo_151_Mo_heldS : kS "FelledByNamesModel" 151 M_Mo_held 3 := ⟨kB_Mo_held, tm 1225 (by decide +kernel) rfl, tm 1226 (by decide +kernel) rfl⟩
theorem d_Mo_textGives_93 : decode prog_14_method_31_code 93 = .ok (.ireturn, 1) := by decide +kernel
theorem d_Mo_textGives_73 : decode prog_14_method_31_code 73 = .ok (.iload 5, 2) := by decide +kernel
theorem d_Mo_textGives_75 : decode prog_14_method_31_code 75 = .ok (.bipush (-9), 2) := by decide +kernel
theorem d_Mo_textGives_77 : decode prog_14_method_31_code 77 = .ok (.bipush 9, 2) := by decide +kernel
theorem d_Mo_textGives_79 : decode prog_14_method_31_code 79 = .ok (.invokestatic 151, 3) := by decide +kernel
theorem d_Mo_textGives_82 : decode prog_14_method_31_code 82 = .ok (.goto 11, 3) := by decide +kernel
theorem d_Mo_textGives_24 : decode prog_14_method_31_code 24 = .ok (.aload_n 0, 1) := by decide +kernel
theorem d_Mo_textGives_25 : decode prog_14_method_31_code 25 = .ok (.getfield 22, 3) := by decide +kernel
theorem d_Mo_textGives_28 : decode prog_14_method_31_code 28 = .ok (.iconst 0, 1) := by decide +kernel
theorem d_Mo_textGives_29 : decode prog_14_method_31_code 29 = .ok (.iload_n 2, 1) := by decide +kernel
theorem d_Mo_textGives_30 : decode prog_14_method_31_code 30 = .ok (.iastore, 1) := by decide +kernel
theorem d_Mo_textGives_31 : decode prog_14_method_31_code 31 = .ok (.aload_n 0, 1) := by decide +kernel
theorem d_Mo_textGives_32 : decode prog_14_method_31_code 32 = .ok (.getfield 22, 3) := by decide +kernel
theorem d_Mo_textGives_35 : decode prog_14_method_31_code 35 = .ok (.iconst 1, 1) := by decide +kernel
theorem d_Mo_textGives_36 : decode prog_14_method_31_code 36 = .ok (.iload_n 3, 1) := by decide +kernel
theorem d_Mo_textGives_37 : decode prog_14_method_31_code 37 = .ok (.iastore, 1) := by decide +kernel
theorem d_Mo_textGives_38 : decode prog_14_method_31_code 38 = .ok (.aload_n 0, 1) := by decide +kernel
theorem d_Mo_textGives_39 : decode prog_14_method_31_code 39 = .ok (.getfield 22, 3) := by decide +kernel
theorem d_Mo_textGives_42 : decode prog_14_method_31_code 42 = .ok (.iconst 2, 1) := by decide +kernel
theorem d_Mo_textGives_43 : decode prog_14_method_31_code 43 = .ok (.iload 4, 2) := by decide +kernel
theorem d_Mo_textGives_45 : decode prog_14_method_31_code 45 = .ok (.iastore, 1) := by decide +kernel
theorem d_Mo_textGives_46 : decode prog_14_method_31_code 46 = .ok (.aload_n 0, 1) := by decide +kernel
theorem d_Mo_textGives_47 : decode prog_14_method_31_code 47 = .ok (.sipush 128, 3) := by decide +kernel
theorem d_Mo_textGives_50 : decode prog_14_method_31_code 50 = .ok (.bipush 50, 2) := by decide +kernel
theorem d_Mo_textGives_52 : decode prog_14_method_31_code 52 = .ok (.iload_n 1, 1) := by decide +kernel
theorem d_Mo_textGives_53 : decode prog_14_method_31_code 53 = .ok (.imul, 1) := by decide +kernel
theorem d_Mo_textGives_54 : decode prog_14_method_31_code 54 = .ok (.iadd, 1) := by decide +kernel
theorem d_Mo_textGives_55 : decode prog_14_method_31_code 55 = .ok (.aload_n 0, 1) := by decide +kernel
theorem d_Mo_textGives_56 : decode prog_14_method_31_code 56 = .ok (.getfield 7, 3) := by decide +kernel
theorem d_Mo_textGives_59 : decode prog_14_method_31_code 59 = .ok (.bipush 106, 2) := by decide +kernel
theorem d_Mo_textGives_61 : decode prog_14_method_31_code 61 = .ok (.iload_n 1, 1) := by decide +kernel
theorem d_Mo_textGives_62 : decode prog_14_method_31_code 62 = .ok (.iadd, 1) := by decide +kernel
theorem d_Mo_textGives_63 : decode prog_14_method_31_code 63 = .ok (.iaload, 1) := by decide +kernel
theorem d_Mo_textGives_64 : decode prog_14_method_31_code 64 = .ok (.invokevirtual 147, 3) := by decide +kernel
theorem kB_Mo_worked : kB M_Mo_worked 2 := ⟨tm 15 (by decide +kernel) rfl, tm 1221 (by decide +kernel) rfl, ⟨by decide, by decide, by decide +kernel⟩, by decide⟩
theorem k_Mo_147_Mo_worked_MoV : kV "FelledByNamesModel" 147 5 M_Mo_worked 2 := ⟨kB_Mo_worked, tm 1218 (by decide +kernel) rfl, tm 1220 (by decide +kernel) rfl, tp 28 (by decide +kernel) rfl, _, rfl, rfl⟩
theorem d_Mo_textGives_67 : decode prog_14_method_31_code 67 = .ok (.istore 5, 2) := by decide +kernel
theorem d_Mo_textGives_4 : decode prog_14_method_31_code 4 = .ok (.iload_n 3, 1) := by decide +kernel
theorem d_Mo_textGives_5 : decode prog_14_method_31_code 5 = .ok (.ineg, 1) := by decide +kernel
theorem d_Mo_textGives_6 : decode prog_14_method_31_code 6 = .ok (.goto 4, 3) := by decide +kernel
set_option maxRecDepth 100000 in
theorem c_Mo_textGives {u len : Nat} {W : Nat → Nat} {a b c : Int32} {l : Launch} {d q n : Nat} {D : Nat → Int32} {A : Nat → Nat → Int32} {S : Nat → Int32} {h0 : HP} {Q : QT} (hu : u = 0 ∨ u = 1) (hCd : Cd D u W len) (hQ : ∀ (A1 : Nat → Nat → Int32) (r : Int32), (∀ k, k ≠ 4 → k ≠ 6 → A1 k = A k) → r = tgv u W len a b c → Q (some (.int r)) n (mo q D A1 S h0)) : Ct l M_Mo_textGives (d + 2) 0 0 [.ref q, .int (nI u), .int a, .int b, .int c] n (mo q D A S h0) Q := by
  refine Ct.of (fun _ => trivial) (by decide) (Nat.le_of_ble_eq_true rfl) ?_
  obtain ⟨elen, hC, hW0, h50⟩ := hCd
  have hz : ∀ u : Nat, (u = 0 ∨ u = 1) → (nI u = 0 ↔ u = 0) := by intro u hu; rcases hu with rfl | rfl <;> decide +kernel
  have hu2 := hu
  refine V.iload_n d_Mo_textGives_0 rfl ?_
  refine V.if_ne (tgt := 9) d_Mo_textGives_1 (by decide) (fun c_1 => ?_) (fun c_1 => ?_)
  · skip
    refine V.iload_n d_Mo_textGives_9 rfl ?_
    refine V.istore d_Mo_textGives_10 (by decide) ?_
    refine V.aload_n d_Mo_textGives_12 rfl ?_
    refine V.get d_Mo_textGives_13 f_Mo_7_Mo mo_o rfl ?_
    refine V.bipush_ (nI 106) d_Mo_textGives_16 (by decide +kernel) ?_
    refine V.iload_n d_Mo_textGives_18 rfl ?_
    refine V.addN d_Mo_textGives_19 ?_
    refine V.mldd d_Mo_textGives_20 (by omega) ?_
    refine V.top elen ?_
    refine V.if_le (tgt := 69) d_Mo_textGives_21 (by decide) (fun c_21 => ?_) (fun c_21 => ?_)
    · have hlen0 : len = 0 := Classical.byContradiction fun z => nI_nle (Nat.pos_of_ne_zero z) (by omega) c_21
      refine V.iload_n d_Mo_textGives_69 rfl ?_
      refine V.if_ne (tgt := 85) d_Mo_textGives_70 (by decide) (fun c_70 => ?_) (fun c_70 => ?_)
      · skip
        refine V.iload d_Mo_textGives_85 rfl ?_
        refine V.iconst_ (nI 0) d_Mo_textGives_87 (by decide +kernel) ?_
        refine V.bipush_ (nI 99) d_Mo_textGives_88 (by decide +kernel) ?_
        refine V.callS3 d_Mo_textGives_90 k_Mo_151_Mo_heldS (Nat.le_of_ble_eq_true rfl) (by omega) (by omega) (c_Mo_held ?_)
        refine V.iret d_Mo_textGives_93 rfl (Nat.le_of_ble_eq_true rfl) (Nat.le_of_ble_eq_true rfl) ?_
        first
          | exact absurd c_1 c_70
          | exact absurd c_70 c_1
          | (refine hQ _ _ (fun k h1 h2 => by first | rfl | simp only [uA, h1, h2, if_false]) ?_
             unfold tgv
             first
             | (rw [if_pos ((hz u hu2).mp c_70), if_pos hlen0]; done)
             | (rw [if_neg (fun z => c_70 ((hz u hu2).mpr z)), if_pos hlen0]; done)
             | (rw [if_pos ((hz u hu2).mp c_70), if_neg hlen1]; rfl)
             | (rw [if_neg (fun z => c_70 ((hz u hu2).mpr z)), if_neg hlen1]; rfl))
      · skip
        refine V.iload d_Mo_textGives_73 rfl ?_
        refine V.bipush_ (-9) d_Mo_textGives_75 (by decide +kernel) ?_
        refine V.bipush_ (nI 9) d_Mo_textGives_77 (by decide +kernel) ?_
        refine V.callS3 d_Mo_textGives_79 k_Mo_151_Mo_heldS (Nat.le_of_ble_eq_true rfl) (by omega) (by omega) (c_Mo_held ?_)
        refine V.goto (tgt := 93) d_Mo_textGives_82 (by decide) ?_
        refine V.iret d_Mo_textGives_93 rfl (Nat.le_of_ble_eq_true rfl) (Nat.le_of_ble_eq_true rfl) ?_
        first
          | exact absurd c_1 c_70
          | exact absurd c_70 c_1
          | (refine hQ _ _ (fun k h1 h2 => by first | rfl | simp only [uA, h1, h2, if_false]) ?_
             unfold tgv
             first
             | (rw [if_pos ((hz u hu2).mp c_70), if_pos hlen0]; done)
             | (rw [if_neg (fun z => c_70 ((hz u hu2).mpr z)), if_pos hlen0]; done)
             | (rw [if_pos ((hz u hu2).mp c_70), if_neg hlen1]; rfl)
             | (rw [if_neg (fun z => c_70 ((hz u hu2).mpr z)), if_neg hlen1]; rfl))
    · skip
      have hlen1 : ¬ len = 0 := fun z => c_21 (by rw [z]; decide +kernel)
      have hW : Wf W len := hW0.resolve_left hlen1
      refine V.aload_n d_Mo_textGives_24 rfl ?_
      refine V.get d_Mo_textGives_25 f_Mo_22_Mo mo_o rfl ?_
      refine V.iconst_ (nI 0) d_Mo_textGives_28 (by decide +kernel) ?_
      refine V.iload_n d_Mo_textGives_29 rfl ?_
      refine V.msta 4 (by decide) (by decide) d_Mo_textGives_30 (by first | omega | (show _ < 3; omega)) ?_
      refine V.aload_n d_Mo_textGives_31 rfl ?_
      refine V.get d_Mo_textGives_32 f_Mo_22_Mo mo_o rfl ?_
      refine V.iconst_ (nI 1) d_Mo_textGives_35 (by decide +kernel) ?_
      refine V.iload_n d_Mo_textGives_36 rfl ?_
      refine V.msta 4 (by decide) (by decide) d_Mo_textGives_37 (by first | omega | (show _ < 3; omega)) ?_
      refine V.aload_n d_Mo_textGives_38 rfl ?_
      refine V.get d_Mo_textGives_39 f_Mo_22_Mo mo_o rfl ?_
      refine V.iconst_ (nI 2) d_Mo_textGives_42 (by decide +kernel) ?_
      refine V.iload d_Mo_textGives_43 rfl ?_
      refine V.msta 4 (by decide) (by decide) d_Mo_textGives_45 (by first | omega | (show _ < 3; omega)) ?_
      refine V.aload_n d_Mo_textGives_46 rfl ?_
      refine V.sipush_ (nI 128) d_Mo_textGives_47 (by decide +kernel) ?_
      refine V.bipush_ (nI 50) d_Mo_textGives_50 (by decide +kernel) ?_
      refine V.iload_n d_Mo_textGives_52 rfl ?_
      refine V.mulN d_Mo_textGives_53 ?_
      refine V.addN d_Mo_textGives_54 ?_
      refine V.aload_n d_Mo_textGives_55 rfl ?_
      refine V.get d_Mo_textGives_56 f_Mo_7_Mo mo_o rfl ?_
      refine V.bipush_ (nI 106) d_Mo_textGives_59 (by decide +kernel) ?_
      refine V.iload_n d_Mo_textGives_61 rfl ?_
      refine V.addN d_Mo_textGives_62 ?_
      refine V.mldd d_Mo_textGives_63 (by omega) ?_
      refine V.top elen ?_
      simp only [uA_uu, uA_s]
      refine V.callV2 d_Mo_textGives_64 k_Mo_147_Mo_worked_MoV mo_o (Nat.le_of_ble_eq_true rfl) (by omega) (by omega) (c_Mo_worked (by omega) hC hW ?_)
      refine V.istore d_Mo_textGives_67 (by decide) ?_
      refine V.iload_n d_Mo_textGives_69 rfl ?_
      refine V.if_ne (tgt := 85) d_Mo_textGives_70 (by decide) (fun c_70 => ?_) (fun c_70 => ?_)
      · skip
        refine V.iload d_Mo_textGives_85 rfl ?_
        refine V.iconst_ (nI 0) d_Mo_textGives_87 (by decide +kernel) ?_
        refine V.bipush_ (nI 99) d_Mo_textGives_88 (by decide +kernel) ?_
        refine V.callS3 d_Mo_textGives_90 k_Mo_151_Mo_heldS (Nat.le_of_ble_eq_true rfl) (by omega) (by omega) (c_Mo_held ?_)
        refine V.iret d_Mo_textGives_93 rfl (Nat.le_of_ble_eq_true rfl) (Nat.le_of_ble_eq_true rfl) ?_
        first
          | exact absurd c_1 c_70
          | exact absurd c_70 c_1
          | (refine hQ _ _ (fun k h1 h2 => by first | rfl | simp only [uA, h1, h2, if_false]) ?_
             unfold tgv
             first
             | (rw [if_pos ((hz u hu2).mp c_70), if_pos hlen0]; done)
             | (rw [if_neg (fun z => c_70 ((hz u hu2).mpr z)), if_pos hlen0]; done)
             | (rw [if_pos ((hz u hu2).mp c_70), if_neg hlen1]; rfl)
             | (rw [if_neg (fun z => c_70 ((hz u hu2).mpr z)), if_neg hlen1]; rfl))
      · skip
        refine V.iload d_Mo_textGives_73 rfl ?_
        refine V.bipush_ (-9) d_Mo_textGives_75 (by decide +kernel) ?_
        refine V.bipush_ (nI 9) d_Mo_textGives_77 (by decide +kernel) ?_
        refine V.callS3 d_Mo_textGives_79 k_Mo_151_Mo_heldS (Nat.le_of_ble_eq_true rfl) (by omega) (by omega) (c_Mo_held ?_)
        refine V.goto (tgt := 93) d_Mo_textGives_82 (by decide) ?_
        refine V.iret d_Mo_textGives_93 rfl (Nat.le_of_ble_eq_true rfl) (Nat.le_of_ble_eq_true rfl) ?_
        first
          | exact absurd c_1 c_70
          | exact absurd c_70 c_1
          | (refine hQ _ _ (fun k h1 h2 => by first | rfl | simp only [uA, h1, h2, if_false]) ?_
             unfold tgv
             first
             | (rw [if_pos ((hz u hu2).mp c_70), if_pos hlen0]; done)
             | (rw [if_neg (fun z => c_70 ((hz u hu2).mpr z)), if_pos hlen0]; done)
             | (rw [if_pos ((hz u hu2).mp c_70), if_neg hlen1]; rfl)
             | (rw [if_neg (fun z => c_70 ((hz u hu2).mpr z)), if_neg hlen1]; rfl))
  · skip
    refine V.iload_n d_Mo_textGives_4 rfl ?_
    refine V.ineg d_Mo_textGives_5 ?_
    refine V.goto (tgt := 10) d_Mo_textGives_6 (by decide) ?_
    refine V.istore d_Mo_textGives_10 (by decide) ?_
    refine V.aload_n d_Mo_textGives_12 rfl ?_
    refine V.get d_Mo_textGives_13 f_Mo_7_Mo mo_o rfl ?_
    refine V.bipush_ (nI 106) d_Mo_textGives_16 (by decide +kernel) ?_
    refine V.iload_n d_Mo_textGives_18 rfl ?_
    refine V.addN d_Mo_textGives_19 ?_
    refine V.mldd d_Mo_textGives_20 (by omega) ?_
    refine V.top elen ?_
    refine V.if_le (tgt := 69) d_Mo_textGives_21 (by decide) (fun c_21 => ?_) (fun c_21 => ?_)
    · have hlen0 : len = 0 := Classical.byContradiction fun z => nI_nle (Nat.pos_of_ne_zero z) (by omega) c_21
      refine V.iload_n d_Mo_textGives_69 rfl ?_
      refine V.if_ne (tgt := 85) d_Mo_textGives_70 (by decide) (fun c_70 => ?_) (fun c_70 => ?_)
      · skip
        refine V.iload d_Mo_textGives_85 rfl ?_
        refine V.iconst_ (nI 0) d_Mo_textGives_87 (by decide +kernel) ?_
        refine V.bipush_ (nI 99) d_Mo_textGives_88 (by decide +kernel) ?_
        refine V.callS3 d_Mo_textGives_90 k_Mo_151_Mo_heldS (Nat.le_of_ble_eq_true rfl) (by omega) (by omega) (c_Mo_held ?_)
        refine V.iret d_Mo_textGives_93 rfl (Nat.le_of_ble_eq_true rfl) (Nat.le_of_ble_eq_true rfl) ?_
        first
          | exact absurd c_1 c_70
          | exact absurd c_70 c_1
          | (refine hQ _ _ (fun k h1 h2 => by first | rfl | simp only [uA, h1, h2, if_false]) ?_
             unfold tgv
             first
             | (rw [if_pos ((hz u hu2).mp c_70), if_pos hlen0]; done)
             | (rw [if_neg (fun z => c_70 ((hz u hu2).mpr z)), if_pos hlen0]; done)
             | (rw [if_pos ((hz u hu2).mp c_70), if_neg hlen1]; rfl)
             | (rw [if_neg (fun z => c_70 ((hz u hu2).mpr z)), if_neg hlen1]; rfl))
      · skip
        refine V.iload d_Mo_textGives_73 rfl ?_
        refine V.bipush_ (-9) d_Mo_textGives_75 (by decide +kernel) ?_
        refine V.bipush_ (nI 9) d_Mo_textGives_77 (by decide +kernel) ?_
        refine V.callS3 d_Mo_textGives_79 k_Mo_151_Mo_heldS (Nat.le_of_ble_eq_true rfl) (by omega) (by omega) (c_Mo_held ?_)
        refine V.goto (tgt := 93) d_Mo_textGives_82 (by decide) ?_
        refine V.iret d_Mo_textGives_93 rfl (Nat.le_of_ble_eq_true rfl) (Nat.le_of_ble_eq_true rfl) ?_
        first
          | exact absurd c_1 c_70
          | exact absurd c_70 c_1
          | (refine hQ _ _ (fun k h1 h2 => by first | rfl | simp only [uA, h1, h2, if_false]) ?_
             unfold tgv
             first
             | (rw [if_pos ((hz u hu2).mp c_70), if_pos hlen0]; done)
             | (rw [if_neg (fun z => c_70 ((hz u hu2).mpr z)), if_pos hlen0]; done)
             | (rw [if_pos ((hz u hu2).mp c_70), if_neg hlen1]; rfl)
             | (rw [if_neg (fun z => c_70 ((hz u hu2).mpr z)), if_neg hlen1]; rfl))
    · skip
      have hlen1 : ¬ len = 0 := fun z => c_21 (by rw [z]; decide +kernel)
      have hW : Wf W len := hW0.resolve_left hlen1
      refine V.aload_n d_Mo_textGives_24 rfl ?_
      refine V.get d_Mo_textGives_25 f_Mo_22_Mo mo_o rfl ?_
      refine V.iconst_ (nI 0) d_Mo_textGives_28 (by decide +kernel) ?_
      refine V.iload_n d_Mo_textGives_29 rfl ?_
      refine V.msta 4 (by decide) (by decide) d_Mo_textGives_30 (by first | omega | (show _ < 3; omega)) ?_
      refine V.aload_n d_Mo_textGives_31 rfl ?_
      refine V.get d_Mo_textGives_32 f_Mo_22_Mo mo_o rfl ?_
      refine V.iconst_ (nI 1) d_Mo_textGives_35 (by decide +kernel) ?_
      refine V.iload_n d_Mo_textGives_36 rfl ?_
      refine V.msta 4 (by decide) (by decide) d_Mo_textGives_37 (by first | omega | (show _ < 3; omega)) ?_
      refine V.aload_n d_Mo_textGives_38 rfl ?_
      refine V.get d_Mo_textGives_39 f_Mo_22_Mo mo_o rfl ?_
      refine V.iconst_ (nI 2) d_Mo_textGives_42 (by decide +kernel) ?_
      refine V.iload d_Mo_textGives_43 rfl ?_
      refine V.msta 4 (by decide) (by decide) d_Mo_textGives_45 (by first | omega | (show _ < 3; omega)) ?_
      refine V.aload_n d_Mo_textGives_46 rfl ?_
      refine V.sipush_ (nI 128) d_Mo_textGives_47 (by decide +kernel) ?_
      refine V.bipush_ (nI 50) d_Mo_textGives_50 (by decide +kernel) ?_
      refine V.iload_n d_Mo_textGives_52 rfl ?_
      refine V.mulN d_Mo_textGives_53 ?_
      refine V.addN d_Mo_textGives_54 ?_
      refine V.aload_n d_Mo_textGives_55 rfl ?_
      refine V.get d_Mo_textGives_56 f_Mo_7_Mo mo_o rfl ?_
      refine V.bipush_ (nI 106) d_Mo_textGives_59 (by decide +kernel) ?_
      refine V.iload_n d_Mo_textGives_61 rfl ?_
      refine V.addN d_Mo_textGives_62 ?_
      refine V.mldd d_Mo_textGives_63 (by omega) ?_
      refine V.top elen ?_
      simp only [uA_uu, uA_s]
      refine V.callV2 d_Mo_textGives_64 k_Mo_147_Mo_worked_MoV mo_o (Nat.le_of_ble_eq_true rfl) (by omega) (by omega) (c_Mo_worked (by omega) hC hW ?_)
      refine V.istore d_Mo_textGives_67 (by decide) ?_
      refine V.iload_n d_Mo_textGives_69 rfl ?_
      refine V.if_ne (tgt := 85) d_Mo_textGives_70 (by decide) (fun c_70 => ?_) (fun c_70 => ?_)
      · skip
        refine V.iload d_Mo_textGives_85 rfl ?_
        refine V.iconst_ (nI 0) d_Mo_textGives_87 (by decide +kernel) ?_
        refine V.bipush_ (nI 99) d_Mo_textGives_88 (by decide +kernel) ?_
        refine V.callS3 d_Mo_textGives_90 k_Mo_151_Mo_heldS (Nat.le_of_ble_eq_true rfl) (by omega) (by omega) (c_Mo_held ?_)
        refine V.iret d_Mo_textGives_93 rfl (Nat.le_of_ble_eq_true rfl) (Nat.le_of_ble_eq_true rfl) ?_
        first
          | exact absurd c_1 c_70
          | exact absurd c_70 c_1
          | (refine hQ _ _ (fun k h1 h2 => by first | rfl | simp only [uA, h1, h2, if_false]) ?_
             unfold tgv
             first
             | (rw [if_pos ((hz u hu2).mp c_70), if_pos hlen0]; done)
             | (rw [if_neg (fun z => c_70 ((hz u hu2).mpr z)), if_pos hlen0]; done)
             | (rw [if_pos ((hz u hu2).mp c_70), if_neg hlen1]; rfl)
             | (rw [if_neg (fun z => c_70 ((hz u hu2).mpr z)), if_neg hlen1]; rfl))
      · skip
        refine V.iload d_Mo_textGives_73 rfl ?_
        refine V.bipush_ (-9) d_Mo_textGives_75 (by decide +kernel) ?_
        refine V.bipush_ (nI 9) d_Mo_textGives_77 (by decide +kernel) ?_
        refine V.callS3 d_Mo_textGives_79 k_Mo_151_Mo_heldS (Nat.le_of_ble_eq_true rfl) (by omega) (by omega) (c_Mo_held ?_)
        refine V.goto (tgt := 93) d_Mo_textGives_82 (by decide) ?_
        refine V.iret d_Mo_textGives_93 rfl (Nat.le_of_ble_eq_true rfl) (Nat.le_of_ble_eq_true rfl) ?_
        first
          | exact absurd c_1 c_70
          | exact absurd c_70 c_1
          | (refine hQ _ _ (fun k h1 h2 => by first | rfl | simp only [uA, h1, h2, if_false]) ?_
             unfold tgv
             first
             | (rw [if_pos ((hz u hu2).mp c_70), if_pos hlen0]; done)
             | (rw [if_neg (fun z => c_70 ((hz u hu2).mpr z)), if_pos hlen0]; done)
             | (rw [if_pos ((hz u hu2).mp c_70), if_neg hlen1]; rfl)
             | (rw [if_neg (fun z => c_70 ((hz u hu2).mpr z)), if_neg hlen1]; rfl))
abbrev M_Mo_goesDown : MD := (⟨"FelledByNamesModel", "goesDown", "(I)V"⟩, prog_14_method_38_code, 3, none, fun _ => True)
theorem d_Mo_goesDown_0 : decode prog_14_method_38_code 0 = .ok (.aload_n 0, 1) := by decide +kernel
theorem d_Mo_goesDown_1 : decode prog_14_method_38_code 1 = .ok (.getfield 7, 3) := by decide +kernel
theorem d_Mo_goesDown_4 : decode prog_14_method_38_code 4 = .ok (.iconst 2, 1) := by decide +kernel
theorem d_Mo_goesDown_5 : decode prog_14_method_38_code 5 = .ok (.iaload, 1) := by decide +kernel
theorem d_Mo_goesDown_6 : decode prog_14_method_38_code 6 = .ok (.aload_n 0, 1) := by decide +kernel
theorem d_Mo_goesDown_7 : decode prog_14_method_38_code 7 = .ok (.iload_n 1, 1) := by decide +kernel
theorem d_Mo_goesDown_8 : decode prog_14_method_38_code 8 = .ok (.iconst 4, 1) := by decide +kernel
theorem d_Mo_goesDown_9 : decode prog_14_method_38_code 9 = .ok (.invokevirtual 158, 3) := by decide +kernel
theorem d_Mo_goesDown_12 : decode prog_14_method_38_code 12 = .ok (.isub, 1) := by decide +kernel
theorem d_Mo_goesDown_13 : decode prog_14_method_38_code 13 = .ok (.istore_n 2, 1) := by decide +kernel
theorem d_Mo_goesDown_14 : decode prog_14_method_38_code 14 = .ok (.aload_n 0, 1) := by decide +kernel
theorem d_Mo_goesDown_15 : decode prog_14_method_38_code 15 = .ok (.getfield 7, 3) := by decide +kernel
theorem d_Mo_goesDown_18 : decode prog_14_method_38_code 18 = .ok (.iconst 4, 1) := by decide +kernel
theorem d_Mo_goesDown_19 : decode prog_14_method_38_code 19 = .ok (.aload_n 0, 1) := by decide +kernel
theorem d_Mo_goesDown_20 : decode prog_14_method_38_code 20 = .ok (.getfield 7, 3) := by decide +kernel
theorem d_Mo_goesDown_23 : decode prog_14_method_38_code 23 = .ok (.iconst 4, 1) := by decide +kernel
theorem d_Mo_goesDown_24 : decode prog_14_method_38_code 24 = .ok (.iaload, 1) := by decide +kernel
theorem d_Mo_goesDown_25 : decode prog_14_method_38_code 25 = .ok (.aload_n 0, 1) := by decide +kernel
theorem d_Mo_goesDown_26 : decode prog_14_method_38_code 26 = .ok (.iconst 1, 1) := by decide +kernel
theorem d_Mo_goesDown_27 : decode prog_14_method_38_code 27 = .ok (.aload_n 0, 1) := by decide +kernel
theorem d_Mo_goesDown_28 : decode prog_14_method_38_code 28 = .ok (.iload_n 1, 1) := by decide +kernel
theorem d_Mo_goesDown_29 : decode prog_14_method_38_code 29 = .ok (.iconst 5, 1) := by decide +kernel
theorem d_Mo_goesDown_30 : decode prog_14_method_38_code 30 = .ok (.invokevirtual 158, 3) := by decide +kernel
theorem d_Mo_goesDown_33 : decode prog_14_method_38_code 33 = .ok (.aload_n 0, 1) := by decide +kernel
theorem d_Mo_goesDown_34 : decode prog_14_method_38_code 34 = .ok (.iload_n 1, 1) := by decide +kernel
theorem d_Mo_goesDown_35 : decode prog_14_method_38_code 35 = .ok (.iconst 1, 1) := by decide +kernel
theorem d_Mo_goesDown_36 : decode prog_14_method_38_code 36 = .ok (.invokevirtual 158, 3) := by decide +kernel
theorem d_Mo_goesDown_39 : decode prog_14_method_38_code 39 = .ok (.aload_n 0, 1) := by decide +kernel
theorem d_Mo_goesDown_40 : decode prog_14_method_38_code 40 = .ok (.iload_n 1, 1) := by decide +kernel
theorem d_Mo_goesDown_41 : decode prog_14_method_38_code 41 = .ok (.iconst 4, 1) := by decide +kernel
theorem d_Mo_goesDown_42 : decode prog_14_method_38_code 42 = .ok (.invokevirtual 158, 3) := by decide +kernel
theorem d_Mo_goesDown_45 : decode prog_14_method_38_code 45 = .ok (.invokevirtual 154, 3) := by decide +kernel
theorem kB_Mo_textGives : kB M_Mo_textGives 4 := ⟨tm 15 (by decide +kernel) rfl, tm 1217 (by decide +kernel) rfl, ⟨by decide, by decide, by decide +kernel⟩, by decide⟩
theorem k_Mo_154_Mo_textGives_MoV : kV "FelledByNamesModel" 154 5 M_Mo_textGives 4 := ⟨kB_Mo_textGives, tm 1214 (by decide +kernel) rfl, tm 1216 (by decide +kernel) rfl, tp 27 (by decide +kernel) rfl, _, rfl, rfl⟩
theorem d_Mo_goesDown_48 : decode prog_14_method_38_code 48 = .ok (.iadd, 1) := by decide +kernel
theorem d_Mo_goesDown_49 : decode prog_14_method_38_code 49 = .ok (.iconst 0, 1) := by decide +kernel
theorem d_Mo_goesDown_50 : decode prog_14_method_38_code 50 = .ok (.ldc 161, 2) := by decide +kernel
theorem d_Mo_goesDown_52 : decode prog_14_method_38_code 52 = .ok (.invokestatic 151, 3) := by decide +kernel
theorem d_Mo_goesDown_55 : decode prog_14_method_38_code 55 = .ok (.iastore, 1) := by decide +kernel
theorem d_Mo_goesDown_56 : decode prog_14_method_38_code 56 = .ok (.aload_n 0, 1) := by decide +kernel
theorem d_Mo_goesDown_57 : decode prog_14_method_38_code 57 = .ok (.getfield 7, 3) := by decide +kernel
theorem d_Mo_goesDown_60 : decode prog_14_method_38_code 60 = .ok (.iconst 3, 1) := by decide +kernel
theorem d_Mo_goesDown_61 : decode prog_14_method_38_code 61 = .ok (.aload_n 0, 1) := by decide +kernel
theorem d_Mo_goesDown_62 : decode prog_14_method_38_code 62 = .ok (.getfield 7, 3) := by decide +kernel
theorem d_Mo_goesDown_65 : decode prog_14_method_38_code 65 = .ok (.iconst 3, 1) := by decide +kernel
theorem d_Mo_goesDown_66 : decode prog_14_method_38_code 66 = .ok (.iaload, 1) := by decide +kernel
theorem d_Mo_goesDown_67 : decode prog_14_method_38_code 67 = .ok (.iload_n 2, 1) := by decide +kernel
theorem d_Mo_goesDown_68 : decode prog_14_method_38_code 68 = .ok (.i2l, 1) := by decide +kernel
theorem d_Mo_goesDown_69 : decode prog_14_method_38_code 69 = .ok (.lconst 1, 1) := by decide +kernel
theorem d_Mo_goesDown_70 : decode prog_14_method_38_code 70 = .ok (.aload_n 0, 1) := by decide +kernel
theorem d_Mo_goesDown_71 : decode prog_14_method_38_code 71 = .ok (.iload_n 1, 1) := by decide +kernel
theorem d_Mo_goesDown_72 : decode prog_14_method_38_code 72 = .ok (.invokevirtual 162, 3) := by decide +kernel
theorem kB_Mo_reaches : kB M_Mo_reaches 1 := ⟨tm 15 (by decide +kernel) rfl, tm 1294 (by decide +kernel) rfl, ⟨by decide, by decide, by decide +kernel⟩, by decide⟩
theorem k_Mo_162_Mo_reaches_MoV : kV "FelledByNamesModel" 162 5 M_Mo_reaches 1 := ⟨kB_Mo_reaches, tm 1291 (by decide +kernel) rfl, tm 1293 (by decide +kernel) rfl, tp 34 (by decide +kernel) rfl, _, rfl, rfl⟩
theorem d_Mo_goesDown_75 : decode prog_14_method_38_code 75 = .ok (.i2l, 1) := by decide +kernel
theorem d_Mo_goesDown_76 : decode prog_14_method_38_code 76 = .ok (.invokestatic 56, 3) := by decide +kernel
theorem d_Mo_goesDown_79 : decode prog_14_method_38_code 79 = .ok (.ifCond .eq 7, 3) := by decide +kernel
theorem d_Mo_goesDown_86 : decode prog_14_method_38_code 86 = .ok (.iconst 0, 1) := by decide +kernel
theorem d_Mo_goesDown_87 : decode prog_14_method_38_code 87 = .ok (.iadd, 1) := by decide +kernel
theorem d_Mo_goesDown_88 : decode prog_14_method_38_code 88 = .ok (.iconst 0, 1) := by decide +kernel
theorem d_Mo_goesDown_89 : decode prog_14_method_38_code 89 = .ok (.sipush 999, 3) := by decide +kernel
theorem d_Mo_goesDown_92 : decode prog_14_method_38_code 92 = .ok (.invokestatic 151, 3) := by decide +kernel
theorem d_Mo_goesDown_95 : decode prog_14_method_38_code 95 = .ok (.iastore, 1) := by decide +kernel
theorem d_Mo_goesDown_96 : decode prog_14_method_38_code 96 = .ok (.aload_n 0, 1) := by decide +kernel
theorem d_Mo_goesDown_97 : decode prog_14_method_38_code 97 = .ok (.iload_n 1, 1) := by decide +kernel
theorem d_Mo_goesDown_98 : decode prog_14_method_38_code 98 = .ok (.bipush 6, 2) := by decide +kernel
theorem d_Mo_goesDown_100 : decode prog_14_method_38_code 100 = .ok (.iconst 0, 1) := by decide +kernel
theorem d_Mo_goesDown_101 : decode prog_14_method_38_code 101 = .ok (.invokevirtual 165, 3) := by decide +kernel
theorem kB_Mo_sets : kB M_Mo_sets 3 := ⟨tm 15 (by decide +kernel) rfl, tm 1273 (by decide +kernel) rfl, ⟨by decide, by decide, by decide +kernel⟩, by decide⟩
theorem k_Mo_165_Mo_sets_MoV : kV "FelledByNamesModel" 165 5 M_Mo_sets 3 := ⟨kB_Mo_sets, tm 1270 (by decide +kernel) rfl, tm 1272 (by decide +kernel) rfl, tp 30 (by decide +kernel) rfl, _, rfl, rfl⟩
theorem d_Mo_goesDown_104 : decode prog_14_method_38_code 104 = .ok (.aload_n 0, 1) := by decide +kernel
theorem d_Mo_goesDown_105 : decode prog_14_method_38_code 105 = .ok (.getfield 168, 3) := by decide +kernel
theorem f_Mo_168_Mo : fok "FelledByNamesModel" 168 5 18 := ⟨R_Mo, F_Mo, 26, "FelledByNamesModel", rfl, i_Mo, by decide, tm 1077 (by decide +kernel) rfl, Or.inl rfl, t_Mo, t_Mo_ok, n_Mo⟩
theorem d_Mo_goesDown_108 : decode prog_14_method_38_code 108 = .ok (.bipush 8, 2) := by decide +kernel
theorem d_Mo_goesDown_110 : decode prog_14_method_38_code 110 = .ok (.if_icmp .ge 13, 3) := by decide +kernel
theorem d_Mo_goesDown_123 : decode prog_14_method_38_code 123 = .ok (.aload_n 0, 1) := by decide +kernel
theorem d_Mo_goesDown_124 : decode prog_14_method_38_code 124 = .ok (.dup, 1) := by decide +kernel
theorem d_Mo_goesDown_125 : decode prog_14_method_38_code 125 = .ok (.getfield 168, 3) := by decide +kernel
theorem d_Mo_goesDown_128 : decode prog_14_method_38_code 128 = .ok (.iconst 1, 1) := by decide +kernel
theorem d_Mo_goesDown_129 : decode prog_14_method_38_code 129 = .ok (.iadd, 1) := by decide +kernel
theorem d_Mo_goesDown_130 : decode prog_14_method_38_code 130 = .ok (.putfield 168, 3) := by decide +kernel
theorem fp_Mo_18 : fpk 5 18 (.int) := ⟨_, _, _, rfl, rfl, by decide +kernel⟩
theorem d_Mo_goesDown_133 : decode prog_14_method_38_code 133 = .ok (.return_, 1) := by decide +kernel
theorem d_Mo_goesDown_113 : decode prog_14_method_38_code 113 = .ok (.aload_n 0, 1) := by decide +kernel
theorem d_Mo_goesDown_114 : decode prog_14_method_38_code 114 = .ok (.getfield 37, 3) := by decide +kernel
theorem f_Mo_37_Mo : fok "FelledByNamesModel" 37 5 17 := ⟨R_Mo, F_Mo, 26, "FelledByNamesModel", rfl, i_Mo, by decide, tm 1076 (by decide +kernel) rfl, Or.inl rfl, t_Mo, t_Mo_ok, n_Mo⟩
theorem d_Mo_goesDown_117 : decode prog_14_method_38_code 117 = .ok (.aload_n 0, 1) := by decide +kernel
theorem d_Mo_goesDown_118 : decode prog_14_method_38_code 118 = .ok (.getfield 168, 3) := by decide +kernel
theorem d_Mo_goesDown_121 : decode prog_14_method_38_code 121 = .ok (.iload_n 1, 1) := by decide +kernel
theorem d_Mo_goesDown_122 : decode prog_14_method_38_code 122 = .ok (.iastore, 1) := by decide +kernel
theorem d_Mo_goesDown_82 : decode prog_14_method_38_code 82 = .ok (.iconst 1, 1) := by decide +kernel
theorem d_Mo_goesDown_83 : decode prog_14_method_38_code 83 = .ok (.goto 4, 3) := by decide +kernel
set_option maxRecDepth 100000 in
theorem c_Mo_goesDown {i fm len : Nat} {W : Nat → Nat} {l : Launch} {d q n : Nat} {D : Nat → Int32} {A : Nat → Nat → Int32} {S : Nat → Int32} {h0 : HP} {Q : QT} (hi : i < 8) (hC1 : Cd D 1 W len) (hf : fm < 2 ^ 30) (ef : S 18 = nI fm) (hQ : ∀ (A1 : Nat → Nat → Int32), (∀ k, k ≠ 4 → k ≠ 6 → k ≠ 9 → A1 k = A k) → A1 9 = wrf (A 9) fm i → Q none n (mo q (gdn (tgv 1 W len) D i) A1 (uS S 18 (nI (fm + 1))) h0)) : Ct l M_Mo_goesDown (d + 3) 0 0 [.ref q, .int (nI i)] n (mo q D A S h0) Q := by
  refine Ct.of (fun _ => trivial) (by decide) (Nat.le_of_ble_eq_true rfl) ?_
  have hQ' : ∀ (D' : Nat → Int32) (A1 : Nat → Nat → Int32), D' = gdn (tgv 1 W len) D i → (∀ k, k ≠ 4 → k ≠ 6 → k ≠ 9 → A1 k = A k) → A1 9 = wrf (A 9) fm i → Q none n (mo q D' A1 (uS S 18 (nI (fm + 1))) h0) := fun D' A1 e h1 h2 => e ▸ hQ A1 h1 h2
  refine V.aload_n d_Mo_goesDown_0 rfl ?_
  refine V.get d_Mo_goesDown_1 f_Mo_7_Mo mo_o rfl ?_
  refine V.iconst_ (nI 2) d_Mo_goesDown_4 (by decide +kernel) ?_
  refine V.mldd d_Mo_goesDown_5 (by omega) ?_
  refine V.aload_n d_Mo_goesDown_6 rfl ?_
  refine V.iload_n d_Mo_goesDown_7 rfl ?_
  refine V.iconst_ (nI 4) d_Mo_goesDown_8 (by decide +kernel) ?_
  refine V.callV2 d_Mo_goesDown_9 k_Mo_158_Mo_of_MoV mo_o (Nat.le_of_ble_eq_true rfl) (by omega) (by omega) (c_Mo_of (by omega) ?_)
  refine V.isub d_Mo_goesDown_12 ?_
  refine V.istore_n d_Mo_goesDown_13 (by decide) ?_
  refine V.aload_n d_Mo_goesDown_14 rfl ?_
  refine V.get d_Mo_goesDown_15 f_Mo_7_Mo mo_o rfl ?_
  refine V.iconst_ (nI 4) d_Mo_goesDown_18 (by decide +kernel) ?_
  refine V.aload_n d_Mo_goesDown_19 rfl ?_
  refine V.get d_Mo_goesDown_20 f_Mo_7_Mo mo_o rfl ?_
  refine V.iconst_ (nI 4) d_Mo_goesDown_23 (by decide +kernel) ?_
  refine V.mldd d_Mo_goesDown_24 (by omega) ?_
  refine V.aload_n d_Mo_goesDown_25 rfl ?_
  refine V.iconst_ (nI 1) d_Mo_goesDown_26 (by decide +kernel) ?_
  refine V.aload_n d_Mo_goesDown_27 rfl ?_
  refine V.iload_n d_Mo_goesDown_28 rfl ?_
  refine V.iconst_ (nI 5) d_Mo_goesDown_29 (by decide +kernel) ?_
  refine V.callV2 d_Mo_goesDown_30 k_Mo_158_Mo_of_MoV mo_o (Nat.le_of_ble_eq_true rfl) (by omega) (by omega) (c_Mo_of (by omega) ?_)
  refine V.aload_n d_Mo_goesDown_33 rfl ?_
  refine V.iload_n d_Mo_goesDown_34 rfl ?_
  refine V.iconst_ (nI 1) d_Mo_goesDown_35 (by decide +kernel) ?_
  refine V.callV2 d_Mo_goesDown_36 k_Mo_158_Mo_of_MoV mo_o (Nat.le_of_ble_eq_true rfl) (by omega) (by omega) (c_Mo_of (by omega) ?_)
  refine V.aload_n d_Mo_goesDown_39 rfl ?_
  refine V.iload_n d_Mo_goesDown_40 rfl ?_
  refine V.iconst_ (nI 4) d_Mo_goesDown_41 (by decide +kernel) ?_
  refine V.callV2 d_Mo_goesDown_42 k_Mo_158_Mo_of_MoV mo_o (Nat.le_of_ble_eq_true rfl) (by omega) (by omega) (c_Mo_of (by omega) ?_)
  refine V.callV4 d_Mo_goesDown_45 k_Mo_154_Mo_textGives_MoV mo_o (Nat.le_of_ble_eq_true rfl) (by omega) (by omega) (c_Mo_textGives (Or.inr rfl) hC1 (fun A1 r1 hA1 er1 => ?_))
  refine V.iadd d_Mo_goesDown_48 ?_
  refine V.iconst_ (nI 0) d_Mo_goesDown_49 (by decide +kernel) ?_
  refine V.ldc (v := 99999) d_Mo_goesDown_50 (tm 1336 (by decide +kernel) rfl) ?_
  refine V.top (y := nI 99999) rfl ?_
  refine V.callS3 d_Mo_goesDown_52 k_Mo_151_Mo_heldS (Nat.le_of_ble_eq_true rfl) (by omega) (by omega) (c_Mo_held ?_)
  refine V.mstd d_Mo_goesDown_55 (by omega) ?_
  refine V.aload_n d_Mo_goesDown_56 rfl ?_
  refine V.get d_Mo_goesDown_57 f_Mo_7_Mo mo_o rfl ?_
  refine V.iconst_ (nI 3) d_Mo_goesDown_60 (by decide +kernel) ?_
  refine V.aload_n d_Mo_goesDown_61 rfl ?_
  refine V.get d_Mo_goesDown_62 f_Mo_7_Mo mo_o rfl ?_
  refine V.iconst_ (nI 3) d_Mo_goesDown_65 (by decide +kernel) ?_
  refine V.mldd d_Mo_goesDown_66 (by omega) ?_
  refine V.iload_n d_Mo_goesDown_67 rfl ?_
  refine V.i2l d_Mo_goesDown_68 ?_
  refine V.lconst_ ((nI 1).toInt64) d_Mo_goesDown_69 (by decide +kernel) ?_
  refine V.aload_n d_Mo_goesDown_70 rfl ?_
  refine V.iload_n d_Mo_goesDown_71 rfl ?_
  refine V.callV1 d_Mo_goesDown_72 k_Mo_162_Mo_reaches_MoV mo_o (Nat.le_of_ble_eq_true rfl) (by omega) (by omega) (c_Mo_reaches (by omega) ?_)
  refine V.i2l d_Mo_goesDown_75 ?_
  refine V.callS3 d_Mo_goesDown_76 k_Mo_56_Mo_inS (Nat.le_of_ble_eq_true rfl) (by omega) (by omega) (c_Mo_in ?_)
  refine V.ifeqB (tgt := 86) d_Mo_goesDown_79 (by decide) (fun c_79 => ?_) (fun c_79 => ?_)
  · skip
    refine V.iconst_ (nI 0) d_Mo_goesDown_86 (by decide +kernel) ?_
    refine V.iadd d_Mo_goesDown_87 ?_
    refine V.iconst_ (nI 0) d_Mo_goesDown_88 (by decide +kernel) ?_
    refine V.sipush_ (nI 999) d_Mo_goesDown_89 (by decide +kernel) ?_
    refine V.callS3 d_Mo_goesDown_92 k_Mo_151_Mo_heldS (Nat.le_of_ble_eq_true rfl) (by omega) (by omega) (c_Mo_held ?_)
    refine V.mstd d_Mo_goesDown_95 (by omega) ?_
    refine V.aload_n d_Mo_goesDown_96 rfl ?_
    refine V.iload_n d_Mo_goesDown_97 rfl ?_
    refine V.bipush_ (nI 6) d_Mo_goesDown_98 (by decide +kernel) ?_
    refine V.iconst_ (nI 0) d_Mo_goesDown_100 (by decide +kernel) ?_
    refine V.callV3 d_Mo_goesDown_101 k_Mo_165_Mo_sets_MoV mo_o (Nat.le_of_ble_eq_true rfl) (by omega) (by omega) (c_Mo_sets (by omega) ?_)
    refine V.aload_n d_Mo_goesDown_104 rfl ?_
    refine V.get d_Mo_goesDown_105 f_Mo_168_Mo mo_o rfl ?_
    refine V.top ef ?_
    refine V.bipush_ (nI 8) d_Mo_goesDown_108 (by decide +kernel) ?_
    refine V.geN (tgt := 123) d_Mo_goesDown_110 (by decide) (by omega) (by omega) (fun c_110 => ?_) (fun c_110 => ?_)
    · skip
      refine V.aload_n d_Mo_goesDown_123 rfl ?_
      refine V.dup rfl d_Mo_goesDown_124 ?_
      refine V.get d_Mo_goesDown_125 f_Mo_168_Mo mo_o rfl ?_
      refine V.top ef ?_
      refine V.iconst_ (nI 1) d_Mo_goesDown_128 (by decide +kernel) ?_
      refine V.addN d_Mo_goesDown_129 ?_
      refine V.mput d_Mo_goesDown_130 f_Mo_168_Mo fp_Mo_18 rfl (by decide) ?_
      refine V.vret d_Mo_goesDown_133 rfl (Nat.le_of_ble_eq_true rfl) (Nat.le_of_ble_eq_true rfl) ?_
      subst er1
      refine hQ' _ _ ?_ ?_ ?_
      · rw [rch_u (by omega)] at c_79
        unfold gdn
        first | (rw [if_pos c_79]; rfl) | (rw [if_neg (by rw [c_79]; decide)]; rfl)
      · intro k h1 h2 h3
        first | exact hA1 k h1 h2 | (rw [uA_n h3]; exact hA1 k h1 h2)
      · unfold wrf
        first | (rw [if_pos c_110, uA_s, hA1 9 (by decide) (by decide)]; done) | (rw [if_neg (by omega)]; exact hA1 9 (by decide) (by decide))
    · skip
      refine V.aload_n d_Mo_goesDown_113 rfl ?_
      refine V.get d_Mo_goesDown_114 f_Mo_37_Mo mo_o rfl ?_
      refine V.aload_n d_Mo_goesDown_117 rfl ?_
      refine V.get d_Mo_goesDown_118 f_Mo_168_Mo mo_o rfl ?_
      refine V.top ef ?_
      refine V.iload_n d_Mo_goesDown_121 rfl ?_
      refine V.msta 9 (by decide) (by decide) d_Mo_goesDown_122 (by first | omega | (show _ < 8; omega)) ?_
      refine V.aload_n d_Mo_goesDown_123 rfl ?_
      refine V.dup rfl d_Mo_goesDown_124 ?_
      refine V.get d_Mo_goesDown_125 f_Mo_168_Mo mo_o rfl ?_
      refine V.top ef ?_
      refine V.iconst_ (nI 1) d_Mo_goesDown_128 (by decide +kernel) ?_
      refine V.addN d_Mo_goesDown_129 ?_
      refine V.mput d_Mo_goesDown_130 f_Mo_168_Mo fp_Mo_18 rfl (by decide) ?_
      refine V.vret d_Mo_goesDown_133 rfl (Nat.le_of_ble_eq_true rfl) (Nat.le_of_ble_eq_true rfl) ?_
      subst er1
      refine hQ' _ _ ?_ ?_ ?_
      · rw [rch_u (by omega)] at c_79
        unfold gdn
        first | (rw [if_pos c_79]; rfl) | (rw [if_neg (by rw [c_79]; decide)]; rfl)
      · intro k h1 h2 h3
        first | exact hA1 k h1 h2 | (rw [uA_n h3]; exact hA1 k h1 h2)
      · unfold wrf
        first | (rw [if_pos c_110, uA_s, hA1 9 (by decide) (by decide)]; done) | (rw [if_neg (by omega)]; exact hA1 9 (by decide) (by decide))
  · skip
    refine V.iconst_ (nI 1) d_Mo_goesDown_82 (by decide +kernel) ?_
    refine V.goto (tgt := 87) d_Mo_goesDown_83 (by decide) ?_
    refine V.iadd d_Mo_goesDown_87 ?_
    refine V.iconst_ (nI 0) d_Mo_goesDown_88 (by decide +kernel) ?_
    refine V.sipush_ (nI 999) d_Mo_goesDown_89 (by decide +kernel) ?_
    refine V.callS3 d_Mo_goesDown_92 k_Mo_151_Mo_heldS (Nat.le_of_ble_eq_true rfl) (by omega) (by omega) (c_Mo_held ?_)
    refine V.mstd d_Mo_goesDown_95 (by omega) ?_
    refine V.aload_n d_Mo_goesDown_96 rfl ?_
    refine V.iload_n d_Mo_goesDown_97 rfl ?_
    refine V.bipush_ (nI 6) d_Mo_goesDown_98 (by decide +kernel) ?_
    refine V.iconst_ (nI 0) d_Mo_goesDown_100 (by decide +kernel) ?_
    refine V.callV3 d_Mo_goesDown_101 k_Mo_165_Mo_sets_MoV mo_o (Nat.le_of_ble_eq_true rfl) (by omega) (by omega) (c_Mo_sets (by omega) ?_)
    refine V.aload_n d_Mo_goesDown_104 rfl ?_
    refine V.get d_Mo_goesDown_105 f_Mo_168_Mo mo_o rfl ?_
    refine V.top ef ?_
    refine V.bipush_ (nI 8) d_Mo_goesDown_108 (by decide +kernel) ?_
    refine V.geN (tgt := 123) d_Mo_goesDown_110 (by decide) (by omega) (by omega) (fun c_110 => ?_) (fun c_110 => ?_)
    · skip
      refine V.aload_n d_Mo_goesDown_123 rfl ?_
      refine V.dup rfl d_Mo_goesDown_124 ?_
      refine V.get d_Mo_goesDown_125 f_Mo_168_Mo mo_o rfl ?_
      refine V.top ef ?_
      refine V.iconst_ (nI 1) d_Mo_goesDown_128 (by decide +kernel) ?_
      refine V.addN d_Mo_goesDown_129 ?_
      refine V.mput d_Mo_goesDown_130 f_Mo_168_Mo fp_Mo_18 rfl (by decide) ?_
      refine V.vret d_Mo_goesDown_133 rfl (Nat.le_of_ble_eq_true rfl) (Nat.le_of_ble_eq_true rfl) ?_
      subst er1
      refine hQ' _ _ ?_ ?_ ?_
      · rw [rch_u (by omega)] at c_79
        unfold gdn
        first | (rw [if_pos c_79]; rfl) | (rw [if_neg (by rw [c_79]; decide)]; rfl)
      · intro k h1 h2 h3
        first | exact hA1 k h1 h2 | (rw [uA_n h3]; exact hA1 k h1 h2)
      · unfold wrf
        first | (rw [if_pos c_110, uA_s, hA1 9 (by decide) (by decide)]; done) | (rw [if_neg (by omega)]; exact hA1 9 (by decide) (by decide))
    · skip
      refine V.aload_n d_Mo_goesDown_113 rfl ?_
      refine V.get d_Mo_goesDown_114 f_Mo_37_Mo mo_o rfl ?_
      refine V.aload_n d_Mo_goesDown_117 rfl ?_
      refine V.get d_Mo_goesDown_118 f_Mo_168_Mo mo_o rfl ?_
      refine V.top ef ?_
      refine V.iload_n d_Mo_goesDown_121 rfl ?_
      refine V.msta 9 (by decide) (by decide) d_Mo_goesDown_122 (by first | omega | (show _ < 8; omega)) ?_
      refine V.aload_n d_Mo_goesDown_123 rfl ?_
      refine V.dup rfl d_Mo_goesDown_124 ?_
      refine V.get d_Mo_goesDown_125 f_Mo_168_Mo mo_o rfl ?_
      refine V.top ef ?_
      refine V.iconst_ (nI 1) d_Mo_goesDown_128 (by decide +kernel) ?_
      refine V.addN d_Mo_goesDown_129 ?_
      refine V.mput d_Mo_goesDown_130 f_Mo_168_Mo fp_Mo_18 rfl (by decide) ?_
      refine V.vret d_Mo_goesDown_133 rfl (Nat.le_of_ble_eq_true rfl) (Nat.le_of_ble_eq_true rfl) ?_
      subst er1
      refine hQ' _ _ ?_ ?_ ?_
      · rw [rch_u (by omega)] at c_79
        unfold gdn
        first | (rw [if_pos c_79]; rfl) | (rw [if_neg (by rw [c_79]; decide)]; rfl)
      · intro k h1 h2 h3
        first | exact hA1 k h1 h2 | (rw [uA_n h3]; exact hA1 k h1 h2)
      · unfold wrf
        first | (rw [if_pos c_110, uA_s, hA1 9 (by decide) (by decide)]; done) | (rw [if_neg (by omega)]; exact hA1 9 (by decide) (by decide))
