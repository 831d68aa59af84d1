def NB (D : Nat → Int32) (j b : Nat) : Prop := ∃ k, k ≤ b ∧ D j = nI k
def itr {α : Type} (f : Nat → α → α) : Nat → α → α
  | 0, x => x
  | k + 1, x => f k (itr f k x)
def irm (x y : Int32) : Int32 := x - x / y * y
def lim (D : Nat → Int32) (i : Nat) : Int32 := if D (50 + 7 * i + 0) = nI 1 then D (50 + 7 * i + 1) else if D (50 + 7 * i + 0) = nI 2 then D (50 + 7 * i + 1) / nI 2 else if D (50 + 7 * i + 0) = nI 3 then nI 5 else if D (50 + 7 * i + 0) = nI 4 then (if irm (D 1) (nI 2) = nI 1 then nI 0 else D (50 + 7 * i + 1)) else if D (50 + 7 * i + 0) = nI 5 then D (50 + 7 * i + 1) / nI 2 + nI 20 else if D (50 + 7 * i + 0) = nI 6 then nI 5 + D (50 + 7 * i + 5) / nI 10 else nI 0
def grw (D : Nat → Int32) (i : Nat) : Int32 := if D (50 + 7 * i + 0) = nI 1 ∨ D (50 + 7 * i + 0) = nI 4 then (if irm (D 1) (nI 3) = 0 then nI 1 else nI 0) else if D (50 + 7 * i + 0) = nI 3 then nI 1 else if D (50 + 7 * i + 0) = nI 6 then nI 2 else nI 0
def rch (D : Nat → Int32) (i : Nat) : Int32 := if D (50 + 7 * i + 0) = nI 5 then nI 0 else D (50 + 7 * i + 5) / nI 20
def stb (D : Nat → Int32) : Nat → Int32 := fun N => itr (fun t acc => acc ||| (D (50 + 7 * t + 6) <<< (nI t &&& 31))) N (nI 0)
def btc (x : Int32) : Int32 := itr (fun k acc => acc + ((x >>> (nI k &&& 31)) &&& nI 1)) 8 (nI 0)
def dn (w x y : Int32) : Int32 := if w = nI 38 then (if ¬ x = 0 ∧ ¬ y = 0 then nI 1 else nI 0) else if w = nI 42 then x * y else if w = nI 43 then x + y else if w = nI 45 then x - y else if w = nI 47 then (if y = 0 then nI 0 else x / y) else if w = nI 60 then (if x < y then nI 1 else nI 0) else if w = nI 61 then (if x = y then nI 1 else nI 0) else if w = nI 62 then (if y < x then nI 1 else nI 0) else if w = nI 124 then (if ¬ x = 0 ∨ ¬ y = 0 then nI 1 else nI 0) else (if y = 0 then nI 0 else irm x y)
abbrev M_Mo_hold0 : MD := (⟨"FelledByNamesModel", "hold0", "(II)I"⟩, prog_14_method_40_code, 3, (some .int), fun _ => True)
theorem d_Mo_hold0_0 : decode prog_14_method_40_code 0 = .ok (.aload_n 0, 1) := by decide +kernel
theorem d_Mo_hold0_1 : decode prog_14_method_40_code 1 = .ok (.getfield 7, 3) := by decide +kernel
theorem d_Mo_hold0_4 : decode prog_14_method_40_code 4 = .ok (.bipush 8, 2) := by decide +kernel
theorem d_Mo_hold0_6 : decode prog_14_method_40_code 6 = .ok (.bipush 6, 2) := by decide +kernel
theorem d_Mo_hold0_8 : decode prog_14_method_40_code 8 = .ok (.iload_n 1, 1) := by decide +kernel
theorem d_Mo_hold0_9 : decode prog_14_method_40_code 9 = .ok (.imul, 1) := by decide +kernel
theorem d_Mo_hold0_10 : decode prog_14_method_40_code 10 = .ok (.iadd, 1) := by decide +kernel
theorem d_Mo_hold0_11 : decode prog_14_method_40_code 11 = .ok (.iload_n 2, 1) := by decide +kernel
theorem d_Mo_hold0_12 : decode prog_14_method_40_code 12 = .ok (.iadd, 1) := by decide +kernel
theorem d_Mo_hold0_13 : decode prog_14_method_40_code 13 = .ok (.iaload, 1) := by decide +kernel
theorem d_Mo_hold0_14 : decode prog_14_method_40_code 14 = .ok (.ireturn, 1) := by decide +kernel
set_option maxRecDepth 100000 in
theorem c_Mo_hold0 {i j : Nat} {l : Launch} {d q n : Nat} {D : Nat → Int32} {A : Nat → Nat → Int32} {S : Nat → Int32} {h0 : HP} {Q : QT} (hi : 8 + 6 * i + j < 278) (hQ : Q (some (.int (D (8 + 6 * i + j)))) n (mo q D A S h0)) : Ct l M_Mo_hold0 d 0 0 [.ref q, .int (nI i), .int (nI j)] n (mo q D A S h0) Q := by
  refine Ct.of (fun _ => trivial) (by decide) (Nat.le_of_ble_eq_true rfl) ?_
  refine V.aload_n d_Mo_hold0_0 rfl ?_
  refine V.get d_Mo_hold0_1 f_Mo_7_Mo mo_o rfl ?_
  refine V.bipush_ (nI 8) d_Mo_hold0_4 (by decide +kernel) ?_
  refine V.bipush_ (nI 6) d_Mo_hold0_6 (by decide +kernel) ?_
  refine V.iload_n d_Mo_hold0_8 rfl ?_
  refine V.mulN d_Mo_hold0_9 ?_
  refine V.addN d_Mo_hold0_10 ?_
  refine V.iload_n d_Mo_hold0_11 rfl ?_
  refine V.addN d_Mo_hold0_12 ?_
  refine V.mldd d_Mo_hold0_13 (by omega) ?_
  refine V.iret d_Mo_hold0_14 rfl (Nat.le_of_ble_eq_true rfl) (Nat.le_of_ble_eq_true rfl) ?_
  exact hQ
abbrev M_Mo_limit : MD := (⟨"FelledByNamesModel", "limit", "(I)I"⟩, prog_14_method_33_code, 3, (some .int), fun _ => True)
theorem d_Mo_limit_0 : decode prog_14_method_33_code 0 = .ok (.aload_n 0, 1) := by decide +kernel
theorem d_Mo_limit_1 : decode prog_14_method_33_code 1 = .ok (.iload_n 1, 1) := by decide +kernel
theorem d_Mo_limit_2 : decode prog_14_method_33_code 2 = .ok (.iconst 1, 1) := by decide +kernel
theorem d_Mo_limit_3 : decode prog_14_method_33_code 3 = .ok (.invokevirtual 158, 3) := by decide +kernel
theorem kB_Mo_of : kB M_Mo_of 2 := ⟨tm 15 (by decide +kernel) rfl, tm 1286 (by decide +kernel) rfl, ⟨by decide, by decide, by decide +kernel⟩, by decide⟩
theorem k_Mo_158_Mo_of_MoV : kV "FelledByNamesModel" 158 5 M_Mo_of 2 := ⟨kB_Mo_of, tm 1283 (by decide +kernel) rfl, tm 1285 (by decide +kernel) rfl, tp 32 (by decide +kernel) rfl, _, rfl, rfl⟩
theorem d_Mo_limit_6 : decode prog_14_method_33_code 6 = .ok (.istore_n 2, 1) := by decide +kernel
theorem d_Mo_limit_7 : decode prog_14_method_33_code 7 = .ok (.aload_n 0, 1) := by decide +kernel
theorem d_Mo_limit_8 : decode prog_14_method_33_code 8 = .ok (.iload_n 1, 1) := by decide +kernel
theorem d_Mo_limit_9 : decode prog_14_method_33_code 9 = .ok (.iconst 0, 1) := by decide +kernel
theorem d_Mo_limit_10 : decode prog_14_method_33_code 10 = .ok (.invokevirtual 158, 3) := by decide +kernel
theorem d_Mo_limit_13 : decode prog_14_method_33_code 13 = .ok (.tableswitch 84 1 6 #[39, 41, 45, 47, 65, 72], 39) := by decide +kernel
theorem d_Mo_limit_97 : decode prog_14_method_33_code 97 = .ok (.iconst 0, 1) := by decide +kernel
theorem d_Mo_limit_98 : decode prog_14_method_33_code 98 = .ok (.ireturn, 1) := by decide +kernel
theorem d_Mo_limit_52 : decode prog_14_method_33_code 52 = .ok (.iload_n 2, 1) := by decide +kernel
theorem d_Mo_limit_53 : decode prog_14_method_33_code 53 = .ok (.ireturn, 1) := by decide +kernel
theorem d_Mo_limit_54 : decode prog_14_method_33_code 54 = .ok (.iload_n 2, 1) := by decide +kernel
theorem d_Mo_limit_55 : decode prog_14_method_33_code 55 = .ok (.iconst 2, 1) := by decide +kernel
theorem d_Mo_limit_56 : decode prog_14_method_33_code 56 = .ok (.idiv, 1) := by decide +kernel
theorem d_Mo_limit_57 : decode prog_14_method_33_code 57 = .ok (.ireturn, 1) := by decide +kernel
theorem d_Mo_limit_58 : decode prog_14_method_33_code 58 = .ok (.iconst 5, 1) := by decide +kernel
theorem d_Mo_limit_59 : decode prog_14_method_33_code 59 = .ok (.ireturn, 1) := by decide +kernel
theorem d_Mo_limit_60 : decode prog_14_method_33_code 60 = .ok (.aload_n 0, 1) := by decide +kernel
theorem d_Mo_limit_61 : decode prog_14_method_33_code 61 = .ok (.getfield 7, 3) := by decide +kernel
theorem d_Mo_limit_64 : decode prog_14_method_33_code 64 = .ok (.iconst 1, 1) := by decide +kernel
theorem d_Mo_limit_65 : decode prog_14_method_33_code 65 = .ok (.iaload, 1) := by decide +kernel
theorem d_Mo_limit_66 : decode prog_14_method_33_code 66 = .ok (.iconst 2, 1) := by decide +kernel
theorem d_Mo_limit_67 : decode prog_14_method_33_code 67 = .ok (.irem, 1) := by decide +kernel
theorem d_Mo_limit_68 : decode prog_14_method_33_code 68 = .ok (.iconst 1, 1) := by decide +kernel
theorem d_Mo_limit_69 : decode prog_14_method_33_code 69 = .ok (.if_icmp .ne 7, 3) := by decide +kernel
theorem d_Mo_limit_76 : decode prog_14_method_33_code 76 = .ok (.iload_n 2, 1) := by decide +kernel
theorem d_Mo_limit_77 : decode prog_14_method_33_code 77 = .ok (.ireturn, 1) := by decide +kernel
theorem d_Mo_limit_72 : decode prog_14_method_33_code 72 = .ok (.iconst 0, 1) := by decide +kernel
theorem d_Mo_limit_73 : decode prog_14_method_33_code 73 = .ok (.goto 4, 3) := by decide +kernel
theorem d_Mo_limit_78 : decode prog_14_method_33_code 78 = .ok (.iload_n 2, 1) := by decide +kernel
theorem d_Mo_limit_79 : decode prog_14_method_33_code 79 = .ok (.iconst 2, 1) := by decide +kernel
theorem d_Mo_limit_80 : decode prog_14_method_33_code 80 = .ok (.idiv, 1) := by decide +kernel
theorem d_Mo_limit_81 : decode prog_14_method_33_code 81 = .ok (.bipush 20, 2) := by decide +kernel
theorem d_Mo_limit_83 : decode prog_14_method_33_code 83 = .ok (.iadd, 1) := by decide +kernel
theorem d_Mo_limit_84 : decode prog_14_method_33_code 84 = .ok (.ireturn, 1) := by decide +kernel
theorem d_Mo_limit_85 : decode prog_14_method_33_code 85 = .ok (.iconst 5, 1) := by decide +kernel
theorem d_Mo_limit_86 : decode prog_14_method_33_code 86 = .ok (.aload_n 0, 1) := by decide +kernel
theorem d_Mo_limit_87 : decode prog_14_method_33_code 87 = .ok (.iload_n 1, 1) := by decide +kernel
theorem d_Mo_limit_88 : decode prog_14_method_33_code 88 = .ok (.iconst 5, 1) := by decide +kernel
theorem d_Mo_limit_89 : decode prog_14_method_33_code 89 = .ok (.invokevirtual 158, 3) := by decide +kernel
theorem d_Mo_limit_92 : decode prog_14_method_33_code 92 = .ok (.bipush 10, 2) := by decide +kernel
theorem d_Mo_limit_94 : decode prog_14_method_33_code 94 = .ok (.idiv, 1) := by decide +kernel
theorem d_Mo_limit_95 : decode prog_14_method_33_code 95 = .ok (.iadd, 1) := by decide +kernel
theorem d_Mo_limit_96 : decode prog_14_method_33_code 96 = .ok (.ireturn, 1) := by decide +kernel
set_option maxRecDepth 100000 in
theorem c_Mo_limit {i : Nat} {l : Launch} {d q n : Nat} {D : Nat → Int32} {A : Nat → Nat → Int32} {S : Nat → Int32} {h0 : HP} {Q : QT} (hi : i < 8) (hk : NB D (50 + 7 * i + 0) 6) (hQ : Q (some (.int (lim D i))) n (mo q D A S h0)) : Ct l M_Mo_limit (d + 1) 0 0 [.ref q, .int (nI i)] n (mo q D A S h0) Q := by
  refine Ct.of (fun _ => trivial) (by decide) (Nat.le_of_ble_eq_true rfl) ?_
  obtain ⟨kd, hkd, ekd⟩ := hk
  unfold lim at hQ
  rw [ekd] at hQ
  refine V.aload_n d_Mo_limit_0 rfl ?_
  refine V.iload_n d_Mo_limit_1 rfl ?_
  refine V.iconst_ (nI 1) d_Mo_limit_2 (by decide +kernel) ?_
  refine V.callV2 d_Mo_limit_3 k_Mo_158_Mo_of_MoV mo_o (Nat.le_of_ble_eq_true rfl) (by omega) (by omega) (c_Mo_of (by omega) ?_)
  refine V.istore_n d_Mo_limit_6 (by decide) ?_
  refine V.aload_n d_Mo_limit_7 rfl ?_
  refine V.iload_n d_Mo_limit_8 rfl ?_
  refine V.iconst_ (nI 0) d_Mo_limit_9 (by decide +kernel) ?_
  refine V.callV2 d_Mo_limit_10 k_Mo_158_Mo_of_MoV mo_o (Nat.le_of_ble_eq_true rfl) (by omega) (by omega) (c_Mo_of (by omega) ?_)
  refine V.top ekd ?_
  rcases (show kd = 0 ∨ kd = 1 ∨ kd = 2 ∨ kd = 3 ∨ kd = 4 ∨ kd = 5 ∨ kd = 6 by omega) with rfl | rfl | rfl | rfl | rfl | rfl | rfl
  · skip
    refine V.tabOut (tgt := 97) d_Mo_limit_13 (by decide +kernel) (by decide) ?_
    refine V.iconst_ (nI 0) d_Mo_limit_97 (by decide +kernel) ?_
    refine V.iret d_Mo_limit_98 rfl (Nat.le_of_ble_eq_true rfl) (Nat.le_of_ble_eq_true rfl) ?_
    first | exact hQ | (have e : irm (D 1) (nI 2) = nI 1 := Classical.byContradiction fun z => absurd c_69 (by first | exact z | exact fun y => y z); rw [if_pos e] at hQ; exact hQ) | (rw [if_pos (show irm (D 1) (nI 2) = nI 1 from c_69)] at hQ; exact hQ) | (rw [if_neg (show ¬ irm (D 1) (nI 2) = nI 1 from c_69)] at hQ; exact hQ)
  · skip
    refine V.tabIn (tgt := 52) (off := 39) d_Mo_limit_13 (by decide +kernel) (by decide +kernel) (by decide +kernel) (by decide) ?_
    refine V.iload_n d_Mo_limit_52 rfl ?_
    refine V.iret d_Mo_limit_53 rfl (Nat.le_of_ble_eq_true rfl) (Nat.le_of_ble_eq_true rfl) ?_
    first | exact hQ | (have e : irm (D 1) (nI 2) = nI 1 := Classical.byContradiction fun z => absurd c_69 (by first | exact z | exact fun y => y z); rw [if_pos e] at hQ; exact hQ) | (rw [if_pos (show irm (D 1) (nI 2) = nI 1 from c_69)] at hQ; exact hQ) | (rw [if_neg (show ¬ irm (D 1) (nI 2) = nI 1 from c_69)] at hQ; exact hQ)
  · skip
    refine V.tabIn (tgt := 54) (off := 41) d_Mo_limit_13 (by decide +kernel) (by decide +kernel) (by decide +kernel) (by decide) ?_
    refine V.iload_n d_Mo_limit_54 rfl ?_
    refine V.iconst_ (nI 2) d_Mo_limit_55 (by decide +kernel) ?_
    refine V.idiv d_Mo_limit_56 (by decide +kernel) ?_
    refine V.iret d_Mo_limit_57 rfl (Nat.le_of_ble_eq_true rfl) (Nat.le_of_ble_eq_true rfl) ?_
    first | exact hQ | (have e : irm (D 1) (nI 2) = nI 1 := Classical.byContradiction fun z => absurd c_69 (by first | exact z | exact fun y => y z); rw [if_pos e] at hQ; exact hQ) | (rw [if_pos (show irm (D 1) (nI 2) = nI 1 from c_69)] at hQ; exact hQ) | (rw [if_neg (show ¬ irm (D 1) (nI 2) = nI 1 from c_69)] at hQ; exact hQ)
  · skip
    refine V.tabIn (tgt := 58) (off := 45) d_Mo_limit_13 (by decide +kernel) (by decide +kernel) (by decide +kernel) (by decide) ?_
    refine V.iconst_ (nI 5) d_Mo_limit_58 (by decide +kernel) ?_
    refine V.iret d_Mo_limit_59 rfl (Nat.le_of_ble_eq_true rfl) (Nat.le_of_ble_eq_true rfl) ?_
    first | exact hQ | (have e : irm (D 1) (nI 2) = nI 1 := Classical.byContradiction fun z => absurd c_69 (by first | exact z | exact fun y => y z); rw [if_pos e] at hQ; exact hQ) | (rw [if_pos (show irm (D 1) (nI 2) = nI 1 from c_69)] at hQ; exact hQ) | (rw [if_neg (show ¬ irm (D 1) (nI 2) = nI 1 from c_69)] at hQ; exact hQ)
  · skip
    refine V.tabIn (tgt := 60) (off := 47) d_Mo_limit_13 (by decide +kernel) (by decide +kernel) (by decide +kernel) (by decide) ?_
    refine V.aload_n d_Mo_limit_60 rfl ?_
    refine V.get d_Mo_limit_61 f_Mo_7_Mo mo_o rfl ?_
    refine V.iconst_ (nI 1) d_Mo_limit_64 (by decide +kernel) ?_
    refine V.mldd d_Mo_limit_65 (by omega) ?_
    refine V.iconst_ (nI 2) d_Mo_limit_66 (by decide +kernel) ?_
    refine V.irem d_Mo_limit_67 (by decide +kernel) ?_
    refine V.iconst_ (nI 1) d_Mo_limit_68 (by decide +kernel) ?_
    refine V.icmp_ne (tgt := 76) d_Mo_limit_69 (by decide) (fun c_69 => ?_) (fun c_69 => ?_)
    · skip
      refine V.iload_n d_Mo_limit_76 rfl ?_
      refine V.iret d_Mo_limit_77 rfl (Nat.le_of_ble_eq_true rfl) (Nat.le_of_ble_eq_true rfl) ?_
      first | exact hQ | (have e : irm (D 1) (nI 2) = nI 1 := Classical.byContradiction fun z => absurd c_69 (by first | exact z | exact fun y => y z); rw [if_pos e] at hQ; exact hQ) | (rw [if_pos (show irm (D 1) (nI 2) = nI 1 from c_69)] at hQ; exact hQ) | (rw [if_neg (show ¬ irm (D 1) (nI 2) = nI 1 from c_69)] at hQ; exact hQ)
    · skip
      refine V.iconst_ (nI 0) d_Mo_limit_72 (by decide +kernel) ?_
      refine V.goto (tgt := 77) d_Mo_limit_73 (by decide) ?_
      refine V.iret d_Mo_limit_77 rfl (Nat.le_of_ble_eq_true rfl) (Nat.le_of_ble_eq_true rfl) ?_
      first | exact hQ | (have e : irm (D 1) (nI 2) = nI 1 := Classical.byContradiction fun z => absurd c_69 (by first | exact z | exact fun y => y z); rw [if_pos e] at hQ; exact hQ) | (rw [if_pos (show irm (D 1) (nI 2) = nI 1 from c_69)] at hQ; exact hQ) | (rw [if_neg (show ¬ irm (D 1) (nI 2) = nI 1 from c_69)] at hQ; exact hQ)
  · skip
    refine V.tabIn (tgt := 78) (off := 65) d_Mo_limit_13 (by decide +kernel) (by decide +kernel) (by decide +kernel) (by decide) ?_
    refine V.iload_n d_Mo_limit_78 rfl ?_
    refine V.iconst_ (nI 2) d_Mo_limit_79 (by decide +kernel) ?_
    refine V.idiv d_Mo_limit_80 (by decide +kernel) ?_
    refine V.bipush_ (nI 20) d_Mo_limit_81 (by decide +kernel) ?_
    refine V.iadd d_Mo_limit_83 ?_
    refine V.iret d_Mo_limit_84 rfl (Nat.le_of_ble_eq_true rfl) (Nat.le_of_ble_eq_true rfl) ?_
    first | exact hQ | (have e : irm (D 1) (nI 2) = nI 1 := Classical.byContradiction fun z => absurd c_69 (by first | exact z | exact fun y => y z); rw [if_pos e] at hQ; exact hQ) | (rw [if_pos (show irm (D 1) (nI 2) = nI 1 from c_69)] at hQ; exact hQ) | (rw [if_neg (show ¬ irm (D 1) (nI 2) = nI 1 from c_69)] at hQ; exact hQ)
  · skip
    refine V.tabIn (tgt := 85) (off := 72) d_Mo_limit_13 (by decide +kernel) (by decide +kernel) (by decide +kernel) (by decide) ?_
    refine V.iconst_ (nI 5) d_Mo_limit_85 (by decide +kernel) ?_
    refine V.aload_n d_Mo_limit_86 rfl ?_
    refine V.iload_n d_Mo_limit_87 rfl ?_
    refine V.iconst_ (nI 5) d_Mo_limit_88 (by decide +kernel) ?_
    refine V.callV2 d_Mo_limit_89 k_Mo_158_Mo_of_MoV mo_o (Nat.le_of_ble_eq_true rfl) (by omega) (by omega) (c_Mo_of (by omega) ?_)
    refine V.bipush_ (nI 10) d_Mo_limit_92 (by decide +kernel) ?_
    refine V.idiv d_Mo_limit_94 (by decide +kernel) ?_
    refine V.iadd d_Mo_limit_95 ?_
    refine V.iret d_Mo_limit_96 rfl (Nat.le_of_ble_eq_true rfl) (Nat.le_of_ble_eq_true rfl) ?_
    first | exact hQ | (have e : irm (D 1) (nI 2) = nI 1 := Classical.byContradiction fun z => absurd c_69 (by first | exact z | exact fun y => y z); rw [if_pos e] at hQ; exact hQ) | (rw [if_pos (show irm (D 1) (nI 2) = nI 1 from c_69)] at hQ; exact hQ) | (rw [if_neg (show ¬ irm (D 1) (nI 2) = nI 1 from c_69)] at hQ; exact hQ)
abbrev M_Mo_grows : MD := (⟨"FelledByNamesModel", "grows", "(I)I"⟩, prog_14_method_34_code, 2, (some .int), fun _ => True)
theorem d_Mo_grows_0 : decode prog_14_method_34_code 0 = .ok (.aload_n 0, 1) := by decide +kernel
theorem d_Mo_grows_1 : decode prog_14_method_34_code 1 = .ok (.iload_n 1, 1) := by decide +kernel
theorem d_Mo_grows_2 : decode prog_14_method_34_code 2 = .ok (.iconst 0, 1) := by decide +kernel
theorem d_Mo_grows_3 : decode prog_14_method_34_code 3 = .ok (.invokevirtual 158, 3) := by decide +kernel
theorem d_Mo_grows_6 : decode prog_14_method_34_code 6 = .ok (.tableswitch 59 1 6 #[38, 59, 55, 38, 59, 57], 38) := by decide +kernel
theorem d_Mo_grows_65 : decode prog_14_method_34_code 65 = .ok (.iconst 0, 1) := by decide +kernel
theorem d_Mo_grows_66 : decode prog_14_method_34_code 66 = .ok (.ireturn, 1) := by decide +kernel
theorem d_Mo_grows_44 : decode prog_14_method_34_code 44 = .ok (.aload_n 0, 1) := by decide +kernel
theorem d_Mo_grows_45 : decode prog_14_method_34_code 45 = .ok (.getfield 7, 3) := by decide +kernel
theorem d_Mo_grows_48 : decode prog_14_method_34_code 48 = .ok (.iconst 1, 1) := by decide +kernel
theorem d_Mo_grows_49 : decode prog_14_method_34_code 49 = .ok (.iaload, 1) := by decide +kernel
theorem d_Mo_grows_50 : decode prog_14_method_34_code 50 = .ok (.iconst 3, 1) := by decide +kernel
theorem d_Mo_grows_51 : decode prog_14_method_34_code 51 = .ok (.irem, 1) := by decide +kernel
theorem d_Mo_grows_52 : decode prog_14_method_34_code 52 = .ok (.ifCond .ne 7, 3) := by decide +kernel
theorem d_Mo_grows_59 : decode prog_14_method_34_code 59 = .ok (.iconst 0, 1) := by decide +kernel
theorem d_Mo_grows_60 : decode prog_14_method_34_code 60 = .ok (.ireturn, 1) := by decide +kernel
theorem d_Mo_grows_55 : decode prog_14_method_34_code 55 = .ok (.iconst 1, 1) := by decide +kernel
theorem d_Mo_grows_56 : decode prog_14_method_34_code 56 = .ok (.goto 4, 3) := by decide +kernel
theorem d_Mo_grows_61 : decode prog_14_method_34_code 61 = .ok (.iconst 1, 1) := by decide +kernel
theorem d_Mo_grows_62 : decode prog_14_method_34_code 62 = .ok (.ireturn, 1) := by decide +kernel
theorem d_Mo_grows_63 : decode prog_14_method_34_code 63 = .ok (.iconst 2, 1) := by decide +kernel
theorem d_Mo_grows_64 : decode prog_14_method_34_code 64 = .ok (.ireturn, 1) := by decide +kernel
set_option maxRecDepth 100000 in
theorem c_Mo_grows {i : Nat} {l : Launch} {d q n : Nat} {D : Nat → Int32} {A : Nat → Nat → Int32} {S : Nat → Int32} {h0 : HP} {Q : QT} (hi : i < 8) (hk : NB D (50 + 7 * i + 0) 6) (hQ : Q (some (.int (grw D i))) n (mo q D A S h0)) : Ct l M_Mo_grows (d + 1) 0 0 [.ref q, .int (nI i)] n (mo q D A S h0) Q := by
  refine Ct.of (fun _ => trivial) (by decide) (Nat.le_of_ble_eq_true rfl) ?_
  obtain ⟨kd, hkd, ekd⟩ := hk
  unfold grw at hQ
  rw [ekd] at hQ
  refine V.aload_n d_Mo_grows_0 rfl ?_
  refine V.iload_n d_Mo_grows_1 rfl ?_
  refine V.iconst_ (nI 0) d_Mo_grows_2 (by decide +kernel) ?_
  refine V.callV2 d_Mo_grows_3 k_Mo_158_Mo_of_MoV mo_o (Nat.le_of_ble_eq_true rfl) (by omega) (by omega) (c_Mo_of (by omega) ?_)
  refine V.top ekd ?_
  rcases (show kd = 0 ∨ kd = 1 ∨ kd = 2 ∨ kd = 3 ∨ kd = 4 ∨ kd = 5 ∨ kd = 6 by omega) with rfl | rfl | rfl | rfl | rfl | rfl | rfl
  · skip
    refine V.tabOut (tgt := 65) d_Mo_grows_6 (by decide +kernel) (by decide) ?_
    refine V.iconst_ (nI 0) d_Mo_grows_65 (by decide +kernel) ?_
    refine V.iret d_Mo_grows_66 rfl (Nat.le_of_ble_eq_true rfl) (Nat.le_of_ble_eq_true rfl) ?_
    first | exact hQ | (rw [if_pos (by decide +kernel), if_pos (show irm (D 1) (nI 3) = 0 from c_52)] at hQ; exact hQ) | (rw [if_pos (by decide +kernel), if_neg (show ¬ irm (D 1) (nI 3) = 0 from c_52)] at hQ; exact hQ) | (rw [if_neg (by decide +kernel)] at hQ; exact hQ)
  · skip
    refine V.tabIn (tgt := 44) (off := 38) d_Mo_grows_6 (by decide +kernel) (by decide +kernel) (by decide +kernel) (by decide) ?_
    refine V.aload_n d_Mo_grows_44 rfl ?_
    refine V.get d_Mo_grows_45 f_Mo_7_Mo mo_o rfl ?_
    refine V.iconst_ (nI 1) d_Mo_grows_48 (by decide +kernel) ?_
    refine V.mldd d_Mo_grows_49 (by omega) ?_
    refine V.iconst_ (nI 3) d_Mo_grows_50 (by decide +kernel) ?_
    refine V.irem d_Mo_grows_51 (by decide +kernel) ?_
    refine V.if_ne (tgt := 59) d_Mo_grows_52 (by decide) (fun c_52 => ?_) (fun c_52 => ?_)
    · skip
      refine V.iconst_ (nI 0) d_Mo_grows_59 (by decide +kernel) ?_
      refine V.iret d_Mo_grows_60 rfl (Nat.le_of_ble_eq_true rfl) (Nat.le_of_ble_eq_true rfl) ?_
      first | exact hQ | (rw [if_pos (by decide +kernel), if_pos (show irm (D 1) (nI 3) = 0 from c_52)] at hQ; exact hQ) | (rw [if_pos (by decide +kernel), if_neg (show ¬ irm (D 1) (nI 3) = 0 from c_52)] at hQ; exact hQ) | (rw [if_neg (by decide +kernel)] at hQ; exact hQ)
    · skip
      refine V.iconst_ (nI 1) d_Mo_grows_55 (by decide +kernel) ?_
      refine V.goto (tgt := 60) d_Mo_grows_56 (by decide) ?_
      refine V.iret d_Mo_grows_60 rfl (Nat.le_of_ble_eq_true rfl) (Nat.le_of_ble_eq_true rfl) ?_
      first | exact hQ | (rw [if_pos (by decide +kernel), if_pos (show irm (D 1) (nI 3) = 0 from c_52)] at hQ; exact hQ) | (rw [if_pos (by decide +kernel), if_neg (show ¬ irm (D 1) (nI 3) = 0 from c_52)] at hQ; exact hQ) | (rw [if_neg (by decide +kernel)] at hQ; exact hQ)
  · skip
    refine V.tabIn (tgt := 65) (off := 59) d_Mo_grows_6 (by decide +kernel) (by decide +kernel) (by decide +kernel) (by decide) ?_
    refine V.iconst_ (nI 0) d_Mo_grows_65 (by decide +kernel) ?_
    refine V.iret d_Mo_grows_66 rfl (Nat.le_of_ble_eq_true rfl) (Nat.le_of_ble_eq_true rfl) ?_
    first | exact hQ | (rw [if_pos (by decide +kernel), if_pos (show irm (D 1) (nI 3) = 0 from c_52)] at hQ; exact hQ) | (rw [if_pos (by decide +kernel), if_neg (show ¬ irm (D 1) (nI 3) = 0 from c_52)] at hQ; exact hQ) | (rw [if_neg (by decide +kernel)] at hQ; exact hQ)
  · skip
    refine V.tabIn (tgt := 61) (off := 55) d_Mo_grows_6 (by decide +kernel) (by decide +kernel) (by decide +kernel) (by decide) ?_
    refine V.iconst_ (nI 1) d_Mo_grows_61 (by decide +kernel) ?_
    refine V.iret d_Mo_grows_62 rfl (Nat.le_of_ble_eq_true rfl) (Nat.le_of_ble_eq_true rfl) ?_
    first | exact hQ | (rw [if_pos (by decide +kernel), if_pos (show irm (D 1) (nI 3) = 0 from c_52)] at hQ; exact hQ) | (rw [if_pos (by decide +kernel), if_neg (show ¬ irm (D 1) (nI 3) = 0 from c_52)] at hQ; exact hQ) | (rw [if_neg (by decide +kernel)] at hQ; exact hQ)
  · skip
    refine V.tabIn (tgt := 44) (off := 38) d_Mo_grows_6 (by decide +kernel) (by decide +kernel) (by decide +kernel) (by decide) ?_
    refine V.aload_n d_Mo_grows_44 rfl ?_
    refine V.get d_Mo_grows_45 f_Mo_7_Mo mo_o rfl ?_
    refine V.iconst_ (nI 1) d_Mo_grows_48 (by decide +kernel) ?_
    refine V.mldd d_Mo_grows_49 (by omega) ?_
    refine V.iconst_ (nI 3) d_Mo_grows_50 (by decide +kernel) ?_
    refine V.irem d_Mo_grows_51 (by decide +kernel) ?_
    refine V.if_ne (tgt := 59) d_Mo_grows_52 (by decide) (fun c_52 => ?_) (fun c_52 => ?_)
    · skip
      refine V.iconst_ (nI 0) d_Mo_grows_59 (by decide +kernel) ?_
      refine V.iret d_Mo_grows_60 rfl (Nat.le_of_ble_eq_true rfl) (Nat.le_of_ble_eq_true rfl) ?_
      first | exact hQ | (rw [if_pos (by decide +kernel), if_pos (show irm (D 1) (nI 3) = 0 from c_52)] at hQ; exact hQ) | (rw [if_pos (by decide +kernel), if_neg (show ¬ irm (D 1) (nI 3) = 0 from c_52)] at hQ; exact hQ) | (rw [if_neg (by decide +kernel)] at hQ; exact hQ)
    · skip
      refine V.iconst_ (nI 1) d_Mo_grows_55 (by decide +kernel) ?_
      refine V.goto (tgt := 60) d_Mo_grows_56 (by decide) ?_
      refine V.iret d_Mo_grows_60 rfl (Nat.le_of_ble_eq_true rfl) (Nat.le_of_ble_eq_true rfl) ?_
      first | exact hQ | (rw [if_pos (by decide +kernel), if_pos (show irm (D 1) (nI 3) = 0 from c_52)] at hQ; exact hQ) | (rw [if_pos (by decide +kernel), if_neg (show ¬ irm (D 1) (nI 3) = 0 from c_52)] at hQ; exact hQ) | (rw [if_neg (by decide +kernel)] at hQ; exact hQ)
  · skip
    refine V.tabIn (tgt := 65) (off := 59) d_Mo_grows_6 (by decide +kernel) (by decide +kernel) (by decide +kernel) (by decide) ?_
    refine V.iconst_ (nI 0) d_Mo_grows_65 (by decide +kernel) ?_
    refine V.iret d_Mo_grows_66 rfl (Nat.le_of_ble_eq_true rfl) (Nat.le_of_ble_eq_true rfl) ?_
    first | exact hQ | (rw [if_pos (by decide +kernel), if_pos (show irm (D 1) (nI 3) = 0 from c_52)] at hQ; exact hQ) | (rw [if_pos (by decide +kernel), if_neg (show ¬ irm (D 1) (nI 3) = 0 from c_52)] at hQ; exact hQ) | (rw [if_neg (by decide +kernel)] at hQ; exact hQ)
  · skip
    refine V.tabIn (tgt := 63) (off := 57) d_Mo_grows_6 (by decide +kernel) (by decide +kernel) (by decide +kernel) (by decide) ?_
    refine V.iconst_ (nI 2) d_Mo_grows_63 (by decide +kernel) ?_
    refine V.iret d_Mo_grows_64 rfl (Nat.le_of_ble_eq_true rfl) (Nat.le_of_ble_eq_true rfl) ?_
    first | exact hQ | (rw [if_pos (by decide +kernel), if_pos (show irm (D 1) (nI 3) = 0 from c_52)] at hQ; exact hQ) | (rw [if_pos (by decide +kernel), if_neg (show ¬ irm (D 1) (nI 3) = 0 from c_52)] at hQ; exact hQ) | (rw [if_neg (by decide +kernel)] at hQ; exact hQ)
abbrev M_Mo_reaches : MD := (⟨"FelledByNamesModel", "reaches", "(I)I"⟩, prog_14_method_35_code, 2, (some .int), fun _ => True)
theorem d_Mo_reaches_0 : decode prog_14_method_35_code 0 = .ok (.aload_n 0, 1) := by decide +kernel
theorem d_Mo_reaches_1 : decode prog_14_method_35_code 1 = .ok (.iload_n 1, 1) := by decide +kernel
theorem d_Mo_reaches_2 : decode prog_14_method_35_code 2 = .ok (.iconst 0, 1) := by decide +kernel
theorem d_Mo_reaches_3 : decode prog_14_method_35_code 3 = .ok (.invokevirtual 158, 3) := by decide +kernel
theorem d_Mo_reaches_6 : decode prog_14_method_35_code 6 = .ok (.iconst 5, 1) := by decide +kernel
theorem d_Mo_reaches_7 : decode prog_14_method_35_code 7 = .ok (.if_icmp .ne 7, 3) := by decide +kernel
theorem d_Mo_reaches_14 : decode prog_14_method_35_code 14 = .ok (.aload_n 0, 1) := by decide +kernel
theorem d_Mo_reaches_15 : decode prog_14_method_35_code 15 = .ok (.iload_n 1, 1) := by decide +kernel
theorem d_Mo_reaches_16 : decode prog_14_method_35_code 16 = .ok (.iconst 5, 1) := by decide +kernel
theorem d_Mo_reaches_17 : decode prog_14_method_35_code 17 = .ok (.invokevirtual 158, 3) := by decide +kernel
theorem d_Mo_reaches_20 : decode prog_14_method_35_code 20 = .ok (.bipush 20, 2) := by decide +kernel
theorem d_Mo_reaches_22 : decode prog_14_method_35_code 22 = .ok (.idiv, 1) := by decide +kernel
theorem d_Mo_reaches_23 : decode prog_14_method_35_code 23 = .ok (.ireturn, 1) := by decide +kernel
theorem d_Mo_reaches_10 : decode prog_14_method_35_code 10 = .ok (.iconst 0, 1) := by decide +kernel
theorem d_Mo_reaches_11 : decode prog_14_method_35_code 11 = .ok (.goto 12, 3) := by decide +kernel
set_option maxRecDepth 100000 in
theorem c_Mo_reaches {i : Nat} {l : Launch} {d q n : Nat} {D : Nat → Int32} {A : Nat → Nat → Int32} {S : Nat → Int32} {h0 : HP} {Q : QT} (hi : i < 8) (hQ : Q (some (.int (rch D i))) n (mo q D A S h0)) : Ct l M_Mo_reaches (d + 1) 0 0 [.ref q, .int (nI i)] n (mo q D A S h0) Q := by
  refine Ct.of (fun _ => trivial) (by decide) (Nat.le_of_ble_eq_true rfl) ?_
  refine V.aload_n d_Mo_reaches_0 rfl ?_
  refine V.iload_n d_Mo_reaches_1 rfl ?_
  refine V.iconst_ (nI 0) d_Mo_reaches_2 (by decide +kernel) ?_
  refine V.callV2 d_Mo_reaches_3 k_Mo_158_Mo_of_MoV mo_o (Nat.le_of_ble_eq_true rfl) (by omega) (by omega) (c_Mo_of (by omega) ?_)
  refine V.iconst_ (nI 5) d_Mo_reaches_6 (by decide +kernel) ?_
  refine V.icmp_ne (tgt := 14) d_Mo_reaches_7 (by decide) (fun c_7 => ?_) (fun c_7 => ?_)
  · skip
    refine V.aload_n d_Mo_reaches_14 rfl ?_
    refine V.iload_n d_Mo_reaches_15 rfl ?_
    refine V.iconst_ (nI 5) d_Mo_reaches_16 (by decide +kernel) ?_
    refine V.callV2 d_Mo_reaches_17 k_Mo_158_Mo_of_MoV mo_o (Nat.le_of_ble_eq_true rfl) (by omega) (by omega) (c_Mo_of (by omega) ?_)
    refine V.bipush_ (nI 20) d_Mo_reaches_20 (by decide +kernel) ?_
    refine V.idiv d_Mo_reaches_22 (by decide +kernel) ?_
    refine V.iret d_Mo_reaches_23 rfl (Nat.le_of_ble_eq_true rfl) (Nat.le_of_ble_eq_true rfl) ?_
    unfold rch at hQ
    first | (rw [if_pos c_7] at hQ; exact hQ) | (rw [if_neg c_7] at hQ; exact hQ)
  · skip
    refine V.iconst_ (nI 0) d_Mo_reaches_10 (by decide +kernel) ?_
    refine V.goto (tgt := 23) d_Mo_reaches_11 (by decide) ?_
    refine V.iret d_Mo_reaches_23 rfl (Nat.le_of_ble_eq_true rfl) (Nat.le_of_ble_eq_true rfl) ?_
    unfold rch at hQ
    first | (rw [if_pos c_7] at hQ; exact hQ) | (rw [if_neg c_7] at hQ; exact hQ)
abbrev M_Mo_standing : MD := (⟨"FelledByNamesModel", "standing", "()I"⟩, prog_14_method_36_code, 3, (some .int), fun _ => True)
theorem d_Mo_standing_0 : decode prog_14_method_36_code 0 = .ok (.iconst 0, 1) := by decide +kernel
theorem d_Mo_standing_1 : decode prog_14_method_36_code 1 = .ok (.istore_n 1, 1) := by decide +kernel
theorem d_Mo_standing_2 : decode prog_14_method_36_code 2 = .ok (.iconst 0, 1) := by decide +kernel
theorem d_Mo_standing_3 : decode prog_14_method_36_code 3 = .ok (.istore_n 2, 1) := by decide +kernel
theorem d_Mo_standing_4 : decode prog_14_method_36_code 4 = .ok (.iload_n 2, 1) := by decide +kernel
theorem d_Mo_standing_5 : decode prog_14_method_36_code 5 = .ok (.aload_n 0, 1) := by decide +kernel
theorem d_Mo_standing_6 : decode prog_14_method_36_code 6 = .ok (.getfield 7, 3) := by decide +kernel
theorem d_Mo_standing_9 : decode prog_14_method_36_code 9 = .ok (.iconst 0, 1) := by decide +kernel
theorem d_Mo_standing_10 : decode prog_14_method_36_code 10 = .ok (.iaload, 1) := by decide +kernel
theorem d_Mo_standing_11 : decode prog_14_method_36_code 11 = .ok (.if_icmp .ge 21, 3) := by decide +kernel
theorem d_Mo_standing_32 : decode prog_14_method_36_code 32 = .ok (.iload_n 1, 1) := by decide +kernel
theorem d_Mo_standing_33 : decode prog_14_method_36_code 33 = .ok (.ireturn, 1) := by decide +kernel
theorem d_Mo_standing_14 : decode prog_14_method_36_code 14 = .ok (.iload_n 1, 1) := by decide +kernel
theorem d_Mo_standing_15 : decode prog_14_method_36_code 15 = .ok (.aload_n 0, 1) := by decide +kernel
theorem d_Mo_standing_16 : decode prog_14_method_36_code 16 = .ok (.iload_n 2, 1) := by decide +kernel
theorem d_Mo_standing_17 : decode prog_14_method_36_code 17 = .ok (.bipush 6, 2) := by decide +kernel
theorem d_Mo_standing_19 : decode prog_14_method_36_code 19 = .ok (.invokevirtual 158, 3) := by decide +kernel
theorem d_Mo_standing_22 : decode prog_14_method_36_code 22 = .ok (.iload_n 2, 1) := by decide +kernel
theorem d_Mo_standing_23 : decode prog_14_method_36_code 23 = .ok (.ishl, 1) := by decide +kernel
theorem d_Mo_standing_24 : decode prog_14_method_36_code 24 = .ok (.ior, 1) := by decide +kernel
theorem d_Mo_standing_25 : decode prog_14_method_36_code 25 = .ok (.istore_n 1, 1) := by decide +kernel
theorem d_Mo_standing_26 : decode prog_14_method_36_code 26 = .ok (.iinc 2 1, 3) := by decide +kernel
theorem d_Mo_standing_29 : decode prog_14_method_36_code 29 = .ok (.goto (-25), 3) := by decide +kernel
set_option maxRecDepth 100000 in
theorem c_Mo_standing {N : Nat} {l : Launch} {d q n : Nat} {D : Nat → Int32} {A : Nat → Nat → Int32} {S : Nat → Int32} {h0 : HP} {Q : QT} (hN : N ≤ 8) (e0 : D 0 = nI N) (hQ : Q (some (.int (stb D N))) n (mo q D A S h0)) : Ct l M_Mo_standing (d + 1) 0 0 [.ref q] n (mo q D A S h0) Q := by
  refine Ct.of (fun _ => trivial) (by decide) (Nat.le_of_ble_eq_true rfl) ?_
  refine V.iconst_ (nI 0) d_Mo_standing_0 (by decide +kernel) ?_
  refine V.istore_n d_Mo_standing_1 (by decide) ?_
  refine V.iconst_ (nI 0) d_Mo_standing_2 (by decide +kernel) ?_
  refine V.istore_n d_Mo_standing_3 (by decide) ?_
  refine V.lc (ls' := [(0, .ref q), (1, .int (stb D 0)), (2, .int (nI 0))]) rfl ?_
  refine up_to (G := fun k => V l M_Mo_standing (d + 1) 0 0 4 [(0, .ref q), (1, .int (stb D k)), (2, .int (nI k))] [] n (mo q D A S h0) 0 0 Q) (N) ?_ (fun k hk hn => ?_) 0 (by omega)
  · skip
    refine V.iload_n d_Mo_standing_4 rfl ?_
    refine V.aload_n d_Mo_standing_5 rfl ?_
    refine V.get d_Mo_standing_6 f_Mo_7_Mo mo_o rfl ?_
    refine V.iconst_ (nI 0) d_Mo_standing_9 (by decide +kernel) ?_
    refine V.mldd d_Mo_standing_10 (by omega) ?_
    refine V.top e0 ?_
    refine V.geN (tgt := 32) d_Mo_standing_11 (by decide) (by omega) (by omega) (fun c_11 => ?_) (fun c_11 => ?_)
    · skip
      refine V.iload_n d_Mo_standing_32 rfl ?_
      refine V.iret d_Mo_standing_33 rfl (Nat.le_of_ble_eq_true rfl) (Nat.le_of_ble_eq_true rfl) ?_
      exact hQ
    · skip
      exact absurd c_11 (by omega)
  · skip
    refine V.iload_n d_Mo_standing_4 rfl ?_
    refine V.aload_n d_Mo_standing_5 rfl ?_
    refine V.get d_Mo_standing_6 f_Mo_7_Mo mo_o rfl ?_
    refine V.iconst_ (nI 0) d_Mo_standing_9 (by decide +kernel) ?_
    refine V.mldd d_Mo_standing_10 (by omega) ?_
    refine V.top e0 ?_
    refine V.geN (tgt := 32) d_Mo_standing_11 (by decide) (by omega) (by omega) (fun c_11 => ?_) (fun c_11 => ?_)
    · skip
      exact absurd c_11 (by omega)
    · skip
      refine V.iload_n d_Mo_standing_14 rfl ?_
      refine V.aload_n d_Mo_standing_15 rfl ?_
      refine V.iload_n d_Mo_standing_16 rfl ?_
      refine V.bipush_ (nI 6) d_Mo_standing_17 (by decide +kernel) ?_
      refine V.callV2 d_Mo_standing_19 k_Mo_158_Mo_of_MoV mo_o (Nat.le_of_ble_eq_true rfl) (by omega) (by omega) (c_Mo_of (by omega) ?_)
      refine V.iload_n d_Mo_standing_22 rfl ?_
      refine V.ishl d_Mo_standing_23 ?_
      refine V.ior d_Mo_standing_24 ?_
      refine V.istore_n d_Mo_standing_25 (by decide) ?_
      refine V.incN d_Mo_standing_26 rfl (by decide) ?_
      refine V.goto (tgt := 4) d_Mo_standing_29 (by decide) ?_
      exact V.lc rfl hn
abbrev M_Mo_bits : MD := (⟨"FelledByNamesModel", "bits", "(I)I"⟩, prog_14_method_37_code, 3, (some .int), fun _ => True)
theorem d_Mo_bits_0 : decode prog_14_method_37_code 0 = .ok (.iconst 0, 1) := by decide +kernel
theorem d_Mo_bits_1 : decode prog_14_method_37_code 1 = .ok (.istore_n 1, 1) := by decide +kernel
theorem d_Mo_bits_2 : decode prog_14_method_37_code 2 = .ok (.iconst 0, 1) := by decide +kernel
theorem d_Mo_bits_3 : decode prog_14_method_37_code 3 = .ok (.istore_n 2, 1) := by decide +kernel
theorem d_Mo_bits_4 : decode prog_14_method_37_code 4 = .ok (.iload_n 2, 1) := by decide +kernel
theorem d_Mo_bits_5 : decode prog_14_method_37_code 5 = .ok (.bipush 8, 2) := by decide +kernel
theorem d_Mo_bits_7 : decode prog_14_method_37_code 7 = .ok (.if_icmp .ge 17, 3) := by decide +kernel
theorem d_Mo_bits_24 : decode prog_14_method_37_code 24 = .ok (.iload_n 1, 1) := by decide +kernel
theorem d_Mo_bits_25 : decode prog_14_method_37_code 25 = .ok (.ireturn, 1) := by decide +kernel
theorem d_Mo_bits_10 : decode prog_14_method_37_code 10 = .ok (.iload_n 1, 1) := by decide +kernel
theorem d_Mo_bits_11 : decode prog_14_method_37_code 11 = .ok (.iload_n 0, 1) := by decide +kernel
theorem d_Mo_bits_12 : decode prog_14_method_37_code 12 = .ok (.iload_n 2, 1) := by decide +kernel
theorem d_Mo_bits_13 : decode prog_14_method_37_code 13 = .ok (.ishr, 1) := by decide +kernel
theorem d_Mo_bits_14 : decode prog_14_method_37_code 14 = .ok (.iconst 1, 1) := by decide +kernel
theorem d_Mo_bits_15 : decode prog_14_method_37_code 15 = .ok (.iand, 1) := by decide +kernel
theorem d_Mo_bits_16 : decode prog_14_method_37_code 16 = .ok (.iadd, 1) := by decide +kernel
theorem d_Mo_bits_17 : decode prog_14_method_37_code 17 = .ok (.istore_n 1, 1) := by decide +kernel
theorem d_Mo_bits_18 : decode prog_14_method_37_code 18 = .ok (.iinc 2 1, 3) := by decide +kernel
theorem d_Mo_bits_21 : decode prog_14_method_37_code 21 = .ok (.goto (-17), 3) := by decide +kernel
set_option maxRecDepth 100000 in
theorem c_Mo_bits {x : Int32} {l : Launch} {d n : Nat} {h : HP} {Q : QT} (hQ : Q (some (.int (btc x))) n h) : Ct l M_Mo_bits d 0 0 [.int x] n h Q := by
  refine Ct.of (fun _ => trivial) (by decide) (Nat.le_of_ble_eq_true rfl) ?_
  refine V.iconst_ (nI 0) d_Mo_bits_0 (by decide +kernel) ?_
  refine V.istore_n d_Mo_bits_1 (by decide) ?_
  refine V.iconst_ (nI 0) d_Mo_bits_2 (by decide +kernel) ?_
  refine V.istore_n d_Mo_bits_3 (by decide) ?_
  refine V.lc (ls' := [(0, .int x), (1, .int (itr (fun k acc => acc + ((x >>> (nI k &&& 31)) &&& nI 1)) 0 (nI 0))), (2, .int (nI 0))]) rfl ?_
  refine up_to (G := fun k => V l M_Mo_bits d 0 0 4 [(0, .int x), (1, .int (itr (fun k acc => acc + ((x >>> (nI k &&& 31)) &&& nI 1)) k (nI 0))), (2, .int (nI k))] [] n (h) 0 0 Q) (8) ?_ (fun k hk hn => ?_) 0 (by omega)
  · skip
    refine V.iload_n d_Mo_bits_4 rfl ?_
    refine V.bipush_ (nI 8) d_Mo_bits_5 (by decide +kernel) ?_
    refine V.geN (tgt := 24) d_Mo_bits_7 (by decide) (by omega) (by omega) (fun c_7 => ?_) (fun c_7 => ?_)
    · skip
      refine V.iload_n d_Mo_bits_24 rfl ?_
      refine V.iret d_Mo_bits_25 rfl (Nat.le_of_ble_eq_true rfl) (Nat.le_of_ble_eq_true rfl) ?_
      exact hQ
    · skip
      exact absurd c_7 (by omega)
  · skip
    refine V.iload_n d_Mo_bits_4 rfl ?_
    refine V.bipush_ (nI 8) d_Mo_bits_5 (by decide +kernel) ?_
    refine V.geN (tgt := 24) d_Mo_bits_7 (by decide) (by omega) (by omega) (fun c_7 => ?_) (fun c_7 => ?_)
    · skip
      exact absurd c_7 (by omega)
    · skip
      refine V.iload_n d_Mo_bits_10 rfl ?_
      refine V.iload_n d_Mo_bits_11 rfl ?_
      refine V.iload_n d_Mo_bits_12 rfl ?_
      refine V.ishr d_Mo_bits_13 ?_
      refine V.iconst_ (nI 1) d_Mo_bits_14 (by decide +kernel) ?_
      refine V.iand d_Mo_bits_15 ?_
      refine V.iadd d_Mo_bits_16 ?_
      refine V.istore_n d_Mo_bits_17 (by decide) ?_
      refine V.incN d_Mo_bits_18 rfl (by decide) ?_
      refine V.goto (tgt := 4) d_Mo_bits_21 (by decide) ?_
      exact V.lc rfl hn
abbrev M_Mo_done : MD := (⟨"FelledByNamesModel", "done", "(III)I"⟩, prog_14_method_27_code, 3, (some .int), fun _ => True)
theorem d_Mo_done_0 : decode prog_14_method_27_code 0 = .ok (.iload_n 0, 1) := by decide +kernel
theorem d_Mo_done_1 : decode prog_14_method_27_code 1 = .ok (.lookupswitch 168 #[(38, 97), (42, 152), (43, 144), (45, 148), (47, 156), (60, 111), (61, 122), (62, 133), (124, 83)], 83) := by decide +kernel
theorem d_Mo_done_98 : decode prog_14_method_27_code 98 = .ok (.iload_n 1, 1) := by decide +kernel
theorem d_Mo_done_99 : decode prog_14_method_27_code 99 = .ok (.ifCond .eq 11, 3) := by decide +kernel
theorem d_Mo_done_110 : decode prog_14_method_27_code 110 = .ok (.iconst 0, 1) := by decide +kernel
theorem d_Mo_done_111 : decode prog_14_method_27_code 111 = .ok (.ireturn, 1) := by decide +kernel
theorem d_Mo_done_102 : decode prog_14_method_27_code 102 = .ok (.iload_n 2, 1) := by decide +kernel
theorem d_Mo_done_103 : decode prog_14_method_27_code 103 = .ok (.ifCond .eq 7, 3) := by decide +kernel
theorem d_Mo_done_106 : decode prog_14_method_27_code 106 = .ok (.iconst 1, 1) := by decide +kernel
theorem d_Mo_done_107 : decode prog_14_method_27_code 107 = .ok (.goto 4, 3) := by decide +kernel
theorem d_Mo_done_153 : decode prog_14_method_27_code 153 = .ok (.iload_n 1, 1) := by decide +kernel
theorem d_Mo_done_154 : decode prog_14_method_27_code 154 = .ok (.iload_n 2, 1) := by decide +kernel
theorem d_Mo_done_155 : decode prog_14_method_27_code 155 = .ok (.imul, 1) := by decide +kernel
theorem d_Mo_done_156 : decode prog_14_method_27_code 156 = .ok (.ireturn, 1) := by decide +kernel
theorem d_Mo_done_145 : decode prog_14_method_27_code 145 = .ok (.iload_n 1, 1) := by decide +kernel
theorem d_Mo_done_146 : decode prog_14_method_27_code 146 = .ok (.iload_n 2, 1) := by decide +kernel
theorem d_Mo_done_147 : decode prog_14_method_27_code 147 = .ok (.iadd, 1) := by decide +kernel
theorem d_Mo_done_148 : decode prog_14_method_27_code 148 = .ok (.ireturn, 1) := by decide +kernel
theorem d_Mo_done_149 : decode prog_14_method_27_code 149 = .ok (.iload_n 1, 1) := by decide +kernel
theorem d_Mo_done_150 : decode prog_14_method_27_code 150 = .ok (.iload_n 2, 1) := by decide +kernel
theorem d_Mo_done_151 : decode prog_14_method_27_code 151 = .ok (.isub, 1) := by decide +kernel
theorem d_Mo_done_152 : decode prog_14_method_27_code 152 = .ok (.ireturn, 1) := by decide +kernel
theorem d_Mo_done_157 : decode prog_14_method_27_code 157 = .ok (.iload_n 2, 1) := by decide +kernel
theorem d_Mo_done_158 : decode prog_14_method_27_code 158 = .ok (.ifCond .ne 7, 3) := by decide +kernel
theorem d_Mo_done_165 : decode prog_14_method_27_code 165 = .ok (.iload_n 1, 1) := by decide +kernel
theorem d_Mo_done_166 : decode prog_14_method_27_code 166 = .ok (.iload_n 2, 1) := by decide +kernel
theorem d_Mo_done_167 : decode prog_14_method_27_code 167 = .ok (.idiv, 1) := by decide +kernel
theorem d_Mo_done_168 : decode prog_14_method_27_code 168 = .ok (.ireturn, 1) := by decide +kernel
theorem d_Mo_done_161 : decode prog_14_method_27_code 161 = .ok (.iconst 0, 1) := by decide +kernel
theorem d_Mo_done_162 : decode prog_14_method_27_code 162 = .ok (.goto 6, 3) := by decide +kernel
theorem d_Mo_done_112 : decode prog_14_method_27_code 112 = .ok (.iload_n 1, 1) := by decide +kernel
theorem d_Mo_done_113 : decode prog_14_method_27_code 113 = .ok (.iload_n 2, 1) := by decide +kernel
theorem d_Mo_done_114 : decode prog_14_method_27_code 114 = .ok (.if_icmp .ge 7, 3) := by decide +kernel
theorem d_Mo_done_121 : decode prog_14_method_27_code 121 = .ok (.iconst 0, 1) := by decide +kernel
theorem d_Mo_done_122 : decode prog_14_method_27_code 122 = .ok (.ireturn, 1) := by decide +kernel
theorem d_Mo_done_117 : decode prog_14_method_27_code 117 = .ok (.iconst 1, 1) := by decide +kernel
theorem d_Mo_done_118 : decode prog_14_method_27_code 118 = .ok (.goto 4, 3) := by decide +kernel
theorem d_Mo_done_123 : decode prog_14_method_27_code 123 = .ok (.iload_n 1, 1) := by decide +kernel
theorem d_Mo_done_124 : decode prog_14_method_27_code 124 = .ok (.iload_n 2, 1) := by decide +kernel
theorem d_Mo_done_125 : decode prog_14_method_27_code 125 = .ok (.if_icmp .ne 7, 3) := by decide +kernel
theorem d_Mo_done_132 : decode prog_14_method_27_code 132 = .ok (.iconst 0, 1) := by decide +kernel
theorem d_Mo_done_133 : decode prog_14_method_27_code 133 = .ok (.ireturn, 1) := by decide +kernel
theorem d_Mo_done_128 : decode prog_14_method_27_code 128 = .ok (.iconst 1, 1) := by decide +kernel
theorem d_Mo_done_129 : decode prog_14_method_27_code 129 = .ok (.goto 4, 3) := by decide +kernel
theorem d_Mo_done_134 : decode prog_14_method_27_code 134 = .ok (.iload_n 1, 1) := by decide +kernel
theorem d_Mo_done_135 : decode prog_14_method_27_code 135 = .ok (.iload_n 2, 1) := by decide +kernel
theorem d_Mo_done_136 : decode prog_14_method_27_code 136 = .ok (.if_icmp .le 7, 3) := by decide +kernel
theorem d_Mo_done_143 : decode prog_14_method_27_code 143 = .ok (.iconst 0, 1) := by decide +kernel
theorem d_Mo_done_144 : decode prog_14_method_27_code 144 = .ok (.ireturn, 1) := by decide +kernel
theorem d_Mo_done_139 : decode prog_14_method_27_code 139 = .ok (.iconst 1, 1) := by decide +kernel
theorem d_Mo_done_140 : decode prog_14_method_27_code 140 = .ok (.goto 4, 3) := by decide +kernel
theorem d_Mo_done_84 : decode prog_14_method_27_code 84 = .ok (.iload_n 1, 1) := by decide +kernel
theorem d_Mo_done_85 : decode prog_14_method_27_code 85 = .ok (.ifCond .ne 7, 3) := by decide +kernel
theorem d_Mo_done_92 : decode prog_14_method_27_code 92 = .ok (.iconst 1, 1) := by decide +kernel
theorem d_Mo_done_93 : decode prog_14_method_27_code 93 = .ok (.goto 4, 3) := by decide +kernel
theorem d_Mo_done_97 : decode prog_14_method_27_code 97 = .ok (.ireturn, 1) := by decide +kernel
theorem d_Mo_done_88 : decode prog_14_method_27_code 88 = .ok (.iload_n 2, 1) := by decide +kernel
theorem d_Mo_done_89 : decode prog_14_method_27_code 89 = .ok (.ifCond .eq 7, 3) := by decide +kernel
theorem d_Mo_done_96 : decode prog_14_method_27_code 96 = .ok (.iconst 0, 1) := by decide +kernel
theorem d_Mo_done_169 : decode prog_14_method_27_code 169 = .ok (.iload_n 2, 1) := by decide +kernel
theorem d_Mo_done_170 : decode prog_14_method_27_code 170 = .ok (.ifCond .ne 7, 3) := by decide +kernel
theorem d_Mo_done_177 : decode prog_14_method_27_code 177 = .ok (.iload_n 1, 1) := by decide +kernel
theorem d_Mo_done_178 : decode prog_14_method_27_code 178 = .ok (.iload_n 2, 1) := by decide +kernel
theorem d_Mo_done_179 : decode prog_14_method_27_code 179 = .ok (.irem, 1) := by decide +kernel
theorem d_Mo_done_180 : decode prog_14_method_27_code 180 = .ok (.ireturn, 1) := by decide +kernel
theorem d_Mo_done_173 : decode prog_14_method_27_code 173 = .ok (.iconst 0, 1) := by decide +kernel
theorem d_Mo_done_174 : decode prog_14_method_27_code 174 = .ok (.goto 6, 3) := by decide +kernel
set_option maxRecDepth 100000 in
theorem c_Mo_done {w x y : Int32} {l : Launch} {d n : Nat} {h : HP} {Q : QT} (hQ : Q (some (.int (dn w x y))) n h) : Ct l M_Mo_done d 0 0 [.int w, .int x, .int y] n h Q := by
  refine Ct.of (fun _ => trivial) (by decide) (Nat.le_of_ble_eq_true rfl) ?_
  unfold dn at hQ
  refine V.iload_n d_Mo_done_0 rfl ?_
  by_cases e38 : w = nI 38
  · subst e38
    refine V.lookup (tgt := 98) (off := 97) d_Mo_done_1 (by decide +kernel) (by decide +kernel) (by decide) ?_
    rw [if_pos rfl] at hQ
    refine V.iload_n d_Mo_done_98 rfl ?_
    refine V.if_eq (tgt := 110) d_Mo_done_99 (by decide) (fun c_99 => ?_) (fun c_99 => ?_)
    · skip
      refine V.iconst_ (nI 0) d_Mo_done_110 (by decide +kernel) ?_
      refine V.iret d_Mo_done_111 rfl (Nat.le_of_ble_eq_true rfl) (Nat.le_of_ble_eq_true rfl) ?_
      first | exact hQ | (rw [if_pos (by first | exact ⟨c_99, c_103⟩ | exact Or.inl c_85 | exact Or.inr c_89 | exact c_125 | exact Int32.not_le.mp c_114 | exact Int32.not_le.mp c_136 | exact c_158 | exact c_170)] at hQ; exact hQ) | (rw [if_neg (by first | exact fun z => z.1 c_99 | exact fun z => z.2 c_103 | exact fun z => z.elim (fun y => y c_85) (fun y => y c_89) | exact c_125 | exact Int32.not_lt.mpr c_114 | exact Int32.not_lt.mpr c_136 | exact c_158 | exact c_170)] at hQ; exact hQ)
    · skip
      refine V.iload_n d_Mo_done_102 rfl ?_
      refine V.if_eq (tgt := 110) d_Mo_done_103 (by decide) (fun c_103 => ?_) (fun c_103 => ?_)
      · skip
        refine V.iconst_ (nI 0) d_Mo_done_110 (by decide +kernel) ?_
        refine V.iret d_Mo_done_111 rfl (Nat.le_of_ble_eq_true rfl) (Nat.le_of_ble_eq_true rfl) ?_
        first | exact hQ | (rw [if_pos (by first | exact ⟨c_99, c_103⟩ | exact Or.inl c_85 | exact Or.inr c_89 | exact c_125 | exact Int32.not_le.mp c_114 | exact Int32.not_le.mp c_136 | exact c_158 | exact c_170)] at hQ; exact hQ) | (rw [if_neg (by first | exact fun z => z.1 c_99 | exact fun z => z.2 c_103 | exact fun z => z.elim (fun y => y c_85) (fun y => y c_89) | exact c_125 | exact Int32.not_lt.mpr c_114 | exact Int32.not_lt.mpr c_136 | exact c_158 | exact c_170)] at hQ; exact hQ)
      · skip
        refine V.iconst_ (nI 1) d_Mo_done_106 (by decide +kernel) ?_
        refine V.goto (tgt := 111) d_Mo_done_107 (by decide) ?_
        refine V.iret d_Mo_done_111 rfl (Nat.le_of_ble_eq_true rfl) (Nat.le_of_ble_eq_true rfl) ?_
        first | exact hQ | (rw [if_pos (by first | exact ⟨c_99, c_103⟩ | exact Or.inl c_85 | exact Or.inr c_89 | exact c_125 | exact Int32.not_le.mp c_114 | exact Int32.not_le.mp c_136 | exact c_158 | exact c_170)] at hQ; exact hQ) | (rw [if_neg (by first | exact fun z => z.1 c_99 | exact fun z => z.2 c_103 | exact fun z => z.elim (fun y => y c_85) (fun y => y c_89) | exact c_125 | exact Int32.not_lt.mpr c_114 | exact Int32.not_lt.mpr c_136 | exact c_158 | exact c_170)] at hQ; exact hQ)
  rw [if_neg e38] at hQ
  by_cases e42 : w = nI 42
  · subst e42
    refine V.lookup (tgt := 153) (off := 152) d_Mo_done_1 (by decide +kernel) (by decide +kernel) (by decide) ?_
    rw [if_pos rfl] at hQ
    refine V.iload_n d_Mo_done_153 rfl ?_
    refine V.iload_n d_Mo_done_154 rfl ?_
    refine V.imul d_Mo_done_155 ?_
    refine V.iret d_Mo_done_156 rfl (Nat.le_of_ble_eq_true rfl) (Nat.le_of_ble_eq_true rfl) ?_
    first | exact hQ | (rw [if_pos (by first | exact ⟨c_99, c_103⟩ | exact Or.inl c_85 | exact Or.inr c_89 | exact c_125 | exact Int32.not_le.mp c_114 | exact Int32.not_le.mp c_136 | exact c_158 | exact c_170)] at hQ; exact hQ) | (rw [if_neg (by first | exact fun z => z.1 c_99 | exact fun z => z.2 c_103 | exact fun z => z.elim (fun y => y c_85) (fun y => y c_89) | exact c_125 | exact Int32.not_lt.mpr c_114 | exact Int32.not_lt.mpr c_136 | exact c_158 | exact c_170)] at hQ; exact hQ)
  rw [if_neg e42] at hQ
  by_cases e43 : w = nI 43
  · subst e43
    refine V.lookup (tgt := 145) (off := 144) d_Mo_done_1 (by decide +kernel) (by decide +kernel) (by decide) ?_
    rw [if_pos rfl] at hQ
    refine V.iload_n d_Mo_done_145 rfl ?_
    refine V.iload_n d_Mo_done_146 rfl ?_
    refine V.iadd d_Mo_done_147 ?_
    refine V.iret d_Mo_done_148 rfl (Nat.le_of_ble_eq_true rfl) (Nat.le_of_ble_eq_true rfl) ?_
    first | exact hQ | (rw [if_pos (by first | exact ⟨c_99, c_103⟩ | exact Or.inl c_85 | exact Or.inr c_89 | exact c_125 | exact Int32.not_le.mp c_114 | exact Int32.not_le.mp c_136 | exact c_158 | exact c_170)] at hQ; exact hQ) | (rw [if_neg (by first | exact fun z => z.1 c_99 | exact fun z => z.2 c_103 | exact fun z => z.elim (fun y => y c_85) (fun y => y c_89) | exact c_125 | exact Int32.not_lt.mpr c_114 | exact Int32.not_lt.mpr c_136 | exact c_158 | exact c_170)] at hQ; exact hQ)
  rw [if_neg e43] at hQ
  by_cases e45 : w = nI 45
  · subst e45
    refine V.lookup (tgt := 149) (off := 148) d_Mo_done_1 (by decide +kernel) (by decide +kernel) (by decide) ?_
    rw [if_pos rfl] at hQ
    refine V.iload_n d_Mo_done_149 rfl ?_
    refine V.iload_n d_Mo_done_150 rfl ?_
    refine V.isub d_Mo_done_151 ?_
    refine V.iret d_Mo_done_152 rfl (Nat.le_of_ble_eq_true rfl) (Nat.le_of_ble_eq_true rfl) ?_
    first | exact hQ | (rw [if_pos (by first | exact ⟨c_99, c_103⟩ | exact Or.inl c_85 | exact Or.inr c_89 | exact c_125 | exact Int32.not_le.mp c_114 | exact Int32.not_le.mp c_136 | exact c_158 | exact c_170)] at hQ; exact hQ) | (rw [if_neg (by first | exact fun z => z.1 c_99 | exact fun z => z.2 c_103 | exact fun z => z.elim (fun y => y c_85) (fun y => y c_89) | exact c_125 | exact Int32.not_lt.mpr c_114 | exact Int32.not_lt.mpr c_136 | exact c_158 | exact c_170)] at hQ; exact hQ)
  rw [if_neg e45] at hQ
  by_cases e47 : w = nI 47
  · subst e47
    refine V.lookup (tgt := 157) (off := 156) d_Mo_done_1 (by decide +kernel) (by decide +kernel) (by decide) ?_
    rw [if_pos rfl] at hQ
    refine V.iload_n d_Mo_done_157 rfl ?_
    refine V.if_ne (tgt := 165) d_Mo_done_158 (by decide) (fun c_158 => ?_) (fun c_158 => ?_)
    · skip
      refine V.iload_n d_Mo_done_165 rfl ?_
      refine V.iload_n d_Mo_done_166 rfl ?_
      refine V.idiv d_Mo_done_167 c_158 ?_
      refine V.iret d_Mo_done_168 rfl (Nat.le_of_ble_eq_true rfl) (Nat.le_of_ble_eq_true rfl) ?_
      first | exact hQ | (rw [if_pos (by first | exact ⟨c_99, c_103⟩ | exact Or.inl c_85 | exact Or.inr c_89 | exact c_125 | exact Int32.not_le.mp c_114 | exact Int32.not_le.mp c_136 | exact c_158 | exact c_170)] at hQ; exact hQ) | (rw [if_neg (by first | exact fun z => z.1 c_99 | exact fun z => z.2 c_103 | exact fun z => z.elim (fun y => y c_85) (fun y => y c_89) | exact c_125 | exact Int32.not_lt.mpr c_114 | exact Int32.not_lt.mpr c_136 | exact c_158 | exact c_170)] at hQ; exact hQ)
    · skip
      refine V.iconst_ (nI 0) d_Mo_done_161 (by decide +kernel) ?_
      refine V.goto (tgt := 168) d_Mo_done_162 (by decide) ?_
      refine V.iret d_Mo_done_168 rfl (Nat.le_of_ble_eq_true rfl) (Nat.le_of_ble_eq_true rfl) ?_
      first | exact hQ | (rw [if_pos (by first | exact ⟨c_99, c_103⟩ | exact Or.inl c_85 | exact Or.inr c_89 | exact c_125 | exact Int32.not_le.mp c_114 | exact Int32.not_le.mp c_136 | exact c_158 | exact c_170)] at hQ; exact hQ) | (rw [if_neg (by first | exact fun z => z.1 c_99 | exact fun z => z.2 c_103 | exact fun z => z.elim (fun y => y c_85) (fun y => y c_89) | exact c_125 | exact Int32.not_lt.mpr c_114 | exact Int32.not_lt.mpr c_136 | exact c_158 | exact c_170)] at hQ; exact hQ)
  rw [if_neg e47] at hQ
  by_cases e60 : w = nI 60
  · subst e60
    refine V.lookup (tgt := 112) (off := 111) d_Mo_done_1 (by decide +kernel) (by decide +kernel) (by decide) ?_
    rw [if_pos rfl] at hQ
    refine V.iload_n d_Mo_done_112 rfl ?_
    refine V.iload_n d_Mo_done_113 rfl ?_
    refine V.icmp_ge (tgt := 121) d_Mo_done_114 (by decide) (fun c_114 => ?_) (fun c_114 => ?_)
    · skip
      refine V.iconst_ (nI 0) d_Mo_done_121 (by decide +kernel) ?_
      refine V.iret d_Mo_done_122 rfl (Nat.le_of_ble_eq_true rfl) (Nat.le_of_ble_eq_true rfl) ?_
      first | exact hQ | (rw [if_pos (by first | exact ⟨c_99, c_103⟩ | exact Or.inl c_85 | exact Or.inr c_89 | exact c_125 | exact Int32.not_le.mp c_114 | exact Int32.not_le.mp c_136 | exact c_158 | exact c_170)] at hQ; exact hQ) | (rw [if_neg (by first | exact fun z => z.1 c_99 | exact fun z => z.2 c_103 | exact fun z => z.elim (fun y => y c_85) (fun y => y c_89) | exact c_125 | exact Int32.not_lt.mpr c_114 | exact Int32.not_lt.mpr c_136 | exact c_158 | exact c_170)] at hQ; exact hQ)
    · skip
      refine V.iconst_ (nI 1) d_Mo_done_117 (by decide +kernel) ?_
      refine V.goto (tgt := 122) d_Mo_done_118 (by decide) ?_
      refine V.iret d_Mo_done_122 rfl (Nat.le_of_ble_eq_true rfl) (Nat.le_of_ble_eq_true rfl) ?_
      first | exact hQ | (rw [if_pos (by first | exact ⟨c_99, c_103⟩ | exact Or.inl c_85 | exact Or.inr c_89 | exact c_125 | exact Int32.not_le.mp c_114 | exact Int32.not_le.mp c_136 | exact c_158 | exact c_170)] at hQ; exact hQ) | (rw [if_neg (by first | exact fun z => z.1 c_99 | exact fun z => z.2 c_103 | exact fun z => z.elim (fun y => y c_85) (fun y => y c_89) | exact c_125 | exact Int32.not_lt.mpr c_114 | exact Int32.not_lt.mpr c_136 | exact c_158 | exact c_170)] at hQ; exact hQ)
  rw [if_neg e60] at hQ
  by_cases e61 : w = nI 61
  · subst e61
    refine V.lookup (tgt := 123) (off := 122) d_Mo_done_1 (by decide +kernel) (by decide +kernel) (by decide) ?_
    rw [if_pos rfl] at hQ
    refine V.iload_n d_Mo_done_123 rfl ?_
    refine V.iload_n d_Mo_done_124 rfl ?_
    refine V.icmp_ne (tgt := 132) d_Mo_done_125 (by decide) (fun c_125 => ?_) (fun c_125 => ?_)
    · skip
      refine V.iconst_ (nI 0) d_Mo_done_132 (by decide +kernel) ?_
      refine V.iret d_Mo_done_133 rfl (Nat.le_of_ble_eq_true rfl) (Nat.le_of_ble_eq_true rfl) ?_
      first | exact hQ | (rw [if_pos (by first | exact ⟨c_99, c_103⟩ | exact Or.inl c_85 | exact Or.inr c_89 | exact c_125 | exact Int32.not_le.mp c_114 | exact Int32.not_le.mp c_136 | exact c_158 | exact c_170)] at hQ; exact hQ) | (rw [if_neg (by first | exact fun z => z.1 c_99 | exact fun z => z.2 c_103 | exact fun z => z.elim (fun y => y c_85) (fun y => y c_89) | exact c_125 | exact Int32.not_lt.mpr c_114 | exact Int32.not_lt.mpr c_136 | exact c_158 | exact c_170)] at hQ; exact hQ)
    · skip
      refine V.iconst_ (nI 1) d_Mo_done_128 (by decide +kernel) ?_
      refine V.goto (tgt := 133) d_Mo_done_129 (by decide) ?_
      refine V.iret d_Mo_done_133 rfl (Nat.le_of_ble_eq_true rfl) (Nat.le_of_ble_eq_true rfl) ?_
      first | exact hQ | (rw [if_pos (by first | exact ⟨c_99, c_103⟩ | exact Or.inl c_85 | exact Or.inr c_89 | exact c_125 | exact Int32.not_le.mp c_114 | exact Int32.not_le.mp c_136 | exact c_158 | exact c_170)] at hQ; exact hQ) | (rw [if_neg (by first | exact fun z => z.1 c_99 | exact fun z => z.2 c_103 | exact fun z => z.elim (fun y => y c_85) (fun y => y c_89) | exact c_125 | exact Int32.not_lt.mpr c_114 | exact Int32.not_lt.mpr c_136 | exact c_158 | exact c_170)] at hQ; exact hQ)
  rw [if_neg e61] at hQ
  by_cases e62 : w = nI 62
  · subst e62
    refine V.lookup (tgt := 134) (off := 133) d_Mo_done_1 (by decide +kernel) (by decide +kernel) (by decide) ?_
    rw [if_pos rfl] at hQ
    refine V.iload_n d_Mo_done_134 rfl ?_
    refine V.iload_n d_Mo_done_135 rfl ?_
    refine V.icmp_le (tgt := 143) d_Mo_done_136 (by decide) (fun c_136 => ?_) (fun c_136 => ?_)
    · skip
      refine V.iconst_ (nI 0) d_Mo_done_143 (by decide +kernel) ?_
      refine V.iret d_Mo_done_144 rfl (Nat.le_of_ble_eq_true rfl) (Nat.le_of_ble_eq_true rfl) ?_
      first | exact hQ | (rw [if_pos (by first | exact ⟨c_99, c_103⟩ | exact Or.inl c_85 | exact Or.inr c_89 | exact c_125 | exact Int32.not_le.mp c_114 | exact Int32.not_le.mp c_136 | exact c_158 | exact c_170)] at hQ; exact hQ) | (rw [if_neg (by first | exact fun z => z.1 c_99 | exact fun z => z.2 c_103 | exact fun z => z.elim (fun y => y c_85) (fun y => y c_89) | exact c_125 | exact Int32.not_lt.mpr c_114 | exact Int32.not_lt.mpr c_136 | exact c_158 | exact c_170)] at hQ; exact hQ)
    · skip
      refine V.iconst_ (nI 1) d_Mo_done_139 (by decide +kernel) ?_
      refine V.goto (tgt := 144) d_Mo_done_140 (by decide) ?_
      refine V.iret d_Mo_done_144 rfl (Nat.le_of_ble_eq_true rfl) (Nat.le_of_ble_eq_true rfl) ?_
      first | exact hQ | (rw [if_pos (by first | exact ⟨c_99, c_103⟩ | exact Or.inl c_85 | exact Or.inr c_89 | exact c_125 | exact Int32.not_le.mp c_114 | exact Int32.not_le.mp c_136 | exact c_158 | exact c_170)] at hQ; exact hQ) | (rw [if_neg (by first | exact fun z => z.1 c_99 | exact fun z => z.2 c_103 | exact fun z => z.elim (fun y => y c_85) (fun y => y c_89) | exact c_125 | exact Int32.not_lt.mpr c_114 | exact Int32.not_lt.mpr c_136 | exact c_158 | exact c_170)] at hQ; exact hQ)
  rw [if_neg e62] at hQ
  by_cases e124 : w = nI 124
  · subst e124
    refine V.lookup (tgt := 84) (off := 83) d_Mo_done_1 (by decide +kernel) (by decide +kernel) (by decide) ?_
    rw [if_pos rfl] at hQ
    refine V.iload_n d_Mo_done_84 rfl ?_
    refine V.if_ne (tgt := 92) d_Mo_done_85 (by decide) (fun c_85 => ?_) (fun c_85 => ?_)
    · skip
      refine V.iconst_ (nI 1) d_Mo_done_92 (by decide +kernel) ?_
      refine V.goto (tgt := 97) d_Mo_done_93 (by decide) ?_
      refine V.iret d_Mo_done_97 rfl (Nat.le_of_ble_eq_true rfl) (Nat.le_of_ble_eq_true rfl) ?_
      first | exact hQ | (rw [if_pos (by first | exact ⟨c_99, c_103⟩ | exact Or.inl c_85 | exact Or.inr c_89 | exact c_125 | exact Int32.not_le.mp c_114 | exact Int32.not_le.mp c_136 | exact c_158 | exact c_170)] at hQ; exact hQ) | (rw [if_neg (by first | exact fun z => z.1 c_99 | exact fun z => z.2 c_103 | exact fun z => z.elim (fun y => y c_85) (fun y => y c_89) | exact c_125 | exact Int32.not_lt.mpr c_114 | exact Int32.not_lt.mpr c_136 | exact c_158 | exact c_170)] at hQ; exact hQ)
    · skip
      refine V.iload_n d_Mo_done_88 rfl ?_
      refine V.if_eq (tgt := 96) d_Mo_done_89 (by decide) (fun c_89 => ?_) (fun c_89 => ?_)
      · skip
        refine V.iconst_ (nI 0) d_Mo_done_96 (by decide +kernel) ?_
        refine V.iret d_Mo_done_97 rfl (Nat.le_of_ble_eq_true rfl) (Nat.le_of_ble_eq_true rfl) ?_
        first | exact hQ | (rw [if_pos (by first | exact ⟨c_99, c_103⟩ | exact Or.inl c_85 | exact Or.inr c_89 | exact c_125 | exact Int32.not_le.mp c_114 | exact Int32.not_le.mp c_136 | exact c_158 | exact c_170)] at hQ; exact hQ) | (rw [if_neg (by first | exact fun z => z.1 c_99 | exact fun z => z.2 c_103 | exact fun z => z.elim (fun y => y c_85) (fun y => y c_89) | exact c_125 | exact Int32.not_lt.mpr c_114 | exact Int32.not_lt.mpr c_136 | exact c_158 | exact c_170)] at hQ; exact hQ)
      · skip
        refine V.iconst_ (nI 1) d_Mo_done_92 (by decide +kernel) ?_
        refine V.goto (tgt := 97) d_Mo_done_93 (by decide) ?_
        refine V.iret d_Mo_done_97 rfl (Nat.le_of_ble_eq_true rfl) (Nat.le_of_ble_eq_true rfl) ?_
        first | exact hQ | (rw [if_pos (by first | exact ⟨c_99, c_103⟩ | exact Or.inl c_85 | exact Or.inr c_89 | exact c_125 | exact Int32.not_le.mp c_114 | exact Int32.not_le.mp c_136 | exact c_158 | exact c_170)] at hQ; exact hQ) | (rw [if_neg (by first | exact fun z => z.1 c_99 | exact fun z => z.2 c_103 | exact fun z => z.elim (fun y => y c_85) (fun y => y c_89) | exact c_125 | exact Int32.not_lt.mpr c_114 | exact Int32.not_lt.mpr c_136 | exact c_158 | exact c_170)] at hQ; exact hQ)
  rw [if_neg e124] at hQ
  refine V.lookup (tgt := 169) (off := 168) d_Mo_done_1 (by decide +kernel) (by refine (lv_osw e38 (by decide +kernel)).trans ?_; refine (lv_osw e42 (by decide +kernel)).trans ?_; refine (lv_osw e43 (by decide +kernel)).trans ?_; refine (lv_osw e45 (by decide +kernel)).trans ?_; refine (lv_osw e47 (by decide +kernel)).trans ?_; refine (lv_osw e60 (by decide +kernel)).trans ?_; refine (lv_osw e61 (by decide +kernel)).trans ?_; refine (lv_osw e62 (by decide +kernel)).trans ?_; refine (lv_osw e124 (by decide +kernel)).trans ?_; rfl) (by decide) ?_
  refine V.iload_n d_Mo_done_169 rfl ?_
  refine V.if_ne (tgt := 177) d_Mo_done_170 (by decide) (fun c_170 => ?_) (fun c_170 => ?_)
  · skip
    refine V.iload_n d_Mo_done_177 rfl ?_
    refine V.iload_n d_Mo_done_178 rfl ?_
    refine V.irem d_Mo_done_179 c_170 ?_
    refine V.iret d_Mo_done_180 rfl (Nat.le_of_ble_eq_true rfl) (Nat.le_of_ble_eq_true rfl) ?_
    first | exact hQ | (rw [if_pos (by first | exact ⟨c_99, c_103⟩ | exact Or.inl c_85 | exact Or.inr c_89 | exact c_125 | exact Int32.not_le.mp c_114 | exact Int32.not_le.mp c_136 | exact c_158 | exact c_170)] at hQ; exact hQ) | (rw [if_neg (by first | exact fun z => z.1 c_99 | exact fun z => z.2 c_103 | exact fun z => z.elim (fun y => y c_85) (fun y => y c_89) | exact c_125 | exact Int32.not_lt.mpr c_114 | exact Int32.not_lt.mpr c_136 | exact c_158 | exact c_170)] at hQ; exact hQ)
  · skip
    refine V.iconst_ (nI 0) d_Mo_done_173 (by decide +kernel) ?_
    refine V.goto (tgt := 180) d_Mo_done_174 (by decide) ?_
    refine V.iret d_Mo_done_180 rfl (Nat.le_of_ble_eq_true rfl) (Nat.le_of_ble_eq_true rfl) ?_
    first | exact hQ | (rw [if_pos (by first | exact ⟨c_99, c_103⟩ | exact Or.inl c_85 | exact Or.inr c_89 | exact c_125 | exact Int32.not_le.mp c_114 | exact Int32.not_le.mp c_136 | exact c_158 | exact c_170)] at hQ; exact hQ) | (rw [if_neg (by first | exact fun z => z.1 c_99 | exact fun z => z.2 c_103 | exact fun z => z.elim (fun y => y c_85) (fun y => y c_89) | exact c_125 | exact Int32.not_lt.mpr c_114 | exact Int32.not_lt.mpr c_136 | exact c_158 | exact c_170)] at hQ; exact hQ)
