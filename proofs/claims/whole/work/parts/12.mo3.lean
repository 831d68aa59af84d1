def vnm (a b c : Int32) (j : Nat) : Int32 := if j = 0 then a else if j = 1 then b else c
/-- one word of a text's code, over a pile -/
def exw (a b c : Int32) (w : Nat) (tp : Nat × (Nat → Int32)) : Nat × (Nat → Int32) :=
  if w < 20000 then (tp.1 + 1, upd tp.2 tp.1 (if w < 10000 then nI w else vnm a b c (w - 10000)))
  else if w = 20033 then (tp.1, upd tp.2 (tp.1 - 1) (if tp.2 (tp.1 - 1) = 0 then nI 1 else nI 0))
  else (tp.1 - 1, upd tp.2 (tp.1 - 1 - 1) (dn (nI (w - 20000)) (tp.2 (tp.1 - 1 - 1)) (tp.2 (tp.1 - 1))))
def tops (W : Nat → Nat) : Nat → Nat
  | 0 => 0
  | k + 1 => if W k < 20000 then tops W k + 1 else if W k = 20033 then tops W k else tops W k - 1
def exs (a b c : Int32) (W : Nat → Nat) (k : Nat) (P : Nat → Int32) : Nat × (Nat → Int32) := itr (fun k tp => exw a b c (W k) tp) k (0, P)
theorem exs_top (a b c : Int32) (W : Nat → Nat) (P : Nat → Int32) : ∀ k, (exs a b c W k P).1 = tops W k := by
  intro k
  induction k with
  | zero => rfl
  | succ k ih =>
    show (exw a b c (W k) (exs a b c W k P)).1 = tops W (k + 1)
    unfold exw
    simp only [tops]
    by_cases h1 : W k < 20000
    · rw [if_pos h1, if_pos h1, ih]
    · rw [if_neg h1, if_neg h1]
      by_cases h2 : W k = 20033
      · rw [if_pos h2, if_pos h2, ih]
      · rw [if_neg h2, if_neg h2, ih]
theorem tops_le (W : Nat → Nat) : ∀ k, tops W k ≤ k := by
  intro k
  induction k with
  | zero => exact Nat.le_refl _
  | succ k ih => simp only [tops]; split <;> (try split) <;> omega
def okw (w t : Nat) : Prop := (w < 20000 → w < 10003) ∧ (w = 20033 → 1 ≤ t) ∧ (20000 ≤ w → w ≠ 20033 → 2 ≤ t) ∧ w < 30000
def Wf (W : Nat → Nat) (len : Nat) : Prop := len ≤ 50 ∧ (∀ k, k < len → okw (W k) (tops W k)) ∧ tops W len = 1
def evc (a b c : Int32) (W : Nat → Nat) (len : Nat) : Int32 := (exs a b c W len (fun _ => 0)).2 0
section EX
variable {a b c : Int32} {W : Nat → Nat} {k : Nat} {P : Nat → Int32}
theorem exs_num (h1 : W k < 10000) : (exs a b c W (k + 1) P).2 = upd (exs a b c W k P).2 (tops W k) (nI (W k)) ∧ tops W (k + 1) = tops W k + 1 := by
  refine ⟨?_, by simp only [tops]; rw [if_pos (by omega)]⟩
  show (exw a b c (W k) (exs a b c W k P)).2 = _
  unfold exw
  rw [if_pos (by omega), exs_top, if_pos h1]
theorem exs_nam (h1 : 10000 ≤ W k) (h2 : W k < 20000) : (exs a b c W (k + 1) P).2 = upd (exs a b c W k P).2 (tops W k) (vnm a b c (W k - 10000)) ∧ tops W (k + 1) = tops W k + 1 := by
  refine ⟨?_, by simp only [tops]; rw [if_pos (by omega)]⟩
  show (exw a b c (W k) (exs a b c W k P)).2 = _
  unfold exw
  rw [if_pos (by omega), exs_top, if_neg (by omega)]
theorem exs_not (h1 : W k = 20033) : (exs a b c W (k + 1) P).2 = upd (exs a b c W k P).2 (tops W k - 1) (if (exs a b c W k P).2 (tops W k - 1) = 0 then nI 1 else nI 0) ∧ tops W (k + 1) = tops W k := by
  refine ⟨?_, by simp only [tops]; rw [if_neg (by omega), if_pos h1]⟩
  show (exw a b c (W k) (exs a b c W k P)).2 = _
  unfold exw
  rw [if_neg (by omega), if_pos h1, exs_top]
theorem exs_bin (h1 : 20000 ≤ W k) (h2 : W k ≠ 20033) : (exs a b c W (k + 1) P).2 = upd (exs a b c W k P).2 (tops W k - 1 - 1) (dn (nI (W k - 20000)) ((exs a b c W k P).2 (tops W k - 1 - 1)) ((exs a b c W k P).2 (tops W k - 1))) ∧ tops W (k + 1) = tops W k - 1 := by
  refine ⟨?_, by simp only [tops]; rw [if_neg (by omega), if_neg h2]⟩
  show (exw a b c (W k) (exs a b c W k P)).2 = _
  unfold exw
  rw [if_neg (by omega), if_neg h2, exs_top]
/-- what lay on the pile at first doesn't matter -/
theorem exs_any {len : Nat} (hW : ∀ k, k < len → okw (W k) (tops W k)) (P P' : Nat → Int32) : ∀ k, k ≤ len → ∀ j, j < tops W k → (exs a b c W k P).2 j = (exs a b c W k P').2 j := by
  intro k
  induction k with
  | zero => intro _ j hj; exact absurd hj (by simp [tops])
  | succ k ih =>
    intro hk j hj
    have ih' := ih (by omega)
    obtain ⟨o1, o2, o3, o4⟩ := hW k (by omega)
    by_cases h1 : W k < 20000
    · by_cases h2 : W k < 10000
      · rw [(exs_num h2).1, (exs_num h2).1]
        rw [(exs_num (a := a) (b := b) (c := c) (P := P) h2).2] at hj
        by_cases hjt : j = tops W k
        · subst hjt; rw [pk_us, pk_us]
        · rw [pk_un hjt, pk_un hjt]; exact ih' j (by omega)
      · rw [(exs_nam (by omega) h1).1, (exs_nam (by omega) h1).1]
        rw [(exs_nam (a := a) (b := b) (c := c) (P := P) (by omega) h1).2] at hj
        by_cases hjt : j = tops W k
        · subst hjt; rw [pk_us, pk_us]
        · rw [pk_un hjt, pk_un hjt]; exact ih' j (by omega)
    · by_cases h2 : W k = 20033
      · rw [(exs_not h2).1, (exs_not h2).1]
        rw [(exs_not (a := a) (b := b) (c := c) (P := P) h2).2] at hj
        have o2' := o2 h2
        by_cases hjt : j = tops W k - 1
        · subst hjt; rw [pk_us, pk_us, ih' _ (by omega)]
        · rw [pk_un hjt, pk_un hjt]; exact ih' j (by omega)
      · rw [(exs_bin (by omega) h2).1, (exs_bin (by omega) h2).1]
        rw [(exs_bin (a := a) (b := b) (c := c) (P := P) (by omega) h2).2] at hj
        have o3' := o3 (by omega) h2
        by_cases hjt : j = tops W k - 1 - 1
        · subst hjt; rw [pk_us, pk_us, ih' _ (by omega), ih' _ (by omega)]
        · rw [pk_un hjt, pk_un hjt]; exact ih' j (by omega)
end EX
abbrev M_Mo_worked : MD := (⟨"FelledByNamesModel", "worked", "(II)I"⟩, prog_14_method_28_code, 6, (some .int), fun _ => True)
theorem d_Mo_worked_0 : decode prog_14_method_28_code 0 = .ok (.iconst 0, 1) := by decide +kernel
theorem d_Mo_worked_1 : decode prog_14_method_28_code 1 = .ok (.istore_n 3, 1) := by decide +kernel
theorem d_Mo_worked_2 : decode prog_14_method_28_code 2 = .ok (.iload_n 1, 1) := by decide +kernel
theorem d_Mo_worked_3 : decode prog_14_method_28_code 3 = .ok (.istore 4, 2) := by decide +kernel
theorem d_Mo_worked_5 : decode prog_14_method_28_code 5 = .ok (.iload 4, 2) := by decide +kernel
theorem d_Mo_worked_7 : decode prog_14_method_28_code 7 = .ok (.iload_n 1, 1) := by decide +kernel
theorem d_Mo_worked_8 : decode prog_14_method_28_code 8 = .ok (.iload_n 2, 1) := by decide +kernel
theorem d_Mo_worked_9 : decode prog_14_method_28_code 9 = .ok (.iadd, 1) := by decide +kernel
theorem d_Mo_worked_10 : decode prog_14_method_28_code 10 = .ok (.if_icmp .ge 131, 3) := by decide +kernel
theorem d_Mo_worked_141 : decode prog_14_method_28_code 141 = .ok (.aload_n 0, 1) := by decide +kernel
theorem d_Mo_worked_142 : decode prog_14_method_28_code 142 = .ok (.getfield 28, 3) := by decide +kernel
theorem f_Mo_28_Mo : fok "FelledByNamesModel" 28 5 14 := ⟨R_Mo, F_Mo, 26, "FelledByNamesModel", rfl, i_Mo, by decide, tm 1073 (by decide +kernel) rfl, Or.inl rfl, t_Mo, t_Mo_ok, n_Mo⟩
theorem d_Mo_worked_145 : decode prog_14_method_28_code 145 = .ok (.iconst 0, 1) := by decide +kernel
theorem d_Mo_worked_146 : decode prog_14_method_28_code 146 = .ok (.iaload, 1) := by decide +kernel
theorem d_Mo_worked_147 : decode prog_14_method_28_code 147 = .ok (.ireturn, 1) := by decide +kernel
theorem d_Mo_worked_13 : decode prog_14_method_28_code 13 = .ok (.aload_n 0, 1) := by decide +kernel
theorem d_Mo_worked_14 : decode prog_14_method_28_code 14 = .ok (.getfield 7, 3) := by decide +kernel
theorem d_Mo_worked_17 : decode prog_14_method_28_code 17 = .ok (.iload 4, 2) := by decide +kernel
theorem d_Mo_worked_19 : decode prog_14_method_28_code 19 = .ok (.iaload, 1) := by decide +kernel
theorem d_Mo_worked_20 : decode prog_14_method_28_code 20 = .ok (.istore 5, 2) := by decide +kernel
theorem d_Mo_worked_22 : decode prog_14_method_28_code 22 = .ok (.iload 5, 2) := by decide +kernel
theorem d_Mo_worked_24 : decode prog_14_method_28_code 24 = .ok (.sipush 20000, 3) := by decide +kernel
theorem d_Mo_worked_27 : decode prog_14_method_28_code 27 = .ok (.if_icmp .ge 39, 3) := by decide +kernel
theorem d_Mo_worked_66 : decode prog_14_method_28_code 66 = .ok (.iload 5, 2) := by decide +kernel
theorem d_Mo_worked_68 : decode prog_14_method_28_code 68 = .ok (.sipush 20033, 3) := by decide +kernel
theorem d_Mo_worked_71 : decode prog_14_method_28_code 71 = .ok (.if_icmp .ne 30, 3) := by decide +kernel
theorem d_Mo_worked_101 : decode prog_14_method_28_code 101 = .ok (.iinc 3 (-1), 3) := by decide +kernel
theorem d_Mo_worked_104 : decode prog_14_method_28_code 104 = .ok (.aload_n 0, 1) := by decide +kernel
theorem d_Mo_worked_105 : decode prog_14_method_28_code 105 = .ok (.getfield 28, 3) := by decide +kernel
theorem d_Mo_worked_108 : decode prog_14_method_28_code 108 = .ok (.iload_n 3, 1) := by decide +kernel
theorem d_Mo_worked_109 : decode prog_14_method_28_code 109 = .ok (.iconst 1, 1) := by decide +kernel
theorem d_Mo_worked_110 : decode prog_14_method_28_code 110 = .ok (.isub, 1) := by decide +kernel
theorem d_Mo_worked_111 : decode prog_14_method_28_code 111 = .ok (.iload 5, 2) := by decide +kernel
theorem d_Mo_worked_113 : decode prog_14_method_28_code 113 = .ok (.sipush 20000, 3) := by decide +kernel
theorem d_Mo_worked_116 : decode prog_14_method_28_code 116 = .ok (.isub, 1) := by decide +kernel
theorem d_Mo_worked_117 : decode prog_14_method_28_code 117 = .ok (.aload_n 0, 1) := by decide +kernel
theorem d_Mo_worked_118 : decode prog_14_method_28_code 118 = .ok (.getfield 28, 3) := by decide +kernel
theorem d_Mo_worked_121 : decode prog_14_method_28_code 121 = .ok (.iload_n 3, 1) := by decide +kernel
theorem d_Mo_worked_122 : decode prog_14_method_28_code 122 = .ok (.iconst 1, 1) := by decide +kernel
theorem d_Mo_worked_123 : decode prog_14_method_28_code 123 = .ok (.isub, 1) := by decide +kernel
theorem d_Mo_worked_124 : decode prog_14_method_28_code 124 = .ok (.iaload, 1) := by decide +kernel
theorem d_Mo_worked_125 : decode prog_14_method_28_code 125 = .ok (.aload_n 0, 1) := by decide +kernel
theorem d_Mo_worked_126 : decode prog_14_method_28_code 126 = .ok (.getfield 28, 3) := by decide +kernel
theorem d_Mo_worked_129 : decode prog_14_method_28_code 129 = .ok (.iload_n 3, 1) := by decide +kernel
theorem d_Mo_worked_130 : decode prog_14_method_28_code 130 = .ok (.iaload, 1) := by decide +kernel
theorem d_Mo_worked_131 : decode prog_14_method_28_code 131 = .ok (.invokestatic 132, 3) := by decide +kernel
theorem kB_Mo_done : kB M_Mo_done 3 := ⟨tm 15 (by decide +kernel) rfl, tm 1224 (by decide +kernel) rfl, ⟨by decide, by decide, by decide +kernel⟩, by decide⟩
theorem k_Mo_132_Mo_doneS : kS "FelledByNamesModel" 132 M_Mo_done 3 := ⟨kB_Mo_done, tm 1222 (by decide +kernel) rfl, tm 1223 (by decide +kernel) rfl⟩
theorem d_Mo_worked_134 : decode prog_14_method_28_code 134 = .ok (.iastore, 1) := by decide +kernel
theorem d_Mo_worked_135 : decode prog_14_method_28_code 135 = .ok (.iinc 4 1, 3) := by decide +kernel
theorem d_Mo_worked_138 : decode prog_14_method_28_code 138 = .ok (.goto (-133), 3) := by decide +kernel
theorem d_Mo_worked_74 : decode prog_14_method_28_code 74 = .ok (.aload_n 0, 1) := by decide +kernel
theorem d_Mo_worked_75 : decode prog_14_method_28_code 75 = .ok (.getfield 28, 3) := by decide +kernel
theorem d_Mo_worked_78 : decode prog_14_method_28_code 78 = .ok (.iload_n 3, 1) := by decide +kernel
theorem d_Mo_worked_79 : decode prog_14_method_28_code 79 = .ok (.iconst 1, 1) := by decide +kernel
theorem d_Mo_worked_80 : decode prog_14_method_28_code 80 = .ok (.isub, 1) := by decide +kernel
theorem d_Mo_worked_81 : decode prog_14_method_28_code 81 = .ok (.aload_n 0, 1) := by decide +kernel
theorem d_Mo_worked_82 : decode prog_14_method_28_code 82 = .ok (.getfield 28, 3) := by decide +kernel
theorem d_Mo_worked_85 : decode prog_14_method_28_code 85 = .ok (.iload_n 3, 1) := by decide +kernel
theorem d_Mo_worked_86 : decode prog_14_method_28_code 86 = .ok (.iconst 1, 1) := by decide +kernel
theorem d_Mo_worked_87 : decode prog_14_method_28_code 87 = .ok (.isub, 1) := by decide +kernel
theorem d_Mo_worked_88 : decode prog_14_method_28_code 88 = .ok (.iaload, 1) := by decide +kernel
theorem d_Mo_worked_89 : decode prog_14_method_28_code 89 = .ok (.ifCond .ne 7, 3) := by decide +kernel
theorem d_Mo_worked_96 : decode prog_14_method_28_code 96 = .ok (.iconst 0, 1) := by decide +kernel
theorem d_Mo_worked_97 : decode prog_14_method_28_code 97 = .ok (.iastore, 1) := by decide +kernel
theorem d_Mo_worked_98 : decode prog_14_method_28_code 98 = .ok (.goto 37, 3) := by decide +kernel
theorem d_Mo_worked_92 : decode prog_14_method_28_code 92 = .ok (.iconst 1, 1) := by decide +kernel
theorem d_Mo_worked_93 : decode prog_14_method_28_code 93 = .ok (.goto 4, 3) := by decide +kernel
theorem d_Mo_worked_30 : decode prog_14_method_28_code 30 = .ok (.aload_n 0, 1) := by decide +kernel
theorem d_Mo_worked_31 : decode prog_14_method_28_code 31 = .ok (.getfield 28, 3) := by decide +kernel
theorem d_Mo_worked_34 : decode prog_14_method_28_code 34 = .ok (.iload_n 3, 1) := by decide +kernel
theorem d_Mo_worked_35 : decode prog_14_method_28_code 35 = .ok (.iload 5, 2) := by decide +kernel
theorem d_Mo_worked_37 : decode prog_14_method_28_code 37 = .ok (.sipush 10000, 3) := by decide +kernel
theorem d_Mo_worked_40 : decode prog_14_method_28_code 40 = .ok (.if_icmp .ge 8, 3) := by decide +kernel
theorem d_Mo_worked_48 : decode prog_14_method_28_code 48 = .ok (.aload_n 0, 1) := by decide +kernel
theorem d_Mo_worked_49 : decode prog_14_method_28_code 49 = .ok (.getfield 22, 3) := by decide +kernel
theorem f_Mo_22_Mo : fok "FelledByNamesModel" 22 5 11 := ⟨R_Mo, F_Mo, 26, "FelledByNamesModel", rfl, i_Mo, by decide, tm 1070 (by decide +kernel) rfl, Or.inl rfl, t_Mo, t_Mo_ok, n_Mo⟩
theorem d_Mo_worked_52 : decode prog_14_method_28_code 52 = .ok (.iload 5, 2) := by decide +kernel
theorem d_Mo_worked_54 : decode prog_14_method_28_code 54 = .ok (.sipush 10000, 3) := by decide +kernel
theorem d_Mo_worked_57 : decode prog_14_method_28_code 57 = .ok (.isub, 1) := by decide +kernel
theorem d_Mo_worked_58 : decode prog_14_method_28_code 58 = .ok (.iaload, 1) := by decide +kernel
theorem d_Mo_worked_59 : decode prog_14_method_28_code 59 = .ok (.iastore, 1) := by decide +kernel
theorem d_Mo_worked_60 : decode prog_14_method_28_code 60 = .ok (.iinc 3 1, 3) := by decide +kernel
theorem d_Mo_worked_63 : decode prog_14_method_28_code 63 = .ok (.goto 72, 3) := by decide +kernel
theorem d_Mo_worked_43 : decode prog_14_method_28_code 43 = .ok (.iload 5, 2) := by decide +kernel
theorem d_Mo_worked_45 : decode prog_14_method_28_code 45 = .ok (.goto 14, 3) := by decide +kernel
set_option maxRecDepth 100000 in
theorem c_Mo_worked {fr len : Nat} {W : Nat → Nat} {l : Launch} {d q n : Nat} {D : Nat → Int32} {A : Nat → Nat → Int32} {S : Nat → Int32} {h0 : HP} {Q : QT} (hfr : fr + len ≤ 278) (hC : ∀ k, k < len → D (fr + k) = nI (W k)) (hW : Wf W len) (hQ : Q (some (.int (evc (A 4 0) (A 4 1) (A 4 2) W len))) n (mo q D (uA A 6 (exs (A 4 0) (A 4 1) (A 4 2) W len (A 6)).2) S h0)) : Ct l M_Mo_worked (d + 1) 0 0 [.ref q, .int (nI fr), .int (nI len)] n (mo q D A S h0) Q := by
  refine Ct.of (fun _ => trivial) (by decide) (Nat.le_of_ble_eq_true rfl) ?_
  obtain ⟨hl50, hok, htop⟩ := hW
  refine V.iconst_ (nI 0) d_Mo_worked_0 (by decide +kernel) ?_
  refine V.istore_n d_Mo_worked_1 (by decide) ?_
  refine V.iload_n d_Mo_worked_2 rfl ?_
  refine V.istore d_Mo_worked_3 (by decide) ?_
  refine V.lc (ls' := [(0, .ref q), (1, .int (nI fr)), (2, .int (nI len)), (3, .int (nI (tops W 0))), (4, .int (nI (fr + 0)))]) rfl ?_
  refine V.eqH (h' := mo q D (uA A 6 (exs (A 4 0) (A 4 1) (A 4 2) W 0 (A 6)).2) S h0) (by exact congrArg (fun x => mo q D x S h0) (uA_id (A := A) (k := 6)).symm) ?_
  refine up_to (G := fun k => V l M_Mo_worked (d + 1) 0 0 5 [(0, .ref q), (1, .int (nI fr)), (2, .int (nI len)), (3, .int (nI (tops W k))), (4, .int (nI (fr + k)))] [] n (mo q D (uA A 6 (exs (A 4 0) (A 4 1) (A 4 2) W k (A 6)).2) S h0) 0 0 Q) (len) ?_ (fun k hk hn => ?_) 0 (by omega)
  · skip
    refine V.iload d_Mo_worked_5 rfl ?_
    refine V.iload_n d_Mo_worked_7 rfl ?_
    refine V.iload_n d_Mo_worked_8 rfl ?_
    refine V.addN d_Mo_worked_9 ?_
    refine V.geN (tgt := 141) d_Mo_worked_10 (by decide) (by omega) (by omega) (fun c_10 => ?_) (fun c_10 => ?_)
    · skip
      refine V.aload_n d_Mo_worked_141 rfl ?_
      refine V.get d_Mo_worked_142 f_Mo_28_Mo mo_o rfl ?_
      refine V.iconst_ (nI 0) d_Mo_worked_145 (by decide +kernel) ?_
      refine V.mlda 6 (by decide) (by decide) d_Mo_worked_146 (by first | omega | (show _ < 60; omega)) ?_
      rw [uA_s, exs_any hok (A 6) (fun _ => 0) len (Nat.le_refl _) 0 (by omega)]
      refine V.iret d_Mo_worked_147 rfl (Nat.le_of_ble_eq_true rfl) (Nat.le_of_ble_eq_true rfl) ?_
      exact hQ
    · skip
      exact absurd c_10 (by omega)
  · skip
    obtain ⟨o1, o2, o3, o4⟩ := hok k hk
    have htl := tops_le W k
    refine V.iload d_Mo_worked_5 rfl ?_
    refine V.iload_n d_Mo_worked_7 rfl ?_
    refine V.iload_n d_Mo_worked_8 rfl ?_
    refine V.addN d_Mo_worked_9 ?_
    refine V.geN (tgt := 141) d_Mo_worked_10 (by decide) (by omega) (by omega) (fun c_10 => ?_) (fun c_10 => ?_)
    · skip
      exact absurd c_10 (by omega)
    · skip
      refine V.aload_n d_Mo_worked_13 rfl ?_
      refine V.get d_Mo_worked_14 f_Mo_7_Mo mo_o rfl ?_
      refine V.iload d_Mo_worked_17 rfl ?_
      refine V.mldd d_Mo_worked_19 (by omega) ?_
      refine V.top (hC k hk) ?_
      refine V.istore d_Mo_worked_20 (by decide) ?_
      refine V.iload d_Mo_worked_22 rfl ?_
      refine V.sipush_ (nI 20000) d_Mo_worked_24 (by decide +kernel) ?_
      refine V.geN (tgt := 66) d_Mo_worked_27 (by decide) (by omega) (by omega) (fun c_27 => ?_) (fun c_27 => ?_)
      · skip
        refine V.iload d_Mo_worked_66 rfl ?_
        refine V.sipush_ (nI 20033) d_Mo_worked_68 (by decide +kernel) ?_
        refine V.neN (tgt := 101) d_Mo_worked_71 (by decide) (by omega) (by omega) (fun c_71 => ?_) (fun c_71 => ?_)
        · skip
          have o3' := o3 c_27 c_71
          refine V.decN d_Mo_worked_101 rfl (by omega) (by decide) ?_
          refine V.aload_n d_Mo_worked_104 rfl ?_
          refine V.get d_Mo_worked_105 f_Mo_28_Mo mo_o rfl ?_
          refine V.iload_n d_Mo_worked_108 rfl ?_
          refine V.iconst_ (nI 1) d_Mo_worked_109 (by decide +kernel) ?_
          refine V.subN d_Mo_worked_110 (by omega) ?_
          refine V.iload d_Mo_worked_111 rfl ?_
          refine V.sipush_ (nI 20000) d_Mo_worked_113 (by decide +kernel) ?_
          refine V.subN d_Mo_worked_116 (by omega) ?_
          refine V.aload_n d_Mo_worked_117 rfl ?_
          refine V.get d_Mo_worked_118 f_Mo_28_Mo mo_o rfl ?_
          refine V.iload_n d_Mo_worked_121 rfl ?_
          refine V.iconst_ (nI 1) d_Mo_worked_122 (by decide +kernel) ?_
          refine V.subN d_Mo_worked_123 (by omega) ?_
          refine V.mlda 6 (by decide) (by decide) d_Mo_worked_124 (by first | omega | (show _ < 60; omega)) ?_
          refine V.aload_n d_Mo_worked_125 rfl ?_
          refine V.get d_Mo_worked_126 f_Mo_28_Mo mo_o rfl ?_
          refine V.iload_n d_Mo_worked_129 rfl ?_
          refine V.mlda 6 (by decide) (by decide) d_Mo_worked_130 (by first | omega | (show _ < 60; omega)) ?_
          simp only [uA_uu, uA_s]
          refine V.callS3 d_Mo_worked_131 k_Mo_132_Mo_doneS (Nat.le_of_ble_eq_true rfl) (by omega) (by omega) (c_Mo_done ?_)
          refine V.msta 6 (by decide) (by decide) d_Mo_worked_134 (by first | omega | (show _ < 60; omega)) ?_
          refine V.incN d_Mo_worked_135 rfl (by decide) ?_
          refine V.goto (tgt := 5) d_Mo_worked_138 (by decide) ?_
          simp only [uA_uu, uA_s]
          first | (rw [(exs_num c_40).1, (exs_num (a := A 4 0) (b := A 4 1) (c := A 4 2) (P := A 6) c_40).2] at hn; exact V.lc rfl hn) | (rw [(exs_nam c_40 c_27).1, (exs_nam (a := A 4 0) (b := A 4 1) (c := A 4 2) (P := A 6) c_40 c_27).2] at hn; rw [hnm] at hn; exact V.lc rfl hn) | (rw [(exs_not c_71).1, (exs_not (a := A 4 0) (b := A 4 1) (c := A 4 2) (P := A 6) c_71).2] at hn; first | (rw [if_pos c_89] at hn; exact V.lc rfl hn) | (rw [if_neg c_89] at hn; exact V.lc rfl hn)) | (rw [(exs_bin c_27 c_71).1, (exs_bin (a := A 4 0) (b := A 4 1) (c := A 4 2) (P := A 6) c_27 c_71).2] at hn; exact V.lc rfl hn)
        · skip
          have o2' := o2 c_71
          refine V.aload_n d_Mo_worked_74 rfl ?_
          refine V.get d_Mo_worked_75 f_Mo_28_Mo mo_o rfl ?_
          refine V.iload_n d_Mo_worked_78 rfl ?_
          refine V.iconst_ (nI 1) d_Mo_worked_79 (by decide +kernel) ?_
          refine V.subN d_Mo_worked_80 (by omega) ?_
          refine V.aload_n d_Mo_worked_81 rfl ?_
          refine V.get d_Mo_worked_82 f_Mo_28_Mo mo_o rfl ?_
          refine V.iload_n d_Mo_worked_85 rfl ?_
          refine V.iconst_ (nI 1) d_Mo_worked_86 (by decide +kernel) ?_
          refine V.subN d_Mo_worked_87 (by omega) ?_
          refine V.mlda 6 (by decide) (by decide) d_Mo_worked_88 (by first | omega | (show _ < 60; omega)) ?_
          simp only [uA_uu, uA_s]
          refine V.if_ne (tgt := 96) d_Mo_worked_89 (by decide) (fun c_89 => ?_) (fun c_89 => ?_)
          · skip
            refine V.iconst_ (nI 0) d_Mo_worked_96 (by decide +kernel) ?_
            refine V.msta 6 (by decide) (by decide) d_Mo_worked_97 (by first | omega | (show _ < 60; omega)) ?_
            refine V.goto (tgt := 135) d_Mo_worked_98 (by decide) ?_
            refine V.incN d_Mo_worked_135 rfl (by decide) ?_
            refine V.goto (tgt := 5) d_Mo_worked_138 (by decide) ?_
            simp only [uA_uu, uA_s]
            first | (rw [(exs_num c_40).1, (exs_num (a := A 4 0) (b := A 4 1) (c := A 4 2) (P := A 6) c_40).2] at hn; exact V.lc rfl hn) | (rw [(exs_nam c_40 c_27).1, (exs_nam (a := A 4 0) (b := A 4 1) (c := A 4 2) (P := A 6) c_40 c_27).2] at hn; rw [hnm] at hn; exact V.lc rfl hn) | (rw [(exs_not c_71).1, (exs_not (a := A 4 0) (b := A 4 1) (c := A 4 2) (P := A 6) c_71).2] at hn; first | (rw [if_pos c_89] at hn; exact V.lc rfl hn) | (rw [if_neg c_89] at hn; exact V.lc rfl hn)) | (rw [(exs_bin c_27 c_71).1, (exs_bin (a := A 4 0) (b := A 4 1) (c := A 4 2) (P := A 6) c_27 c_71).2] at hn; exact V.lc rfl hn)
          · skip
            refine V.iconst_ (nI 1) d_Mo_worked_92 (by decide +kernel) ?_
            refine V.goto (tgt := 97) d_Mo_worked_93 (by decide) ?_
            refine V.msta 6 (by decide) (by decide) d_Mo_worked_97 (by first | omega | (show _ < 60; omega)) ?_
            refine V.goto (tgt := 135) d_Mo_worked_98 (by decide) ?_
            refine V.incN d_Mo_worked_135 rfl (by decide) ?_
            refine V.goto (tgt := 5) d_Mo_worked_138 (by decide) ?_
            simp only [uA_uu, uA_s]
            first | (rw [(exs_num c_40).1, (exs_num (a := A 4 0) (b := A 4 1) (c := A 4 2) (P := A 6) c_40).2] at hn; exact V.lc rfl hn) | (rw [(exs_nam c_40 c_27).1, (exs_nam (a := A 4 0) (b := A 4 1) (c := A 4 2) (P := A 6) c_40 c_27).2] at hn; rw [hnm] at hn; exact V.lc rfl hn) | (rw [(exs_not c_71).1, (exs_not (a := A 4 0) (b := A 4 1) (c := A 4 2) (P := A 6) c_71).2] at hn; first | (rw [if_pos c_89] at hn; exact V.lc rfl hn) | (rw [if_neg c_89] at hn; exact V.lc rfl hn)) | (rw [(exs_bin c_27 c_71).1, (exs_bin (a := A 4 0) (b := A 4 1) (c := A 4 2) (P := A 6) c_27 c_71).2] at hn; exact V.lc rfl hn)
      · skip
        refine V.aload_n d_Mo_worked_30 rfl ?_
        refine V.get d_Mo_worked_31 f_Mo_28_Mo mo_o rfl ?_
        refine V.iload_n d_Mo_worked_34 rfl ?_
        refine V.iload d_Mo_worked_35 rfl ?_
        refine V.sipush_ (nI 10000) d_Mo_worked_37 (by decide +kernel) ?_
        refine V.geN (tgt := 48) d_Mo_worked_40 (by decide) (by omega) (by omega) (fun c_40 => ?_) (fun c_40 => ?_)
        · skip
          have o1' := o1 c_27
          have hnm : vnm (A 4 0) (A 4 1) (A 4 2) (W k - 10000) = uA A 6 (exs (A 4 0) (A 4 1) (A 4 2) W k (A 6)).2 4 (W k - 10000) := by
            rw [uA_n (by decide)]
            rcases (show W k - 10000 = 0 ∨ W k - 10000 = 1 ∨ W k - 10000 = 2 by omega) with e | e | e <;> rw [e] <;> rfl
          refine V.aload_n d_Mo_worked_48 rfl ?_
          refine V.get d_Mo_worked_49 f_Mo_22_Mo mo_o rfl ?_
          refine V.iload d_Mo_worked_52 rfl ?_
          refine V.sipush_ (nI 10000) d_Mo_worked_54 (by decide +kernel) ?_
          refine V.subN d_Mo_worked_57 (by omega) ?_
          refine V.mlda 4 (by decide) (by decide) d_Mo_worked_58 (by first | omega | (show _ < 3; omega)) ?_
          refine V.msta 6 (by decide) (by decide) d_Mo_worked_59 (by first | omega | (show _ < 60; omega)) ?_
          refine V.incN d_Mo_worked_60 rfl (by decide) ?_
          refine V.goto (tgt := 135) d_Mo_worked_63 (by decide) ?_
          refine V.incN d_Mo_worked_135 rfl (by decide) ?_
          refine V.goto (tgt := 5) d_Mo_worked_138 (by decide) ?_
          simp only [uA_uu, uA_s]
          first | (rw [(exs_num c_40).1, (exs_num (a := A 4 0) (b := A 4 1) (c := A 4 2) (P := A 6) c_40).2] at hn; exact V.lc rfl hn) | (rw [(exs_nam c_40 c_27).1, (exs_nam (a := A 4 0) (b := A 4 1) (c := A 4 2) (P := A 6) c_40 c_27).2] at hn; rw [hnm] at hn; exact V.lc rfl hn) | (rw [(exs_not c_71).1, (exs_not (a := A 4 0) (b := A 4 1) (c := A 4 2) (P := A 6) c_71).2] at hn; first | (rw [if_pos c_89] at hn; exact V.lc rfl hn) | (rw [if_neg c_89] at hn; exact V.lc rfl hn)) | (rw [(exs_bin c_27 c_71).1, (exs_bin (a := A 4 0) (b := A 4 1) (c := A 4 2) (P := A 6) c_27 c_71).2] at hn; exact V.lc rfl hn)
        · skip
          refine V.iload d_Mo_worked_43 rfl ?_
          refine V.goto (tgt := 59) d_Mo_worked_45 (by decide) ?_
          refine V.msta 6 (by decide) (by decide) d_Mo_worked_59 (by first | omega | (show _ < 60; omega)) ?_
          refine V.incN d_Mo_worked_60 rfl (by decide) ?_
          refine V.goto (tgt := 135) d_Mo_worked_63 (by decide) ?_
          refine V.incN d_Mo_worked_135 rfl (by decide) ?_
          refine V.goto (tgt := 5) d_Mo_worked_138 (by decide) ?_
          simp only [uA_uu, uA_s]
          first | (rw [(exs_num c_40).1, (exs_num (a := A 4 0) (b := A 4 1) (c := A 4 2) (P := A 6) c_40).2] at hn; exact V.lc rfl hn) | (rw [(exs_nam c_40 c_27).1, (exs_nam (a := A 4 0) (b := A 4 1) (c := A 4 2) (P := A 6) c_40 c_27).2] at hn; rw [hnm] at hn; exact V.lc rfl hn) | (rw [(exs_not c_71).1, (exs_not (a := A 4 0) (b := A 4 1) (c := A 4 2) (P := A 6) c_71).2] at hn; first | (rw [if_pos c_89] at hn; exact V.lc rfl hn) | (rw [if_neg c_89] at hn; exact V.lc rfl hn)) | (rw [(exs_bin c_27 c_71).1, (exs_bin (a := A 4 0) (b := A 4 1) (c := A 4 2) (P := A 6) c_27 c_71).2] at hn; exact V.lc rfl hn)
