def cl1 (D : Nat → Int32) (k : Nat) : Nat := tN D (50 + 7 * k + 2) * 6 + tN D (50 + 7 * k + 3)
def cl2 (D : Nat → Int32) (k : Nat) : Nat := tN D (50 + 7 * k + 3) * 6 + tN D (50 + 7 * k + 2)
/-- the pairs whose names standing trees bear -/
def imP (D : Nat → Int32) : Nat → List Nat
  | 0 => []
  | k + 1 => if D (50 + 7 * k + 6) = nI 1 ∧ ¬ cl1 D k ∈ imP D k then imP D k ++ [cl1 D k, cl2 D k] else imP D k
theorem imP_t {D : Nat → Int32} {k : Nat} (h : D (50 + 7 * k + 6) = nI 1) (g : ¬ cl1 D k ∈ imP D k) : imP D (k + 1) = imP D k ++ [cl1 D k, cl2 D k] := if_pos ⟨h, g⟩
theorem imP_f {D : Nat → Int32} {k : Nat} (h : ¬ (D (50 + 7 * k + 6) = nI 1 ∧ ¬ cl1 D k ∈ imP D k)) : imP D (k + 1) = imP D k := if_neg h
theorem imP_len {D : Nat → Int32} : ∀ k, (imP D k).length ≤ 2 * k := by
  intro k
  induction k with
  | zero => exact Nat.le_refl _
  | succ k ih =>
    by_cases h : D (50 + 7 * k + 6) = nI 1 ∧ ¬ cl1 D k ∈ imP D k
    · rw [imP_t h.1 h.2, List.length_append]; show _ + 2 ≤ _; omega
    · rw [imP_f h]; omega
theorem cl_lt {D : Nat → Int32} {k : Nat} (h : WB D) (hk : k < 8) : cl1 D k < 36 ∧ cl2 D k < 36 := by
  have h2 := ((h.k2 hk).t (by decide)).2
  have h3 := ((h.k3 hk).t (by decide)).2
  unfold cl1 cl2
  omega
theorem imP_lt {D : Nat → Int32} (h : WB D) : ∀ k, k ≤ 8 → ∀ c, c ∈ imP D k → c < 36 := by
  intro k
  induction k with
  | zero => intro _ c hc; cases hc
  | succ k ih =>
    intro hk c hc
    by_cases g : D (50 + 7 * k + 6) = nI 1 ∧ ¬ cl1 D k ∈ imP D k
    · rw [imP_t g.1 g.2] at hc
      have := cl_lt h (show k < 8 by omega)
      rcases List.mem_append.mp hc with z | z
      · exact ih (by omega) c z
      · simp only [List.mem_cons, List.not_mem_nil, or_false] at z
        rcases z with rfl | rfl
        · exact this.1
        · exact this.2
    · rw [imP_f g] at hc; exact ih (by omega) c hc
/-! bits of a long -/
def bt (x : Int64) (c : Nat) : Prop := ((x >>> ((nI c).toInt64 &&& 63)) &&& (nI 1).toInt64) = (nI 0).toInt64
theorem sm63 : ∀ c, c < 36 → ((((nI c).toInt64 &&& 63) : Int64).toBitVec.smod 64).toNat = c := by decide +kernel
theorem bt_iff {x : Int64} {c : Nat} (hc : c < 36) : bt x c ↔ x.toBitVec.getLsbD c = false := by
  unfold bt
  rw [← Int64.toBitVec_inj, Int64.toBitVec_and, Int64.toBitVec_shiftRight, BitVec.sshiftRight_eq', sm63 c hc]
  have e1 : (nI 1).toInt64.toBitVec = 1#64 := by decide +kernel
  have e0 : (nI 0).toInt64.toBitVec = 0#64 := by decide +kernel
  rw [e1, e0]
  have eb : (x.toBitVec.sshiftRight c).getLsbD 0 = x.toBitVec.getLsbD c := by
    rw [BitVec.getLsbD_sshiftRight]
    simp only [show ¬ (64 ≤ 0) by omega, decide_false, Bool.not_false, Bool.true_and, Nat.add_zero, show c < 64 by omega, if_true]
  rw [← eb]
  generalize x.toBitVec.sshiftRight c = y
  constructor
  · intro h
    have := congrArg (fun z => BitVec.getLsbD z 0) h
    simpa [BitVec.getLsbD_and] using this
  · intro h
    apply BitVec.eq_of_getLsbD_eq
    intro i hi
    rw [BitVec.getLsbD_and]
    by_cases h0 : i = 0
    · subst h0; rw [h]; rfl
    · have : (1#64).getLsbD i = false := by
        rw [BitVec.getLsbD_one]
        simp [h0]
      rw [this, Bool.and_false, BitVec.getLsbD_zero]
theorem bt_sh : ∀ a, a < 36 → ∀ c, c < 36 → ((nI 1).toInt64 <<< ((nI a).toInt64 &&& 63)).toBitVec.getLsbD c = decide (a = c) := by decide +kernel
theorem bt_or {x : Int64} {a b c : Nat} (ha : a < 36) (hb : b < 36) (hc : c < 36) : bt (x ||| (((nI 1).toInt64 <<< ((nI a).toInt64 &&& 63)) ||| ((nI 1).toInt64 <<< ((nI b).toInt64 &&& 63)))) c ↔ (bt x c ∧ c ≠ a ∧ c ≠ b) := by
  rw [bt_iff hc, bt_iff hc, Int64.toBitVec_or, Int64.toBitVec_or, BitVec.getLsbD_or, BitVec.getLsbD_or, bt_sh a ha c hc, bt_sh b hb c hc]
  rw [Bool.or_eq_false_iff, Bool.or_eq_false_iff, decide_eq_false_iff_not, decide_eq_false_iff_not]
  exact ⟨fun ⟨h1, h2, h3⟩ => ⟨h1, fun z => h2 z.symm, fun z => h3 z.symm⟩, fun ⟨h1, h2, h3⟩ => ⟨h1, fun z => h2 z.symm, fun z => h3 z.symm⟩⟩
theorem bt_0 : ∀ c, c < 36 → bt ((nI 0).toInt64) c := fun c hc => (bt_iff hc).mpr (by rw [show (nI 0).toInt64.toBitVec = 0#64 by decide +kernel]; exact BitVec.getLsbD_zero)
theorem lgc_0 {x y : Int64} : lg_cmp x y = 0 ↔ x = y := by
  unfold lg_cmp
  constructor
  · intro h
    split at h
    · next g => exact absurd h (by decide)
    · next g1 =>
      split at h
      · next g2 => first | exact g2 | exact absurd h (by decide)
      · next g2 => first | exact absurd h (by decide) | (exact Int64.le_antisymm (Int64.not_lt.mp (by assumption)) (Int64.not_lt.mp (by assumption)))
  · intro h
    subst h
    simp
theorem gdA {L : List Nat} {a b i : Nat} : (L ++ [a, b]).getD i 0 = if i < L.length then L.getD i 0 else if i = L.length then a else if i = L.length + 1 then b else 0 := by
  simp only [List.getD_eq_getElem?_getD]
  by_cases h : i < L.length
  · rw [if_pos h, List.getElem?_append_left h]
  · rw [if_neg h, List.getElem?_append_right (by omega)]
    by_cases h1 : i = L.length
    · subst h1; rw [if_pos rfl, Nat.sub_self]; rfl
    · rw [if_neg h1]
      by_cases h2 : i = L.length + 1
      · rw [if_pos h2, show i - L.length = 1 by omega]; rfl
      · rw [if_neg h2, List.getElem?_eq_none (by show 2 ≤ i - L.length; omega)]; rfl
abbrev M_World_imagine : MD := (⟨"FelledByNames$World", "imagine", "(LFelledByNames$World;)V"⟩, prog_12_method_3_code, 8, none, fun _ => True)
theorem d_World_imagine_0 : decode prog_12_method_3_code 0 = .ok (.aload_n 0, 1) := by decide +kernel
theorem d_World_imagine_1 : decode prog_12_method_3_code 1 = .ok (.aload_n 1, 1) := by decide +kernel
theorem d_World_imagine_2 : decode prog_12_method_3_code 2 = .ok (.invokevirtual 88, 3) := by decide +kernel
theorem kB_World_takeFrom : kB M_World_takeFrom 1 := ⟨tm 5 (by decide +kernel) rfl, tm 785 (by decide +kernel) rfl, ⟨by decide, by decide, by decide +kernel⟩, by decide⟩
theorem k_World_88_World_takeFrom_WorldV : kV "FelledByNames$World" 88 4 M_World_takeFrom 1 := ⟨kB_World_takeFrom, tm 782 (by decide +kernel) rfl, tm 783 (by decide +kernel) rfl, tm 784 (by decide +kernel) rfl, _, rfl, rfl⟩
theorem d_World_imagine_5 : decode prog_12_method_3_code 5 = .ok (.aload_n 0, 1) := by decide +kernel
theorem d_World_imagine_6 : decode prog_12_method_3_code 6 = .ok (.getfield 48, 3) := by decide +kernel
theorem d_World_imagine_9 : decode prog_12_method_3_code 9 = .ok (.invokevirtual 91, 3) := by decide +kernel
theorem k_World_91_Row_clear_RowV : kV "FelledByNames$World" 91 1 M_Row_clear 0 := ⟨kB_Row_clear, tm 789 (by decide +kernel) rfl, tm 290 (by decide +kernel) rfl, tm 291 (by decide +kernel) rfl, _, rfl, rfl⟩
theorem d_World_imagine_12 : decode prog_12_method_3_code 12 = .ok (.aload_n 0, 1) := by decide +kernel
theorem d_World_imagine_13 : decode prog_12_method_3_code 13 = .ok (.getfield 52, 3) := by decide +kernel
theorem d_World_imagine_16 : decode prog_12_method_3_code 16 = .ok (.iconst 0, 1) := by decide +kernel
theorem d_World_imagine_17 : decode prog_12_method_3_code 17 = .ok (.invokestatic 94, 3) := by decide +kernel
theorem k_World_94_Arrays_fill_6S : kS "FelledByNames$World" 94 M_Arrays_fill_6 2 := ⟨kB_Arrays_fill_6, tm 790 (by decide +kernel) rfl, tm 791 (by decide +kernel) rfl⟩
theorem d_World_imagine_20 : decode prog_12_method_3_code 20 = .ok (.aload_n 0, 1) := by decide +kernel
theorem d_World_imagine_21 : decode prog_12_method_3_code 21 = .ok (.getfield 55, 3) := by decide +kernel
theorem d_World_imagine_24 : decode prog_12_method_3_code 24 = .ok (.invokevirtual 91, 3) := by decide +kernel
theorem d_World_imagine_27 : decode prog_12_method_3_code 27 = .ok (.lconst 0, 1) := by decide +kernel
theorem d_World_imagine_28 : decode prog_12_method_3_code 28 = .ok (.lstore_n 2, 1) := by decide +kernel
theorem d_World_imagine_29 : decode prog_12_method_3_code 29 = .ok (.iconst 0, 1) := by decide +kernel
theorem d_World_imagine_30 : decode prog_12_method_3_code 30 = .ok (.istore 4, 2) := by decide +kernel
theorem d_World_imagine_32 : decode prog_12_method_3_code 32 = .ok (.iload 4, 2) := by decide +kernel
theorem d_World_imagine_34 : decode prog_12_method_3_code 34 = .ok (.aload_n 0, 1) := by decide +kernel
theorem d_World_imagine_35 : decode prog_12_method_3_code 35 = .ok (.getfield 24, 3) := by decide +kernel
theorem d_World_imagine_38 : decode prog_12_method_3_code 38 = .ok (.if_icmp .ge 97, 3) := by decide +kernel
theorem d_World_imagine_135 : decode prog_12_method_3_code 135 = .ok (.return_, 1) := by decide +kernel
theorem d_World_imagine_41 : decode prog_12_method_3_code 41 = .ok (.aload_n 0, 1) := by decide +kernel
theorem d_World_imagine_42 : decode prog_12_method_3_code 42 = .ok (.getfield 20, 3) := by decide +kernel
theorem d_World_imagine_45 : decode prog_12_method_3_code 45 = .ok (.iload 4, 2) := by decide +kernel
theorem d_World_imagine_47 : decode prog_12_method_3_code 47 = .ok (.aaload, 1) := by decide +kernel
theorem d_World_imagine_48 : decode prog_12_method_3_code 48 = .ok (.astore 5, 2) := by decide +kernel
theorem d_World_imagine_50 : decode prog_12_method_3_code 50 = .ok (.aload 5, 2) := by decide +kernel
theorem d_World_imagine_52 : decode prog_12_method_3_code 52 = .ok (.getfield 100, 3) := by decide +kernel
theorem d_World_imagine_55 : decode prog_12_method_3_code 55 = .ok (.aload 5, 2) := by decide +kernel
theorem d_World_imagine_57 : decode prog_12_method_3_code 57 = .ok (.getfield 103, 3) := by decide +kernel
theorem d_World_imagine_60 : decode prog_12_method_3_code 60 = .ok (.invokestatic 106, 3) := by decide +kernel
theorem d_World_imagine_63 : decode prog_12_method_3_code 63 = .ok (.istore 6, 2) := by decide +kernel
theorem d_World_imagine_65 : decode prog_12_method_3_code 65 = .ok (.aload 5, 2) := by decide +kernel
theorem d_World_imagine_67 : decode prog_12_method_3_code 67 = .ok (.getfield 110, 3) := by decide +kernel
theorem d_World_imagine_70 : decode prog_12_method_3_code 70 = .ok (.ifCond .eq 59, 3) := by decide +kernel
theorem d_World_imagine_129 : decode prog_12_method_3_code 129 = .ok (.iinc 4 1, 3) := by decide +kernel
theorem d_World_imagine_132 : decode prog_12_method_3_code 132 = .ok (.goto (-100), 3) := by decide +kernel
theorem d_World_imagine_73 : decode prog_12_method_3_code 73 = .ok (.lload_n 2, 1) := by decide +kernel
theorem d_World_imagine_74 : decode prog_12_method_3_code 74 = .ok (.iload 6, 2) := by decide +kernel
theorem d_World_imagine_76 : decode prog_12_method_3_code 76 = .ok (.lshr, 1) := by decide +kernel
theorem d_World_imagine_77 : decode prog_12_method_3_code 77 = .ok (.lconst 1, 1) := by decide +kernel
theorem d_World_imagine_78 : decode prog_12_method_3_code 78 = .ok (.land, 1) := by decide +kernel
theorem d_World_imagine_79 : decode prog_12_method_3_code 79 = .ok (.lconst 0, 1) := by decide +kernel
theorem d_World_imagine_80 : decode prog_12_method_3_code 80 = .ok (.lcmp, 1) := by decide +kernel
theorem d_World_imagine_81 : decode prog_12_method_3_code 81 = .ok (.ifCond .ne 48, 3) := by decide +kernel
theorem d_World_imagine_84 : decode prog_12_method_3_code 84 = .ok (.aload 5, 2) := by decide +kernel
theorem d_World_imagine_86 : decode prog_12_method_3_code 86 = .ok (.getfield 103, 3) := by decide +kernel
theorem d_World_imagine_89 : decode prog_12_method_3_code 89 = .ok (.aload 5, 2) := by decide +kernel
theorem d_World_imagine_91 : decode prog_12_method_3_code 91 = .ok (.getfield 100, 3) := by decide +kernel
theorem d_World_imagine_94 : decode prog_12_method_3_code 94 = .ok (.invokestatic 106, 3) := by decide +kernel
theorem d_World_imagine_97 : decode prog_12_method_3_code 97 = .ok (.istore 7, 2) := by decide +kernel
theorem d_World_imagine_99 : decode prog_12_method_3_code 99 = .ok (.aload_n 0, 1) := by decide +kernel
theorem d_World_imagine_100 : decode prog_12_method_3_code 100 = .ok (.getfield 55, 3) := by decide +kernel
theorem d_World_imagine_103 : decode prog_12_method_3_code 103 = .ok (.iload 6, 2) := by decide +kernel
theorem d_World_imagine_105 : decode prog_12_method_3_code 105 = .ok (.invokevirtual 68, 3) := by decide +kernel
theorem d_World_imagine_108 : decode prog_12_method_3_code 108 = .ok (.aload_n 0, 1) := by decide +kernel
theorem d_World_imagine_109 : decode prog_12_method_3_code 109 = .ok (.getfield 55, 3) := by decide +kernel
theorem d_World_imagine_112 : decode prog_12_method_3_code 112 = .ok (.iload 7, 2) := by decide +kernel
theorem d_World_imagine_114 : decode prog_12_method_3_code 114 = .ok (.invokevirtual 68, 3) := by decide +kernel
theorem d_World_imagine_117 : decode prog_12_method_3_code 117 = .ok (.lload_n 2, 1) := by decide +kernel
theorem d_World_imagine_118 : decode prog_12_method_3_code 118 = .ok (.lconst 1, 1) := by decide +kernel
theorem d_World_imagine_119 : decode prog_12_method_3_code 119 = .ok (.iload 6, 2) := by decide +kernel
theorem d_World_imagine_121 : decode prog_12_method_3_code 121 = .ok (.lshl, 1) := by decide +kernel
theorem d_World_imagine_122 : decode prog_12_method_3_code 122 = .ok (.lconst 1, 1) := by decide +kernel
theorem d_World_imagine_123 : decode prog_12_method_3_code 123 = .ok (.iload 7, 2) := by decide +kernel
theorem d_World_imagine_125 : decode prog_12_method_3_code 125 = .ok (.lshl, 1) := by decide +kernel
theorem d_World_imagine_126 : decode prog_12_method_3_code 126 = .ok (.lor, 1) := by decide +kernel
theorem d_World_imagine_127 : decode prog_12_method_3_code 127 = .ok (.lor, 1) := by decide +kernel
theorem d_World_imagine_128 : decode prog_12_method_3_code 128 = .ok (.lstore_n 2, 1) := by decide +kernel
set_option maxRecDepth 100000 in
theorem c_World_imagine {w v N mc ms : Nat} {l : Launch} {d n : Nat} {R W Z : Nat → Nat → Int32} {T : Nat → Nat → Nat} {kn : Kn} {h0 : HP} {Q : QT} (hw : w < 3) (hv : v < 3) (hwv : w ≠ v) (hT : TI T kn n) (hBw : WB (W w)) (hBv : WB (W v)) (hh0 : ∀ a, ¬ (88 ≤ a ∧ a < 104) → h0 a = none) (he : (8 ≤ mc ∧ 64 ≤ ms) ∨ ∀ i, i < 8 → W w (50 + 7 * i + 0) = W v (50 + 7 * i + 0)) (hN : N ≤ 8) (e0 : W v 0 = nI N) (hQ : ∀ (R1 Z1 : Nat → Nat → Int32) (T1 : Nat → Nat → Nat) (n1 : Nat), TI T1 kn n1 → n ≤ n1 → (∀ u i, u ≠ w → T1 u i = T u i) → (∀ a, a ≠ wb w + 6 → a ≠ wb w + 8 → R1 a = R a) → (∀ b j, ¬ (b = wb w + 4 ∧ j = 1) → ¬ (b = wb w + 7 ∧ j = 1) → Z1 b j = Z b j) → (∀ j, j < 16 → R1 (wb w + 6) j = nI 0) → Z1 (wb w + 4) 1 = nI 0 → PR R1 Z1 w (imP (W v) N).length (fun i => (imP (W v) N).getD i 0) → Q none n1 (co R1 (uW W w (cpW (W w) (W v))) Z1 T1 kn h0)) : Ct l M_World_imagine (d + 6) mc ms [.ref (wb w), .ref (wb v)] n (co R W Z T kn h0) Q := by
  refine Ct.of (fun _ => trivial) (by decide) (Nat.le_of_ble_eq_true rfl) ?_
  have hwb := wb_big w
  refine V.aload_n d_World_imagine_0 rfl ?_
  refine V.aload_n d_World_imagine_1 rfl ?_
  refine V.callV1 d_World_imagine_2 k_World_88_World_takeFrom_WorldV (co_s (sc_wd (wb_ds w hw).1)) (Nat.le_of_ble_eq_true rfl) (by omega) (by omega) (c_World_takeFrom hw hv hwv hT hBw hBv hh0 he (fun Ta na hTa hna hTu => ?_))
  refine V.absW (fun Wa hWa => ?_)
  have ea : Wa w = cpW (W w) (W v) := by rw [hWa, uW_s]
  have eaj : ∀ j, j < 6 ∨ (8 ≤ j ∧ j < 106) → Wa w j = W v j := fun j hj => by rw [ea]; exact if_pos hj
  have hBa : WB (Wa w) := by rw [ea]; exact hBw.cp hBv
  refine V.aload_n d_World_imagine_5 rfl ?_
  refine V.get d_World_imagine_6 f_World_48_World (co_s (sc_wd (wb_ds w hw).1)) rfl ?_
  refine V.callV0 d_World_imagine_9 k_World_91_Row_clear_RowV (co_s (sc_rw (wb_ds w hw).2.2.2.2.1)) (Nat.le_of_ble_eq_true rfl) (by omega) (by omega) (c_Row_clear (wb_ds w hw).2.2.2.2.1 ?_)
  refine V.aload_n d_World_imagine_12 rfl ?_
  refine V.get d_World_imagine_13 f_World_52_World (co_s (sc_wd (wb_ds w hw).1)) rfl ?_
  refine V.iconst_ (nI 0) d_World_imagine_16 (by decide +kernel) ?_
  refine V.callS2 d_World_imagine_17 k_World_94_Arrays_fill_6S (Nat.le_of_ble_eq_true rfl) (by omega) (by omega) (c_Arrays_fillI (co_s (sc_ar (wb_ds w hw).2.2.2.2.2.2.1)) (by decide) ?_)
  refine V.eqH (co_uR (wb_ds w hw).2.2.2.2.2.2.1) ?_
  refine V.aload_n d_World_imagine_20 rfl ?_
  refine V.get d_World_imagine_21 f_World_55_World (co_s (sc_wd (wb_ds w hw).1)) rfl ?_
  refine V.callV0 d_World_imagine_24 k_World_91_Row_clear_RowV (co_s (sc_rw (wb_ds w hw).2.2.2.2.2.2.2.1)) (Nat.le_of_ble_eq_true rfl) (by omega) (by omega) (c_Row_clear (wb_ds w hw).2.2.2.2.2.2.2.1 ?_)
  refine V.lconst_ ((nI 0).toInt64) d_World_imagine_27 (by decide +kernel) ?_
  refine V.lstore_n d_World_imagine_28 (by decide) ?_
  refine V.iconst_ (nI 0) d_World_imagine_29 (by decide +kernel) ?_
  refine V.istore d_World_imagine_30 (by decide) ?_
  refine V.lc (ls' := [(0, .ref (wb w)), (1, .ref (wb v)), (2, .long ((nI 0).toInt64)), (4, .int (nI 0))]) rfl ?_
  refine V.lc (ls' := [(0, .ref (wb w)), (1, .ref (wb v)), (2, .long ((nI 0).toInt64)), (4, .int (nI 0))]) rfl ?_
  refine up_to (G := fun k => ∀ (R1 Z1 : Nat → Nat → Int32) (sn : Int64), (∀ a, a ≠ wb w + 8 → R1 a = (uA R (wb w + 6) (flN 16 (nI 0) (R (wb w + 6)))) a) → (∀ b j, ¬ (b = wb w + 7 ∧ j = 1) → Z1 b j = (uZ (uZ Z (wb w + 4) 1 (nI 0)) (wb w + 7) 1 (nI 0)) b j) → Z1 (wb w + 7) 1 = nI (imP (W v) k).length → (∀ i, i < (imP (W v) k).length → R1 (wb w + 7 + 1) i = nI ((imP (W v) k).getD i 0)) → (∀ c, c < 36 → (bt sn c ↔ ¬ c ∈ imP (W v) k)) → V l M_World_imagine (d + 6) mc ms 32 [(0, .ref (wb w)), (1, .ref (wb v)), (2, .long sn), (4, .int (nI k))] [] na (co R1 Wa Z1 Ta kn h0) (0 + mc) (0 + ms) Q) (N) ?_ (fun k hk hn => ?_) 0 (by omega) (uA R (wb w + 6) (flN 16 (nI 0) (R (wb w + 6)))) (uZ (uZ Z (wb w + 4) 1 (nI 0)) (wb w + 7) 1 (nI 0)) ((nI 0).toInt64) (fun _ _ => rfl) (fun _ _ _ => rfl) uZ_s (fun i hi => absurd hi (by show ¬ i < 0; omega)) (fun c hc => ⟨fun _ z => absurd z List.not_mem_nil, fun _ => bt_0 c hc⟩)
  · skip
    intro R1 Z1 sn hR1 hZ1 hz7 hr8 hsn
    refine V.iload d_World_imagine_32 rfl ?_
    refine V.aload_n d_World_imagine_34 rfl ?_
    refine V.get d_World_imagine_35 f_World_24_World (co_s (sc_wd (wb_ds w hw).1)) rfl ?_
    refine V.top (y := nI N) (by rw [eaj 0 (by omega)]; exact e0) ?_
    refine V.geN (tgt := 135) d_World_imagine_38 (by decide) (by omega) (by omega) (fun c_38 => ?_) (fun c_38 => ?_)
    · skip
      refine V.vret d_World_imagine_135 rfl (by omega) (by omega) ?_
      have eW : Wa = uW W w (cpW (W w) (W v)) := hWa
      rw [eW]
      refine hQ R1 Z1 Ta na hTa hna hTu (fun a h1 h2 => ?_) (fun b j h1 h2 => ?_) (fun j hj => ?_) ?_ ⟨?_, hz7, fun i hi => ⟨?_, hr8 i hi⟩⟩
      · rw [hR1 a h2, uA_n h1]
      · rw [hZ1 b j h2, uZ_n h2, uZ_n h1]
      · rw [hR1 _ (by omega), uA_s]; exact if_pos hj
      · rw [hZ1 _ _ (by omega), uZ_n (by omega), uZ_s]
      · have := imP_len (D := W v) N; omega
      · refine imP_lt hBv N hN _ ?_
        show (imP (W v) N).getD i 0 ∈ _
        rw [List.getD_eq_getElem?_getD, List.getElem?_eq_getElem hi]
        exact List.getElem_mem hi
    · skip
      exact absurd c_38 (by omega)
  · skip
    intro R1 Z1 sn hR1 hZ1 hz7 hr8 hsn
    have hk8 : k < 8 := by omega
    have hT := hTa
    obtain ⟨f2, b2⟩ := (hBv.k2 hk8).t (by decide)
    obtain ⟨f3, b3⟩ := (hBv.k3 hk8).t (by decide)
    have hlen := imP_len (D := W v) k
    obtain ⟨hc1, hc2⟩ := cl_lt hBv hk8
    refine V.iload d_World_imagine_32 rfl ?_
    refine V.aload_n d_World_imagine_34 rfl ?_
    refine V.get d_World_imagine_35 f_World_24_World (co_s (sc_wd (wb_ds w hw).1)) rfl ?_
    refine V.top (y := nI N) (by rw [eaj 0 (by omega)]; exact e0) ?_
    refine V.geN (tgt := 135) d_World_imagine_38 (by decide) (by omega) (by omega) (fun c_38 => ?_) (fun c_38 => ?_)
    · skip
      exact absurd c_38 (by omega)
    · skip
      refine V.aload_n d_World_imagine_41 rfl ?_
      refine V.get d_World_imagine_42 f_World_20_World (co_s (sc_wd (wb_ds w hw).1)) rfl ?_
      refine V.iload d_World_imagine_45 rfl ?_
      refine V.aald d_World_imagine_47 (Or.inl rfl) (co_s (sc_tr (wb_ds w hw).2.2.2.1)) (vp_in_nI (by omega) (by omega)) (by rw [icl (by omega)]; exact if_pos (by omega)) ?_
      refine V.astore d_World_imagine_48 (by decide) ?_
      refine V.aload d_World_imagine_50 rfl ?_
      refine V.get d_World_imagine_52 (ft_World_100 _ (hBa.kd hk8)) (co_t hTa hw hk8) rfl ?_
      refine V.top (y := nI (tN (W v) (50 + 7 * k + 2))) ((eaj _ (by omega)).trans f2) ?_
      refine V.aload d_World_imagine_55 rfl ?_
      refine V.get d_World_imagine_57 (ft_World_103 _ (hBa.kd hk8)) (co_t hTa hw hk8) rfl ?_
      refine V.top (y := nI (tN (W v) (50 + 7 * k + 3))) ((eaj _ (by omega)).trans f3) ?_
      refine V.callSN2 d_World_imagine_60 k_World_106_F_cellSN (Nat.le_of_ble_eq_true rfl) (by omega) (by omega) (c_F_cell ?_)
      refine V.istore d_World_imagine_63 (by decide) ?_
      refine V.aload d_World_imagine_65 rfl ?_
      refine V.get d_World_imagine_67 (ft_World_110 _ (hBa.kd hk8)) (co_t hTa hw hk8) rfl ?_
      refine V.if_eq (tgt := 129) d_World_imagine_70 (by decide) (fun c_70 => ?_) (fun c_70 => ?_)
      · skip
        refine V.incN d_World_imagine_129 rfl (by decide) ?_
        refine V.goto (tgt := 32) d_World_imagine_132 (by decide) ?_
        have eP : imP (W v) (k + 1) = imP (W v) k := imP_f (fun z => absurd z.1 (fun q => absurd c_70 (by rw [eaj _ (by omega), q]; decide)))
        rw [eP] at hn
        exact V.lc rfl (hn R1 Z1 sn hR1 hZ1 hz7 hr8 hsn)
      · skip
        have hs1 : W v (50 + 7 * k + 6) = nI 1 := by
          obtain ⟨k6, b6, q6⟩ := hBv.k6 hk8
          rw [eaj _ (by omega), q6] at c_70
          rw [q6]
          rcases (show k6 = 0 ∨ k6 = 1 by omega) with rfl | rfl
          · exact absurd rfl c_70
          · rfl
        refine V.lload_n d_World_imagine_73 rfl ?_
        refine V.iload d_World_imagine_74 rfl ?_
        refine V.lshr d_World_imagine_76 ?_
        refine V.lconst_ ((nI 1).toInt64) d_World_imagine_77 (by decide +kernel) ?_
        refine V.land d_World_imagine_78 ?_
        refine V.lconst_ ((nI 0).toInt64) d_World_imagine_79 (by decide +kernel) ?_
        refine V.lcmp d_World_imagine_80 ?_
        refine V.if_ne (tgt := 129) d_World_imagine_81 (by decide) (fun c_81 => ?_) (fun c_81 => ?_)
        · skip
          refine V.incN d_World_imagine_129 rfl (by decide) ?_
          refine V.goto (tgt := 32) d_World_imagine_132 (by decide) ?_
          have eP : imP (W v) (k + 1) = imP (W v) k := imP_f (fun z => c_81 (lgc_0.mpr ((hsn _ hc1).mpr z.2)))
          rw [eP] at hn
          exact V.lc rfl (hn R1 Z1 sn hR1 hZ1 hz7 hr8 hsn)
        · skip
          refine V.aload d_World_imagine_84 rfl ?_
          refine V.get d_World_imagine_86 (ft_World_103 _ (hBa.kd hk8)) (co_t hTa hw hk8) rfl ?_
          refine V.top (y := nI (tN (W v) (50 + 7 * k + 3))) ((eaj _ (by omega)).trans f3) ?_
          refine V.aload d_World_imagine_89 rfl ?_
          refine V.get d_World_imagine_91 (ft_World_100 _ (hBa.kd hk8)) (co_t hTa hw hk8) rfl ?_
          refine V.top (y := nI (tN (W v) (50 + 7 * k + 2))) ((eaj _ (by omega)).trans f2) ?_
          refine V.callSN2 d_World_imagine_94 k_World_106_F_cellSN (Nat.le_of_ble_eq_true rfl) (by omega) (by omega) (c_F_cell ?_)
          refine V.istore d_World_imagine_97 (by decide) ?_
          refine V.aload_n d_World_imagine_99 rfl ?_
          refine V.get d_World_imagine_100 f_World_55_World (co_s (sc_wd (wb_ds w hw).1)) rfl ?_
          refine V.iload d_World_imagine_103 rfl ?_
          refine V.callV1 d_World_imagine_105 k_World_68_Row_add_RowV (co_s (sc_rw (wb_ds w hw).2.2.2.2.2.2.2.1)) (Nat.le_of_ble_eq_true rfl) (by omega) (by omega) (c_Row_add (a := wb w + 7) (N := 36) (sz := (imP (W v) k).length) (wb_ds w hw).2.2.2.2.2.2.2.1 (wb_ds w hw).2.2.2.2.2.2.2.2 hz7 (by omega) (by decide) (fun _ => ?_) (fun z => absurd z (by omega)))
          refine V.aload_n d_World_imagine_108 rfl ?_
          refine V.get d_World_imagine_109 f_World_55_World (co_s (sc_wd (wb_ds w hw).1)) rfl ?_
          refine V.iload d_World_imagine_112 rfl ?_
          refine V.callV1 d_World_imagine_114 k_World_68_Row_add_RowV (co_s (sc_rw (wb_ds w hw).2.2.2.2.2.2.2.1)) (Nat.le_of_ble_eq_true rfl) (by omega) (by omega) (c_Row_add (a := wb w + 7) (N := 36) (sz := (imP (W v) k).length + 1) (wb_ds w hw).2.2.2.2.2.2.2.1 (wb_ds w hw).2.2.2.2.2.2.2.2 uZ_s (by omega) (by decide) (fun _ => ?_) (fun z => absurd z (by omega)))
          refine V.lload_n d_World_imagine_117 rfl ?_
          refine V.lconst_ ((nI 1).toInt64) d_World_imagine_118 (by decide +kernel) ?_
          refine V.iload d_World_imagine_119 rfl ?_
          refine V.lshl d_World_imagine_121 ?_
          refine V.lconst_ ((nI 1).toInt64) d_World_imagine_122 (by decide +kernel) ?_
          refine V.iload d_World_imagine_123 rfl ?_
          refine V.lshl d_World_imagine_125 ?_
          refine V.lor d_World_imagine_126 ?_
          refine V.lor d_World_imagine_127 ?_
          refine V.lstore_n d_World_imagine_128 (by decide) ?_
          refine V.incN d_World_imagine_129 rfl (by decide) ?_
          refine V.goto (tgt := 32) d_World_imagine_132 (by decide) ?_
          have hg : ¬ cl1 (W v) k ∈ imP (W v) k := (hsn _ hc1).mp (lgc_0.mp c_81)
          have eP := imP_t hs1 hg
          rw [eP] at hn
          refine V.lc rfl (hn _ _ _ (fun a ha => ?_) (fun b j h => ?_) ?_ (fun i hi => ?_) (fun c hc => ?_))
          · rw [uA_n (show a ≠ wb w + 7 + 1 from ha), uA_n (show a ≠ wb w + 7 + 1 from ha)]; exact hR1 a ha
          · rw [uZ_n h, uZ_n h]; exact hZ1 b j h
          · rw [uZ_s, List.length_append]; rfl
          · rw [List.length_append] at hi
            have hi' : i < (imP (W v) k).length + 2 := hi
            rw [uA_s, gdA, uA_s]
            by_cases h2 : i = (imP (W v) k).length + 1
            · subst h2; rw [pk_us, if_neg (by omega), if_neg (by omega), if_pos rfl]; rfl
            · rw [pk_un h2]
              by_cases h1 : i = (imP (W v) k).length
              · subst h1; rw [pk_us, if_neg (by omega), if_pos rfl]; rfl
              · rw [pk_un h1, if_pos (by omega)]; exact hr8 i (by omega)
          · rw [show tN (W v) (50 + 7 * k + 2) * 6 + tN (W v) (50 + 7 * k + 3) = cl1 (W v) k from rfl, show tN (W v) (50 + 7 * k + 3) * 6 + tN (W v) (50 + 7 * k + 2) = cl2 (W v) k from rfl, bt_or hc1 hc2 hc, hsn c hc]
            simp only [List.mem_append, List.mem_cons, List.not_mem_nil, or_false, not_or]
