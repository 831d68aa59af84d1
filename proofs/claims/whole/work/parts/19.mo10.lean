theorem DW.up {D D' : Nat → Int32} {N len0 len1 : Nat} {W0 W1 : Nat → Nat} (hN : N ≤ 8) (h : DW D N W0 len0 W1 len1) (he : ∀ j, j = 0 ∨ 50 ≤ j → D' j = D j) : DW D' N W0 len0 W1 len1 := by
  obtain ⟨h1, h2, h3, h4, h5⟩ := h
  refine ⟨by rw [he 0 (Or.inl rfl)]; exact h1, h2.same (fun t ht => ⟨he _ (by omega), he _ (by omega), he _ (by omega)⟩), h3.same (fun j hj => he _ (by omega)), h4.same (fun j hj => he _ (by omega)), fun t ht => ?_⟩
  unfold NB
  rw [he _ (by omega)]
  exact h5 t ht
def gsD (D : Nat → Int32) (a b v : Nat) : Nat → Int32 := upd (upd D (44 + a) (nI v)) (44 + b) (nI v)
theorem gsD_x {D : Nat → Int32} {a b v j : Nat} (ha : a ≤ 5) (hb : b ≤ 5) (hj : j = 0 ∨ 50 ≤ j) : gsD D a b v j = D j := by
  unfold gsD
  rw [pk_un (by omega), pk_un (by omega)]
def gtst (cv wv : Int32 → Int32 → Int32 → Int32) (N : Nat) (D : Nat → Int32) (k i a b v : Nat) : Prop := ((stb (dsD cv wv N k (gsD D a b v)).1 N >>> (nI i &&& 31)) &&& nI 1) = 0
abbrev M_Mo_gossip : MD := (⟨"FelledByNamesModel", "gossip", "(II)I"⟩, prog_14_method_60_code, 4, (some .int), fun _ => True)
theorem d_Mo_gossip_0 : decode prog_14_method_60_code 0 = .ok (.aload_n 0, 1) := by decide +kernel
theorem d_Mo_gossip_1 : decode prog_14_method_60_code 1 = .ok (.iload_n 1, 1) := by decide +kernel
theorem d_Mo_gossip_2 : decode prog_14_method_60_code 2 = .ok (.invokevirtual 207, 3) := by decide +kernel
theorem d_Mo_gossip_5 : decode prog_14_method_60_code 5 = .ok (.ifCond .eq 15, 3) := by decide +kernel
theorem d_Mo_gossip_20 : decode prog_14_method_60_code 20 = .ok (.aload_n 0, 1) := by decide +kernel
theorem d_Mo_gossip_21 : decode prog_14_method_60_code 21 = .ok (.iconst 1, 1) := by decide +kernel
theorem d_Mo_gossip_22 : decode prog_14_method_60_code 22 = .ok (.invokevirtual 138, 3) := by decide +kernel
theorem d_Mo_gossip_25 : decode prog_14_method_60_code 25 = .ok (.ireturn, 1) := by decide +kernel
theorem d_Mo_gossip_8 : decode prog_14_method_60_code 8 = .ok (.iload_n 2, 1) := by decide +kernel
theorem d_Mo_gossip_9 : decode prog_14_method_60_code 9 = .ok (.i2l, 1) := by decide +kernel
theorem d_Mo_gossip_10 : decode prog_14_method_60_code 10 = .ok (.lconst 0, 1) := by decide +kernel
theorem d_Mo_gossip_11 : decode prog_14_method_60_code 11 = .ok (.ldc2_w 240, 3) := by decide +kernel
theorem d_Mo_gossip_14 : decode prog_14_method_60_code 14 = .ok (.invokestatic 56, 3) := by decide +kernel
theorem d_Mo_gossip_17 : decode prog_14_method_60_code 17 = .ok (.ifCond .ne 9, 3) := by decide +kernel
theorem d_Mo_gossip_26 : decode prog_14_method_60_code 26 = .ok (.aload_n 0, 1) := by decide +kernel
theorem d_Mo_gossip_27 : decode prog_14_method_60_code 27 = .ok (.invokevirtual 228, 3) := by decide +kernel
theorem d_Mo_gossip_30 : decode prog_14_method_60_code 30 = .ok (.iconst 0, 1) := by decide +kernel
theorem d_Mo_gossip_31 : decode prog_14_method_60_code 31 = .ok (.istore_n 3, 1) := by decide +kernel
theorem d_Mo_gossip_32 : decode prog_14_method_60_code 32 = .ok (.iload_n 3, 1) := by decide +kernel
theorem d_Mo_gossip_33 : decode prog_14_method_60_code 33 = .ok (.bipush 10, 2) := by decide +kernel
theorem d_Mo_gossip_35 : decode prog_14_method_60_code 35 = .ok (.if_icmp .ge 53, 3) := by decide +kernel
theorem d_Mo_gossip_88 : decode prog_14_method_60_code 88 = .ok (.aload_n 0, 1) := by decide +kernel
theorem d_Mo_gossip_89 : decode prog_14_method_60_code 89 = .ok (.iconst 2, 1) := by decide +kernel
theorem d_Mo_gossip_90 : decode prog_14_method_60_code 90 = .ok (.invokevirtual 138, 3) := by decide +kernel
theorem d_Mo_gossip_93 : decode prog_14_method_60_code 93 = .ok (.ireturn, 1) := by decide +kernel
theorem d_Mo_gossip_38 : decode prog_14_method_60_code 38 = .ok (.aload_n 0, 1) := by decide +kernel
theorem d_Mo_gossip_39 : decode prog_14_method_60_code 39 = .ok (.getfield 7, 3) := by decide +kernel
theorem d_Mo_gossip_42 : decode prog_14_method_60_code 42 = .ok (.bipush 44, 2) := by decide +kernel
theorem d_Mo_gossip_44 : decode prog_14_method_60_code 44 = .ok (.aload_n 0, 1) := by decide +kernel
theorem d_Mo_gossip_45 : decode prog_14_method_60_code 45 = .ok (.iload_n 1, 1) := by decide +kernel
theorem d_Mo_gossip_46 : decode prog_14_method_60_code 46 = .ok (.iconst 2, 1) := by decide +kernel
theorem d_Mo_gossip_47 : decode prog_14_method_60_code 47 = .ok (.invokevirtual 158, 3) := by decide +kernel
theorem d_Mo_gossip_50 : decode prog_14_method_60_code 50 = .ok (.iadd, 1) := by decide +kernel
theorem d_Mo_gossip_51 : decode prog_14_method_60_code 51 = .ok (.iload_n 3, 1) := by decide +kernel
theorem d_Mo_gossip_52 : decode prog_14_method_60_code 52 = .ok (.iastore, 1) := by decide +kernel
theorem d_Mo_gossip_53 : decode prog_14_method_60_code 53 = .ok (.aload_n 0, 1) := by decide +kernel
theorem d_Mo_gossip_54 : decode prog_14_method_60_code 54 = .ok (.getfield 7, 3) := by decide +kernel
theorem d_Mo_gossip_57 : decode prog_14_method_60_code 57 = .ok (.bipush 44, 2) := by decide +kernel
theorem d_Mo_gossip_59 : decode prog_14_method_60_code 59 = .ok (.aload_n 0, 1) := by decide +kernel
theorem d_Mo_gossip_60 : decode prog_14_method_60_code 60 = .ok (.iload_n 1, 1) := by decide +kernel
theorem d_Mo_gossip_61 : decode prog_14_method_60_code 61 = .ok (.iconst 3, 1) := by decide +kernel
theorem d_Mo_gossip_62 : decode prog_14_method_60_code 62 = .ok (.invokevirtual 158, 3) := by decide +kernel
theorem d_Mo_gossip_65 : decode prog_14_method_60_code 65 = .ok (.iadd, 1) := by decide +kernel
theorem d_Mo_gossip_66 : decode prog_14_method_60_code 66 = .ok (.iload_n 3, 1) := by decide +kernel
theorem d_Mo_gossip_67 : decode prog_14_method_60_code 67 = .ok (.iastore, 1) := by decide +kernel
theorem d_Mo_gossip_68 : decode prog_14_method_60_code 68 = .ok (.aload_n 0, 1) := by decide +kernel
theorem d_Mo_gossip_69 : decode prog_14_method_60_code 69 = .ok (.iload_n 2, 1) := by decide +kernel
theorem d_Mo_gossip_70 : decode prog_14_method_60_code 70 = .ok (.invokevirtual 237, 3) := by decide +kernel
theorem d_Mo_gossip_73 : decode prog_14_method_60_code 73 = .ok (.iload_n 1, 1) := by decide +kernel
theorem d_Mo_gossip_74 : decode prog_14_method_60_code 74 = .ok (.ishr, 1) := by decide +kernel
theorem d_Mo_gossip_75 : decode prog_14_method_60_code 75 = .ok (.iconst 1, 1) := by decide +kernel
theorem d_Mo_gossip_76 : decode prog_14_method_60_code 76 = .ok (.iand, 1) := by decide +kernel
theorem d_Mo_gossip_77 : decode prog_14_method_60_code 77 = .ok (.ifCond .ne 5, 3) := by decide +kernel
theorem d_Mo_gossip_82 : decode prog_14_method_60_code 82 = .ok (.iinc 3 1, 3) := by decide +kernel
theorem d_Mo_gossip_85 : decode prog_14_method_60_code 85 = .ok (.goto (-53), 3) := by decide +kernel
theorem d_Mo_gossip_80 : decode prog_14_method_60_code 80 = .ok (.iload_n 3, 1) := by decide +kernel
theorem d_Mo_gossip_81 : decode prog_14_method_60_code 81 = .ok (.ireturn, 1) := by decide +kernel
set_option maxRecDepth 100000 in
theorem c_Mo_gossip {x y : Int32} {N fm len0 len1 : Nat} {W0 W1 : Nat → Nat} {l : Launch} {d q n : Nat} {D : Nat → Int32} {A : Nat → Nat → Int32} {S : Nat → Int32} {h0 : HP} {Q : QT} (hN : N ≤ 8) (hD : DW D N W0 len0 W1 len1) (hf : fm < 2 ^ 25) (ef : S 18 = nI fm) (hE : (wi x (nI 0) (nI N - nI 1) && wi y (nI 0) (nI 30)) = false → Q (some (.int (-1000000000 - nI 1))) n (mo q D (uA A 3 (upd (A 3) 1 (A 3 1 + nI 1))) S h0)) (hNo : ∀ i k a b, i < N → k ≤ 30 → x = nI i → y = nI k → D (50 + 7 * i + 2) = nI a → D (50 + 7 * i + 3) = nI b → a ≤ 5 → b ≤ 5 →  (∀ v, v < 10 → ¬ gtst (tgv 0 W0 len0) (tgv 1 W1 len1) N D k i a b v) → ∀ (A1 : Nat → Nat → Int32) (f1 : Nat), (∀ j, j ≠ 2 → j ≠ 4 → j ≠ 6 → j ≠ 7 → j ≠ 8 → j ≠ 9 → A1 j = A j) → f1 ≤ fm + 40000 →  Q (some (.int (-1000000000 - nI 2))) n (mo q D (uA A1 3 (upd (A 3) 2 (A 3 2 + nI 1))) (uS S 18 (nI f1)) h0)) (hOk : ∀ i k a b v, i < N → k ≤ 30 → x = nI i → y = nI k → D (50 + 7 * i + 2) = nI a → D (50 + 7 * i + 3) = nI b → a ≤ 5 → b ≤ 5 →  v < 10 → (∀ u, u < v → ¬ gtst (tgv 0 W0 len0) (tgv 1 W1 len1) N D k i a b u) → gtst (tgv 0 W0 len0) (tgv 1 W1 len1) N D k i a b v → ∀ (A1 : Nat → Nat → Int32) (f1 : Nat), (∀ j, j ≠ 2 → j ≠ 4 → j ≠ 6 → j ≠ 7 → j ≠ 8 → j ≠ 9 → A1 j = A j) → f1 ≤ fm + 40000 →  Q (some (.int (nI v))) n (mo q D A1 (uS S 18 (nI f1)) h0)) : Ct l M_Mo_gossip (d + 8) 0 0 [.ref q, .int x, .int y] n (mo q D A S h0) Q := by
  refine Ct.of (fun _ => trivial) (by decide) (Nat.le_of_ble_eq_true rfl) ?_
  refine V.aload_n d_Mo_gossip_0 rfl ?_
  refine V.iload_n d_Mo_gossip_1 rfl ?_
  refine V.callV1 d_Mo_gossip_2 k_Mo_207_Mo_isTree_MoV mo_o (Nat.le_of_ble_eq_true rfl) (by omega) (by omega) (c_Mo_isTree ?_)
  rw [hD.1]
  refine V.ifeqB (tgt := 20) d_Mo_gossip_5 (by decide) (fun c_5 => ?_) (fun c_5 => ?_)
  · skip
    refine V.aload_n d_Mo_gossip_20 rfl ?_
    refine V.iconst_ (nI 1) d_Mo_gossip_21 (by decide +kernel) ?_
    refine V.callV1 d_Mo_gossip_22 k_Mo_138_Mo_finds_MoV mo_o (Nat.le_of_ble_eq_true rfl) (by omega) (by omega) (c_Mo_finds (by omega) ?_)
    refine V.iret d_Mo_gossip_25 rfl (Nat.le_of_ble_eq_true rfl) (Nat.le_of_ble_eq_true rfl) ?_
    exact hE (by simp only [c_5, Bool.and_false, Bool.false_and, Bool.and_true, Bool.true_and])
  · skip
    refine V.iload_n d_Mo_gossip_8 rfl ?_
    refine V.i2l d_Mo_gossip_9 ?_
    refine V.lconst_ ((nI 0).toInt64) d_Mo_gossip_10 (by decide +kernel) ?_
    refine V.ldc2 (v := 30) d_Mo_gossip_11 (tm 1379 (by decide +kernel) rfl) ?_
    refine V.eqS (st' := .long ((nI 30).toInt64) :: _) rfl ?_
    refine V.callS3 d_Mo_gossip_14 k_Mo_56_Mo_inS (Nat.le_of_ble_eq_true rfl) (by omega) (by omega) (c_Mo_in ?_)
    refine V.ifneB (tgt := 26) d_Mo_gossip_17 (by decide) (fun c_17 => ?_) (fun c_17 => ?_)
    · skip
      obtain ⟨i, hi, rfl⟩ := tre_nat hN c_5
      obtain ⟨k, hk, rfl⟩ := wi_nat (by decide) c_17
      obtain ⟨a, ha, ea⟩ := (hD.2.1 i hi).2.1
      obtain ⟨b, hb, eb⟩ := (hD.2.1 i hi).2.2
      refine V.aload_n d_Mo_gossip_26 rfl ?_
      refine V.callV0 d_Mo_gossip_27 k_Mo_228_Mo_keepAside_MoV mo_o (Nat.le_of_ble_eq_true rfl) (by omega) (by omega) (c_Mo_keepAside ?_)
      refine V.iconst_ (nI 0) d_Mo_gossip_30 (by decide +kernel) ?_
      refine V.istore_n d_Mo_gossip_31 (by decide) ?_
      refine V.eqH (h' := mo q D (uA A 2 (cpN 106 D (A 2))) (uS S 18 (nI fm)) h0) (by rw [show uS S 18 (nI fm) = S from uS_18 ef]) ?_
      refine V.lc (ls' := [(0, .ref q), (1, .int (nI i)), (2, .int (nI k)), (3, .int (nI 0))]) rfl ?_
      refine up_to (G := fun v => ∀ (A1 : Nat → Nat → Int32) (f1 : Nat), (∀ j, j ≠ 2 → j ≠ 4 → j ≠ 6 → j ≠ 7 → j ≠ 8 → j ≠ 9 → A1 j = A j) → A1 2 = cpN 106 D (A 2) → f1 ≤ fm + 500 * v → (∀ u, u < v → ¬ gtst (tgv 0 W0 len0) (tgv 1 W1 len1) N D k i a b u) → V l M_Mo_gossip (d + 8) 0 0 32 [(0, .ref q), (1, .int (nI i)), (2, .int (nI k)), (3, .int (nI v))] [] n (mo q D A1 (uS S 18 (nI f1)) h0) 0 0 Q) (10) ?_ (fun v hv hn => ?_) 0 (by omega) (uA A 2 (cpN 106 D (A 2))) fm (fun j h1 _ _ _ _ _ => uA_n h1) uA_s (by omega) (fun u hu => absurd hu (by omega))
      · skip
        intro A1 f1 hA1 hA12 hf1 hno
        refine V.iload_n d_Mo_gossip_32 rfl ?_
        refine V.bipush_ (nI 10) d_Mo_gossip_33 (by decide +kernel) ?_
        refine V.geN (tgt := 88) d_Mo_gossip_35 (by decide) (by omega) (by omega) (fun c_35 => ?_) (fun c_35 => ?_)
        · skip
          refine V.aload_n d_Mo_gossip_88 rfl ?_
          refine V.iconst_ (nI 2) d_Mo_gossip_89 (by decide +kernel) ?_
          refine V.callV1 d_Mo_gossip_90 k_Mo_138_Mo_finds_MoV mo_o (Nat.le_of_ble_eq_true rfl) (by omega) (by omega) (c_Mo_finds (by omega) ?_)
          refine V.iret d_Mo_gossip_93 rfl (Nat.le_of_ble_eq_true rfl) (Nat.le_of_ble_eq_true rfl) ?_
          rw [hA1 3 (by decide) (by decide) (by decide) (by decide) (by decide) (by decide)]
          exact hNo i k a b hi hk rfl rfl ea eb ha hb hno A1 f1 hA1 (by omega)
        · skip
          exact absurd c_35 (by omega)
      · skip
        intro A1 f1 hA1 hA12 hf1 hno
        refine V.iload_n d_Mo_gossip_32 rfl ?_
        refine V.bipush_ (nI 10) d_Mo_gossip_33 (by decide +kernel) ?_
        refine V.geN (tgt := 88) d_Mo_gossip_35 (by decide) (by omega) (by omega) (fun c_35 => ?_) (fun c_35 => ?_)
        · skip
          exact absurd c_35 (by omega)
        · skip
          refine V.aload_n d_Mo_gossip_38 rfl ?_
          refine V.get d_Mo_gossip_39 f_Mo_7_Mo mo_o rfl ?_
          refine V.bipush_ (nI 44) d_Mo_gossip_42 (by decide +kernel) ?_
          refine V.aload_n d_Mo_gossip_44 rfl ?_
          refine V.iload_n d_Mo_gossip_45 rfl ?_
          refine V.iconst_ (nI 2) d_Mo_gossip_46 (by decide +kernel) ?_
          refine V.callV2 d_Mo_gossip_47 k_Mo_158_Mo_of_MoV mo_o (Nat.le_of_ble_eq_true rfl) (by omega) (by omega) (c_Mo_of (by omega) ?_)
          refine V.top ea ?_
          refine V.addN d_Mo_gossip_50 ?_
          refine V.iload_n d_Mo_gossip_51 rfl ?_
          refine V.mstd d_Mo_gossip_52 (by omega) ?_
          refine V.aload_n d_Mo_gossip_53 rfl ?_
          refine V.get d_Mo_gossip_54 f_Mo_7_Mo mo_o rfl ?_
          refine V.bipush_ (nI 44) d_Mo_gossip_57 (by decide +kernel) ?_
          refine V.aload_n d_Mo_gossip_59 rfl ?_
          refine V.iload_n d_Mo_gossip_60 rfl ?_
          refine V.iconst_ (nI 3) d_Mo_gossip_61 (by decide +kernel) ?_
          refine V.callV2 d_Mo_gossip_62 k_Mo_158_Mo_of_MoV mo_o (Nat.le_of_ble_eq_true rfl) (by omega) (by omega) (c_Mo_of (by omega) ?_)
          refine V.top (show _ = nI b by rw [pk_un (by omega)]; exact eb) ?_
          refine V.addN d_Mo_gossip_65 ?_
          refine V.iload_n d_Mo_gossip_66 rfl ?_
          refine V.mstd d_Mo_gossip_67 (by omega) ?_
          refine V.eqH (h' := mo q (gsD D a b v) A1 (uS S 18 (nI f1)) h0) rfl ?_
          refine V.aload_n d_Mo_gossip_68 rfl ?_
          refine V.iload_n d_Mo_gossip_69 rfl ?_
          refine V.callV1 d_Mo_gossip_70 k_Mo_237_Mo_standBehind_MoV mo_o (Nat.le_of_ble_eq_true rfl) (by omega) (by omega) (c_Mo_standBehind (fm := f1) hN (hD.up hN (fun j hj => gsD_x ha hb hj)) (by omega) uS_s (by omega) (fun A2 hA2 => ?_))
          have hl2 := dsD_len (cv := tgv 0 W0 len0) (wv := tgv 1 W1 len1) hN (D := gsD D a b v) k
          have hbk : cpN 106 (cpN 106 D (A 2)) (dsD (tgv 0 W0 len0) (tgv 1 W1 len1) N k (gsD D a b v)).1 = D := bk (fun j hj => (dsD_x hN (by unfold kpt; omega) k).trans (gsD_x ha hb (by omega)))
          rw [hA12, hbk, uS_uu]
          refine V.iload_n d_Mo_gossip_73 rfl ?_
          refine V.ishr d_Mo_gossip_74 ?_
          refine V.iconst_ (nI 1) d_Mo_gossip_75 (by decide +kernel) ?_
          refine V.iand d_Mo_gossip_76 ?_
          refine V.if_ne (tgt := 82) d_Mo_gossip_77 (by decide) (fun c_77 => ?_) (fun c_77 => ?_)
          · skip
            refine V.incN d_Mo_gossip_82 rfl (by decide) ?_
            refine V.goto (tgt := 32) d_Mo_gossip_85 (by decide) ?_
            refine V.lc (ls' := [(0, .ref q), (1, .int (nI i)), (2, .int (nI k)), (3, .int (nI (v + 1)))]) rfl (hn A2 _ (fun j h1 h2 h3 h4 h5 h6 => (hA2 j h2 h3 h4 h5 h6).trans (hA1 j h1 h2 h3 h4 h5 h6)) ((hA2 2 (by decide) (by decide) (by decide) (by decide) (by decide)).trans hA12) (by omega) (fun u hu => ?_))
            by_cases huv : u = v
            · subst huv; exact c_77
            · exact hno u (by omega)
          · skip
            refine V.iload_n d_Mo_gossip_80 rfl ?_
            refine V.iret d_Mo_gossip_81 rfl (Nat.le_of_ble_eq_true rfl) (Nat.le_of_ble_eq_true rfl) ?_
            exact hOk i k a b v hi hk rfl rfl ea eb ha hb hv hno c_77 A2 _ (fun j h1 h2 h3 h4 h5 h6 => (hA2 j h2 h3 h4 h5 h6).trans (hA1 j h1 h2 h3 h4 h5 h6)) (by omega)
    · skip
      refine V.aload_n d_Mo_gossip_20 rfl ?_
      refine V.iconst_ (nI 1) d_Mo_gossip_21 (by decide +kernel) ?_
      refine V.callV1 d_Mo_gossip_22 k_Mo_138_Mo_finds_MoV mo_o (Nat.le_of_ble_eq_true rfl) (by omega) (by omega) (c_Mo_finds (by omega) ?_)
      refine V.iret d_Mo_gossip_25 rfl (Nat.le_of_ble_eq_true rfl) (Nat.le_of_ble_eq_true rfl) ?_
      exact hE (by simp only [c_5, c_17, Bool.and_false, Bool.false_and, Bool.and_true, Bool.true_and])
def abD (D : Nat → Int32) (st : Nat) : Nat → Nat → Int32 := fun p => itr (fun p E => upd E (44 + p) (if ((nI st >>> (nI p &&& 31)) &&& nI 1) = nI 1 then nI 9 else E (44 + p))) p D
theorem abD_x {D : Nat → Int32} {st j : Nat} (hj : j < 44 ∨ 50 ≤ j) : ∀ p, p ≤ 6 → abD D st p j = D j := by
  intro p
  induction p with
  | zero => intro _; rfl
  | succ p ih =>
    intro hp
    show upd (abD D st p) (44 + p) _ j = D j
    rw [pk_un (by omega)]
    exact ih (by omega)
def abB (cv wv : Int32 → Int32 → Int32 → Int32) (N : Nat) (D : Nat → Int32) (k : Nat) (x : Int32) : Nat → Int32 := fun st => itr (fun st best => if ¬ best < 0 ∧ ¬ btc (nI st) < btc best then best else if (stb (dsD cv wv N k (abD D st 6)).1 N &&& x) = 0 then nI st else best) st (-1)
abbrev M_Mo_about : MD := (⟨"FelledByNamesModel", "about", "(II)I"⟩, prog_14_method_61_code, 6, (some .int), fun _ => True)
theorem d_Mo_about_0 : decode prog_14_method_61_code 0 = .ok (.iload_n 1, 1) := by decide +kernel
theorem d_Mo_about_1 : decode prog_14_method_61_code 1 = .ok (.i2l, 1) := by decide +kernel
theorem d_Mo_about_2 : decode prog_14_method_61_code 2 = .ok (.lconst 0, 1) := by decide +kernel
theorem d_Mo_about_3 : decode prog_14_method_61_code 3 = .ok (.iconst 1, 1) := by decide +kernel
theorem d_Mo_about_4 : decode prog_14_method_61_code 4 = .ok (.aload_n 0, 1) := by decide +kernel
theorem d_Mo_about_5 : decode prog_14_method_61_code 5 = .ok (.getfield 7, 3) := by decide +kernel
theorem d_Mo_about_8 : decode prog_14_method_61_code 8 = .ok (.iconst 0, 1) := by decide +kernel
theorem d_Mo_about_9 : decode prog_14_method_61_code 9 = .ok (.iaload, 1) := by decide +kernel
theorem d_Mo_about_10 : decode prog_14_method_61_code 10 = .ok (.ishl, 1) := by decide +kernel
theorem d_Mo_about_11 : decode prog_14_method_61_code 11 = .ok (.iconst 1, 1) := by decide +kernel
theorem d_Mo_about_12 : decode prog_14_method_61_code 12 = .ok (.isub, 1) := by decide +kernel
theorem d_Mo_about_13 : decode prog_14_method_61_code 13 = .ok (.i2l, 1) := by decide +kernel
theorem d_Mo_about_14 : decode prog_14_method_61_code 14 = .ok (.invokestatic 56, 3) := by decide +kernel
theorem d_Mo_about_17 : decode prog_14_method_61_code 17 = .ok (.ifCond .eq 15, 3) := by decide +kernel
theorem d_Mo_about_32 : decode prog_14_method_61_code 32 = .ok (.aload_n 0, 1) := by decide +kernel
theorem d_Mo_about_33 : decode prog_14_method_61_code 33 = .ok (.iconst 1, 1) := by decide +kernel
theorem d_Mo_about_34 : decode prog_14_method_61_code 34 = .ok (.invokevirtual 138, 3) := by decide +kernel
theorem d_Mo_about_37 : decode prog_14_method_61_code 37 = .ok (.ireturn, 1) := by decide +kernel
theorem d_Mo_about_20 : decode prog_14_method_61_code 20 = .ok (.iload_n 2, 1) := by decide +kernel
theorem d_Mo_about_21 : decode prog_14_method_61_code 21 = .ok (.i2l, 1) := by decide +kernel
theorem d_Mo_about_22 : decode prog_14_method_61_code 22 = .ok (.lconst 0, 1) := by decide +kernel
theorem d_Mo_about_23 : decode prog_14_method_61_code 23 = .ok (.ldc2_w 240, 3) := by decide +kernel
theorem d_Mo_about_26 : decode prog_14_method_61_code 26 = .ok (.invokestatic 56, 3) := by decide +kernel
theorem d_Mo_about_29 : decode prog_14_method_61_code 29 = .ok (.ifCond .ne 9, 3) := by decide +kernel
theorem d_Mo_about_38 : decode prog_14_method_61_code 38 = .ok (.aload_n 0, 1) := by decide +kernel
theorem d_Mo_about_39 : decode prog_14_method_61_code 39 = .ok (.invokevirtual 228, 3) := by decide +kernel
theorem d_Mo_about_42 : decode prog_14_method_61_code 42 = .ok (.iconst (-1), 1) := by decide +kernel
theorem d_Mo_about_43 : decode prog_14_method_61_code 43 = .ok (.istore_n 3, 1) := by decide +kernel
theorem d_Mo_about_44 : decode prog_14_method_61_code 44 = .ok (.iconst 0, 1) := by decide +kernel
theorem d_Mo_about_45 : decode prog_14_method_61_code 45 = .ok (.istore 4, 2) := by decide +kernel
theorem d_Mo_about_47 : decode prog_14_method_61_code 47 = .ok (.iload 4, 2) := by decide +kernel
theorem d_Mo_about_49 : decode prog_14_method_61_code 49 = .ok (.bipush 64, 2) := by decide +kernel
theorem d_Mo_about_51 : decode prog_14_method_61_code 51 = .ok (.if_icmp .ge 97, 3) := by decide +kernel
theorem d_Mo_about_148 : decode prog_14_method_61_code 148 = .ok (.iload_n 3, 1) := by decide +kernel
theorem d_Mo_about_149 : decode prog_14_method_61_code 149 = .ok (.ifCond .ge 11, 3) := by decide +kernel
theorem d_Mo_about_160 : decode prog_14_method_61_code 160 = .ok (.iload_n 3, 1) := by decide +kernel
theorem d_Mo_about_161 : decode prog_14_method_61_code 161 = .ok (.ireturn, 1) := by decide +kernel
theorem d_Mo_about_152 : decode prog_14_method_61_code 152 = .ok (.aload_n 0, 1) := by decide +kernel
theorem d_Mo_about_153 : decode prog_14_method_61_code 153 = .ok (.iconst 2, 1) := by decide +kernel
theorem d_Mo_about_154 : decode prog_14_method_61_code 154 = .ok (.invokevirtual 138, 3) := by decide +kernel
theorem d_Mo_about_157 : decode prog_14_method_61_code 157 = .ok (.goto 4, 3) := by decide +kernel
theorem d_Mo_about_54 : decode prog_14_method_61_code 54 = .ok (.iload_n 3, 1) := by decide +kernel
theorem d_Mo_about_55 : decode prog_14_method_61_code 55 = .ok (.ifCond .lt 18, 3) := by decide +kernel
theorem d_Mo_about_73 : decode prog_14_method_61_code 73 = .ok (.iconst 0, 1) := by decide +kernel
theorem d_Mo_about_74 : decode prog_14_method_61_code 74 = .ok (.istore 5, 2) := by decide +kernel
theorem d_Mo_about_76 : decode prog_14_method_61_code 76 = .ok (.iload 5, 2) := by decide +kernel
theorem d_Mo_about_78 : decode prog_14_method_61_code 78 = .ok (.bipush 6, 2) := by decide +kernel
theorem d_Mo_about_80 : decode prog_14_method_61_code 80 = .ok (.if_icmp .ge 45, 3) := by decide +kernel
theorem d_Mo_about_125 : decode prog_14_method_61_code 125 = .ok (.aload_n 0, 1) := by decide +kernel
theorem d_Mo_about_126 : decode prog_14_method_61_code 126 = .ok (.iload_n 2, 1) := by decide +kernel
theorem d_Mo_about_127 : decode prog_14_method_61_code 127 = .ok (.invokevirtual 237, 3) := by decide +kernel
theorem d_Mo_about_130 : decode prog_14_method_61_code 130 = .ok (.iload_n 1, 1) := by decide +kernel
theorem d_Mo_about_131 : decode prog_14_method_61_code 131 = .ok (.iand, 1) := by decide +kernel
theorem d_Mo_about_132 : decode prog_14_method_61_code 132 = .ok (.ifCond .ne 8, 3) := by decide +kernel
theorem d_Mo_about_140 : decode prog_14_method_61_code 140 = .ok (.iload_n 3, 1) := by decide +kernel
theorem d_Mo_about_141 : decode prog_14_method_61_code 141 = .ok (.istore_n 3, 1) := by decide +kernel
theorem d_Mo_about_142 : decode prog_14_method_61_code 142 = .ok (.iinc 4 1, 3) := by decide +kernel
theorem d_Mo_about_145 : decode prog_14_method_61_code 145 = .ok (.goto (-98), 3) := by decide +kernel
theorem d_Mo_about_135 : decode prog_14_method_61_code 135 = .ok (.iload 4, 2) := by decide +kernel
theorem d_Mo_about_137 : decode prog_14_method_61_code 137 = .ok (.goto 4, 3) := by decide +kernel
theorem d_Mo_about_83 : decode prog_14_method_61_code 83 = .ok (.aload_n 0, 1) := by decide +kernel
theorem d_Mo_about_84 : decode prog_14_method_61_code 84 = .ok (.getfield 7, 3) := by decide +kernel
theorem d_Mo_about_87 : decode prog_14_method_61_code 87 = .ok (.bipush 44, 2) := by decide +kernel
theorem d_Mo_about_89 : decode prog_14_method_61_code 89 = .ok (.iload 5, 2) := by decide +kernel
theorem d_Mo_about_91 : decode prog_14_method_61_code 91 = .ok (.iadd, 1) := by decide +kernel
theorem d_Mo_about_92 : decode prog_14_method_61_code 92 = .ok (.iload 4, 2) := by decide +kernel
theorem d_Mo_about_94 : decode prog_14_method_61_code 94 = .ok (.iload 5, 2) := by decide +kernel
theorem d_Mo_about_96 : decode prog_14_method_61_code 96 = .ok (.ishr, 1) := by decide +kernel
theorem d_Mo_about_97 : decode prog_14_method_61_code 97 = .ok (.iconst 1, 1) := by decide +kernel
theorem d_Mo_about_98 : decode prog_14_method_61_code 98 = .ok (.iand, 1) := by decide +kernel
theorem d_Mo_about_99 : decode prog_14_method_61_code 99 = .ok (.iconst 1, 1) := by decide +kernel
theorem d_Mo_about_100 : decode prog_14_method_61_code 100 = .ok (.if_icmp .ne 8, 3) := by decide +kernel
theorem d_Mo_about_108 : decode prog_14_method_61_code 108 = .ok (.aload_n 0, 1) := by decide +kernel
theorem d_Mo_about_109 : decode prog_14_method_61_code 109 = .ok (.getfield 7, 3) := by decide +kernel
theorem d_Mo_about_112 : decode prog_14_method_61_code 112 = .ok (.bipush 44, 2) := by decide +kernel
theorem d_Mo_about_114 : decode prog_14_method_61_code 114 = .ok (.iload 5, 2) := by decide +kernel
theorem d_Mo_about_116 : decode prog_14_method_61_code 116 = .ok (.iadd, 1) := by decide +kernel
theorem d_Mo_about_117 : decode prog_14_method_61_code 117 = .ok (.iaload, 1) := by decide +kernel
theorem d_Mo_about_118 : decode prog_14_method_61_code 118 = .ok (.iastore, 1) := by decide +kernel
theorem d_Mo_about_119 : decode prog_14_method_61_code 119 = .ok (.iinc 5 1, 3) := by decide +kernel
theorem d_Mo_about_122 : decode prog_14_method_61_code 122 = .ok (.goto (-46), 3) := by decide +kernel
theorem d_Mo_about_103 : decode prog_14_method_61_code 103 = .ok (.bipush 9, 2) := by decide +kernel
theorem d_Mo_about_105 : decode prog_14_method_61_code 105 = .ok (.goto 13, 3) := by decide +kernel
theorem d_Mo_about_58 : decode prog_14_method_61_code 58 = .ok (.iload 4, 2) := by decide +kernel
theorem d_Mo_about_60 : decode prog_14_method_61_code 60 = .ok (.invokestatic 242, 3) := by decide +kernel
theorem kB_Mo_bits : kB M_Mo_bits 1 := ⟨tm 15 (by decide +kernel) rfl, tm 1386 (by decide +kernel) rfl, ⟨by decide, by decide, by decide +kernel⟩, by decide⟩
theorem k_Mo_242_Mo_bitsS : kS "FelledByNamesModel" 242 M_Mo_bits 1 := ⟨kB_Mo_bits, tm 1384 (by decide +kernel) rfl, tm 1385 (by decide +kernel) rfl⟩
theorem d_Mo_about_63 : decode prog_14_method_61_code 63 = .ok (.iload_n 3, 1) := by decide +kernel
theorem d_Mo_about_64 : decode prog_14_method_61_code 64 = .ok (.invokestatic 242, 3) := by decide +kernel
theorem d_Mo_about_67 : decode prog_14_method_61_code 67 = .ok (.if_icmp .lt 6, 3) := by decide +kernel
theorem d_Mo_about_70 : decode prog_14_method_61_code 70 = .ok (.goto 72, 3) := by decide +kernel
set_option maxRecDepth 100000 in
theorem c_Mo_about {x y : Int32} {N fm len0 len1 : Nat} {W0 W1 : Nat → Nat} {l : Launch} {d q n : Nat} {D : Nat → Int32} {A : Nat → Nat → Int32} {S : Nat → Int32} {h0 : HP} {Q : QT} (hN : N ≤ 8) (hD : DW D N W0 len0 W1 len1) (hf : fm < 2 ^ 25) (ef : S 18 = nI fm) (hE : (wi x (nI 0) ((nI 1 <<< (nI N &&& 31)) - nI 1) && wi y (nI 0) (nI 30)) = false → Q (some (.int (-1000000000 - nI 1))) n (mo q D (uA A 3 (upd (A 3) 1 (A 3 1 + nI 1))) S h0)) (hNo : ∀ k, k ≤ 30 → y = nI k → wi x (nI 0) ((nI 1 <<< (nI N &&& 31)) - nI 1) = true → abB (tgv 0 W0 len0) (tgv 1 W1 len1) N D k x 64 < 0 → ∀ (A1 : Nat → Nat → Int32) (f1 : Nat), (∀ j, j ≠ 2 → j ≠ 4 → j ≠ 6 → j ≠ 7 → j ≠ 8 → j ≠ 9 → A1 j = A j) → f1 ≤ fm + 40000 →  Q (some (.int (-1000000000 - nI 2))) n (mo q D (uA A1 3 (upd (A 3) 2 (A 3 2 + nI 1))) (uS S 18 (nI f1)) h0)) (hOk : ∀ k, k ≤ 30 → y = nI k → wi x (nI 0) ((nI 1 <<< (nI N &&& 31)) - nI 1) = true → ¬ abB (tgv 0 W0 len0) (tgv 1 W1 len1) N D k x 64 < 0 → ∀ (A1 : Nat → Nat → Int32) (f1 : Nat), (∀ j, j ≠ 2 → j ≠ 4 → j ≠ 6 → j ≠ 7 → j ≠ 8 → j ≠ 9 → A1 j = A j) → f1 ≤ fm + 40000 →  Q (some (.int (abB (tgv 0 W0 len0) (tgv 1 W1 len1) N D k x 64))) n (mo q D A1 (uS S 18 (nI f1)) h0)) : Ct l M_Mo_about (d + 8) 0 0 [.ref q, .int x, .int y] n (mo q D A S h0) Q := by
  refine Ct.of (fun _ => trivial) (by decide) (Nat.le_of_ble_eq_true rfl) ?_
  refine V.iload_n d_Mo_about_0 rfl ?_
  refine V.i2l d_Mo_about_1 ?_
  refine V.lconst_ ((nI 0).toInt64) d_Mo_about_2 (by decide +kernel) ?_
  refine V.iconst_ (nI 1) d_Mo_about_3 (by decide +kernel) ?_
  refine V.aload_n d_Mo_about_4 rfl ?_
  refine V.get d_Mo_about_5 f_Mo_7_Mo mo_o rfl ?_
  refine V.iconst_ (nI 0) d_Mo_about_8 (by decide +kernel) ?_
  refine V.mldd d_Mo_about_9 (by omega) ?_
  refine V.top hD.1 ?_
  refine V.ishl d_Mo_about_10 ?_
  refine V.iconst_ (nI 1) d_Mo_about_11 (by decide +kernel) ?_
  refine V.isub d_Mo_about_12 ?_
  refine V.i2l d_Mo_about_13 ?_
  refine V.callS3 d_Mo_about_14 k_Mo_56_Mo_inS (Nat.le_of_ble_eq_true rfl) (by omega) (by omega) (c_Mo_in ?_)
  refine V.ifeqB (tgt := 32) d_Mo_about_17 (by decide) (fun c_17 => ?_) (fun c_17 => ?_)
  · skip
    refine V.aload_n d_Mo_about_32 rfl ?_
    refine V.iconst_ (nI 1) d_Mo_about_33 (by decide +kernel) ?_
    refine V.callV1 d_Mo_about_34 k_Mo_138_Mo_finds_MoV mo_o (Nat.le_of_ble_eq_true rfl) (by omega) (by omega) (c_Mo_finds (by omega) ?_)
    refine V.iret d_Mo_about_37 rfl (Nat.le_of_ble_eq_true rfl) (Nat.le_of_ble_eq_true rfl) ?_
    exact hE (by simp only [c_17, Bool.and_false, Bool.false_and, Bool.and_true, Bool.true_and])
  · skip
    refine V.iload_n d_Mo_about_20 rfl ?_
    refine V.i2l d_Mo_about_21 ?_
    refine V.lconst_ ((nI 0).toInt64) d_Mo_about_22 (by decide +kernel) ?_
    refine V.ldc2 (v := 30) d_Mo_about_23 (tm 1379 (by decide +kernel) rfl) ?_
    refine V.eqS (st' := .long ((nI 30).toInt64) :: _) rfl ?_
    refine V.callS3 d_Mo_about_26 k_Mo_56_Mo_inS (Nat.le_of_ble_eq_true rfl) (by omega) (by omega) (c_Mo_in ?_)
    refine V.ifneB (tgt := 38) d_Mo_about_29 (by decide) (fun c_29 => ?_) (fun c_29 => ?_)
    · skip
      obtain ⟨k, hk, rfl⟩ := wi_nat (by decide) c_29
      refine V.aload_n d_Mo_about_38 rfl ?_
      refine V.callV0 d_Mo_about_39 k_Mo_228_Mo_keepAside_MoV mo_o (Nat.le_of_ble_eq_true rfl) (by omega) (by omega) (c_Mo_keepAside ?_)
      refine V.iconst_ (-1) d_Mo_about_42 (by decide +kernel) ?_
      refine V.istore_n d_Mo_about_43 (by decide) ?_
      refine V.iconst_ (nI 0) d_Mo_about_44 (by decide +kernel) ?_
      refine V.istore d_Mo_about_45 (by decide) ?_
      refine V.eqH (h' := mo q D (uA A 2 (cpN 106 D (A 2))) (uS S 18 (nI fm)) h0) (by rw [show uS S 18 (nI fm) = S from uS_18 ef]) ?_
      refine V.lc (ls' := [(0, .ref q), (1, .int x), (2, .int (nI k)), (3, .int (abB (tgv 0 W0 len0) (tgv 1 W1 len1) N D k x 0)), (4, .int (nI 0))]) rfl ?_
      refine up_to (G := fun u => ∀ (A1 : Nat → Nat → Int32) (f1 : Nat), (∀ j, j ≠ 2 → j ≠ 4 → j ≠ 6 → j ≠ 7 → j ≠ 8 → j ≠ 9 → A1 j = A j) → A1 2 = cpN 106 D (A 2) → f1 ≤ fm + 500 * u → V l M_Mo_about (d + 8) 0 0 47 [(0, .ref q), (1, .int x), (2, .int (nI k)), (3, .int (abB (tgv 0 W0 len0) (tgv 1 W1 len1) N D k x u)), (4, .int (nI u))] [] n (mo q D A1 (uS S 18 (nI f1)) h0) 0 0 Q) (64) ?_ (fun u hu hn => ?_) 0 (by omega) (uA A 2 (cpN 106 D (A 2))) fm (fun j h1 _ _ _ _ _ => uA_n h1) uA_s (by omega)
      · skip
        intro A1 f1 hA1 hA12 hf1
        refine V.iload d_Mo_about_47 rfl ?_
        refine V.bipush_ (nI 64) d_Mo_about_49 (by decide +kernel) ?_
        refine V.geN (tgt := 148) d_Mo_about_51 (by decide) (by omega) (by omega) (fun c_51 => ?_) (fun c_51 => ?_)
        · skip
          refine V.iload_n d_Mo_about_148 rfl ?_
          refine V.if_ge (tgt := 160) d_Mo_about_149 (by decide) (fun c_149 => ?_) (fun c_149 => ?_)
          · skip
            refine V.iload_n d_Mo_about_160 rfl ?_
            refine V.iret d_Mo_about_161 rfl (Nat.le_of_ble_eq_true rfl) (Nat.le_of_ble_eq_true rfl) ?_
            first
            | exact hOk k hk rfl c_17 (Int32.not_lt.mpr c_149) A1 f1 hA1 (by omega)
            | (rw [hA1 3 (by decide) (by decide) (by decide) (by decide) (by decide) (by decide)]; exact hNo k hk rfl c_17 (Int32.not_le.mp c_149) A1 f1 hA1 (by omega))
          · skip
            refine V.aload_n d_Mo_about_152 rfl ?_
            refine V.iconst_ (nI 2) d_Mo_about_153 (by decide +kernel) ?_
            refine V.callV1 d_Mo_about_154 k_Mo_138_Mo_finds_MoV mo_o (Nat.le_of_ble_eq_true rfl) (by omega) (by omega) (c_Mo_finds (by omega) ?_)
            refine V.goto (tgt := 161) d_Mo_about_157 (by decide) ?_
            refine V.iret d_Mo_about_161 rfl (Nat.le_of_ble_eq_true rfl) (Nat.le_of_ble_eq_true rfl) ?_
            first
            | exact hOk k hk rfl c_17 (Int32.not_lt.mpr c_149) A1 f1 hA1 (by omega)
            | (rw [hA1 3 (by decide) (by decide) (by decide) (by decide) (by decide) (by decide)]; exact hNo k hk rfl c_17 (Int32.not_le.mp c_149) A1 f1 hA1 (by omega))
        · skip
          exact absurd c_51 (by omega)
      · skip
        intro A1 f1 hA1 hA12 hf1
        have eS : abB (tgv 0 W0 len0) (tgv 1 W1 len1) N D k x (u + 1) = (if ¬ abB (tgv 0 W0 len0) (tgv 1 W1 len1) N D k x u < 0 ∧ ¬ btc (nI u) < btc (abB (tgv 0 W0 len0) (tgv 1 W1 len1) N D k x u) then abB (tgv 0 W0 len0) (tgv 1 W1 len1) N D k x u else if (stb (dsD (tgv 0 W0 len0) (tgv 1 W1 len1) N k (abD D u 6)).1 N &&& x) = 0 then nI u else abB (tgv 0 W0 len0) (tgv 1 W1 len1) N D k x u) := rfl
        rw [eS] at hn
        refine V.iload d_Mo_about_47 rfl ?_
        refine V.bipush_ (nI 64) d_Mo_about_49 (by decide +kernel) ?_
        refine V.geN (tgt := 148) d_Mo_about_51 (by decide) (by omega) (by omega) (fun c_51 => ?_) (fun c_51 => ?_)
        · skip
          exact absurd c_51 (by omega)
        · skip
          refine V.iload_n d_Mo_about_54 rfl ?_
          refine V.if_lt (tgt := 73) d_Mo_about_55 (by decide) (fun c_55 => ?_) (fun c_55 => ?_)
          · skip
            refine V.iconst_ (nI 0) d_Mo_about_73 (by decide +kernel) ?_
            refine V.istore d_Mo_about_74 (by decide) ?_
            refine V.lc (ls' := [(0, .ref q), (1, .int x), (2, .int (nI k)), (3, .int (abB (tgv 0 W0 len0) (tgv 1 W1 len1) N D k x u)), (4, .int (nI u)), (5, .int (nI 0))]) rfl ?_
            refine up_to (G := fun p => V l M_Mo_about (d + 8) 0 0 76 [(0, .ref q), (1, .int x), (2, .int (nI k)), (3, .int (abB (tgv 0 W0 len0) (tgv 1 W1 len1) N D k x u)), (4, .int (nI u)), (5, .int (nI p))] [] n (mo q (abD D u p) A1 (uS S 18 (nI f1)) h0) 0 0 Q) (6) ?_ (fun p hp hn => ?_) 0 (by omega)
            · skip
              refine V.iload d_Mo_about_76 rfl ?_
              refine V.bipush_ (nI 6) d_Mo_about_78 (by decide +kernel) ?_
              refine V.geN (tgt := 125) d_Mo_about_80 (by decide) (by omega) (by omega) (fun c_80 => ?_) (fun c_80 => ?_)
              · skip
                refine V.aload_n d_Mo_about_125 rfl ?_
                refine V.iload_n d_Mo_about_126 rfl ?_
                refine V.callV1 d_Mo_about_127 k_Mo_237_Mo_standBehind_MoV mo_o (Nat.le_of_ble_eq_true rfl) (by omega) (by omega) (c_Mo_standBehind (fm := f1) hN (hD.up hN (fun j hj => abD_x (by omega) 6 (by omega))) (by omega) uS_s (by omega) (fun A2 hA2 => ?_))
                have hl2 := dsD_len (cv := tgv 0 W0 len0) (wv := tgv 1 W1 len1) hN (D := abD D u 6) k
                have hbk : cpN 106 (cpN 106 D (A 2)) (dsD (tgv 0 W0 len0) (tgv 1 W1 len1) N k (abD D u 6)).1 = D := bk (fun j hj => (dsD_x hN (by unfold kpt; omega) k).trans (abD_x (by omega) 6 (by omega)))
                rw [hA12, hbk, uS_uu]
                refine V.iload_n d_Mo_about_130 rfl ?_
                refine V.iand d_Mo_about_131 ?_
                refine V.if_ne (tgt := 140) d_Mo_about_132 (by decide) (fun c_132 => ?_) (fun c_132 => ?_)
                · skip
                  refine V.iload_n d_Mo_about_140 rfl ?_
                  refine V.istore_n d_Mo_about_141 (by decide) ?_
                  refine V.incN d_Mo_about_142 rfl (by decide) ?_
                  refine V.goto (tgt := 47) d_Mo_about_145 (by decide) ?_
                  first
                  | (rw [if_pos ⟨c_55, c_67⟩] at hn; exact V.lc rfl (hn A1 f1 hA1 hA12 (by omega)))
                  | (rw [if_neg (by first | exact fun z => z.1 c_55 | exact fun z => z.2 c_67)] at hn
                     first
                     | (rw [if_pos c_132] at hn; exact V.lc rfl (hn A2 _ (fun j h1 h2 h3 h4 h5 h6 => (hA2 j h2 h3 h4 h5 h6).trans (hA1 j h1 h2 h3 h4 h5 h6)) ((hA2 2 (by decide) (by decide) (by decide) (by decide) (by decide)).trans hA12) (by omega)))
                     | (rw [if_neg c_132] at hn; exact V.lc rfl (hn A2 _ (fun j h1 h2 h3 h4 h5 h6 => (hA2 j h2 h3 h4 h5 h6).trans (hA1 j h1 h2 h3 h4 h5 h6)) ((hA2 2 (by decide) (by decide) (by decide) (by decide) (by decide)).trans hA12) (by omega))))
                · skip
                  refine V.iload d_Mo_about_135 rfl ?_
                  refine V.goto (tgt := 141) d_Mo_about_137 (by decide) ?_
                  refine V.istore_n d_Mo_about_141 (by decide) ?_
                  refine V.incN d_Mo_about_142 rfl (by decide) ?_
                  refine V.goto (tgt := 47) d_Mo_about_145 (by decide) ?_
                  first
                  | (rw [if_pos ⟨c_55, c_67⟩] at hn; exact V.lc rfl (hn A1 f1 hA1 hA12 (by omega)))
                  | (rw [if_neg (by first | exact fun z => z.1 c_55 | exact fun z => z.2 c_67)] at hn
                     first
                     | (rw [if_pos c_132] at hn; exact V.lc rfl (hn A2 _ (fun j h1 h2 h3 h4 h5 h6 => (hA2 j h2 h3 h4 h5 h6).trans (hA1 j h1 h2 h3 h4 h5 h6)) ((hA2 2 (by decide) (by decide) (by decide) (by decide) (by decide)).trans hA12) (by omega)))
                     | (rw [if_neg c_132] at hn; exact V.lc rfl (hn A2 _ (fun j h1 h2 h3 h4 h5 h6 => (hA2 j h2 h3 h4 h5 h6).trans (hA1 j h1 h2 h3 h4 h5 h6)) ((hA2 2 (by decide) (by decide) (by decide) (by decide) (by decide)).trans hA12) (by omega))))
              · skip
                exact absurd c_80 (by omega)
            · skip
              refine V.iload d_Mo_about_76 rfl ?_
              refine V.bipush_ (nI 6) d_Mo_about_78 (by decide +kernel) ?_
              refine V.geN (tgt := 125) d_Mo_about_80 (by decide) (by omega) (by omega) (fun c_80 => ?_) (fun c_80 => ?_)
              · skip
                exact absurd c_80 (by omega)
              · skip
                refine V.aload_n d_Mo_about_83 rfl ?_
                refine V.get d_Mo_about_84 f_Mo_7_Mo mo_o rfl ?_
                refine V.bipush_ (nI 44) d_Mo_about_87 (by decide +kernel) ?_
                refine V.iload d_Mo_about_89 rfl ?_
                refine V.addN d_Mo_about_91 ?_
                refine V.iload d_Mo_about_92 rfl ?_
                refine V.iload d_Mo_about_94 rfl ?_
                refine V.ishr d_Mo_about_96 ?_
                refine V.iconst_ (nI 1) d_Mo_about_97 (by decide +kernel) ?_
                refine V.iand d_Mo_about_98 ?_
                refine V.iconst_ (nI 1) d_Mo_about_99 (by decide +kernel) ?_
                refine V.icmp_ne (tgt := 108) d_Mo_about_100 (by decide) (fun c_100 => ?_) (fun c_100 => ?_)
                · skip
                  refine V.aload_n d_Mo_about_108 rfl ?_
                  refine V.get d_Mo_about_109 f_Mo_7_Mo mo_o rfl ?_
                  refine V.bipush_ (nI 44) d_Mo_about_112 (by decide +kernel) ?_
                  refine V.iload d_Mo_about_114 rfl ?_
                  refine V.addN d_Mo_about_116 ?_
                  refine V.mldd d_Mo_about_117 (by omega) ?_
                  refine V.mstd d_Mo_about_118 (by omega) ?_
                  refine V.incN d_Mo_about_119 rfl (by decide) ?_
                  refine V.goto (tgt := 76) d_Mo_about_122 (by decide) ?_
                  have eP : abD D u (p + 1) = upd (abD D u p) (44 + p) (if ((nI u >>> (nI p &&& 31)) &&& nI 1) = nI 1 then nI 9 else abD D u p (44 + p)) := rfl
                  rw [eP] at hn
                  first
                  | (rw [if_pos c_100] at hn; exact V.lc rfl hn)
                  | (rw [if_neg c_100] at hn; exact V.lc rfl hn)
                · skip
                  refine V.bipush_ (nI 9) d_Mo_about_103 (by decide +kernel) ?_
                  refine V.goto (tgt := 118) d_Mo_about_105 (by decide) ?_
                  refine V.mstd d_Mo_about_118 (by omega) ?_
                  refine V.incN d_Mo_about_119 rfl (by decide) ?_
                  refine V.goto (tgt := 76) d_Mo_about_122 (by decide) ?_
                  have eP : abD D u (p + 1) = upd (abD D u p) (44 + p) (if ((nI u >>> (nI p &&& 31)) &&& nI 1) = nI 1 then nI 9 else abD D u p (44 + p)) := rfl
                  rw [eP] at hn
                  first
                  | (rw [if_pos c_100] at hn; exact V.lc rfl hn)
                  | (rw [if_neg c_100] at hn; exact V.lc rfl hn)
          · skip
            refine V.iload d_Mo_about_58 rfl ?_
            refine V.callS1 d_Mo_about_60 k_Mo_242_Mo_bitsS (Nat.le_of_ble_eq_true rfl) (by omega) (by omega) (c_Mo_bits ?_)
            refine V.iload_n d_Mo_about_63 rfl ?_
            refine V.callS1 d_Mo_about_64 k_Mo_242_Mo_bitsS (Nat.le_of_ble_eq_true rfl) (by omega) (by omega) (c_Mo_bits ?_)
            refine V.icmp_lt (tgt := 73) d_Mo_about_67 (by decide) (fun c_67 => ?_) (fun c_67 => ?_)
            · skip
              refine V.iconst_ (nI 0) d_Mo_about_73 (by decide +kernel) ?_
              refine V.istore d_Mo_about_74 (by decide) ?_
              refine V.lc (ls' := [(0, .ref q), (1, .int x), (2, .int (nI k)), (3, .int (abB (tgv 0 W0 len0) (tgv 1 W1 len1) N D k x u)), (4, .int (nI u)), (5, .int (nI 0))]) rfl ?_
              refine up_to (G := fun p => V l M_Mo_about (d + 8) 0 0 76 [(0, .ref q), (1, .int x), (2, .int (nI k)), (3, .int (abB (tgv 0 W0 len0) (tgv 1 W1 len1) N D k x u)), (4, .int (nI u)), (5, .int (nI p))] [] n (mo q (abD D u p) A1 (uS S 18 (nI f1)) h0) 0 0 Q) (6) ?_ (fun p hp hn => ?_) 0 (by omega)
              · skip
                refine V.iload d_Mo_about_76 rfl ?_
                refine V.bipush_ (nI 6) d_Mo_about_78 (by decide +kernel) ?_
                refine V.geN (tgt := 125) d_Mo_about_80 (by decide) (by omega) (by omega) (fun c_80 => ?_) (fun c_80 => ?_)
                · skip
                  refine V.aload_n d_Mo_about_125 rfl ?_
                  refine V.iload_n d_Mo_about_126 rfl ?_
                  refine V.callV1 d_Mo_about_127 k_Mo_237_Mo_standBehind_MoV mo_o (Nat.le_of_ble_eq_true rfl) (by omega) (by omega) (c_Mo_standBehind (fm := f1) hN (hD.up hN (fun j hj => abD_x (by omega) 6 (by omega))) (by omega) uS_s (by omega) (fun A2 hA2 => ?_))
                  have hl2 := dsD_len (cv := tgv 0 W0 len0) (wv := tgv 1 W1 len1) hN (D := abD D u 6) k
                  have hbk : cpN 106 (cpN 106 D (A 2)) (dsD (tgv 0 W0 len0) (tgv 1 W1 len1) N k (abD D u 6)).1 = D := bk (fun j hj => (dsD_x hN (by unfold kpt; omega) k).trans (abD_x (by omega) 6 (by omega)))
                  rw [hA12, hbk, uS_uu]
                  refine V.iload_n d_Mo_about_130 rfl ?_
                  refine V.iand d_Mo_about_131 ?_
                  refine V.if_ne (tgt := 140) d_Mo_about_132 (by decide) (fun c_132 => ?_) (fun c_132 => ?_)
                  · skip
                    refine V.iload_n d_Mo_about_140 rfl ?_
                    refine V.istore_n d_Mo_about_141 (by decide) ?_
                    refine V.incN d_Mo_about_142 rfl (by decide) ?_
                    refine V.goto (tgt := 47) d_Mo_about_145 (by decide) ?_
                    first
                    | (rw [if_pos ⟨c_55, c_67⟩] at hn; exact V.lc rfl (hn A1 f1 hA1 hA12 (by omega)))
                    | (rw [if_neg (by first | exact fun z => z.1 c_55 | exact fun z => z.2 c_67)] at hn
                       first
                       | (rw [if_pos c_132] at hn; exact V.lc rfl (hn A2 _ (fun j h1 h2 h3 h4 h5 h6 => (hA2 j h2 h3 h4 h5 h6).trans (hA1 j h1 h2 h3 h4 h5 h6)) ((hA2 2 (by decide) (by decide) (by decide) (by decide) (by decide)).trans hA12) (by omega)))
                       | (rw [if_neg c_132] at hn; exact V.lc rfl (hn A2 _ (fun j h1 h2 h3 h4 h5 h6 => (hA2 j h2 h3 h4 h5 h6).trans (hA1 j h1 h2 h3 h4 h5 h6)) ((hA2 2 (by decide) (by decide) (by decide) (by decide) (by decide)).trans hA12) (by omega))))
                  · skip
                    refine V.iload d_Mo_about_135 rfl ?_
                    refine V.goto (tgt := 141) d_Mo_about_137 (by decide) ?_
                    refine V.istore_n d_Mo_about_141 (by decide) ?_
                    refine V.incN d_Mo_about_142 rfl (by decide) ?_
                    refine V.goto (tgt := 47) d_Mo_about_145 (by decide) ?_
                    first
                    | (rw [if_pos ⟨c_55, c_67⟩] at hn; exact V.lc rfl (hn A1 f1 hA1 hA12 (by omega)))
                    | (rw [if_neg (by first | exact fun z => z.1 c_55 | exact fun z => z.2 c_67)] at hn
                       first
                       | (rw [if_pos c_132] at hn; exact V.lc rfl (hn A2 _ (fun j h1 h2 h3 h4 h5 h6 => (hA2 j h2 h3 h4 h5 h6).trans (hA1 j h1 h2 h3 h4 h5 h6)) ((hA2 2 (by decide) (by decide) (by decide) (by decide) (by decide)).trans hA12) (by omega)))
                       | (rw [if_neg c_132] at hn; exact V.lc rfl (hn A2 _ (fun j h1 h2 h3 h4 h5 h6 => (hA2 j h2 h3 h4 h5 h6).trans (hA1 j h1 h2 h3 h4 h5 h6)) ((hA2 2 (by decide) (by decide) (by decide) (by decide) (by decide)).trans hA12) (by omega))))
                · skip
                  exact absurd c_80 (by omega)
              · skip
                refine V.iload d_Mo_about_76 rfl ?_
                refine V.bipush_ (nI 6) d_Mo_about_78 (by decide +kernel) ?_
                refine V.geN (tgt := 125) d_Mo_about_80 (by decide) (by omega) (by omega) (fun c_80 => ?_) (fun c_80 => ?_)
                · skip
                  exact absurd c_80 (by omega)
                · skip
                  refine V.aload_n d_Mo_about_83 rfl ?_
                  refine V.get d_Mo_about_84 f_Mo_7_Mo mo_o rfl ?_
                  refine V.bipush_ (nI 44) d_Mo_about_87 (by decide +kernel) ?_
                  refine V.iload d_Mo_about_89 rfl ?_
                  refine V.addN d_Mo_about_91 ?_
                  refine V.iload d_Mo_about_92 rfl ?_
                  refine V.iload d_Mo_about_94 rfl ?_
                  refine V.ishr d_Mo_about_96 ?_
                  refine V.iconst_ (nI 1) d_Mo_about_97 (by decide +kernel) ?_
                  refine V.iand d_Mo_about_98 ?_
                  refine V.iconst_ (nI 1) d_Mo_about_99 (by decide +kernel) ?_
                  refine V.icmp_ne (tgt := 108) d_Mo_about_100 (by decide) (fun c_100 => ?_) (fun c_100 => ?_)
                  · skip
                    refine V.aload_n d_Mo_about_108 rfl ?_
                    refine V.get d_Mo_about_109 f_Mo_7_Mo mo_o rfl ?_
                    refine V.bipush_ (nI 44) d_Mo_about_112 (by decide +kernel) ?_
                    refine V.iload d_Mo_about_114 rfl ?_
                    refine V.addN d_Mo_about_116 ?_
                    refine V.mldd d_Mo_about_117 (by omega) ?_
                    refine V.mstd d_Mo_about_118 (by omega) ?_
                    refine V.incN d_Mo_about_119 rfl (by decide) ?_
                    refine V.goto (tgt := 76) d_Mo_about_122 (by decide) ?_
                    have eP : abD D u (p + 1) = upd (abD D u p) (44 + p) (if ((nI u >>> (nI p &&& 31)) &&& nI 1) = nI 1 then nI 9 else abD D u p (44 + p)) := rfl
                    rw [eP] at hn
                    first
                    | (rw [if_pos c_100] at hn; exact V.lc rfl hn)
                    | (rw [if_neg c_100] at hn; exact V.lc rfl hn)
                  · skip
                    refine V.bipush_ (nI 9) d_Mo_about_103 (by decide +kernel) ?_
                    refine V.goto (tgt := 118) d_Mo_about_105 (by decide) ?_
                    refine V.mstd d_Mo_about_118 (by omega) ?_
                    refine V.incN d_Mo_about_119 rfl (by decide) ?_
                    refine V.goto (tgt := 76) d_Mo_about_122 (by decide) ?_
                    have eP : abD D u (p + 1) = upd (abD D u p) (44 + p) (if ((nI u >>> (nI p &&& 31)) &&& nI 1) = nI 1 then nI 9 else abD D u p (44 + p)) := rfl
                    rw [eP] at hn
                    first
                    | (rw [if_pos c_100] at hn; exact V.lc rfl hn)
                    | (rw [if_neg c_100] at hn; exact V.lc rfl hn)
            · skip
              refine V.goto (tgt := 142) d_Mo_about_70 (by decide) ?_
              refine V.incN d_Mo_about_142 rfl (by decide) ?_
              refine V.goto (tgt := 47) d_Mo_about_145 (by decide) ?_
              first
              | (rw [if_pos ⟨c_55, c_67⟩] at hn; exact V.lc rfl (hn A1 f1 hA1 hA12 (by omega)))
              | (rw [if_neg (by first | exact fun z => z.1 c_55 | exact fun z => z.2 c_67)] at hn
                 first
                 | (rw [if_pos c_132] at hn; exact V.lc rfl (hn A2 _ (fun j h1 h2 h3 h4 h5 h6 => (hA2 j h2 h3 h4 h5 h6).trans (hA1 j h1 h2 h3 h4 h5 h6)) ((hA2 2 (by decide) (by decide) (by decide) (by decide) (by decide)).trans hA12) (by omega)))
                 | (rw [if_neg c_132] at hn; exact V.lc rfl (hn A2 _ (fun j h1 h2 h3 h4 h5 h6 => (hA2 j h2 h3 h4 h5 h6).trans (hA1 j h1 h2 h3 h4 h5 h6)) ((hA2 2 (by decide) (by decide) (by decide) (by decide) (by decide)).trans hA12) (by omega))))
    · skip
      refine V.aload_n d_Mo_about_32 rfl ?_
      refine V.iconst_ (nI 1) d_Mo_about_33 (by decide +kernel) ?_
      refine V.callV1 d_Mo_about_34 k_Mo_138_Mo_finds_MoV mo_o (Nat.le_of_ble_eq_true rfl) (by omega) (by omega) (c_Mo_finds (by omega) ?_)
      refine V.iret d_Mo_about_37 rfl (Nat.le_of_ble_eq_true rfl) (Nat.le_of_ble_eq_true rfl) ?_
      exact hE (by simp only [c_17, c_29, Bool.and_false, Bool.false_and, Bool.and_true, Bool.true_and])
abbrev M_Mo_crash : MD := (⟨"FelledByNamesModel", "crash", "(I)I"⟩, prog_14_method_63_code, 2, (some .int), fun _ => True)
theorem d_Mo_crash_0 : decode prog_14_method_63_code 0 = .ok (.aload_n 0, 1) := by decide +kernel
theorem d_Mo_crash_1 : decode prog_14_method_63_code 1 = .ok (.iload_n 1, 1) := by decide +kernel
theorem d_Mo_crash_2 : decode prog_14_method_63_code 2 = .ok (.invokevirtual 207, 3) := by decide +kernel
theorem d_Mo_crash_5 : decode prog_14_method_63_code 5 = .ok (.ifCond .ne 9, 3) := by decide +kernel
theorem d_Mo_crash_14 : decode prog_14_method_63_code 14 = .ok (.aload_n 0, 1) := by decide +kernel
theorem d_Mo_crash_15 : decode prog_14_method_63_code 15 = .ok (.iload_n 1, 1) := by decide +kernel
theorem d_Mo_crash_16 : decode prog_14_method_63_code 16 = .ok (.bipush 6, 2) := by decide +kernel
theorem d_Mo_crash_18 : decode prog_14_method_63_code 18 = .ok (.invokevirtual 158, 3) := by decide +kernel
theorem d_Mo_crash_21 : decode prog_14_method_63_code 21 = .ok (.ifCond .ne 5, 3) := by decide +kernel
theorem d_Mo_crash_26 : decode prog_14_method_63_code 26 = .ok (.aload_n 0, 1) := by decide +kernel
theorem d_Mo_crash_27 : decode prog_14_method_63_code 27 = .ok (.invokevirtual 228, 3) := by decide +kernel
theorem d_Mo_crash_30 : decode prog_14_method_63_code 30 = .ok (.aload_n 0, 1) := by decide +kernel
theorem d_Mo_crash_31 : decode prog_14_method_63_code 31 = .ok (.iconst 0, 1) := by decide +kernel
theorem d_Mo_crash_32 : decode prog_14_method_63_code 32 = .ok (.putfield 168, 3) := by decide +kernel
theorem d_Mo_crash_35 : decode prog_14_method_63_code 35 = .ok (.aload_n 0, 1) := by decide +kernel
theorem d_Mo_crash_36 : decode prog_14_method_63_code 36 = .ok (.iload_n 1, 1) := by decide +kernel
theorem d_Mo_crash_37 : decode prog_14_method_63_code 37 = .ok (.invokevirtual 183, 3) := by decide +kernel
theorem d_Mo_crash_40 : decode prog_14_method_63_code 40 = .ok (.aload_n 0, 1) := by decide +kernel
theorem d_Mo_crash_41 : decode prog_14_method_63_code 41 = .ok (.invokevirtual 231, 3) := by decide +kernel
theorem d_Mo_crash_44 : decode prog_14_method_63_code 44 = .ok (.aload_n 0, 1) := by decide +kernel
theorem d_Mo_crash_45 : decode prog_14_method_63_code 45 = .ok (.getfield 168, 3) := by decide +kernel
theorem d_Mo_crash_48 : decode prog_14_method_63_code 48 = .ok (.ireturn, 1) := by decide +kernel
theorem d_Mo_crash_24 : decode prog_14_method_63_code 24 = .ok (.iconst 0, 1) := by decide +kernel
theorem d_Mo_crash_25 : decode prog_14_method_63_code 25 = .ok (.ireturn, 1) := by decide +kernel
theorem d_Mo_crash_8 : decode prog_14_method_63_code 8 = .ok (.aload_n 0, 1) := by decide +kernel
theorem d_Mo_crash_9 : decode prog_14_method_63_code 9 = .ok (.iconst 1, 1) := by decide +kernel
theorem d_Mo_crash_10 : decode prog_14_method_63_code 10 = .ok (.invokevirtual 138, 3) := by decide +kernel
theorem d_Mo_crash_13 : decode prog_14_method_63_code 13 = .ok (.ireturn, 1) := by decide +kernel
set_option maxRecDepth 100000 in
theorem c_Mo_crash {x : Int32} {N fm len0 len1 : Nat} {W0 W1 : Nat → Nat} {l : Launch} {d q n : Nat} {D : Nat → Int32} {A : Nat → Nat → Int32} {S : Nat → Int32} {h0 : HP} {Q : QT} (hN : N ≤ 8) (hD : DW D N W0 len0 W1 len1) (hf : fm < 2 ^ 25) (ef : S 18 = nI fm) (hE : wi x (nI 0) (nI N - nI 1) = false → Q (some (.int (-1000000000 - nI 1))) n (mo q D (uA A 3 (upd (A 3) 1 (A 3 1 + nI 1))) S h0)) (h0k : ∀ i, i < N → x = nI i → D (50 + 7 * i + 6) = 0 → Q (some (.int (nI 0))) n (mo q D A S h0)) (hOk : ∀ i, i < N → x = nI i → D (50 + 7 * i + 6) = nI 1 → ∀ (A1 : Nat → Nat → Int32) (f1 : Nat), (∀ j, j ≠ 2 → j ≠ 4 → j ≠ 6 → j ≠ 7 → j ≠ 8 → j ≠ 9 → A1 j = A j) → f1 ≤ 8 → Q (some (.int (nI (fl (tgv 1 W1 len1) N 7 i (D, [])).2.length))) n (mo q D A1 (uS S 18 (nI f1)) h0)) : Ct l M_Mo_crash (d + 6) 0 0 [.ref q, .int x] n (mo q D A S h0) Q := by
  refine Ct.of (fun _ => trivial) (by decide) (Nat.le_of_ble_eq_true rfl) ?_
  refine V.aload_n d_Mo_crash_0 rfl ?_
  refine V.iload_n d_Mo_crash_1 rfl ?_
  refine V.callV1 d_Mo_crash_2 k_Mo_207_Mo_isTree_MoV mo_o (Nat.le_of_ble_eq_true rfl) (by omega) (by omega) (c_Mo_isTree ?_)
  rw [hD.1]
  refine V.ifneB (tgt := 14) d_Mo_crash_5 (by decide) (fun c_5 => ?_) (fun c_5 => ?_)
  · skip
    obtain ⟨i, hi, rfl⟩ := tre_nat hN c_5
    refine V.aload_n d_Mo_crash_14 rfl ?_
    refine V.iload_n d_Mo_crash_15 rfl ?_
    refine V.bipush_ (nI 6) d_Mo_crash_16 (by decide +kernel) ?_
    refine V.callV2 d_Mo_crash_18 k_Mo_158_Mo_of_MoV mo_o (Nat.le_of_ble_eq_true rfl) (by omega) (by omega) (c_Mo_of (by omega) ?_)
    refine V.if_ne (tgt := 26) d_Mo_crash_21 (by decide) (fun c_21 => ?_) (fun c_21 => ?_)
    · skip
      have hs1 : D (50 + 7 * i + 6) = nI 1 := by
        obtain ⟨e, he, ee⟩ := hD.2.2.2.2 i (by omega)
        rcases (show e = 0 ∨ e = 1 by omega) with rfl | rfl
        · exact absurd ee c_21
        · exact ee
      refine V.aload_n d_Mo_crash_26 rfl ?_
      refine V.callV0 d_Mo_crash_27 k_Mo_228_Mo_keepAside_MoV mo_o (Nat.le_of_ble_eq_true rfl) (by omega) (by omega) (c_Mo_keepAside ?_)
      refine V.aload_n d_Mo_crash_30 rfl ?_
      refine V.iconst_ (nI 0) d_Mo_crash_31 (by decide +kernel) ?_
      refine V.mput d_Mo_crash_32 f_Mo_168_Mo fp_Mo_18 rfl (by decide) ?_
      refine V.aload_n d_Mo_crash_35 rfl ?_
      refine V.iload_n d_Mo_crash_36 rfl ?_
      refine V.callV1 d_Mo_crash_37 k_Mo_183_Mo_falls_MoV mo_o (Nat.le_of_ble_eq_true rfl) (by omega) (by omega) (c_Mo_falls (fm := 0) hi hN hD.1 hs1 hD.2.2.2.1 (by decide) uS_s (fun A2 hA2 hA92 => ?_))
      refine V.aload_n d_Mo_crash_40 rfl ?_
      refine V.callV0 d_Mo_crash_41 k_Mo_231_Mo_putBack_MoV mo_o (Nat.le_of_ble_eq_true rfl) (by omega) (by omega) (c_Mo_putBack ?_)
      have hbk : cpN 106 (cpN 106 D (A 2)) (fl (tgv 1 W1 len1) N 7 i (D, [])).1 = D := bk (fun j hj => fl_keep8 hN hj _ _ _ hi)
      rw [hA2 2 (by decide) (by decide) (by decide) (by decide) (by decide), uA_s, hbk, uS_uu]
      refine V.aload_n d_Mo_crash_44 rfl ?_
      refine V.get d_Mo_crash_45 f_Mo_168_Mo mo_o rfl ?_
      refine V.top (show _ = nI (fl (tgv 1 W1 len1) N 7 i (D, [])).2.length by rw [uS_s, Nat.zero_add]) ?_
      refine V.iret d_Mo_crash_48 rfl (Nat.le_of_ble_eq_true rfl) (Nat.le_of_ble_eq_true rfl) ?_
      rw [Nat.zero_add]
      exact hOk i hi rfl hs1 A2 _ (fun j h1 h2 h3 h4 h5 h6 => (hA2 j h2 h3 h4 h5 h6).trans (uA_n h1)) (by have h1 := fl_cnt (wv := tgv 1 W1 len1) 7 i (D, []) hi hs1; have h2 := cst_le (D := D) N; have h3 : (fl (tgv 1 W1 len1) N 7 i (D, [])).2.length + cst (fl (tgv 1 W1 len1) N 7 i (D, [])).1 N = 0 + cst D N := h1; omega)
    · skip
      refine V.iconst_ (nI 0) d_Mo_crash_24 (by decide +kernel) ?_
      refine V.iret d_Mo_crash_25 rfl (Nat.le_of_ble_eq_true rfl) (Nat.le_of_ble_eq_true rfl) ?_
      exact h0k i hi rfl c_21
  · skip
    refine V.aload_n d_Mo_crash_8 rfl ?_
    refine V.iconst_ (nI 1) d_Mo_crash_9 (by decide +kernel) ?_
    refine V.callV1 d_Mo_crash_10 k_Mo_138_Mo_finds_MoV mo_o (Nat.le_of_ble_eq_true rfl) (by omega) (by omega) (c_Mo_finds (by omega) ?_)
    refine V.iret d_Mo_crash_13 rfl (Nat.le_of_ble_eq_true rfl) (Nat.le_of_ble_eq_true rfl) ?_
    exact hE c_5
