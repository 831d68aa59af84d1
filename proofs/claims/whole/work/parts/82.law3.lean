theorem d_Law_0 : decode code 0 = .ok (.new 7, 3) := by decide +kernel
theorem d_Law_3 : decode code 3 = .ok (.dup, 1) := by decide +kernel
theorem d_Law_4 : decode code 4 = .ok (.invokespecial 9, 3) := by decide +kernel
theorem d_Law_7 : decode code 7 = .ok (.astore_n 1, 1) := by decide +kernel
theorem d_Law_8 : decode code 8 = .ok (.new 10, 3) := by decide +kernel
theorem d_Law_11 : decode code 11 = .ok (.dup, 1) := by decide +kernel
theorem d_Law_12 : decode code 12 = .ok (.invokespecial 12, 3) := by decide +kernel
theorem d_Law_15 : decode code 15 = .ok (.astore_n 2, 1) := by decide +kernel
theorem d_Law_16 : decode code 16 = .ok (.iconst 0, 1) := by decide +kernel
theorem d_Law_17 : decode code 17 = .ok (.istore_n 3, 1) := by decide +kernel
theorem d_Law_18 : decode code 18 = .ok (.iload_n 3, 1) := by decide +kernel
theorem d_Law_19 : decode code 19 = .ok (.aload_n 0, 1) := by decide +kernel
theorem d_Law_20 : decode code 20 = .ok (.arraylength, 1) := by decide +kernel
theorem d_Law_21 : decode code 21 = .ok (.bipush 6, 2) := by decide +kernel
theorem d_Law_23 : decode code 23 = .ok (.isub, 1) := by decide +kernel
theorem d_Law_24 : decode code 24 = .ok (.if_icmp .gt 1487, 3) := by decide +kernel
theorem d_Law_27 : decode code 27 = .ok (.aload_n 0, 1) := by decide +kernel
theorem d_Law_28 : decode code 28 = .ok (.iload_n 3, 1) := by decide +kernel
theorem d_Law_29 : decode code 29 = .ok (.iaload, 1) := by decide +kernel
theorem d_Law_30 : decode code 30 = .ok (.bipush 63, 2) := by decide +kernel
theorem d_Law_32 : decode code 32 = .ok (.iand, 1) := by decide +kernel
theorem d_Law_33 : decode code 33 = .ok (.tableswitch 1472 0 40 #[179, 222, 255, 288, 311, 344, 397, 430, 473, 506, 539, 602, 625, 678, 701, 724, 767, 790, 813, 846, 879, 912, 935, 968, 991, 1014, 1037, 1080, 1103, 1146, 1169, 1212, 1255, 1318, 1341, 1364, 1377, 1390, 1413, 1426, 1449], 179) := by decide +kernel
theorem d_Law_1505 : decode code 1505 = .ok (.iinc 3 6, 3) := by decide +kernel
theorem d_Law_1508 : decode code 1508 = .ok (.goto (-1490), 3) := by decide +kernel
theorem d_Law_1511 : decode code 1511 = .ok (.iconst 1, 1) := by decide +kernel
theorem d_Law_1512 : decode code 1512 = .ok (.ireturn, 1) := by decide +kernel
theorem and63 (y : Int32) : ∃ k, k < 64 ∧ y &&& nI 63 = nI k := by
  refine ⟨(y &&& nI 63).toBitVec.toNat, ?_, ?_⟩
  · rw [Int32.toBitVec_and, BitVec.toNat_and]
    exact Nat.lt_of_le_of_lt Nat.and_le_right (by decide)
  · apply Int32.toBitVec_inj.mp
    show _ = BitVec.ofNat 32 _
    rw [BitVec.ofNat_toNat, BitVec.setWidth_eq]
theorem lw_gt : ∀ k, k < 64 → 40 < k → (40 : Int) < (nI k).toInt := by decide +kernel
theorem lw_neg : ∀ L, L < 6 → nI L - nI 6 < 0 := by decide +kernel
theorem lw_go {L a : Nat} (hL : L ≤ 3072) (ha : a ≤ 4000) (h : ¬ nI L - nI 6 < nI a) : a + 6 ≤ L := by
  by_cases c : L < 6
  · exact absurd (Int32.lt_of_lt_of_le (lw_neg L c) (nI_pos' (by omega))) h
  · rw [pk_sub (by omega), nI_ltI (by omega) (by omega)] at h
    omega
set_option maxRecDepth 10000 in
theorem lw_one {l : Launch} {d m n c s i L : Nat} {xs : Nat → Int32} {R W Z : Nat → Nat → Int32} {T : Nat → Nat → Nat} {kn : Kn} {D : Nat → Int32} {A : Nat → Nat → Int32} {S : Nat → Int32} {Q : QT} (hR : Rel m R W Z T kn n D A S) (hm : m < 2 ^ 25) (hi : i + 6 ≤ L) (hL : L ≤ 3072) (hc : c + 9 ≤ 600000) (hs : s + 13364 ≤ 7302250) (K : ∀ (R1 W1 Z1 : Nat → Nat → Int32) (T1 : Nat → Nat → Nat) (kn1 : Kn) (n1 : Nat) (D1 : Nat → Int32) (A1 : Nat → Nat → Int32) (S1 : Nat → Int32) (c1 s1 : Nat), Rel (m + 40000) R1 W1 Z1 T1 kn1 n1 D1 A1 S1 → c1 ≤ c + 9 → s1 ≤ s + 13364 → V l (M_Law L xs) (d + 61) 600000 7302250 1505 [(0, .float 200), (1, .ref 0), (2, .ref 88), (3, .int (nI i))] [] n1 (co R1 W1 Z1 T1 kn1 (mo 88 D1 A1 S1 hN)) c1 s1 Q) : V l (M_Law L xs) (d + 61) 600000 7302250 27 [(0, .float 200), (1, .ref 0), (2, .ref 88), (3, .int (nI i))] [] n (co R W Z T kn (mo 88 D A S hN)) c s Q := by
  refine V.aloadK_n d_Law_27 rfl ?_
  refine V.iload_n d_Law_28 rfl ?_
  refine V.ialdX rfl d_Law_29 (vin_N (by omega) hL) ?_
  refine V.bipush_ (nI 63) d_Law_30 (by decide +kernel) ?_
  refine V.iand d_Law_32 ?_
  obtain ⟨k, hk, ek⟩ := and63 (xs (nI i).toNatClampNeg)
  rw [ek]
  by_cases h40 : 40 < k
  · refine V.tabOut (tgt := 1505) d_Law_33 (Or.inr ?_) (by decide) (K R W Z T kn n D A S c s (hR.mm (by omega)) (by omega) (by omega))
    exact lw_gt k (by omega) h40
  · rcases (show k = 0 ∨ k = 1 ∨ k = 2 ∨ k = 3 ∨ k = 4 ∨ k = 5 ∨ k = 6 ∨ k = 7 ∨ k = 8 ∨ k = 9 ∨ k = 10 ∨ k = 11 ∨ k = 12 ∨ k = 13 ∨ k = 14 ∨ k = 15 ∨ k = 16 ∨ k = 17 ∨ k = 18 ∨ k = 19 ∨ k = 20 ∨ k = 21 ∨ k = 22 ∨ k = 23 ∨ k = 24 ∨ k = 25 ∨ k = 26 ∨ k = 27 ∨ k = 28 ∨ k = 29 ∨ k = 30 ∨ k = 31 ∨ k = 32 ∨ k = 33 ∨ k = 34 ∨ k = 35 ∨ k = 36 ∨ k = 37 ∨ k = 38 ∨ k = 39 ∨ k = 40 by omega) with rfl | rfl | rfl | rfl | rfl | rfl | rfl | rfl | rfl | rfl | rfl | rfl | rfl | rfl | rfl | rfl | rfl | rfl | rfl | rfl | rfl | rfl | rfl | rfl | rfl | rfl | rfl | rfl | rfl | rfl | rfl | rfl | rfl | rfl | rfl | rfl | rfl | rfl | rfl | rfl | rfl
    · exact V.tabIn (tgt := 212) d_Law_33 (by decide +kernel) (by decide +kernel) rfl (by decide) (lw_c0 hR hm hi hL hc hs K)
    · exact V.tabIn (tgt := 255) d_Law_33 (by decide +kernel) (by decide +kernel) rfl (by decide) (lw_c1 hR hm hi hL hc hs K)
    · exact V.tabIn (tgt := 288) d_Law_33 (by decide +kernel) (by decide +kernel) rfl (by decide) (lw_c2 hR hm hi hL hc hs K)
    · exact V.tabIn (tgt := 321) d_Law_33 (by decide +kernel) (by decide +kernel) rfl (by decide) (lw_c3 hR hm hi hL hc hs K)
    · exact V.tabIn (tgt := 344) d_Law_33 (by decide +kernel) (by decide +kernel) rfl (by decide) (lw_c4 hR hm hi hL hc hs K)
    · exact V.tabIn (tgt := 377) d_Law_33 (by decide +kernel) (by decide +kernel) rfl (by decide) (lw_c5 hR hm hi hL hc hs K)
    · exact V.tabIn (tgt := 430) d_Law_33 (by decide +kernel) (by decide +kernel) rfl (by decide) (lw_c6 hR hm hi hL hc hs K)
    · exact V.tabIn (tgt := 463) d_Law_33 (by decide +kernel) (by decide +kernel) rfl (by decide) (lw_c7 hR hm hi hL hc hs K)
    · exact V.tabIn (tgt := 506) d_Law_33 (by decide +kernel) (by decide +kernel) rfl (by decide) (lw_c8 hR hm hi hL hc hs K)
    · exact V.tabIn (tgt := 539) d_Law_33 (by decide +kernel) (by decide +kernel) rfl (by decide) (lw_c9 hR hm hi hL hc hs K)
    · exact V.tabIn (tgt := 572) d_Law_33 (by decide +kernel) (by decide +kernel) rfl (by decide) (lw_c10 hR hm hi hL hc hs K)
    · exact V.tabIn (tgt := 635) d_Law_33 (by decide +kernel) (by decide +kernel) rfl (by decide) (lw_c11 hR hm hi hL hc hs K)
    · exact V.tabIn (tgt := 658) d_Law_33 (by decide +kernel) (by decide +kernel) rfl (by decide) (lw_c12 hR hm hi hL hc hs K)
    · exact V.tabIn (tgt := 711) d_Law_33 (by decide +kernel) (by decide +kernel) rfl (by decide) (lw_c13 hR hm hi hL hc hs K)
    · exact V.tabIn (tgt := 734) d_Law_33 (by decide +kernel) (by decide +kernel) rfl (by decide) (lw_c14 hR hm hi hL hc hs K)
    · exact V.tabIn (tgt := 757) d_Law_33 (by decide +kernel) (by decide +kernel) rfl (by decide) (lw_c15 hR hm hi hL hc hs K)
    · exact V.tabIn (tgt := 800) d_Law_33 (by decide +kernel) (by decide +kernel) rfl (by decide) (lw_c16 hR hm hi hL hc hs K)
    · exact V.tabIn (tgt := 823) d_Law_33 (by decide +kernel) (by decide +kernel) rfl (by decide) (lw_c17 hR hm hi hL hc hs K)
    · exact V.tabIn (tgt := 846) d_Law_33 (by decide +kernel) (by decide +kernel) rfl (by decide) (lw_c18 hR hm hi hL hc hs K)
    · exact V.tabIn (tgt := 879) d_Law_33 (by decide +kernel) (by decide +kernel) rfl (by decide) (lw_c19 hR hm hi hL hc hs K)
    · exact V.tabIn (tgt := 912) d_Law_33 (by decide +kernel) (by decide +kernel) rfl (by decide) (lw_c20 hR hm hi hL hc hs K)
    · exact V.tabIn (tgt := 945) d_Law_33 (by decide +kernel) (by decide +kernel) rfl (by decide) (lw_c21 hR hm hi hL hc hs K)
    · exact V.tabIn (tgt := 968) d_Law_33 (by decide +kernel) (by decide +kernel) rfl (by decide) (lw_c22 hR hm hi hL hc hs K)
    · exact V.tabIn (tgt := 1001) d_Law_33 (by decide +kernel) (by decide +kernel) rfl (by decide) (lw_c23 hR hm hi hL hc hs K)
    · exact V.tabIn (tgt := 1024) d_Law_33 (by decide +kernel) (by decide +kernel) rfl (by decide) (lw_c24 hR hm hi hL hc hs K)
    · exact V.tabIn (tgt := 1047) d_Law_33 (by decide +kernel) (by decide +kernel) rfl (by decide) (lw_c25 hR hm hi hL hc hs K)
    · exact V.tabIn (tgt := 1070) d_Law_33 (by decide +kernel) (by decide +kernel) rfl (by decide) (lw_c26 hR hm hi hL hc hs K)
    · exact V.tabIn (tgt := 1113) d_Law_33 (by decide +kernel) (by decide +kernel) rfl (by decide) (lw_c27 hR hm hi hL hc hs K)
    · exact V.tabIn (tgt := 1136) d_Law_33 (by decide +kernel) (by decide +kernel) rfl (by decide) (lw_c28 hR hm hi hL hc hs K)
    · exact V.tabIn (tgt := 1179) d_Law_33 (by decide +kernel) (by decide +kernel) rfl (by decide) (lw_c29 hR hm hi hL hc hs K)
    · exact V.tabIn (tgt := 1202) d_Law_33 (by decide +kernel) (by decide +kernel) rfl (by decide) (lw_c30 hR hm hi hL hc hs K)
    · exact V.tabIn (tgt := 1245) d_Law_33 (by decide +kernel) (by decide +kernel) rfl (by decide) (lw_c31 hR hm hi hL hc hs K)
    · exact V.tabIn (tgt := 1288) d_Law_33 (by decide +kernel) (by decide +kernel) rfl (by decide) (lw_c32 hR hm hi hL hc hs K)
    · exact V.tabIn (tgt := 1351) d_Law_33 (by decide +kernel) (by decide +kernel) rfl (by decide) (lw_c33 hR hm hi hL hc hs K)
    · exact V.tabIn (tgt := 1374) d_Law_33 (by decide +kernel) (by decide +kernel) rfl (by decide) (lw_c34 hR hm hi hL hc hs K)
    · exact V.tabIn (tgt := 1397) d_Law_33 (by decide +kernel) (by decide +kernel) rfl (by decide) (lw_c35 hR hm hi hL hc hs K)
    · exact V.tabIn (tgt := 1410) d_Law_33 (by decide +kernel) (by decide +kernel) rfl (by decide) (lw_c36 hR hm hi hL hc hs K)
    · exact V.tabIn (tgt := 1423) d_Law_33 (by decide +kernel) (by decide +kernel) rfl (by decide) (lw_c37 hR hm hi hL hc hs K)
    · exact V.tabIn (tgt := 1446) d_Law_33 (by decide +kernel) (by decide +kernel) rfl (by decide) (lw_c38 hR hm hi hL hc hs K)
    · exact V.tabIn (tgt := 1459) d_Law_33 (by decide +kernel) (by decide +kernel) rfl (by decide) (lw_c39 hR hm hi hL hc hs K)
    · exact V.tabIn (tgt := 1482) d_Law_33 (by decide +kernel) (by decide +kernel) rfl (by decide) (lw_c40 hR hm hi hL hc hs K)
theorem lw_loop {l : Launch} {d L c0 s0 : Nat} {xs : Nat → Int32} {Q : QT} (hL : L ≤ 3072) (h0 : c0 + 4608 ≤ 600000) (h1 : s0 + 6842368 ≤ 7302250) (hQ : ∀ n h, Q (some (.int (nI 1))) n h) : ∀ (r k : Nat), L / 6 = k + r → ∀ {n c s : Nat} {R W Z : Nat → Nat → Int32} {T : Nat → Nat → Nat} {kn : Kn} {D : Nat → Int32} {A : Nat → Nat → Int32} {S : Nat → Int32}, Rel (40000 * k) R W Z T kn n D A S → c ≤ c0 + 9 * k → s ≤ s0 + 13364 * k → V l (M_Law L xs) (d + 61) 600000 7302250 18 [(0, .float 200), (1, .ref 0), (2, .ref 88), (3, .int (nI (6 * k)))] [] n (co R W Z T kn (mo 88 D A S hN)) c s Q := by
  have fin : ∀ {k n c s : Nat} {h : HP}, c ≤ 600000 → s ≤ 7302250 → V l (M_Law L xs) (d + 61) 600000 7302250 1511 [(0, .float 200), (1, .ref 0), (2, .ref 88), (3, .int (nI (6 * k)))] [] n h c s Q := fun {k n c s h} a b => by
    refine V.iconst_ (nI 1) d_Law_1511 (by decide +kernel) ?_
    exact V.bret (b := true) d_Law_1512 rfl a b (hQ _ _)
  intro r
  induction r with
  | zero =>
    intro k hk n c s R W Z T kn D A S hR hc hs
    refine V.iload_n d_Law_18 rfl ?_
    refine V.aloadK_n d_Law_19 rfl ?_
    refine V.lenX rfl d_Law_20 ?_
    refine V.bipush_ (nI 6) d_Law_21 (by decide +kernel) ?_
    refine V.isub d_Law_23 ?_
    refine V.icmp_gt (tgt := 1511) d_Law_24 (by decide) (fun _ => fin (by omega) (by omega)) (fun z => ?_)
    have := lw_go hL (by omega) z
    omega
  | succ r ih =>
    intro k hk n c s R W Z T kn D A S hR hc hs
    refine V.iload_n d_Law_18 rfl ?_
    refine V.aloadK_n d_Law_19 rfl ?_
    refine V.lenX rfl d_Law_20 ?_
    refine V.bipush_ (nI 6) d_Law_21 (by decide +kernel) ?_
    refine V.isub d_Law_23 ?_
    refine V.icmp_gt (tgt := 1511) d_Law_24 (by decide) (fun _ => fin (by omega) (by omega)) (fun z => ?_)
    have hg := lw_go hL (by omega) z
    refine lw_one hR (by omega) hg hL (by omega) (by omega) (fun R1 W1 Z1 T1 kn1 n1 D1 A1 S1 c1 s1 hR1 a b => ?_)
    refine V.iinc (v := nI (6 * (k + 1))) d_Law_1505 rfl (by show nI (6 * k) + nI 6 = _; rw [nI_add, show 6 * k + 6 = 6 * (k + 1) by omega]) (by show 3 < 4; decide) ?_
    refine V.goto (tgt := 18) d_Law_1508 (by decide) ?_
    have e1 : c1 ≤ c0 + 9 * (k + 1) := by omega
    have e2 : s1 ≤ s0 + 13364 * (k + 1) := Nat.le_trans b (by rw [Nat.mul_succ, ← Nat.add_assoc]; exact Nat.add_le_add_right hs _)
    have e3 : Rel (40000 * (k + 1)) R1 W1 Z1 T1 kn1 n1 D1 A1 S1 := hR1.mm (by omega)
    exact V.lc rfl (ih (k + 1) (by omega) e3 e1 e2)
