/-- a call of a constant text's method -/
def kK (own : String) (idx : Nat) (M' : MD) (na : Nat) : Prop := kB M' na ∧ Cond.methodLink own idx M'.1 ∈ tb ∧ Cond.instanceMethod M'.1 ∈ tb ∧ Cond.selects M'.1.cls M'.1 M'.1 ∈ tb ∧ M'.1.cls = "java/lang/String"
section VKK
variable {l : Launch} {M M' : MD} {d mc ms mc' ms' pc idx na i : Nat} {ls : List (Nat × Value)} {st st0 vs : List Value} {n : Nat} {h : HP} {c s : Nat} {Q : QT}
theorem V.callK (hd : decode M.2.1 pc = .ok (.invokevirtual idx, 3)) (K : kK M.1.cls idx M' na) (hi : i < 10) (hst : st0 = vs.reverse ++ .float (UInt32.ofNat i) :: st) (hn : vs.length = na) (hw : (st.map fun v => v.category).sum ≤ 8) (hc : c + mc' ≤ mc) (hs : s + ms' ≤ ms)
    (hM : Ct l M' d mc' ms' (.float (UInt32.ofNat i) :: vs) n h (fun r n' h' => V l M (d + 1) mc ms (pc + 3) ls (pu r st) n' h' (c + mc') (s + ms') Q)) : V l M (d + 1) mc ms pc ls st0 n h c s Q := by
  subst hst
  intro E p e s0 m args below meth cd C hE H locs lm hH hS hl
  obtain ⟨⟨k1, k2, k3, k4⟩, k5, k6, k7, k8⟩ := K
  have hts := C.2.2.2.2.2.1
  have e1 : (UInt32.ofNat i).toNat = i := by rw [UInt32.toNat_ofNat']; exact Nat.mod_eq_of_lt (by omega)
  have hr : ∃ cell : Cell, H[E.2.1 (UInt32.ofNat i).toNat]? = some cell ∧ cell.vm.isStatics = false ∧ s0.vm.findClass M'.1.cls = some cell.cls := by
    obtain ⟨cell, g1, g2, g3, g4⟩ := (C.2.2.2.2.2.2.2.2.2.2.1.1 i hi).1
    exact ⟨cell, by rw [e1, hS.2.1 _ (Nat.not_le.mp g4)]; exact g1, g2, by rw [k8]; exact g3⟩
  refine run_on (va_runV (cc := M.2.1) (nL := M.2.2.1) (Ts := tb) (own := M.1.cls) (C := M'.1.cls) (n := na) (b := E.2.1 (UInt32.ofNat i).toNat) (As := vs.map (tV E)) ⟨C.1, C.2.1, C.2.2.1, C.2.2.2.2.1, hts⟩ (hM E) ⟨callB_of na hts (gin_M k2) rfl rfl rfl (hts _ k1) (hts _ k5) k3 (room_ok k4), hts _ k6, hts _ k7⟩ ⟨Pre.blind, hr, fun U hU hW => ⟨rfl, Pre.at C.2.2.2.2.2.2.2.2 hS hH hU hW⟩⟩ rfl (by rw [List.length_map]; exact hn) hl.1 (by rw [List.map_append, List.map_reverse]; rfl) (lm_room hw) hd ⟨hc, hs⟩) hS (fun r n' h' hq H1 locs1 hH1 hS1 => ?_)
  exact hq E p e s0 m args below meth cd C hE H1 locs1 lm hH1 hS1 hl
theorem V.callK0 (hd : decode M.2.1 pc = .ok (.invokevirtual idx, 3)) (K : kK M.1.cls idx M' 0) (hi : i < 10) (hw : (st.map fun v => v.category).sum ≤ 8) (hc : c + mc' ≤ mc) (hs : s + ms' ≤ ms) (hM : Ct l M' d mc' ms' [.float (UInt32.ofNat i)] n h (fun r n' h' => V l M (d + 1) mc ms (pc + 3) ls (pu r st) n' h' (c + mc') (s + ms') Q)) : V l M (d + 1) mc ms pc ls (.float (UInt32.ofNat i) :: st) n h c s Q := V.callK (vs := []) hd K hi rfl rfl hw hc hs hM
theorem V.callK1 {a : Value} (hd : decode M.2.1 pc = .ok (.invokevirtual idx, 3)) (K : kK M.1.cls idx M' 1) (hi : i < 10) (hw : (st.map fun v => v.category).sum ≤ 8) (hc : c + mc' ≤ mc) (hs : s + ms' ≤ ms) (hM : Ct l M' d mc' ms' [.float (UInt32.ofNat i), a] n h (fun r n' h' => V l M (d + 1) mc ms (pc + 3) ls (pu r st) n' h' (c + mc') (s + ms') Q)) : V l M (d + 1) mc ms pc ls (a :: .float (UInt32.ofNat i) :: st) n h c s Q := V.callK (vs := [a]) hd K hi rfl rfl hw hc hs hM
theorem V.callK2 {a b : Value} (hd : decode M.2.1 pc = .ok (.invokevirtual idx, 3)) (K : kK M.1.cls idx M' 2) (hi : i < 10) (hw : (st.map fun v => v.category).sum ≤ 8) (hc : c + mc' ≤ mc) (hs : s + ms' ≤ ms) (hM : Ct l M' d mc' ms' [.float (UInt32.ofNat i), a, b] n h (fun r n' h' => V l M (d + 1) mc ms (pc + 3) ls (pu r st) n' h' (c + mc') (s + ms') Q)) : V l M (d + 1) mc ms pc ls (b :: a :: .float (UInt32.ofNat i) :: st) n h c s Q := V.callK (vs := [a, b]) hd K hi rfl rfl hw hc hs hM
end VKK
theorem bi_fit (b : Bool) : fits .boolean (.int (bi b)) = true := by cases b <;> rfl
def mx (x y : Int32) : Int32 := if x < y then y else x
def mi (x y : Int32) : Int32 := if y < x then y else x
theorem V.mmax {l : Launch} {M : MD} {d mc ms pc idx : Nat} {ls : List (Nat × Value)} {st : List Value} {n : Nat} {h : HP} {c s : Nat} {Q : QT} {x y : Int32} (hd : decode M.2.1 pc = .ok (.invokestatic idx, 3)) (hw : Cond.methodLink M.1.cls idx Lib.Math.max.name ∈ tb) (hs8 : (st.map fun v => v.category).sum ≤ 8) (hc : c ≤ mc) (hs : s ≤ ms) (kk : V l M (d + 1) mc ms (pc + 3) ls (.int (mx x y) :: st) n h c s Q) : V l M (d + 1) mc ms pc ls (.int y :: .int x :: st) n h c s Q := by
  intro E p e s0 m args below meth cd C hE H locs lm hH hS hl
  have hts := C.2.2.2.2.2.1
  exact va_mmax C.1 C.2.1 (by rw [C.2.2.1]; exact hl.1.symm) C.2.2.2.2.1 (hts _ hw) (hts _ (tm 38 (by decide +kernel) rfl)) (hts _ (tm 3 (by decide +kernel) rfl)) (hts _ (tm 39 (by decide +kernel) rfl)) (Nat.succ_le_succ (Nat.zero_le _)) (by rw [cat_sum]; show _ + 13 ≤ 64 * (d + 1); omega) hc hs hd (kk E p e s0 m args below meth cd C hE H locs lm hH hS hl)
theorem V.mmin {l : Launch} {M : MD} {d mc ms pc idx : Nat} {ls : List (Nat × Value)} {st : List Value} {n : Nat} {h : HP} {c s : Nat} {Q : QT} {x y : Int32} (hd : decode M.2.1 pc = .ok (.invokestatic idx, 3)) (hw : Cond.methodLink M.1.cls idx Lib.Math.min.name ∈ tb) (hs8 : (st.map fun v => v.category).sum ≤ 8) (hc : c ≤ mc) (hs : s ≤ ms) (kk : V l M (d + 1) mc ms (pc + 3) ls (.int (mi x y) :: st) n h c s Q) : V l M (d + 1) mc ms pc ls (.int y :: .int x :: st) n h c s Q := by
  intro E p e s0 m args below meth cd C hE H locs lm hH hS hl
  have hts := C.2.2.2.2.2.1
  exact va_mmin C.1 C.2.1 (by rw [C.2.2.1]; exact hl.1.symm) C.2.2.2.2.1 (hts _ hw) (hts _ (tm 333 (by decide +kernel) rfl)) (hts _ (tm 3 (by decide +kernel) rfl)) (hts _ (tm 334 (by decide +kernel) rfl)) (Nat.succ_le_succ (Nat.zero_le _)) (by rw [cat_sum]; show _ + 13 ≤ 64 * (d + 1); omega) hc hs hd (kk E p e s0 m args below meth cd C hE H locs lm hH hS hl)
def bc1 (x : Int32) : Int32 := x - ((x.toUInt32 >>> ((nI 1).toUInt32 &&& Int32.toUInt32 31)).toInt32 &&& 1431655765)
def bc2 (x : Int32) : Int32 := (x &&& 858993459) + ((x.toUInt32 >>> ((nI 2).toUInt32 &&& Int32.toUInt32 31)).toInt32 &&& 858993459)
def bc3 (x : Int32) : Int32 := (x + (x.toUInt32 >>> ((nI 4).toUInt32 &&& Int32.toUInt32 31)).toInt32) &&& 252645135
def bc4 (x : Int32) : Int32 := x + (x.toUInt32 >>> ((nI 8).toUInt32 &&& Int32.toUInt32 31)).toInt32
def bc5 (x : Int32) : Int32 := x + (x.toUInt32 >>> ((nI 16).toUInt32 &&& Int32.toUInt32 31)).toInt32
def bcv (x : Int32) : Int32 := bc5 (bc4 (bc3 (bc2 (bc1 x)))) &&& nI 63
theorem bcv_btc : ∀ k, k < 256 → bcv (nI k) = btc (nI k) := by decide +kernel
abbrev M_Integer_bitCount : MD := (⟨"java/lang/Integer", "bitCount", "(I)I"⟩, prog_16_method_49_code, 1, (some .int), fun _ => True)
theorem d_Integer_bitCount_0 : decode prog_16_method_49_code 0 = .ok (.iload_n 0, 1) := by decide +kernel
theorem d_Integer_bitCount_1 : decode prog_16_method_49_code 1 = .ok (.iload_n 0, 1) := by decide +kernel
theorem d_Integer_bitCount_2 : decode prog_16_method_49_code 2 = .ok (.iconst 1, 1) := by decide +kernel
theorem d_Integer_bitCount_3 : decode prog_16_method_49_code 3 = .ok (.iushr, 1) := by decide +kernel
theorem d_Integer_bitCount_4 : decode prog_16_method_49_code 4 = .ok (.ldc_w 265, 3) := by decide +kernel
theorem d_Integer_bitCount_7 : decode prog_16_method_49_code 7 = .ok (.iand, 1) := by decide +kernel
theorem d_Integer_bitCount_8 : decode prog_16_method_49_code 8 = .ok (.isub, 1) := by decide +kernel
theorem d_Integer_bitCount_9 : decode prog_16_method_49_code 9 = .ok (.istore_n 0, 1) := by decide +kernel
theorem d_Integer_bitCount_10 : decode prog_16_method_49_code 10 = .ok (.iload_n 0, 1) := by decide +kernel
theorem d_Integer_bitCount_11 : decode prog_16_method_49_code 11 = .ok (.ldc_w 266, 3) := by decide +kernel
theorem d_Integer_bitCount_14 : decode prog_16_method_49_code 14 = .ok (.iand, 1) := by decide +kernel
theorem d_Integer_bitCount_15 : decode prog_16_method_49_code 15 = .ok (.iload_n 0, 1) := by decide +kernel
theorem d_Integer_bitCount_16 : decode prog_16_method_49_code 16 = .ok (.iconst 2, 1) := by decide +kernel
theorem d_Integer_bitCount_17 : decode prog_16_method_49_code 17 = .ok (.iushr, 1) := by decide +kernel
theorem d_Integer_bitCount_18 : decode prog_16_method_49_code 18 = .ok (.ldc_w 266, 3) := by decide +kernel
theorem d_Integer_bitCount_21 : decode prog_16_method_49_code 21 = .ok (.iand, 1) := by decide +kernel
theorem d_Integer_bitCount_22 : decode prog_16_method_49_code 22 = .ok (.iadd, 1) := by decide +kernel
theorem d_Integer_bitCount_23 : decode prog_16_method_49_code 23 = .ok (.istore_n 0, 1) := by decide +kernel
theorem d_Integer_bitCount_24 : decode prog_16_method_49_code 24 = .ok (.iload_n 0, 1) := by decide +kernel
theorem d_Integer_bitCount_25 : decode prog_16_method_49_code 25 = .ok (.iload_n 0, 1) := by decide +kernel
theorem d_Integer_bitCount_26 : decode prog_16_method_49_code 26 = .ok (.iconst 4, 1) := by decide +kernel
theorem d_Integer_bitCount_27 : decode prog_16_method_49_code 27 = .ok (.iushr, 1) := by decide +kernel
theorem d_Integer_bitCount_28 : decode prog_16_method_49_code 28 = .ok (.iadd, 1) := by decide +kernel
theorem d_Integer_bitCount_29 : decode prog_16_method_49_code 29 = .ok (.ldc_w 267, 3) := by decide +kernel
theorem d_Integer_bitCount_32 : decode prog_16_method_49_code 32 = .ok (.iand, 1) := by decide +kernel
theorem d_Integer_bitCount_33 : decode prog_16_method_49_code 33 = .ok (.istore_n 0, 1) := by decide +kernel
theorem d_Integer_bitCount_34 : decode prog_16_method_49_code 34 = .ok (.iload_n 0, 1) := by decide +kernel
theorem d_Integer_bitCount_35 : decode prog_16_method_49_code 35 = .ok (.iload_n 0, 1) := by decide +kernel
theorem d_Integer_bitCount_36 : decode prog_16_method_49_code 36 = .ok (.bipush 8, 2) := by decide +kernel
theorem d_Integer_bitCount_38 : decode prog_16_method_49_code 38 = .ok (.iushr, 1) := by decide +kernel
theorem d_Integer_bitCount_39 : decode prog_16_method_49_code 39 = .ok (.iadd, 1) := by decide +kernel
theorem d_Integer_bitCount_40 : decode prog_16_method_49_code 40 = .ok (.istore_n 0, 1) := by decide +kernel
theorem d_Integer_bitCount_41 : decode prog_16_method_49_code 41 = .ok (.iload_n 0, 1) := by decide +kernel
theorem d_Integer_bitCount_42 : decode prog_16_method_49_code 42 = .ok (.iload_n 0, 1) := by decide +kernel
theorem d_Integer_bitCount_43 : decode prog_16_method_49_code 43 = .ok (.bipush 16, 2) := by decide +kernel
theorem d_Integer_bitCount_45 : decode prog_16_method_49_code 45 = .ok (.iushr, 1) := by decide +kernel
theorem d_Integer_bitCount_46 : decode prog_16_method_49_code 46 = .ok (.iadd, 1) := by decide +kernel
theorem d_Integer_bitCount_47 : decode prog_16_method_49_code 47 = .ok (.istore_n 0, 1) := by decide +kernel
theorem d_Integer_bitCount_48 : decode prog_16_method_49_code 48 = .ok (.iload_n 0, 1) := by decide +kernel
theorem d_Integer_bitCount_49 : decode prog_16_method_49_code 49 = .ok (.bipush 63, 2) := by decide +kernel
theorem d_Integer_bitCount_51 : decode prog_16_method_49_code 51 = .ok (.iand, 1) := by decide +kernel
theorem d_Integer_bitCount_52 : decode prog_16_method_49_code 52 = .ok (.ireturn, 1) := by decide +kernel
set_option maxRecDepth 100000 in
theorem c_Integer_bitCount {x : Int32} {l : Launch} {d n : Nat} {h : HP} {Q : QT} (hQ : Q (some (.int (bcv x))) n h) : Ct l M_Integer_bitCount d 0 0 [.int x] n h Q := by
  refine Ct.of (fun _ => trivial) (by decide) (Nat.le_of_ble_eq_true rfl) ?_
  refine V.iload_n d_Integer_bitCount_0 rfl ?_
  refine V.iload_n d_Integer_bitCount_1 rfl ?_
  refine V.iconst_ (nI 1) d_Integer_bitCount_2 (by decide +kernel) ?_
  refine V.iushr d_Integer_bitCount_3 ?_
  refine V.ldcw (v := 1431655765) d_Integer_bitCount_4 (tm 826 (by decide +kernel) rfl) ?_
  refine V.top (y := nI 1431655765) rfl ?_
  refine V.iand d_Integer_bitCount_7 ?_
  refine V.isub d_Integer_bitCount_8 ?_
  refine V.istore_n d_Integer_bitCount_9 (by decide) ?_
  refine V.iload_n d_Integer_bitCount_10 rfl ?_
  refine V.ldcw (v := 858993459) d_Integer_bitCount_11 (tm 827 (by decide +kernel) rfl) ?_
  refine V.top (y := nI 858993459) rfl ?_
  refine V.iand d_Integer_bitCount_14 ?_
  refine V.iload_n d_Integer_bitCount_15 rfl ?_
  refine V.iconst_ (nI 2) d_Integer_bitCount_16 (by decide +kernel) ?_
  refine V.iushr d_Integer_bitCount_17 ?_
  refine V.ldcw (v := 858993459) d_Integer_bitCount_18 (tm 827 (by decide +kernel) rfl) ?_
  refine V.top (y := nI 858993459) rfl ?_
  refine V.iand d_Integer_bitCount_21 ?_
  refine V.iadd d_Integer_bitCount_22 ?_
  refine V.istore_n d_Integer_bitCount_23 (by decide) ?_
  refine V.iload_n d_Integer_bitCount_24 rfl ?_
  refine V.iload_n d_Integer_bitCount_25 rfl ?_
  refine V.iconst_ (nI 4) d_Integer_bitCount_26 (by decide +kernel) ?_
  refine V.iushr d_Integer_bitCount_27 ?_
  refine V.iadd d_Integer_bitCount_28 ?_
  refine V.ldcw (v := 252645135) d_Integer_bitCount_29 (tm 828 (by decide +kernel) rfl) ?_
  refine V.top (y := nI 252645135) rfl ?_
  refine V.iand d_Integer_bitCount_32 ?_
  refine V.istore_n d_Integer_bitCount_33 (by decide) ?_
  refine V.iload_n d_Integer_bitCount_34 rfl ?_
  refine V.iload_n d_Integer_bitCount_35 rfl ?_
  refine V.bipush_ (nI 8) d_Integer_bitCount_36 (by decide +kernel) ?_
  refine V.iushr d_Integer_bitCount_38 ?_
  refine V.iadd d_Integer_bitCount_39 ?_
  refine V.istore_n d_Integer_bitCount_40 (by decide) ?_
  refine V.iload_n d_Integer_bitCount_41 rfl ?_
  refine V.iload_n d_Integer_bitCount_42 rfl ?_
  refine V.bipush_ (nI 16) d_Integer_bitCount_43 (by decide +kernel) ?_
  refine V.iushr d_Integer_bitCount_45 ?_
  refine V.iadd d_Integer_bitCount_46 ?_
  refine V.istore_n d_Integer_bitCount_47 (by decide) ?_
  refine V.iload_n d_Integer_bitCount_48 rfl ?_
  refine V.bipush_ (nI 63) d_Integer_bitCount_49 (by decide +kernel) ?_
  refine V.iand d_Integer_bitCount_51 ?_
  refine V.iret d_Integer_bitCount_52 rfl (Nat.le_of_ble_eq_true rfl) (Nat.le_of_ble_eq_true rfl) ?_
  exact hQ
def flN (k : Nat) (x : Int32) (f : Nat → Int32) : Nat → Int32 := fun j => if j < k then x else f j
theorem flN_0 {x : Int32} {f : Nat → Int32} : flN 0 x f = f := by funext j; unfold flN; rw [if_neg (by omega)]
theorem flN_s {k : Nat} {x : Int32} {f : Nat → Int32} : upd (flN k x f) k x = flN (k + 1) x f := by
  funext j
  unfold flN
  by_cases hj : j = k
  · subst hj; rw [pk_us, if_pos (by omega)]
  · rw [pk_un hj]
    by_cases h1 : j < k
    · rw [if_pos h1, if_pos (by omega)]
    · rw [if_neg h1, if_neg (by omega)]
theorem up_uu {h : HP} {a : Nat} {e e' : AE} : up (up h a e) a e' = up h a e' := by
  funext b
  by_cases hb : b = a
  · subst hb; rw [up_s, up_s]
  · rw [up_n hb, up_n hb, up_n hb]
theorem up_same {h : HP} {a : Nat} {e : AE} (he : h a = some e) : up h a e = h := by
  funext b
  by_cases hb : b = a
  · subst hb; rw [up_s, he]
  · rw [up_n hb]
abbrev M_Arrays_fill : MD := (⟨"java/util/Arrays", "fill", "([BB)V"⟩, prog_22_method_109_code, 4, none, fun _ => True)
theorem d_Arrays_fill_0 : decode prog_22_method_109_code 0 = .ok (.iconst 0, 1) := by decide +kernel
theorem d_Arrays_fill_1 : decode prog_22_method_109_code 1 = .ok (.istore_n 2, 1) := by decide +kernel
theorem d_Arrays_fill_2 : decode prog_22_method_109_code 2 = .ok (.aload_n 0, 1) := by decide +kernel
theorem d_Arrays_fill_3 : decode prog_22_method_109_code 3 = .ok (.arraylength, 1) := by decide +kernel
theorem d_Arrays_fill_4 : decode prog_22_method_109_code 4 = .ok (.istore_n 3, 1) := by decide +kernel
theorem d_Arrays_fill_5 : decode prog_22_method_109_code 5 = .ok (.iload_n 2, 1) := by decide +kernel
theorem d_Arrays_fill_6 : decode prog_22_method_109_code 6 = .ok (.iload_n 3, 1) := by decide +kernel
theorem d_Arrays_fill_7 : decode prog_22_method_109_code 7 = .ok (.if_icmp .ge 13, 3) := by decide +kernel
theorem d_Arrays_fill_20 : decode prog_22_method_109_code 20 = .ok (.return_, 1) := by decide +kernel
theorem d_Arrays_fill_10 : decode prog_22_method_109_code 10 = .ok (.aload_n 0, 1) := by decide +kernel
theorem d_Arrays_fill_11 : decode prog_22_method_109_code 11 = .ok (.iload_n 2, 1) := by decide +kernel
theorem d_Arrays_fill_12 : decode prog_22_method_109_code 12 = .ok (.iload_n 1, 1) := by decide +kernel
theorem d_Arrays_fill_13 : decode prog_22_method_109_code 13 = .ok (.bastore, 1) := by decide +kernel
theorem d_Arrays_fill_14 : decode prog_22_method_109_code 14 = .ok (.iinc 2 1, 3) := by decide +kernel
theorem d_Arrays_fill_17 : decode prog_22_method_109_code 17 = .ok (.goto (-12), 3) := by decide +kernel
set_option maxRecDepth 100000 in
theorem c_Arrays_fillB {a N : Nat} {x : Int32} {f : Nat → Int32} {l : Launch} {d n : Nat} {h : HP} {Q : QT} (ha : h a = some (.inl (1, N, .inl f))) (hN : N < 100000) (hQ : Q none n (up h a (.inl (1, N, .inl (flN N (x.toInt8.toInt32) f))))) : Ct l M_Arrays_fill d 0 0 [.ref a, .int x] n h Q := by
  refine Ct.of (fun _ => trivial) (by decide) (Nat.le_of_ble_eq_true rfl) ?_
  refine V.iconst_ (nI 0) d_Arrays_fill_0 (by decide +kernel) ?_
  refine V.istore_n d_Arrays_fill_1 (by decide) ?_
  refine V.aload_n d_Arrays_fill_2 rfl ?_
  refine V.alen d_Arrays_fill_3 ha (by decide) ?_
  refine V.istore_n d_Arrays_fill_4 (by decide) ?_
  refine V.eqH (h' := up h a (.inl (1, N, .inl (flN 0 (x.toInt8.toInt32) f)))) (up_same (by rw [flN_0]; exact ha)).symm ?_
  refine V.lc (ls' := [(0, .ref a), (1, .int x), (2, .int (nI 0)), (3, .int (nI N))]) rfl ?_
  refine up_to (G := fun k => V l M_Arrays_fill d 0 0 5 [(0, .ref a), (1, .int x), (2, .int (nI k)), (3, .int (nI N))] [] n (up h a (.inl (1, N, .inl (flN k (x.toInt8.toInt32) f)))) 0 0 Q) (N) ?_ (fun k hk hn => ?_) 0 (by omega)
  · skip
    refine V.iload_n d_Arrays_fill_5 rfl ?_
    refine V.iload_n d_Arrays_fill_6 rfl ?_
    refine V.geN (tgt := 20) d_Arrays_fill_7 (by decide) (by omega) (by omega) (fun c_7 => ?_) (fun c_7 => ?_)
    · skip
      refine V.vret d_Arrays_fill_20 rfl (Nat.le_of_ble_eq_true rfl) (Nat.le_of_ble_eq_true rfl) ?_
      exact hQ
    · skip
      exact absurd c_7 (by omega)
  · skip
    rw [← flN_s] at hn
    refine V.iload_n d_Arrays_fill_5 rfl ?_
    refine V.iload_n d_Arrays_fill_6 rfl ?_
    refine V.geN (tgt := 20) d_Arrays_fill_7 (by decide) (by omega) (by omega) (fun c_7 => ?_) (fun c_7 => ?_)
    · skip
      exact absurd c_7 (by omega)
    · skip
      refine V.aload_n d_Arrays_fill_10 rfl ?_
      refine V.iload_n d_Arrays_fill_11 rfl ?_
      refine V.iload_n d_Arrays_fill_12 rfl ?_
      refine V.bast d_Arrays_fill_13 up_s (vp_in_nI (by omega) (by omega)) ?_
      refine V.incN d_Arrays_fill_14 rfl (by decide) ?_
      refine V.goto (tgt := 5) d_Arrays_fill_17 (by decide) ?_
      rw [up_uu, icl (by omega)]
      exact V.lc rfl hn
abbrev M_Arrays_fill_6 : MD := (⟨"java/util/Arrays", "fill", "([II)V"⟩, prog_22_method_103_code, 4, none, fun _ => True)
theorem d_Arrays_fill_6_0 : decode prog_22_method_103_code 0 = .ok (.iconst 0, 1) := by decide +kernel
theorem d_Arrays_fill_6_1 : decode prog_22_method_103_code 1 = .ok (.istore_n 2, 1) := by decide +kernel
theorem d_Arrays_fill_6_2 : decode prog_22_method_103_code 2 = .ok (.aload_n 0, 1) := by decide +kernel
theorem d_Arrays_fill_6_3 : decode prog_22_method_103_code 3 = .ok (.arraylength, 1) := by decide +kernel
theorem d_Arrays_fill_6_4 : decode prog_22_method_103_code 4 = .ok (.istore_n 3, 1) := by decide +kernel
theorem d_Arrays_fill_6_5 : decode prog_22_method_103_code 5 = .ok (.iload_n 2, 1) := by decide +kernel
theorem d_Arrays_fill_6_6 : decode prog_22_method_103_code 6 = .ok (.iload_n 3, 1) := by decide +kernel
theorem d_Arrays_fill_6_7 : decode prog_22_method_103_code 7 = .ok (.if_icmp .ge 13, 3) := by decide +kernel
theorem d_Arrays_fill_6_20 : decode prog_22_method_103_code 20 = .ok (.return_, 1) := by decide +kernel
theorem d_Arrays_fill_6_10 : decode prog_22_method_103_code 10 = .ok (.aload_n 0, 1) := by decide +kernel
theorem d_Arrays_fill_6_11 : decode prog_22_method_103_code 11 = .ok (.iload_n 2, 1) := by decide +kernel
theorem d_Arrays_fill_6_12 : decode prog_22_method_103_code 12 = .ok (.iload_n 1, 1) := by decide +kernel
theorem d_Arrays_fill_6_13 : decode prog_22_method_103_code 13 = .ok (.iastore, 1) := by decide +kernel
theorem d_Arrays_fill_6_14 : decode prog_22_method_103_code 14 = .ok (.iinc 2 1, 3) := by decide +kernel
theorem d_Arrays_fill_6_17 : decode prog_22_method_103_code 17 = .ok (.goto (-12), 3) := by decide +kernel
set_option maxRecDepth 100000 in
theorem c_Arrays_fillI {a N : Nat} {x : Int32} {f : Nat → Int32} {l : Launch} {d n : Nat} {h : HP} {Q : QT} (ha : h a = some (.inl (0, N, .inl f))) (hN : N < 100000) (hQ : Q none n (up h a (.inl (0, N, .inl (flN N (x) f))))) : Ct l M_Arrays_fill_6 d 0 0 [.ref a, .int x] n h Q := by
  refine Ct.of (fun _ => trivial) (by decide) (Nat.le_of_ble_eq_true rfl) ?_
  refine V.iconst_ (nI 0) d_Arrays_fill_6_0 (by decide +kernel) ?_
  refine V.istore_n d_Arrays_fill_6_1 (by decide) ?_
  refine V.aload_n d_Arrays_fill_6_2 rfl ?_
  refine V.alen d_Arrays_fill_6_3 ha (by decide) ?_
  refine V.istore_n d_Arrays_fill_6_4 (by decide) ?_
  refine V.eqH (h' := up h a (.inl (0, N, .inl (flN 0 (x) f)))) (up_same (by rw [flN_0]; exact ha)).symm ?_
  refine V.lc (ls' := [(0, .ref a), (1, .int x), (2, .int (nI 0)), (3, .int (nI N))]) rfl ?_
  refine up_to (G := fun k => V l M_Arrays_fill_6 d 0 0 5 [(0, .ref a), (1, .int x), (2, .int (nI k)), (3, .int (nI N))] [] n (up h a (.inl (0, N, .inl (flN k (x) f)))) 0 0 Q) (N) ?_ (fun k hk hn => ?_) 0 (by omega)
  · skip
    refine V.iload_n d_Arrays_fill_6_5 rfl ?_
    refine V.iload_n d_Arrays_fill_6_6 rfl ?_
    refine V.geN (tgt := 20) d_Arrays_fill_6_7 (by decide) (by omega) (by omega) (fun c_7 => ?_) (fun c_7 => ?_)
    · skip
      refine V.vret d_Arrays_fill_6_20 rfl (Nat.le_of_ble_eq_true rfl) (Nat.le_of_ble_eq_true rfl) ?_
      exact hQ
    · skip
      exact absurd c_7 (by omega)
  · skip
    rw [← flN_s] at hn
    refine V.iload_n d_Arrays_fill_6_5 rfl ?_
    refine V.iload_n d_Arrays_fill_6_6 rfl ?_
    refine V.geN (tgt := 20) d_Arrays_fill_6_7 (by decide) (by omega) (by omega) (fun c_7 => ?_) (fun c_7 => ?_)
    · skip
      exact absurd c_7 (by omega)
    · skip
      refine V.aload_n d_Arrays_fill_6_10 rfl ?_
      refine V.iload_n d_Arrays_fill_6_11 rfl ?_
      refine V.iload_n d_Arrays_fill_6_12 rfl ?_
      refine V.iastN d_Arrays_fill_6_13 up_s (by omega) (by omega) ?_
      refine V.incN d_Arrays_fill_6_14 rfl (by decide) ?_
      refine V.goto (tgt := 5) d_Arrays_fill_6_17 (by decide) ?_
      rw [up_uu]
      exact V.lc rfl hn
abbrev M_Str_coder : MD := (⟨"java/lang/String", "coder", "()B"⟩, prog_18_method_152_code, 1, (some .byte), fun _ => True)
theorem d_Str_coder_0 : decode prog_18_method_152_code 0 = .ok (.getstatic 38, 3) := by decide +kernel
theorem d_Str_coder_3 : decode prog_18_method_152_code 3 = .ok (.ifCond .eq 10, 3) := by decide +kernel
theorem d_Str_coder_6 : decode prog_18_method_152_code 6 = .ok (.aload_n 0, 1) := by decide +kernel
theorem d_Str_coder_7 : decode prog_18_method_152_code 7 = .ok (.getfield 15, 3) := by decide +kernel
theorem d_Str_coder_10 : decode prog_18_method_152_code 10 = .ok (.goto 4, 3) := by decide +kernel
theorem d_Str_coder_14 : decode prog_18_method_152_code 14 = .ok (.ireturn, 1) := by decide +kernel
set_option maxRecDepth 100000 in
theorem c_Str_coder {i : Nat} {l : Launch} {d n : Nat} {h : HP} {Q : QT} (hi : i < 10) (hQ : Q (some (.int 0)) n h) : Ct l M_Str_coder d 0 0 [.float (UInt32.ofNat i)] n h Q := by
  refine Ct.of (fun _ => trivial) (by decide) (Nat.le_of_ble_eq_true rfl) ?_
  refine V.getsC d_Str_coder_0 (tm 244 (by decide +kernel) rfl) ?_
  refine V.if_eq (tgt := 13) d_Str_coder_3 (by decide) (fun c_3 => ?_) (fun c_3 => ?_)
  · skip
    exact absurd c_3 (by decide)
  · skip
    refine V.aloadK_n d_Str_coder_6 rfl ?_
    refine V.getC d_Str_coder_7 (tm 1523 (by decide +kernel) rfl) hi ?_
    refine V.goto (tgt := 14) d_Str_coder_10 (by decide) ?_
    refine V.zret d_Str_coder_14 rfl rfl (Nat.le_of_ble_eq_true rfl) (Nat.le_of_ble_eq_true rfl) ?_
    first | exact hQ | exact absurd c_3 (by decide)
abbrev M_Str_isLatin1 : MD := (⟨"java/lang/String", "isLatin1", "()Z"⟩, prog_18_method_154_code, 1, (some .boolean), fun _ => True)
theorem d_Str_isLatin1_0 : decode prog_18_method_154_code 0 = .ok (.getstatic 38, 3) := by decide +kernel
theorem d_Str_isLatin1_3 : decode prog_18_method_154_code 3 = .ok (.ifCond .eq 14, 3) := by decide +kernel
theorem d_Str_isLatin1_17 : decode prog_18_method_154_code 17 = .ok (.iconst 0, 1) := by decide +kernel
theorem d_Str_isLatin1_18 : decode prog_18_method_154_code 18 = .ok (.ireturn, 1) := by decide +kernel
theorem d_Str_isLatin1_6 : decode prog_18_method_154_code 6 = .ok (.aload_n 0, 1) := by decide +kernel
theorem d_Str_isLatin1_7 : decode prog_18_method_154_code 7 = .ok (.getfield 15, 3) := by decide +kernel
theorem d_Str_isLatin1_10 : decode prog_18_method_154_code 10 = .ok (.ifCond .ne 7, 3) := by decide +kernel
theorem d_Str_isLatin1_13 : decode prog_18_method_154_code 13 = .ok (.iconst 1, 1) := by decide +kernel
theorem d_Str_isLatin1_14 : decode prog_18_method_154_code 14 = .ok (.goto 4, 3) := by decide +kernel
set_option maxRecDepth 100000 in
theorem c_Str_isLatin1 {i : Nat} {l : Launch} {d n : Nat} {h : HP} {Q : QT} (hi : i < 10) (hQ : Q (some (.int (bi true))) n h) : Ct l M_Str_isLatin1 d 0 0 [.float (UInt32.ofNat i)] n h Q := by
  refine Ct.of (fun _ => trivial) (by decide) (Nat.le_of_ble_eq_true rfl) ?_
  refine V.getsC d_Str_isLatin1_0 (tm 244 (by decide +kernel) rfl) ?_
  refine V.if_eq (tgt := 17) d_Str_isLatin1_3 (by decide) (fun c_3 => ?_) (fun c_3 => ?_)
  · skip
    refine V.iconst_ (nI 0) d_Str_isLatin1_17 (by decide +kernel) ?_
    refine V.zret d_Str_isLatin1_18 rfl rfl (Nat.le_of_ble_eq_true rfl) (Nat.le_of_ble_eq_true rfl) ?_
    first | exact hQ | exact absurd c_3 (by decide) | exact absurd rfl c_10
  · skip
    refine V.aloadK_n d_Str_isLatin1_6 rfl ?_
    refine V.getC d_Str_isLatin1_7 (tm 1523 (by decide +kernel) rfl) hi ?_
    refine V.if_ne (tgt := 17) d_Str_isLatin1_10 (by decide) (fun c_10 => ?_) (fun c_10 => ?_)
    · skip
      refine V.iconst_ (nI 0) d_Str_isLatin1_17 (by decide +kernel) ?_
      refine V.zret d_Str_isLatin1_18 rfl rfl (Nat.le_of_ble_eq_true rfl) (Nat.le_of_ble_eq_true rfl) ?_
      first | exact hQ | exact absurd c_3 (by decide) | exact absurd rfl c_10
    · skip
      refine V.iconst_ (nI 1) d_Str_isLatin1_13 (by decide +kernel) ?_
      refine V.goto (tgt := 18) d_Str_isLatin1_14 (by decide) ?_
      refine V.zret d_Str_isLatin1_18 rfl rfl (Nat.le_of_ble_eq_true rfl) (Nat.le_of_ble_eq_true rfl) ?_
      first | exact hQ | exact absurd c_3 (by decide) | exact absurd rfl c_10
abbrev M_Str_length : MD := (⟨"java/lang/String", "length", "()I"⟩, prog_18_method_54_code, 1, (some .int), fun _ => True)
theorem d_Str_length_0 : decode prog_18_method_54_code 0 = .ok (.aload_n 0, 1) := by decide +kernel
theorem d_Str_length_1 : decode prog_18_method_54_code 1 = .ok (.getfield 9, 3) := by decide +kernel
theorem d_Str_length_4 : decode prog_18_method_54_code 4 = .ok (.arraylength, 1) := by decide +kernel
theorem d_Str_length_5 : decode prog_18_method_54_code 5 = .ok (.aload_n 0, 1) := by decide +kernel
theorem d_Str_length_6 : decode prog_18_method_54_code 6 = .ok (.invokevirtual 335, 3) := by decide +kernel
theorem kB_Str_coder : kB M_Str_coder 0 := ⟨tm 7 (by decide +kernel) rfl, tm 243 (by decide +kernel) rfl, ⟨by decide, by decide, by decide +kernel⟩, by decide⟩
theorem k_Str_335_Str_coderK : kK "java/lang/String" 335 M_Str_coder 0 := ⟨kB_Str_coder, tm 240 (by decide +kernel) rfl, tm 241 (by decide +kernel) rfl, tm 242 (by decide +kernel) rfl, rfl⟩
theorem d_Str_length_9 : decode prog_18_method_54_code 9 = .ok (.ishr, 1) := by decide +kernel
theorem d_Str_length_10 : decode prog_18_method_54_code 10 = .ok (.ireturn, 1) := by decide +kernel
set_option maxRecDepth 100000 in
theorem c_Str_length {i : Nat} {l : Launch} {d n : Nat} {h : HP} {Q : QT} (hi : i < 10) (hQ : Q (some (.int (nI (txl.getD i 0)))) n h) : Ct l M_Str_length (d + 1) 0 0 [.float (UInt32.ofNat i)] n h Q := by
  refine Ct.of (fun _ => trivial) (by decide) (Nat.le_of_ble_eq_true rfl) ?_
  refine V.aloadK_n d_Str_length_0 rfl ?_
  refine V.getV d_Str_length_1 (tm 1522 (by decide +kernel) rfl) hi ?_
  refine V.lenK d_Str_length_4 hi rfl ?_
  refine V.aloadK_n d_Str_length_5 rfl ?_
  refine V.callK0 d_Str_length_6 k_Str_335_Str_coderK hi (Nat.le_of_ble_eq_true rfl) (by omega) (by omega) (c_Str_coder hi ?_)
  refine V.ishr d_Str_length_9 ?_
  refine V.iret d_Str_length_10 rfl (Nat.le_of_ble_eq_true rfl) (Nat.le_of_ble_eq_true rfl) ?_
  rw [show nI (txl.getD i 0) >>> ((0 : Int32) &&& 31) = nI (txl.getD i 0) by rcases (show i = 0 ∨ i = 1 ∨ i = 2 ∨ i = 3 ∨ i = 4 ∨ i = 5 ∨ i = 6 ∨ i = 7 ∨ i = 8 ∨ i = 9 by omega) with rfl | rfl | rfl | rfl | rfl | rfl | rfl | rfl | rfl | rfl <;> decide +kernel]
  exact hQ
abbrev M_Lat_canEncode : MD := (⟨"java/lang/StringLatin1", "canEncode", "(I)Z"⟩, prog_19_method_4_code, 1, (some .boolean), fun _ => True)
theorem d_Lat_canEncode_0 : decode prog_19_method_4_code 0 = .ok (.iload_n 0, 1) := by decide +kernel
theorem d_Lat_canEncode_1 : decode prog_19_method_4_code 1 = .ok (.ifCond .lt 14, 3) := by decide +kernel
theorem d_Lat_canEncode_15 : decode prog_19_method_4_code 15 = .ok (.iconst 0, 1) := by decide +kernel
theorem d_Lat_canEncode_16 : decode prog_19_method_4_code 16 = .ok (.ireturn, 1) := by decide +kernel
theorem d_Lat_canEncode_4 : decode prog_19_method_4_code 4 = .ok (.iload_n 0, 1) := by decide +kernel
theorem d_Lat_canEncode_5 : decode prog_19_method_4_code 5 = .ok (.sipush 255, 3) := by decide +kernel
theorem d_Lat_canEncode_8 : decode prog_19_method_4_code 8 = .ok (.if_icmp .gt 7, 3) := by decide +kernel
theorem d_Lat_canEncode_11 : decode prog_19_method_4_code 11 = .ok (.iconst 1, 1) := by decide +kernel
theorem d_Lat_canEncode_12 : decode prog_19_method_4_code 12 = .ok (.goto 4, 3) := by decide +kernel
set_option maxRecDepth 100000 in
theorem c_Lat_canEncode {k : Nat} {l : Launch} {d n : Nat} {h : HP} {Q : QT} (hk : k < 256) (hQ : Q (some (.int (bi true))) n h) : Ct l M_Lat_canEncode d 0 0 [.int (nI k)] n h Q := by
  refine Ct.of (fun _ => trivial) (by decide) (Nat.le_of_ble_eq_true rfl) ?_
  refine V.iload_n d_Lat_canEncode_0 rfl ?_
  refine V.if_lt (tgt := 15) d_Lat_canEncode_1 (by decide) (fun c_1 => ?_) (fun c_1 => ?_)
  · skip
    refine V.iconst_ (nI 0) d_Lat_canEncode_15 (by decide +kernel) ?_
    refine V.zret d_Lat_canEncode_16 rfl rfl (Nat.le_of_ble_eq_true rfl) (Nat.le_of_ble_eq_true rfl) ?_
    first | exact hQ | exact absurd c_8 (by omega) | exact absurd c_1 (Int32.not_lt.mpr ((nI_leI (a := 0) (by decide) (by omega)).mpr (Nat.zero_le _)))
  · skip
    refine V.iload_n d_Lat_canEncode_4 rfl ?_
    refine V.sipush_ (nI 255) d_Lat_canEncode_5 (by decide +kernel) ?_
    refine V.gtN (tgt := 15) d_Lat_canEncode_8 (by decide) (by omega) (by omega) (fun c_8 => ?_) (fun c_8 => ?_)
    · skip
      refine V.iconst_ (nI 0) d_Lat_canEncode_15 (by decide +kernel) ?_
      refine V.zret d_Lat_canEncode_16 rfl rfl (Nat.le_of_ble_eq_true rfl) (Nat.le_of_ble_eq_true rfl) ?_
      first | exact hQ | exact absurd c_8 (by omega) | exact absurd c_1 (Int32.not_lt.mpr ((nI_leI (a := 0) (by decide) (by omega)).mpr (Nat.zero_le _)))
    · skip
      refine V.iconst_ (nI 1) d_Lat_canEncode_11 (by decide +kernel) ?_
      refine V.goto (tgt := 16) d_Lat_canEncode_12 (by decide) ?_
      refine V.zret d_Lat_canEncode_16 rfl rfl (Nat.le_of_ble_eq_true rfl) (Nat.le_of_ble_eq_true rfl) ?_
      first | exact hQ | exact absurd c_8 (by omega) | exact absurd c_1 (Int32.not_lt.mpr ((nI_leI (a := 0) (by decide) (by omega)).mpr (Nat.zero_le _)))
/-- where a byte lies in a constant text, or -1 -/
def ixf (i c : Nat) : Nat → Nat → Int32
  | 0, _ => -1
  | k + 1, j => if (txb.getD i []).getD j 0 = nI c then nI j else ixf i c k (j + 1)
def ixv (i c : Nat) : Int32 := ixf i c (txl.getD i 0) 0
theorem tx_len : ∀ i, i < 10 → txl.getD i 0 ≤ 3 ∧ 1 ≤ txl.getD i 0 := by decide
theorem tx_by : ∀ i, i < 10 → ∀ j, j < 3 → ∀ c, c < 256 → ((txb.getD i []).getD j 0 = (nI c).toInt8.toInt32 ↔ (txb.getD i []).getD j 0 = nI c) := by decide +kernel
abbrev M_Lat_indexOfChar : MD := (⟨"java/lang/StringLatin1", "indexOfChar", "([BIII)I"⟩, prog_19_method_23_code, 6, (some .int), fun _ => True)
theorem d_Lat_indexOfChar_0 : decode prog_19_method_23_code 0 = .ok (.iload_n 1, 1) := by decide +kernel
theorem d_Lat_indexOfChar_1 : decode prog_19_method_23_code 1 = .ok (.i2b, 1) := by decide +kernel
theorem d_Lat_indexOfChar_2 : decode prog_19_method_23_code 2 = .ok (.istore 4, 2) := by decide +kernel
theorem d_Lat_indexOfChar_4 : decode prog_19_method_23_code 4 = .ok (.iload_n 2, 1) := by decide +kernel
theorem d_Lat_indexOfChar_5 : decode prog_19_method_23_code 5 = .ok (.istore 5, 2) := by decide +kernel
theorem d_Lat_indexOfChar_7 : decode prog_19_method_23_code 7 = .ok (.iload 5, 2) := by decide +kernel
theorem d_Lat_indexOfChar_9 : decode prog_19_method_23_code 9 = .ok (.iload_n 3, 1) := by decide +kernel
theorem d_Lat_indexOfChar_10 : decode prog_19_method_23_code 10 = .ok (.if_icmp .ge 21, 3) := by decide +kernel
theorem d_Lat_indexOfChar_31 : decode prog_19_method_23_code 31 = .ok (.iconst (-1), 1) := by decide +kernel
theorem d_Lat_indexOfChar_32 : decode prog_19_method_23_code 32 = .ok (.ireturn, 1) := by decide +kernel
theorem d_Lat_indexOfChar_13 : decode prog_19_method_23_code 13 = .ok (.aload_n 0, 1) := by decide +kernel
theorem d_Lat_indexOfChar_14 : decode prog_19_method_23_code 14 = .ok (.iload 5, 2) := by decide +kernel
theorem d_Lat_indexOfChar_16 : decode prog_19_method_23_code 16 = .ok (.baload, 1) := by decide +kernel
theorem d_Lat_indexOfChar_17 : decode prog_19_method_23_code 17 = .ok (.iload 4, 2) := by decide +kernel
theorem d_Lat_indexOfChar_19 : decode prog_19_method_23_code 19 = .ok (.if_icmp .ne 6, 3) := by decide +kernel
theorem d_Lat_indexOfChar_25 : decode prog_19_method_23_code 25 = .ok (.iinc 5 1, 3) := by decide +kernel
theorem d_Lat_indexOfChar_28 : decode prog_19_method_23_code 28 = .ok (.goto (-21), 3) := by decide +kernel
theorem d_Lat_indexOfChar_22 : decode prog_19_method_23_code 22 = .ok (.iload 5, 2) := by decide +kernel
theorem d_Lat_indexOfChar_24 : decode prog_19_method_23_code 24 = .ok (.ireturn, 1) := by decide +kernel
set_option maxRecDepth 100000 in
theorem c_Lat_indexOfChar {i c L : Nat} {l : Launch} {d n : Nat} {h : HP} {Q : QT} (hi : i < 10) (hc : c < 256) (hL : L = txl.getD i 0) (hQ : Q (some (.int (ixv i c))) n h) : Ct l M_Lat_indexOfChar d 0 0 [.float (UInt32.ofNat (100 + i)), .int (nI c), .int (nI 0), .int (nI L)] n h Q := by
  refine Ct.of (fun _ => trivial) (by decide) (Nat.le_of_ble_eq_true rfl) ?_
  obtain ⟨hL3, hL1⟩ := tx_len i hi
  rw [← hL] at hL3 hL1
  refine V.iload_n d_Lat_indexOfChar_0 rfl ?_
  refine V.i2b d_Lat_indexOfChar_1 ?_
  refine V.istore d_Lat_indexOfChar_2 (by decide) ?_
  refine V.iload_n d_Lat_indexOfChar_4 rfl ?_
  refine V.istore d_Lat_indexOfChar_5 (by decide) ?_
  refine V.lc (ls' := [(0, .float (UInt32.ofNat (100 + i))), (3, .int (nI L)), (4, .int (nI c).toInt8.toInt32), (5, .int (nI 0))]) rfl ?_
  refine up_to (G := fun j => ixf i c (L - j) j = ixv i c → V l M_Lat_indexOfChar d 0 0 7 [(0, .float (UInt32.ofNat (100 + i))), (3, .int (nI L)), (4, .int (nI c).toInt8.toInt32), (5, .int (nI j))] [] n (h) 0 0 Q) (L) ?_ (fun j hj hn => ?_) 0 (by omega) (by rw [hL]; rfl)
  · skip
    intro hix
    refine V.iload d_Lat_indexOfChar_7 rfl ?_
    refine V.iload_n d_Lat_indexOfChar_9 rfl ?_
    refine V.geN (tgt := 31) d_Lat_indexOfChar_10 (by decide) (by omega) (by omega) (fun c_10 => ?_) (fun c_10 => ?_)
    · skip
      refine V.iconst_ (-1) d_Lat_indexOfChar_31 (by decide +kernel) ?_
      refine V.iret d_Lat_indexOfChar_32 rfl (Nat.le_of_ble_eq_true rfl) (Nat.le_of_ble_eq_true rfl) ?_
      rw [Nat.sub_self] at hix
      rw [← hix] at hQ
      exact hQ
    · skip
      exact absurd c_10 (by omega)
  · skip
    intro hix
    refine V.iload d_Lat_indexOfChar_7 rfl ?_
    refine V.iload_n d_Lat_indexOfChar_9 rfl ?_
    refine V.geN (tgt := 31) d_Lat_indexOfChar_10 (by decide) (by omega) (by omega) (fun c_10 => ?_) (fun c_10 => ?_)
    · skip
      exact absurd c_10 (by omega)
    · skip
      refine V.aloadK_n d_Lat_indexOfChar_13 rfl ?_
      refine V.iload d_Lat_indexOfChar_14 rfl ?_
      refine V.baldK d_Lat_indexOfChar_16 hi (vp_in_nI (by omega) (by omega)) rfl ?_
      refine V.iload d_Lat_indexOfChar_17 rfl ?_
      rw [icl (by omega)]
      refine V.icmp_ne (tgt := 25) d_Lat_indexOfChar_19 (by decide) (fun c_19 => ?_) (fun c_19 => ?_)
      · skip
        refine V.incN d_Lat_indexOfChar_25 rfl (by decide) ?_
        refine V.goto (tgt := 7) d_Lat_indexOfChar_28 (by decide) ?_
        refine V.lc rfl (hn ?_)
        have e1 : ixf i c (L - j) j = if (txb.getD i []).getD j 0 = nI c then nI j else ixf i c (L - j - 1) (j + 1) := by
          rw [show L - j = L - j - 1 + 1 by omega]
          rfl
        rw [e1, if_neg (fun z => c_19 ((tx_by i hi j (by omega) c hc).mpr z))] at hix
        rw [show L - (j + 1) = L - j - 1 by omega]
        exact hix
      · skip
        refine V.iload d_Lat_indexOfChar_22 rfl ?_
        refine V.iret d_Lat_indexOfChar_24 rfl (Nat.le_of_ble_eq_true rfl) (Nat.le_of_ble_eq_true rfl) ?_
        have e1 : ixf i c (L - j) j = if (txb.getD i []).getD j 0 = nI c then nI j else ixf i c (L - j - 1) (j + 1) := by
          rw [show L - j = L - j - 1 + 1 by omega]
          rfl
        rw [e1, if_pos ((tx_by i hi j (by omega) c hc).mp c_19)] at hix
        rw [hix]
        exact hQ
abbrev M_Lat_indexOf : MD := (⟨"java/lang/StringLatin1", "indexOf", "([BIII)I"⟩, prog_19_method_22_code, 4, (some .int), fun _ => True)
theorem d_Lat_indexOf_0 : decode prog_19_method_22_code 0 = .ok (.iload_n 1, 1) := by decide +kernel
theorem d_Lat_indexOf_1 : decode prog_19_method_22_code 1 = .ok (.invokestatic 88, 3) := by decide +kernel
theorem kB_Lat_canEncode : kB M_Lat_canEncode 1 := ⟨tm 8 (by decide +kernel) rfl, tm 330 (by decide +kernel) rfl, ⟨by decide, by decide, by decide +kernel⟩, by decide⟩
theorem k_Lat_88_Lat_canEncodeS : kS "java/lang/StringLatin1" 88 M_Lat_canEncode 1 := ⟨kB_Lat_canEncode, tm 328 (by decide +kernel) rfl, tm 329 (by decide +kernel) rfl⟩
theorem d_Lat_indexOf_4 : decode prog_19_method_22_code 4 = .ok (.ifCond .ne 5, 3) := by decide +kernel
theorem d_Lat_indexOf_9 : decode prog_19_method_22_code 9 = .ok (.iload_n 2, 1) := by decide +kernel
theorem d_Lat_indexOf_10 : decode prog_19_method_22_code 10 = .ok (.iconst 0, 1) := by decide +kernel
theorem d_Lat_indexOf_11 : decode prog_19_method_22_code 11 = .ok (.invokestatic 92, 3) := by decide +kernel
theorem d_Lat_indexOf_14 : decode prog_19_method_22_code 14 = .ok (.istore_n 2, 1) := by decide +kernel
theorem d_Lat_indexOf_15 : decode prog_19_method_22_code 15 = .ok (.iload_n 3, 1) := by decide +kernel
theorem d_Lat_indexOf_16 : decode prog_19_method_22_code 16 = .ok (.aload_n 0, 1) := by decide +kernel
theorem d_Lat_indexOf_17 : decode prog_19_method_22_code 17 = .ok (.arraylength, 1) := by decide +kernel
theorem d_Lat_indexOf_18 : decode prog_19_method_22_code 18 = .ok (.invokestatic 38, 3) := by decide +kernel
theorem d_Lat_indexOf_21 : decode prog_19_method_22_code 21 = .ok (.istore_n 3, 1) := by decide +kernel
theorem d_Lat_indexOf_22 : decode prog_19_method_22_code 22 = .ok (.iload_n 2, 1) := by decide +kernel
theorem d_Lat_indexOf_23 : decode prog_19_method_22_code 23 = .ok (.iload_n 3, 1) := by decide +kernel
theorem d_Lat_indexOf_24 : decode prog_19_method_22_code 24 = .ok (.if_icmp .lt 5, 3) := by decide +kernel
theorem d_Lat_indexOf_29 : decode prog_19_method_22_code 29 = .ok (.aload_n 0, 1) := by decide +kernel
theorem d_Lat_indexOf_30 : decode prog_19_method_22_code 30 = .ok (.iload_n 1, 1) := by decide +kernel
theorem d_Lat_indexOf_31 : decode prog_19_method_22_code 31 = .ok (.iload_n 2, 1) := by decide +kernel
theorem d_Lat_indexOf_32 : decode prog_19_method_22_code 32 = .ok (.iload_n 3, 1) := by decide +kernel
theorem d_Lat_indexOf_33 : decode prog_19_method_22_code 33 = .ok (.invokestatic 95, 3) := by decide +kernel
theorem kB_Lat_indexOfChar : kB M_Lat_indexOfChar 4 := ⟨tm 8 (by decide +kernel) rfl, tm 337 (by decide +kernel) rfl, ⟨by decide, by decide, by decide +kernel⟩, by decide⟩
theorem k_Lat_95_Lat_indexOfCharS : kS "java/lang/StringLatin1" 95 M_Lat_indexOfChar 4 := ⟨kB_Lat_indexOfChar, tm 335 (by decide +kernel) rfl, tm 336 (by decide +kernel) rfl⟩
theorem d_Lat_indexOf_36 : decode prog_19_method_22_code 36 = .ok (.ireturn, 1) := by decide +kernel
set_option maxRecDepth 100000 in
theorem c_Lat_indexOf {i c : Nat} {l : Launch} {d n : Nat} {h : HP} {Q : QT} (hi : i < 10) (hc : c < 256) (hQ : Q (some (.int (ixv i c))) n h) : Ct l M_Lat_indexOf (d + 1) 0 0 [.float (UInt32.ofNat (100 + i)), .int (nI c), .int (nI 0), .int (nI (txl.getD i 0))] n h Q := by
  refine Ct.of (fun _ => trivial) (by decide) (Nat.le_of_ble_eq_true rfl) ?_
  obtain ⟨hL3, hL1⟩ := tx_len i hi
  refine V.iload_n d_Lat_indexOf_0 rfl ?_
  refine V.callS1 d_Lat_indexOf_1 k_Lat_88_Lat_canEncodeS (Nat.le_of_ble_eq_true rfl) (by omega) (by omega) (c_Lat_canEncode hc ?_)
  refine V.ifneB (tgt := 9) d_Lat_indexOf_4 (by decide) (fun c_4 => ?_) (fun c_4 => ?_)
  · skip
    refine V.iload_n d_Lat_indexOf_9 rfl ?_
    refine V.iconst_ (nI 0) d_Lat_indexOf_10 (by decide +kernel) ?_
    refine V.mmax d_Lat_indexOf_11 (tm 331 (by decide +kernel) rfl) (Nat.le_of_ble_eq_true rfl) (by omega) (by omega) ?_
    refine V.top (y := nI 0) (by decide +kernel) ?_
    refine V.istore_n d_Lat_indexOf_14 (by decide) ?_
    refine V.iload_n d_Lat_indexOf_15 rfl ?_
    refine V.aloadK_n d_Lat_indexOf_16 rfl ?_
    refine V.lenK d_Lat_indexOf_17 hi rfl ?_
    refine V.mmin d_Lat_indexOf_18 (tm 332 (by decide +kernel) rfl) (Nat.le_of_ble_eq_true rfl) (by omega) (by omega) ?_
    refine V.top (y := nI (txl.getD i 0)) (by unfold mi; split <;> rfl) ?_
    refine V.istore_n d_Lat_indexOf_21 (by decide) ?_
    refine V.iload_n d_Lat_indexOf_22 rfl ?_
    refine V.iload_n d_Lat_indexOf_23 rfl ?_
    refine V.ltN (tgt := 29) d_Lat_indexOf_24 (by decide) (by omega) (by omega) (fun c_24 => ?_) (fun c_24 => ?_)
    · skip
      refine V.aloadK_n d_Lat_indexOf_29 rfl ?_
      refine V.iload_n d_Lat_indexOf_30 rfl ?_
      refine V.iload_n d_Lat_indexOf_31 rfl ?_
      refine V.iload_n d_Lat_indexOf_32 rfl ?_
      refine V.callS4 d_Lat_indexOf_33 k_Lat_95_Lat_indexOfCharS (Nat.le_of_ble_eq_true rfl) (by omega) (by omega) (c_Lat_indexOfChar (i := i) (c := c) (L := txl.getD i 0) hi hc rfl ?_)
      refine V.iret d_Lat_indexOf_36 rfl (Nat.le_of_ble_eq_true rfl) (Nat.le_of_ble_eq_true rfl) ?_
      exact hQ
    · skip
      exact absurd c_24 (by omega)
  · skip
    exact absurd c_4 (by decide)
abbrev M_Str_indexOf_5 : MD := (⟨"java/lang/String", "indexOf", "(II)I"⟩, prog_18_method_80_code, 3, (some .int), fun _ => True)
theorem d_Str_indexOf_5_0 : decode prog_18_method_80_code 0 = .ok (.aload_n 0, 1) := by decide +kernel
theorem d_Str_indexOf_5_1 : decode prog_18_method_80_code 1 = .ok (.invokevirtual 492, 3) := by decide +kernel
theorem kB_Str_isLatin1 : kB M_Str_isLatin1 0 := ⟨tm 7 (by decide +kernel) rfl, tm 253 (by decide +kernel) rfl, ⟨by decide, by decide, by decide +kernel⟩, by decide⟩
theorem k_Str_492_Str_isLatin1K : kK "java/lang/String" 492 M_Str_isLatin1 0 := ⟨kB_Str_isLatin1, tm 250 (by decide +kernel) rfl, tm 251 (by decide +kernel) rfl, tm 252 (by decide +kernel) rfl, rfl⟩
theorem d_Str_indexOf_5_4 : decode prog_18_method_80_code 4 = .ok (.ifCond .eq 19, 3) := by decide +kernel
theorem d_Str_indexOf_5_7 : decode prog_18_method_80_code 7 = .ok (.aload_n 0, 1) := by decide +kernel
theorem d_Str_indexOf_5_8 : decode prog_18_method_80_code 8 = .ok (.getfield 9, 3) := by decide +kernel
theorem d_Str_indexOf_5_11 : decode prog_18_method_80_code 11 = .ok (.iload_n 1, 1) := by decide +kernel
theorem d_Str_indexOf_5_12 : decode prog_18_method_80_code 12 = .ok (.iload_n 2, 1) := by decide +kernel
theorem d_Str_indexOf_5_13 : decode prog_18_method_80_code 13 = .ok (.aload_n 0, 1) := by decide +kernel
theorem d_Str_indexOf_5_14 : decode prog_18_method_80_code 14 = .ok (.invokevirtual 505, 3) := by decide +kernel
theorem kB_Str_length : kB M_Str_length 0 := ⟨tm 7 (by decide +kernel) rfl, tm 239 (by decide +kernel) rfl, ⟨by decide, by decide, by decide +kernel⟩, by decide⟩
theorem k_Str_505_Str_lengthK : kK "java/lang/String" 505 M_Str_length 0 := ⟨kB_Str_length, tm 324 (by decide +kernel) rfl, tm 237 (by decide +kernel) rfl, tm 238 (by decide +kernel) rfl, rfl⟩
theorem d_Str_indexOf_5_17 : decode prog_18_method_80_code 17 = .ok (.invokestatic 637, 3) := by decide +kernel
theorem kB_Lat_indexOf : kB M_Lat_indexOf 4 := ⟨tm 8 (by decide +kernel) rfl, tm 327 (by decide +kernel) rfl, ⟨by decide, by decide, by decide +kernel⟩, by decide⟩
theorem k_Str_637_Lat_indexOfS : kS "java/lang/String" 637 M_Lat_indexOf 4 := ⟨kB_Lat_indexOf, tm 325 (by decide +kernel) rfl, tm 326 (by decide +kernel) rfl⟩
theorem d_Str_indexOf_5_20 : decode prog_18_method_80_code 20 = .ok (.goto 16, 3) := by decide +kernel
theorem d_Str_indexOf_5_36 : decode prog_18_method_80_code 36 = .ok (.ireturn, 1) := by decide +kernel
set_option maxRecDepth 100000 in
theorem c_Str_indexOf2 {i c : Nat} {l : Launch} {d n : Nat} {h : HP} {Q : QT} (hi : i < 10) (hc : c < 256) (hQ : Q (some (.int (ixv i c))) n h) : Ct l M_Str_indexOf_5 (d + 2) 0 0 [.float (UInt32.ofNat i), .int (nI c), .int (nI 0)] n h Q := by
  refine Ct.of (fun _ => trivial) (by decide) (Nat.le_of_ble_eq_true rfl) ?_
  refine V.aloadK_n d_Str_indexOf_5_0 rfl ?_
  refine V.callK0 d_Str_indexOf_5_1 k_Str_492_Str_isLatin1K hi (Nat.le_of_ble_eq_true rfl) (by omega) (by omega) (c_Str_isLatin1 hi ?_)
  refine V.ifeqB (tgt := 23) d_Str_indexOf_5_4 (by decide) (fun c_4 => ?_) (fun c_4 => ?_)
  · skip
    exact absurd c_4 (by decide)
  · skip
    refine V.aloadK_n d_Str_indexOf_5_7 rfl ?_
    refine V.getV d_Str_indexOf_5_8 (tm 1522 (by decide +kernel) rfl) hi ?_
    refine V.iload_n d_Str_indexOf_5_11 rfl ?_
    refine V.iload_n d_Str_indexOf_5_12 rfl ?_
    refine V.aloadK_n d_Str_indexOf_5_13 rfl ?_
    refine V.callK0 d_Str_indexOf_5_14 k_Str_505_Str_lengthK hi (Nat.le_of_ble_eq_true rfl) (by omega) (by omega) (c_Str_length hi ?_)
    refine V.callS4 d_Str_indexOf_5_17 k_Str_637_Lat_indexOfS (Nat.le_of_ble_eq_true rfl) (by omega) (by omega) (c_Lat_indexOf (i := i) (c := c) hi hc ?_)
    refine V.goto (tgt := 36) d_Str_indexOf_5_20 (by decide) ?_
    refine V.iret d_Str_indexOf_5_36 rfl (Nat.le_of_ble_eq_true rfl) (Nat.le_of_ble_eq_true rfl) ?_
    exact hQ
abbrev M_Str_indexOf : MD := (⟨"java/lang/String", "indexOf", "(I)I"⟩, prog_18_method_79_code, 2, (some .int), fun _ => True)
theorem d_Str_indexOf_0 : decode prog_18_method_79_code 0 = .ok (.aload_n 0, 1) := by decide +kernel
theorem d_Str_indexOf_1 : decode prog_18_method_79_code 1 = .ok (.iload_n 1, 1) := by decide +kernel
theorem d_Str_indexOf_2 : decode prog_18_method_79_code 2 = .ok (.iconst 0, 1) := by decide +kernel
theorem d_Str_indexOf_3 : decode prog_18_method_79_code 3 = .ok (.invokevirtual 633, 3) := by decide +kernel
theorem kB_Str_indexOf_5 : kB M_Str_indexOf_5 2 := ⟨tm 7 (by decide +kernel) rfl, tm 323 (by decide +kernel) rfl, ⟨by decide, by decide, by decide +kernel⟩, by decide⟩
theorem k_Str_633_Str_indexOf_5K : kK "java/lang/String" 633 M_Str_indexOf_5 2 := ⟨kB_Str_indexOf_5, tm 320 (by decide +kernel) rfl, tm 321 (by decide +kernel) rfl, tm 322 (by decide +kernel) rfl, rfl⟩
theorem d_Str_indexOf_6 : decode prog_18_method_79_code 6 = .ok (.ireturn, 1) := by decide +kernel
set_option maxRecDepth 100000 in
theorem c_Str_indexOf1 {i c : Nat} {l : Launch} {d n : Nat} {h : HP} {Q : QT} (hi : i < 10) (hc : c < 256) (hQ : Q (some (.int (ixv i c))) n h) : Ct l M_Str_indexOf (d + 3) 0 0 [.float (UInt32.ofNat i), .int (nI c)] n h Q := by
  refine Ct.of (fun _ => trivial) (by decide) (Nat.le_of_ble_eq_true rfl) ?_
  refine V.aloadK_n d_Str_indexOf_0 rfl ?_
  refine V.iload_n d_Str_indexOf_1 rfl ?_
  refine V.iconst_ (nI 0) d_Str_indexOf_2 (by decide +kernel) ?_
  refine V.callK2 d_Str_indexOf_3 k_Str_633_Str_indexOf_5K hi (Nat.le_of_ble_eq_true rfl) (by omega) (by omega) (c_Str_indexOf2 (i := i) (c := c) hi hc ?_)
  refine V.iret d_Str_indexOf_6 rfl (Nat.le_of_ble_eq_true rfl) (Nat.le_of_ble_eq_true rfl) ?_
  exact hQ
abbrev M_Prec_checkIndex : MD := (⟨"jdk/internal/util/Preconditions", "checkIndex", "(IILjava/util/function/BiFunction;)I"⟩, prog_23_method_11_code, 3, (some .int), fun _ => True)
theorem d_Prec_checkIndex_0 : decode prog_23_method_11_code 0 = .ok (.iload_n 0, 1) := by decide +kernel
theorem d_Prec_checkIndex_1 : decode prog_23_method_11_code 1 = .ok (.ifCond .lt 8, 3) := by decide +kernel
theorem d_Prec_checkIndex_4 : decode prog_23_method_11_code 4 = .ok (.iload_n 0, 1) := by decide +kernel
theorem d_Prec_checkIndex_5 : decode prog_23_method_11_code 5 = .ok (.iload_n 1, 1) := by decide +kernel
theorem d_Prec_checkIndex_6 : decode prog_23_method_11_code 6 = .ok (.if_icmp .lt 10, 3) := by decide +kernel
theorem d_Prec_checkIndex_16 : decode prog_23_method_11_code 16 = .ok (.iload_n 0, 1) := by decide +kernel
theorem d_Prec_checkIndex_17 : decode prog_23_method_11_code 17 = .ok (.ireturn, 1) := by decide +kernel
set_option maxRecDepth 100000 in
theorem c_Prec_checkIndex {j L : Nat} {l : Launch} {d n : Nat} {h : HP} {Q : QT} (hj : j < L) (hL : L < 100) (hQ : Q (some (.int (nI j))) n h) : Ct l M_Prec_checkIndex d 0 0 [.int (nI j), .int (nI L), .retAddr 0] n h Q := by
  refine Ct.of (fun _ => trivial) (by decide) (Nat.le_of_ble_eq_true rfl) ?_
  refine V.iload_n d_Prec_checkIndex_0 rfl ?_
  refine V.if_lt (tgt := 9) d_Prec_checkIndex_1 (by decide) (fun c_1 => ?_) (fun c_1 => ?_)
  · skip
    first | exact absurd c_6 (by omega) | exact absurd c_1 (Int32.not_lt.mpr ((nI_leI (a := 0) (by decide) (by omega)).mpr (Nat.zero_le _)))
  · skip
    refine V.iload_n d_Prec_checkIndex_4 rfl ?_
    refine V.iload_n d_Prec_checkIndex_5 rfl ?_
    refine V.ltN (tgt := 16) d_Prec_checkIndex_6 (by decide) (by omega) (by omega) (fun c_6 => ?_) (fun c_6 => ?_)
    · skip
      refine V.iload_n d_Prec_checkIndex_16 rfl ?_
      refine V.iret d_Prec_checkIndex_17 rfl (Nat.le_of_ble_eq_true rfl) (Nat.le_of_ble_eq_true rfl) ?_
      exact hQ
    · skip
      first | exact absurd c_6 (by omega) | exact absurd c_1 (Int32.not_lt.mpr ((nI_leI (a := 0) (by decide) (by omega)).mpr (Nat.zero_le _)))
abbrev M_Str_checkIndex : MD := (⟨"java/lang/String", "checkIndex", "(II)V"⟩, prog_18_method_155_code, 2, none, fun _ => True)
theorem d_Str_checkIndex_0 : decode prog_18_method_155_code 0 = .ok (.iload_n 0, 1) := by decide +kernel
theorem d_Str_checkIndex_1 : decode prog_18_method_155_code 1 = .ok (.iload_n 1, 1) := by decide +kernel
theorem d_Str_checkIndex_2 : decode prog_18_method_155_code 2 = .ok (.getstatic 1053, 3) := by decide +kernel
theorem d_Str_checkIndex_5 : decode prog_18_method_155_code 5 = .ok (.invokestatic 1059, 3) := by decide +kernel
theorem kB_Prec_checkIndex : kB M_Prec_checkIndex 3 := ⟨tm 9 (by decide +kernel) rfl, tm 264 (by decide +kernel) rfl, ⟨by decide, by decide, by decide +kernel⟩, by decide⟩
theorem k_Str_1059_Prec_checkIndexS : kS "java/lang/String" 1059 M_Prec_checkIndex 3 := ⟨kB_Prec_checkIndex, tm 262 (by decide +kernel) rfl, tm 263 (by decide +kernel) rfl⟩
theorem d_Str_checkIndex_8 : decode prog_18_method_155_code 8 = .ok (.pop, 1) := by decide +kernel
theorem d_Str_checkIndex_9 : decode prog_18_method_155_code 9 = .ok (.return_, 1) := by decide +kernel
set_option maxRecDepth 100000 in
theorem c_Str_checkIndex {j L : Nat} {l : Launch} {d n : Nat} {h : HP} {Q : QT} (hj : j < L) (hL : L < 100) (hQ : Q none n h) : Ct l M_Str_checkIndex (d + 1) 0 0 [.int (nI j), .int (nI L)] n h Q := by
  refine Ct.of (fun _ => trivial) (by decide) (Nat.le_of_ble_eq_true rfl) ?_
  refine V.iload_n d_Str_checkIndex_0 rfl ?_
  refine V.iload_n d_Str_checkIndex_1 rfl ?_
  refine V.getsF d_Str_checkIndex_2 (tm 260 (by decide +kernel) rfl) ?_
  refine V.callS3 d_Str_checkIndex_5 k_Str_1059_Prec_checkIndexS (Nat.le_of_ble_eq_true rfl) (by omega) (by omega) (c_Prec_checkIndex hj hL ?_)
  refine V.pop rfl d_Str_checkIndex_8 ?_
  refine V.vret d_Str_checkIndex_9 rfl (Nat.le_of_ble_eq_true rfl) (Nat.le_of_ble_eq_true rfl) ?_
  exact hQ
abbrev M_Lat_charAt : MD := (⟨"java/lang/StringLatin1", "charAt", "([BI)C"⟩, prog_19_method_2_code, 2, (some .char), fun _ => True)
theorem d_Lat_charAt_0 : decode prog_19_method_2_code 0 = .ok (.iload_n 1, 1) := by decide +kernel
theorem d_Lat_charAt_1 : decode prog_19_method_2_code 1 = .ok (.aload_n 0, 1) := by decide +kernel
theorem d_Lat_charAt_2 : decode prog_19_method_2_code 2 = .ok (.arraylength, 1) := by decide +kernel
theorem d_Lat_charAt_3 : decode prog_19_method_2_code 3 = .ok (.invokestatic 9, 3) := by decide +kernel
theorem kB_Str_checkIndex : kB M_Str_checkIndex 2 := ⟨tm 7 (by decide +kernel) rfl, tm 259 (by decide +kernel) rfl, ⟨by decide, by decide, by decide +kernel⟩, by decide⟩
theorem k_Lat_9_Str_checkIndexS : kS "java/lang/StringLatin1" 9 M_Str_checkIndex 2 := ⟨kB_Str_checkIndex, tm 257 (by decide +kernel) rfl, tm 258 (by decide +kernel) rfl⟩
theorem d_Lat_charAt_6 : decode prog_19_method_2_code 6 = .ok (.aload_n 0, 1) := by decide +kernel
theorem d_Lat_charAt_7 : decode prog_19_method_2_code 7 = .ok (.iload_n 1, 1) := by decide +kernel
theorem d_Lat_charAt_8 : decode prog_19_method_2_code 8 = .ok (.baload, 1) := by decide +kernel
theorem d_Lat_charAt_9 : decode prog_19_method_2_code 9 = .ok (.sipush 255, 3) := by decide +kernel
theorem d_Lat_charAt_12 : decode prog_19_method_2_code 12 = .ok (.iand, 1) := by decide +kernel
theorem d_Lat_charAt_13 : decode prog_19_method_2_code 13 = .ok (.i2c, 1) := by decide +kernel
theorem d_Lat_charAt_14 : decode prog_19_method_2_code 14 = .ok (.ireturn, 1) := by decide +kernel
set_option maxRecDepth 100000 in
theorem c_Lat_charAt {i j : Nat} {l : Launch} {d n : Nat} {h : HP} {Q : QT} (hi : i < 10) (hj : j < txl.getD i 0) (hQ : Q (some (.int ((txb.getD i []).getD j 0))) n h) : Ct l M_Lat_charAt (d + 2) 0 0 [.float (UInt32.ofNat (100 + i)), .int (nI j)] n h Q := by
  refine Ct.of (fun _ => trivial) (by decide) (Nat.le_of_ble_eq_true rfl) ?_
  obtain ⟨hL3, hL1⟩ := tx_len i hi
  refine V.iload_n d_Lat_charAt_0 rfl ?_
  refine V.aloadK_n d_Lat_charAt_1 rfl ?_
  refine V.lenK d_Lat_charAt_2 hi rfl ?_
  refine V.callS2 d_Lat_charAt_3 k_Lat_9_Str_checkIndexS (Nat.le_of_ble_eq_true rfl) (by omega) (by omega) (c_Str_checkIndex (j := j) (L := txl.getD i 0) hj (by omega) ?_)
  refine V.aloadK_n d_Lat_charAt_6 rfl ?_
  refine V.iload_n d_Lat_charAt_7 rfl ?_
  refine V.baldK d_Lat_charAt_8 hi (vp_in_nI (by omega) (by omega)) rfl ?_
  refine V.sipush_ (nI 255) d_Lat_charAt_9 (by decide +kernel) ?_
  refine V.iand d_Lat_charAt_12 ?_
  refine V.i2c d_Lat_charAt_13 ?_
  refine V.top (y := (txb.getD i []).getD j 0) (by
    rw [icl (by omega)]
    rcases (show i = 0 ∨ i = 1 ∨ i = 2 ∨ i = 3 ∨ i = 4 ∨ i = 5 ∨ i = 6 ∨ i = 7 ∨ i = 8 ∨ i = 9 by omega) with rfl | rfl | rfl | rfl | rfl | rfl | rfl | rfl | rfl | rfl <;> (rcases (show j = 0 ∨ j = 1 ∨ j = 2 by omega) with rfl | rfl | rfl <;> decide +kernel)) ?_
  refine V.zret d_Lat_charAt_14 rfl (by rcases (show i = 0 ∨ i = 1 ∨ i = 2 ∨ i = 3 ∨ i = 4 ∨ i = 5 ∨ i = 6 ∨ i = 7 ∨ i = 8 ∨ i = 9 by omega) with rfl | rfl | rfl | rfl | rfl | rfl | rfl | rfl | rfl | rfl <;> (rcases (show j = 0 ∨ j = 1 ∨ j = 2 by omega) with rfl | rfl | rfl <;> rfl)) (Nat.le_of_ble_eq_true rfl) (Nat.le_of_ble_eq_true rfl) ?_
  exact hQ
abbrev M_Str_charAt : MD := (⟨"java/lang/String", "charAt", "(I)C"⟩, prog_18_method_56_code, 2, (some .char), fun _ => True)
theorem d_Str_charAt_0 : decode prog_18_method_56_code 0 = .ok (.aload_n 0, 1) := by decide +kernel
theorem d_Str_charAt_1 : decode prog_18_method_56_code 1 = .ok (.invokevirtual 492, 3) := by decide +kernel
theorem d_Str_charAt_4 : decode prog_18_method_56_code 4 = .ok (.ifCond .eq 12, 3) := by decide +kernel
theorem d_Str_charAt_7 : decode prog_18_method_56_code 7 = .ok (.aload_n 0, 1) := by decide +kernel
theorem d_Str_charAt_8 : decode prog_18_method_56_code 8 = .ok (.getfield 9, 3) := by decide +kernel
theorem d_Str_charAt_11 : decode prog_18_method_56_code 11 = .ok (.iload_n 1, 1) := by decide +kernel
theorem d_Str_charAt_12 : decode prog_18_method_56_code 12 = .ok (.invokestatic 495, 3) := by decide +kernel
theorem kB_Lat_charAt : kB M_Lat_charAt 2 := ⟨tm 8 (by decide +kernel) rfl, tm 256 (by decide +kernel) rfl, ⟨by decide, by decide, by decide +kernel⟩, by decide⟩
theorem k_Str_495_Lat_charAtS : kS "java/lang/String" 495 M_Lat_charAt 2 := ⟨kB_Lat_charAt, tm 254 (by decide +kernel) rfl, tm 255 (by decide +kernel) rfl⟩
theorem d_Str_charAt_15 : decode prog_18_method_56_code 15 = .ok (.ireturn, 1) := by decide +kernel
set_option maxRecDepth 100000 in
theorem c_Str_charAt {i j : Nat} {l : Launch} {d n : Nat} {h : HP} {Q : QT} (hi : i < 10) (hj : j < txl.getD i 0) (hQ : Q (some (.int ((txb.getD i []).getD j 0))) n h) : Ct l M_Str_charAt (d + 3) 0 0 [.float (UInt32.ofNat i), .int (nI j)] n h Q := by
  refine Ct.of (fun _ => trivial) (by decide) (Nat.le_of_ble_eq_true rfl) ?_
  obtain ⟨hL3, hL1⟩ := tx_len i hi
  refine V.aloadK_n d_Str_charAt_0 rfl ?_
  refine V.callK0 d_Str_charAt_1 k_Str_492_Str_isLatin1K hi (Nat.le_of_ble_eq_true rfl) (by omega) (by omega) (c_Str_isLatin1 hi ?_)
  refine V.ifeqB (tgt := 16) d_Str_charAt_4 (by decide) (fun c_4 => ?_) (fun c_4 => ?_)
  · skip
    exact absurd c_4 (by decide)
  · skip
    refine V.aloadK_n d_Str_charAt_7 rfl ?_
    refine V.getV d_Str_charAt_8 (tm 1522 (by decide +kernel) rfl) hi ?_
    refine V.iload_n d_Str_charAt_11 rfl ?_
    refine V.callS2 d_Str_charAt_12 k_Str_495_Lat_charAtS (Nat.le_of_ble_eq_true rfl) (by omega) (by omega) (c_Lat_charAt (i := i) (j := j) hi hj ?_)
    refine V.zret d_Str_charAt_15 rfl (by rcases (show i = 0 ∨ i = 1 ∨ i = 2 ∨ i = 3 ∨ i = 4 ∨ i = 5 ∨ i = 6 ∨ i = 7 ∨ i = 8 ∨ i = 9 by omega) with rfl | rfl | rfl | rfl | rfl | rfl | rfl | rfl | rfl | rfl <;> (rcases (show j = 0 ∨ j = 1 ∨ j = 2 by omega) with rfl | rfl | rfl <;> rfl)) (Nat.le_of_ble_eq_true rfl) (Nat.le_of_ble_eq_true rfl) ?_
    exact hQ
