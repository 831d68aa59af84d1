/-- what of the cold's row may still be made -/
def bud (len : Nat) (kn : Kn) : Nat := if len ≤ 3 then 0 else match kn with | none => 1 | some _ => 0
theorem bud_le {len : Nat} {kn : Kn} : bud len kn ≤ 1 := by
  unfold bud
  split
  · omega
  · split <;> omega
theorem bud_3 {len : Nat} {kn : Kn} (h : len ≤ 3) : bud len kn = 0 := if_pos h
theorem bud_s {len : Nat} {p : Nat × (Nat → Int32)} : bud len (some p) = 0 := by unfold bud; split <;> rfl
theorem bud_n {len : Nat} (h : ¬ len ≤ 3) : bud len none = 1 := if_neg h
def cvc (Wc : Nat → Nat) (len : Nat) (x y z : Int32) : Int32 := hld (evc x y z Wc len) (-9) (nI 9)
def KO (cv : Int32 → Int32 → Int32 → Int32) (kn : Kn) : Prop := ∀ b f, kn = some (b, f) → ∀ x y z, x < 100 → y < 19 → z < 7 → f ((z * 19 + y) * 100 + x) = 0 ∨ f ((z * 19 + y) * 100 + x) = cv (nI x) (nI y) (nI z) + nI 10
theorem KO.none {cv : Int32 → Int32 → Int32 → Int32} : KO cv none := fun _ _ h => by cases h
theorem ix_inj {x y z x' y' z' : Nat} (hx : x < 100) (hy : y < 19) (hx' : x' < 100) (hy' : y' < 19) (h : (z * 19 + y) * 100 + x = (z' * 19 + y') * 100 + x') : x = x' ∧ y = y' ∧ z = z' := by omega
theorem KO.upd {cv : Int32 → Int32 → Int32 → Int32} {b x y z : Nat} {f : Nat → Int32} (h : KO cv (some (b, f))) (hx : x < 100) (hy : y < 19) (hz : z < 7) : KO cv (some (b, upd f ((z * 19 + y) * 100 + x) (cv (nI x) (nI y) (nI z) + nI 10))) := fun b' f' e x' y' z' hx' hy' hz' => by
  cases e
  by_cases he : (z' * 19 + y') * 100 + x' = (z * 19 + y) * 100 + x
  · obtain ⟨rfl, rfl, rfl⟩ := ix_inj hx' hy' hx hy he
    exact Or.inr pk_us
  · rw [pk_un he]; exact h _ _ rfl x' y' z' hx' hy' hz'
theorem hld_rng {v lo hi : Int32} (h : lo ≤ hi) : lo ≤ hld v lo hi ∧ hld v lo hi ≤ hi := by
  unfold hld
  by_cases h1 : v < lo
  · rw [if_pos h1]; exact ⟨Int32.le_refl _, h⟩
  · rw [if_neg h1]
    by_cases h2 : hi < v
    · rw [if_pos h2]; exact ⟨h, Int32.le_refl _⟩
    · rw [if_neg h2]; exact ⟨Int32.not_lt.mp h1, Int32.not_lt.mp h2⟩
theorem cvc_nat {Wc : Nat → Nat} {len : Nat} {x y z : Int32} : ∃ k, k ≤ 18 ∧ cvc Wc len x y z = nI k - nI 9 := by
  have ⟨h1, h2⟩ := hld_rng (v := evc x y z Wc len) (lo := -9) (hi := nI 9) (by decide +kernel)
  have h1' : (-9 : Int) ≤ (cvc Wc len x y z).toInt := by have := Int32.le_iff_toInt_le.mp h1; unfold cvc; simpa using this
  have h2' : (cvc Wc len x y z).toInt ≤ 9 := by have := Int32.le_iff_toInt_le.mp h2; unfold cvc; simpa [nI] using this
  refine ⟨((cvc Wc len x y z).toInt + 9).toNat, by omega, ?_⟩
  apply Int32.toInt_inj.mp
  rw [Int32.toInt_sub, nI_toInt (by omega), nI_toInt (by omega)]
  rw [show (((cvc Wc len x y z).toInt + 9).toNat : Int) = (cvc Wc len x y z).toInt + 9 by omega]
  rw [show (cvc Wc len x y z).toInt + 9 - ((9 : Nat) : Int) = (cvc Wc len x y z).toInt by omega]
  rw [Int.bmod_def]
  split <;> omega
theorem cv_byte : ∀ k, k ≤ 18 → (((nI k - nI 9) - (-9) + nI 1).toInt8.toInt32).toInt8.toInt32 = (nI k - nI 9) + nI 10 ∧ ((nI k - nI 9) + nI 10) + (-9) - nI 1 = nI k - nI 9 ∧ ¬ (nI k - nI 9) + nI 10 = 0 := by decide +kernel
theorem cvc_byte {Wc : Nat → Nat} {len : Nat} {x y z : Int32} : ((cvc Wc len x y z - (-9) + nI 1).toInt8.toInt32).toInt8.toInt32 = cvc Wc len x y z + nI 10 ∧ (cvc Wc len x y z + nI 10) + (-9) - nI 1 = cvc Wc len x y z ∧ ¬ cvc Wc len x y z + nI 10 = 0 := by
  obtain ⟨k, hk, e⟩ := cvc_nat (Wc := Wc) (len := len) (x := x) (y := y) (z := z)
  rw [e]
  exact cv_byte k hk
section KNW
variable {R W Z : Nat → Nat → Int32} {T : Nat → Nat → Nat} {kn : Kn} {h0 : HP} {n : Nat}
theorem TI.knw {kn' : Kn} {n' : Nat} (h : TI T kn n) (hn : n ≤ n') (hk : ∀ b f, kn' = some (b, f) → okA b n' ∧ ∀ w i, w < 3 → i < 8 → T w i ≠ b) : TI T kn' n' := ⟨fun w i hw hi => ⟨(h.1 w i hw hi).1, (h.1 w i hw hi).2.1, by have := (h.1 w i hw hi).2.2; omega⟩, h.2.1, hk, by have := h.2.2.2; omega⟩
theorem TI.fresh {f : Nat → Int32} (h : TI T kn n) : TI T (some (n, f)) (n + 1) := h.knw (by omega) (fun b f e => by
  cases e
  have h4 := h.2.2.2
  exact ⟨⟨ds_big (by omega), by omega, by omega⟩, fun w i hw hi e => by have := (h.1 w i hw hi).2.2; omega⟩)
theorem TI.same {b : Nat} {f g : Nat → Int32} (h : TI T (some (b, f)) n) : TI T (some (b, g)) n := h.knw (Nat.le_refl _) (fun b' f' e => by cases e; exact h.2.2.1 b f rfl)
theorem sc_kn {kn' : Kn} {a : Nat} (ha : a ≠ 3) : sc R W Z T kn a = sc R W Z T kn' a := by
  unfold sc
  by_cases h4 : (ds a).1 = 4
  · obtain ⟨h1, h2⟩ := ds_tx h4
    have e : tfl Z kn (ds a).2 = tfl Z kn' (ds a).2 := by
      unfold tfl knv
      rw [if_neg (by omega), if_neg (by omega)]
    rw [e]
  · simp only [if_neg h4]
theorem co_kn {f : Nat → Int32} (h : TI T none n) : up (up (co R W Z T none h0) n (.inl (1, 13300, .inl f))) 3 (.inr (3, (tfl Z none 0).set 10 (.ref n))) = co R W Z T (some (n, f)) h0 := by
  have h4 := h.2.2.2
  funext a
  by_cases h3 : a = 3
  · subst h3; rw [up_s]; exact (co_s rfl).symm
  · rw [up_n h3]
    by_cases hn : a = n
    · subst hn; rw [up_s]; exact (co_k h.fresh rfl).symm
    · rw [up_n hn]
      unfold co
      rw [sc_kn (kn' := some (n, f)) h3]
      cases sc R W Z T (some (n, f)) a with
      | some e => rfl
      | none =>
        by_cases hex : ∃ p : Nat × Nat, p.1 < 3 ∧ p.2 < 8 ∧ T p.1 p.2 = a
        · simp only [dif_pos hex]
        · simp only [dif_neg hex, if_neg hn]
theorem co_ukn {b : Nat} {f g : Nat → Int32} (h : TI T (some (b, f)) n) : up (co R W Z T (some (b, f)) h0) b (.inl (1, 13300, .inl g)) = co R W Z T (some (b, g)) h0 := by
  funext a
  by_cases hb : a = b
  · subst hb; rw [up_s]; exact (co_k h.same rfl).symm
  · rw [up_n hb]
    unfold co
    have e : sc R W Z T (some (b, f)) a = sc R W Z T (some (b, g)) a := by
      by_cases h3 : a = 3
      · subst h3; rfl
      · exact sc_kn h3
    rw [e]
    cases sc R W Z T (some (b, g)) a with
    | some e => rfl
    | none =>
      by_cases hex : ∃ p : Nat × Nat, p.1 < 3 ∧ p.2 < 8 ∧ T p.1 p.2 = a
      · simp only [dif_pos hex]
      · simp only [dif_neg hex, if_neg hb]
end KNW
abbrev M_Text_cooling : MD := (⟨"FelledByNames$Text", "cooling", "(III)I"⟩, prog_9_method_16_code, 5, (some .int), fun _ => True)
theorem d_Text_cooling_0 : decode prog_9_method_16_code 0 = .ok (.iload_n 3, 1) := by decide +kernel
theorem d_Text_cooling_1 : decode prog_9_method_16_code 1 = .ok (.bipush 19, 2) := by decide +kernel
theorem d_Text_cooling_3 : decode prog_9_method_16_code 3 = .ok (.imul, 1) := by decide +kernel
theorem d_Text_cooling_4 : decode prog_9_method_16_code 4 = .ok (.iload_n 2, 1) := by decide +kernel
theorem d_Text_cooling_5 : decode prog_9_method_16_code 5 = .ok (.iadd, 1) := by decide +kernel
theorem d_Text_cooling_6 : decode prog_9_method_16_code 6 = .ok (.bipush 100, 2) := by decide +kernel
theorem d_Text_cooling_8 : decode prog_9_method_16_code 8 = .ok (.imul, 1) := by decide +kernel
theorem d_Text_cooling_9 : decode prog_9_method_16_code 9 = .ok (.iload_n 1, 1) := by decide +kernel
theorem d_Text_cooling_10 : decode prog_9_method_16_code 10 = .ok (.iadd, 1) := by decide +kernel
theorem d_Text_cooling_11 : decode prog_9_method_16_code 11 = .ok (.istore 4, 2) := by decide +kernel
theorem d_Text_cooling_13 : decode prog_9_method_16_code 13 = .ok (.aload_n 0, 1) := by decide +kernel
theorem d_Text_cooling_14 : decode prog_9_method_16_code 14 = .ok (.getfield 16, 3) := by decide +kernel
theorem d_Text_cooling_17 : decode prog_9_method_16_code 17 = .ok (.getfield 89, 3) := by decide +kernel
theorem d_Text_cooling_20 : decode prog_9_method_16_code 20 = .ok (.iconst 3, 1) := by decide +kernel
theorem d_Text_cooling_21 : decode prog_9_method_16_code 21 = .ok (.if_icmp .le 16, 3) := by decide +kernel
theorem d_Text_cooling_37 : decode prog_9_method_16_code 37 = .ok (.aload_n 0, 1) := by decide +kernel
theorem d_Text_cooling_38 : decode prog_9_method_16_code 38 = .ok (.iload_n 1, 1) := by decide +kernel
theorem d_Text_cooling_39 : decode prog_9_method_16_code 39 = .ok (.iload_n 2, 1) := by decide +kernel
theorem d_Text_cooling_40 : decode prog_9_method_16_code 40 = .ok (.iload_n 3, 1) := by decide +kernel
theorem d_Text_cooling_41 : decode prog_9_method_16_code 41 = .ok (.invokevirtual 155, 3) := by decide +kernel
theorem kB_Text_gives : kB M_Text_gives 3 := ⟨tm 4 (by decide +kernel) rfl, tm 696 (by decide +kernel) rfl, ⟨by decide, by decide, by decide +kernel⟩, by decide⟩
theorem k_Text_155_Text_gives_TextV : kV "FelledByNames$Text" 155 3 M_Text_gives 3 := ⟨kB_Text_gives, tm 721 (by decide +kernel) rfl, tm 694 (by decide +kernel) rfl, tm 695 (by decide +kernel) rfl, _, rfl, rfl⟩
theorem d_Text_cooling_44 : decode prog_9_method_16_code 44 = .ok (.ireturn, 1) := by decide +kernel
set_option maxRecDepth 100000 in
theorem c_Text_cooling1 {len x y z : Nat} {Wc : Nat → Nat} {l : Launch} {d n : Nat} {R W Z : Nat → Nat → Int32} {T : Nat → Nat → Nat} {kn : Kn} {h0 : HP} {Q : QT} (hX : Wf Wc len) (hz : Z (4 + 6 * 0) 1 = nI len) (hC : ∀ k, k < len → R (4 + 6 * 0 + 1) k = nI (Wc k)) (hx : x < 100) (hy : y < 19) (hzz : z < 7) (h3 : len ≤ 3) (hQ : ∀ P : Nat → Int32, Q (some (.int (cvc Wc len (nI x) (nI y) (nI z)))) n (co (uA R 8 P) W Z T kn h0)) : Ct l M_Text_cooling (d + 3) 0 0 [.ref 3, .int (nI x), .int (nI y), .int (nI z)] n (co R W Z T kn h0) Q := by
  refine Ct.of (fun _ => trivial) (by decide) (Nat.le_of_ble_eq_true rfl) ?_
  have hl50 := hX.1
  refine V.iload_n d_Text_cooling_0 rfl ?_
  refine V.bipush_ (nI 19) d_Text_cooling_1 (by decide +kernel) ?_
  refine V.mulN d_Text_cooling_3 ?_
  refine V.iload_n d_Text_cooling_4 rfl ?_
  refine V.addN d_Text_cooling_5 ?_
  refine V.bipush_ (nI 100) d_Text_cooling_6 (by decide +kernel) ?_
  refine V.mulN d_Text_cooling_8 ?_
  refine V.iload_n d_Text_cooling_9 rfl ?_
  refine V.addN d_Text_cooling_10 ?_
  refine V.istore d_Text_cooling_11 (by decide) ?_
  refine V.aload_n d_Text_cooling_13 rfl ?_
  refine V.get d_Text_cooling_14 f_Text_16_Text (co_s (sc_tx (tx_ds 0 (by decide)).1)) rfl ?_
  refine V.get d_Text_cooling_17 f_Text_89_Row (co_s (sc_rw (tx_ds 0 (by decide)).2.1)) rfl ?_
  refine V.top (y := nI (len)) hz ?_
  refine V.iconst_ (nI 3) d_Text_cooling_20 (by decide +kernel) ?_
  refine V.leN (tgt := 37) d_Text_cooling_21 (by decide) (by omega) (by omega) (fun c_21 => ?_) (fun c_21 => ?_)
  · skip
    refine V.aload_n d_Text_cooling_37 rfl ?_
    refine V.iload_n d_Text_cooling_38 rfl ?_
    refine V.iload_n d_Text_cooling_39 rfl ?_
    refine V.iload_n d_Text_cooling_40 rfl ?_
    refine V.callV3 d_Text_cooling_41 k_Text_155_Text_gives_TextV (co_s (sc_tx (tx_ds 0 (by decide)).1)) (Nat.le_of_ble_eq_true rfl) (by omega) (by omega) (c_Text_gives (u := 0) (by decide) hX hz hC (fun P => ?_))
    refine V.iret d_Text_cooling_44 rfl (Nat.le_of_ble_eq_true rfl) (Nat.le_of_ble_eq_true rfl) ?_
    exact hQ _
  · skip
    exact absurd c_21 (by omega)
theorem d_Text_cooling_24 : decode prog_9_method_16_code 24 = .ok (.iload 4, 2) := by decide +kernel
theorem d_Text_cooling_26 : decode prog_9_method_16_code 26 = .ok (.ifCond .lt 11, 3) := by decide +kernel
theorem d_Text_cooling_29 : decode prog_9_method_16_code 29 = .ok (.iload 4, 2) := by decide +kernel
theorem d_Text_cooling_31 : decode prog_9_method_16_code 31 = .ok (.sipush 13300, 3) := by decide +kernel
theorem d_Text_cooling_34 : decode prog_9_method_16_code 34 = .ok (.if_icmp .lt 11, 3) := by decide +kernel
theorem d_Text_cooling_45 : decode prog_9_method_16_code 45 = .ok (.aload_n 0, 1) := by decide +kernel
theorem d_Text_cooling_46 : decode prog_9_method_16_code 46 = .ok (.getfield 37, 3) := by decide +kernel
theorem f_Text_37_Text : fok "FelledByNames$Text" 37 3 10 := ⟨R_Text, F_Text, 11, "FelledByNames$Text", rfl, i_Text, by decide, tm 79 (by decide +kernel) rfl, Or.inl rfl, t_Text, t_Text_ok, n_Text⟩
theorem d_Text_cooling_49 : decode prog_9_method_16_code 49 = .ok (.ifnonnull 12, 3) := by decide +kernel
theorem d_Text_cooling_61 : decode prog_9_method_16_code 61 = .ok (.aload_n 0, 1) := by decide +kernel
theorem d_Text_cooling_62 : decode prog_9_method_16_code 62 = .ok (.getfield 37, 3) := by decide +kernel
theorem d_Text_cooling_65 : decode prog_9_method_16_code 65 = .ok (.iload 4, 2) := by decide +kernel
theorem d_Text_cooling_67 : decode prog_9_method_16_code 67 = .ok (.baload, 1) := by decide +kernel
theorem d_Text_cooling_68 : decode prog_9_method_16_code 68 = .ok (.ifCond .ne 25, 3) := by decide +kernel
theorem d_Text_cooling_93 : decode prog_9_method_16_code 93 = .ok (.aload_n 0, 1) := by decide +kernel
theorem d_Text_cooling_94 : decode prog_9_method_16_code 94 = .ok (.getfield 37, 3) := by decide +kernel
theorem d_Text_cooling_97 : decode prog_9_method_16_code 97 = .ok (.iload 4, 2) := by decide +kernel
theorem d_Text_cooling_99 : decode prog_9_method_16_code 99 = .ok (.baload, 1) := by decide +kernel
theorem d_Text_cooling_100 : decode prog_9_method_16_code 100 = .ok (.aload_n 0, 1) := by decide +kernel
theorem d_Text_cooling_101 : decode prog_9_method_16_code 101 = .ok (.getfield 48, 3) := by decide +kernel
theorem d_Text_cooling_104 : decode prog_9_method_16_code 104 = .ok (.iadd, 1) := by decide +kernel
theorem d_Text_cooling_105 : decode prog_9_method_16_code 105 = .ok (.iconst 1, 1) := by decide +kernel
theorem d_Text_cooling_106 : decode prog_9_method_16_code 106 = .ok (.isub, 1) := by decide +kernel
theorem d_Text_cooling_107 : decode prog_9_method_16_code 107 = .ok (.ireturn, 1) := by decide +kernel
theorem d_Text_cooling_71 : decode prog_9_method_16_code 71 = .ok (.aload_n 0, 1) := by decide +kernel
theorem d_Text_cooling_72 : decode prog_9_method_16_code 72 = .ok (.getfield 37, 3) := by decide +kernel
theorem d_Text_cooling_75 : decode prog_9_method_16_code 75 = .ok (.iload 4, 2) := by decide +kernel
theorem d_Text_cooling_77 : decode prog_9_method_16_code 77 = .ok (.aload_n 0, 1) := by decide +kernel
theorem d_Text_cooling_78 : decode prog_9_method_16_code 78 = .ok (.iload_n 1, 1) := by decide +kernel
theorem d_Text_cooling_79 : decode prog_9_method_16_code 79 = .ok (.iload_n 2, 1) := by decide +kernel
theorem d_Text_cooling_80 : decode prog_9_method_16_code 80 = .ok (.iload_n 3, 1) := by decide +kernel
theorem d_Text_cooling_81 : decode prog_9_method_16_code 81 = .ok (.invokevirtual 155, 3) := by decide +kernel
theorem d_Text_cooling_84 : decode prog_9_method_16_code 84 = .ok (.aload_n 0, 1) := by decide +kernel
theorem d_Text_cooling_85 : decode prog_9_method_16_code 85 = .ok (.getfield 48, 3) := by decide +kernel
theorem d_Text_cooling_88 : decode prog_9_method_16_code 88 = .ok (.isub, 1) := by decide +kernel
theorem d_Text_cooling_89 : decode prog_9_method_16_code 89 = .ok (.iconst 1, 1) := by decide +kernel
theorem d_Text_cooling_90 : decode prog_9_method_16_code 90 = .ok (.iadd, 1) := by decide +kernel
theorem d_Text_cooling_91 : decode prog_9_method_16_code 91 = .ok (.i2b, 1) := by decide +kernel
theorem d_Text_cooling_92 : decode prog_9_method_16_code 92 = .ok (.bastore, 1) := by decide +kernel
set_option maxRecDepth 100000 in
theorem c_Text_cooling2 {len x y z b : Nat} {Wc : Nat → Nat} {f : Nat → Int32} {l : Launch} {d n : Nat} {R W Z : Nat → Nat → Int32} {T : Nat → Nat → Nat} {kn : Kn} {h0 : HP} {Q : QT} (hX : Wf Wc len) (hz : Z (4 + 6 * 0) 1 = nI len) (hC : ∀ k, k < len → R (4 + 6 * 0 + 1) k = nI (Wc k)) (hx : x < 100) (hy : y < 19) (hzz : z < 7) (h3 : ¬ len ≤ 3) (hT : TI T (some (b, f)) n) (hK : KO (cvc Wc len) (some (b, f))) (hQ : ∀ (P g : Nat → Int32), KO (cvc Wc len) (some (b, g)) → Q (some (.int (cvc Wc len (nI x) (nI y) (nI z)))) n (co (uA R 8 P) W Z T (some (b, g)) h0)) : Ct l M_Text_cooling (d + 3) 0 0 [.ref 3, .int (nI x), .int (nI y), .int (nI z)] n (co R W Z T (some (b, f)) h0) Q := by
  refine Ct.of (fun _ => trivial) (by decide) (Nat.le_of_ble_eq_true rfl) ?_
  have hl50 := hX.1
  obtain ⟨cb1, cb2, cb3⟩ := cvc_byte (Wc := Wc) (len := len) (x := nI x) (y := nI y) (z := nI z)
  have cb1q : ((hld (evc (nI x) (nI y) (nI z) Wc len) (lwv 0) (hgv 0) - lwv 0 + nI 1).toInt8.toInt32).toInt8.toInt32 = cvc Wc len (nI x) (nI y) (nI z) + nI 10 := cb1
  have cb2q : cvc Wc len (nI x) (nI y) (nI z) + nI 10 + lwv 0 - nI 1 = cvc Wc len (nI x) (nI y) (nI z) := cb2
  have hfi := hK b f rfl x y z hx hy hzz
  refine V.iload_n d_Text_cooling_0 rfl ?_
  refine V.bipush_ (nI 19) d_Text_cooling_1 (by decide +kernel) ?_
  refine V.mulN d_Text_cooling_3 ?_
  refine V.iload_n d_Text_cooling_4 rfl ?_
  refine V.addN d_Text_cooling_5 ?_
  refine V.bipush_ (nI 100) d_Text_cooling_6 (by decide +kernel) ?_
  refine V.mulN d_Text_cooling_8 ?_
  refine V.iload_n d_Text_cooling_9 rfl ?_
  refine V.addN d_Text_cooling_10 ?_
  refine V.istore d_Text_cooling_11 (by decide) ?_
  refine V.aload_n d_Text_cooling_13 rfl ?_
  refine V.get d_Text_cooling_14 f_Text_16_Text (co_s (sc_tx (tx_ds 0 (by decide)).1)) rfl ?_
  refine V.get d_Text_cooling_17 f_Text_89_Row (co_s (sc_rw (tx_ds 0 (by decide)).2.1)) rfl ?_
  refine V.top (y := nI (len)) hz ?_
  refine V.iconst_ (nI 3) d_Text_cooling_20 (by decide +kernel) ?_
  refine V.leN (tgt := 37) d_Text_cooling_21 (by decide) (by omega) (by omega) (fun c_21 => ?_) (fun c_21 => ?_)
  · skip
    first | exact absurd c_21 (by omega) | exact absurd c_26 (Int32.not_lt.mpr ((nI_leI (a := 0) (by decide) (by omega)).mpr (Nat.zero_le _))) | exact absurd c_34 (by omega)
  · skip
    refine V.iload d_Text_cooling_24 rfl ?_
    refine V.if_lt (tgt := 37) d_Text_cooling_26 (by decide) (fun c_26 => ?_) (fun c_26 => ?_)
    · skip
      first | exact absurd c_21 (by omega) | exact absurd c_26 (Int32.not_lt.mpr ((nI_leI (a := 0) (by decide) (by omega)).mpr (Nat.zero_le _))) | exact absurd c_34 (by omega)
    · skip
      refine V.iload d_Text_cooling_29 rfl ?_
      refine V.sipush_ (nI 13300) d_Text_cooling_31 (by decide +kernel) ?_
      refine V.ltN (tgt := 45) d_Text_cooling_34 (by decide) (by omega) (by omega) (fun c_34 => ?_) (fun c_34 => ?_)
      · skip
        refine V.aload_n d_Text_cooling_45 rfl ?_
        refine V.get d_Text_cooling_46 f_Text_37_Text (co_s (sc_tx (tx_ds 0 (by decide)).1)) rfl ?_
        refine V.ifnonnull (tgt := 61) d_Text_cooling_49 (by decide) ?_
        refine V.aload_n d_Text_cooling_61 rfl ?_
        refine V.get d_Text_cooling_62 f_Text_37_Text (co_s (sc_tx (tx_ds 0 (by decide)).1)) rfl ?_
        refine V.iload d_Text_cooling_65 rfl ?_
        refine V.bald d_Text_cooling_67 (co_k hT rfl) (vp_in_nI (by omega) (by omega)) ?_
        try rw [icl (by omega)]
        refine V.if_ne (tgt := 93) d_Text_cooling_68 (by decide) (fun c_68 => ?_) (fun c_68 => ?_)
        · skip
          refine V.aload_n d_Text_cooling_93 rfl ?_
          refine V.get d_Text_cooling_94 f_Text_37_Text (co_s (sc_tx (tx_ds 0 (by decide)).1)) rfl ?_
          refine V.iload d_Text_cooling_97 rfl ?_
          refine V.bald d_Text_cooling_99 (co_k hT rfl) (vp_in_nI (by omega) (by omega)) ?_
          refine V.aload_n d_Text_cooling_100 rfl ?_
          refine V.get d_Text_cooling_101 f_Text_48_Text (co_s (sc_tx (tx_ds 0 (by decide)).1)) rfl ?_
          refine V.iadd d_Text_cooling_104 ?_
          refine V.iconst_ (nI 1) d_Text_cooling_105 (by decide +kernel) ?_
          refine V.isub d_Text_cooling_106 ?_
          refine V.iret d_Text_cooling_107 rfl (Nat.le_of_ble_eq_true rfl) (Nat.le_of_ble_eq_true rfl) ?_
          first
          | (have e1 := hfi.resolve_left c_68
             rw [icl (by omega), e1, cb2q]
             have hQ' := hQ (R 8) f hK
             rw [uA_id] at hQ'
             exact hQ')
          | (rw [icl (by omega), pk_us, cb1q, cb2q]
             exact hQ _ _ (hK.upd hx hy hzz))
        · skip
          refine V.aload_n d_Text_cooling_71 rfl ?_
          refine V.get d_Text_cooling_72 f_Text_37_Text (co_s (sc_tx (tx_ds 0 (by decide)).1)) rfl ?_
          refine V.iload d_Text_cooling_75 rfl ?_
          refine V.aload_n d_Text_cooling_77 rfl ?_
          refine V.iload_n d_Text_cooling_78 rfl ?_
          refine V.iload_n d_Text_cooling_79 rfl ?_
          refine V.iload_n d_Text_cooling_80 rfl ?_
          refine V.callV3 d_Text_cooling_81 k_Text_155_Text_gives_TextV (co_s (sc_tx (tx_ds 0 (by decide)).1)) (Nat.le_of_ble_eq_true rfl) (by omega) (by omega) (c_Text_gives (u := 0) (by decide) hX hz hC (fun P => ?_))
          refine V.aload_n d_Text_cooling_84 rfl ?_
          refine V.get d_Text_cooling_85 f_Text_48_Text (co_s (sc_tx (tx_ds 0 (by decide)).1)) rfl ?_
          refine V.isub d_Text_cooling_88 ?_
          refine V.iconst_ (nI 1) d_Text_cooling_89 (by decide +kernel) ?_
          refine V.iadd d_Text_cooling_90 ?_
          refine V.i2b d_Text_cooling_91 ?_
          refine V.bast d_Text_cooling_92 (co_k hT rfl) (vp_in_nI (by omega) (by omega)) ?_
          refine V.eqH (co_ukn hT) ?_
          rw [icl (by omega)]
          refine V.aload_n d_Text_cooling_93 rfl ?_
          refine V.get d_Text_cooling_94 f_Text_37_Text (co_s (sc_tx (tx_ds 0 (by decide)).1)) rfl ?_
          refine V.iload d_Text_cooling_97 rfl ?_
          refine V.bald d_Text_cooling_99 (co_k hT.same rfl) (vp_in_nI (by omega) (by omega)) ?_
          refine V.aload_n d_Text_cooling_100 rfl ?_
          refine V.get d_Text_cooling_101 f_Text_48_Text (co_s (sc_tx (tx_ds 0 (by decide)).1)) rfl ?_
          refine V.iadd d_Text_cooling_104 ?_
          refine V.iconst_ (nI 1) d_Text_cooling_105 (by decide +kernel) ?_
          refine V.isub d_Text_cooling_106 ?_
          refine V.iret d_Text_cooling_107 rfl (Nat.le_of_ble_eq_true rfl) (Nat.le_of_ble_eq_true rfl) ?_
          first
          | (have e1 := hfi.resolve_left c_68
             rw [icl (by omega), e1, cb2q]
             have hQ' := hQ (R 8) f hK
             rw [uA_id] at hQ'
             exact hQ')
          | (rw [icl (by omega), pk_us, cb1q, cb2q]
             exact hQ _ _ (hK.upd hx hy hzz))
      · skip
        first | exact absurd c_21 (by omega) | exact absurd c_26 (Int32.not_lt.mpr ((nI_leI (a := 0) (by decide) (by omega)).mpr (Nat.zero_le _))) | exact absurd c_34 (by omega)
theorem d_Text_cooling_52 : decode prog_9_method_16_code 52 = .ok (.aload_n 0, 1) := by decide +kernel
theorem d_Text_cooling_53 : decode prog_9_method_16_code 53 = .ok (.sipush 13300, 3) := by decide +kernel
theorem d_Text_cooling_56 : decode prog_9_method_16_code 56 = .ok (.newarray .byte, 2) := by decide +kernel
theorem d_Text_cooling_58 : decode prog_9_method_16_code 58 = .ok (.putfield 37, 3) := by decide +kernel
theorem fp_Text_10 : fpk 3 10 (.array .byte) := ⟨_, _, _, rfl, rfl, by decide +kernel⟩
set_option maxRecDepth 100000 in
theorem c_Text_cooling3 {len x y z : Nat} {Wc : Nat → Nat} {l : Launch} {d n : Nat} {R W Z : Nat → Nat → Int32} {T : Nat → Nat → Nat} {kn : Kn} {h0 : HP} {Q : QT} (hX : Wf Wc len) (hz : Z (4 + 6 * 0) 1 = nI len) (hC : ∀ k, k < len → R (4 + 6 * 0 + 1) k = nI (Wc k)) (hx : x < 100) (hy : y < 19) (hzz : z < 7) (h3 : ¬ len ≤ 3) (hT : TI T none n) (hQ : ∀ (P g : Nat → Int32), KO (cvc Wc len) (some (n, g)) → Q (some (.int (cvc Wc len (nI x) (nI y) (nI z)))) (n + 1) (co (uA R 8 P) W Z T (some (n, g)) h0)) : Ct l M_Text_cooling (d + 3) 1 13300 [.ref 3, .int (nI x), .int (nI y), .int (nI z)] n (co R W Z T none h0) Q := by
  refine Ct.of (fun _ => trivial) (by decide) (Nat.le_of_ble_eq_true rfl) ?_
  have hl50 := hX.1
  obtain ⟨cb1, cb2, cb3⟩ := cvc_byte (Wc := Wc) (len := len) (x := nI x) (y := nI y) (z := nI z)
  have cb1q : ((hld (evc (nI x) (nI y) (nI z) Wc len) (lwv 0) (hgv 0) - lwv 0 + nI 1).toInt8.toInt32).toInt8.toInt32 = cvc Wc len (nI x) (nI y) (nI z) + nI 10 := cb1
  have cb2q : cvc Wc len (nI x) (nI y) (nI z) + nI 10 + lwv 0 - nI 1 = cvc Wc len (nI x) (nI y) (nI z) := cb2
  have hT4 := hT.2.2.2
  have hK0 : KO (cvc Wc len) (some (n, fun _ => 0)) := fun b f e x y z _ _ _ => by cases e; exact Or.inl rfl
  refine V.iload_n d_Text_cooling_0 rfl ?_
  refine V.bipush_ (nI 19) d_Text_cooling_1 (by decide +kernel) ?_
  refine V.mulN d_Text_cooling_3 ?_
  refine V.iload_n d_Text_cooling_4 rfl ?_
  refine V.addN d_Text_cooling_5 ?_
  refine V.bipush_ (nI 100) d_Text_cooling_6 (by decide +kernel) ?_
  refine V.mulN d_Text_cooling_8 ?_
  refine V.iload_n d_Text_cooling_9 rfl ?_
  refine V.addN d_Text_cooling_10 ?_
  refine V.istore d_Text_cooling_11 (by decide) ?_
  refine V.aload_n d_Text_cooling_13 rfl ?_
  refine V.get d_Text_cooling_14 f_Text_16_Text (co_s (sc_tx (tx_ds 0 (by decide)).1)) rfl ?_
  refine V.get d_Text_cooling_17 f_Text_89_Row (co_s (sc_rw (tx_ds 0 (by decide)).2.1)) rfl ?_
  refine V.top (y := nI (len)) hz ?_
  refine V.iconst_ (nI 3) d_Text_cooling_20 (by decide +kernel) ?_
  refine V.leN (tgt := 37) d_Text_cooling_21 (by decide) (by omega) (by omega) (fun c_21 => ?_) (fun c_21 => ?_)
  · skip
    first | exact absurd c_21 (by omega) | exact absurd c_26 (Int32.not_lt.mpr ((nI_leI (a := 0) (by decide) (by omega)).mpr (Nat.zero_le _))) | exact absurd c_34 (by omega)
  · skip
    refine V.iload d_Text_cooling_24 rfl ?_
    refine V.if_lt (tgt := 37) d_Text_cooling_26 (by decide) (fun c_26 => ?_) (fun c_26 => ?_)
    · skip
      first | exact absurd c_21 (by omega) | exact absurd c_26 (Int32.not_lt.mpr ((nI_leI (a := 0) (by decide) (by omega)).mpr (Nat.zero_le _))) | exact absurd c_34 (by omega)
    · skip
      refine V.iload d_Text_cooling_29 rfl ?_
      refine V.sipush_ (nI 13300) d_Text_cooling_31 (by decide +kernel) ?_
      refine V.ltN (tgt := 45) d_Text_cooling_34 (by decide) (by omega) (by omega) (fun c_34 => ?_) (fun c_34 => ?_)
      · skip
        refine V.aload_n d_Text_cooling_45 rfl ?_
        refine V.get d_Text_cooling_46 f_Text_37_Text (co_s (sc_tx (tx_ds 0 (by decide)).1)) rfl ?_
        refine V.ifnonnullN d_Text_cooling_49 ?_
        refine V.aload_n d_Text_cooling_52 rfl ?_
        refine V.sipush_ (nI 13300) d_Text_cooling_53 (by decide +kernel) ?_
        refine V.newarr d_Text_cooling_56 (Or.inr ⟨rfl, rfl, rfl⟩) rfl (by first | decide | omega) (tm 103 (by decide +kernel) rfl) (by omega) (by omega) ?_
        refine V.put d_Text_cooling_58 f_Text_37_Text fp_Text_10 (fun _ => rfl) (fun _ => rfl) ((up_n (by omega)).trans (co_s (sc_tx (tx_ds 0 (by decide)).1))) (Nat.le_of_ble_eq_true rfl) ?_
        refine V.eqH (co_kn hT) ?_
        refine V.aload_n d_Text_cooling_61 rfl ?_
        refine V.get d_Text_cooling_62 f_Text_37_Text (co_s (sc_tx (tx_ds 0 (by decide)).1)) rfl ?_
        refine V.iload d_Text_cooling_65 rfl ?_
        refine V.bald d_Text_cooling_67 (co_k hT.fresh rfl) (vp_in_nI (by omega) (by omega)) ?_
        try rw [icl (by omega)]
        refine V.if_ne (tgt := 93) d_Text_cooling_68 (by decide) (fun c_68 => ?_) (fun c_68 => ?_)
        · skip
          refine V.aload_n d_Text_cooling_93 rfl ?_
          refine V.get d_Text_cooling_94 f_Text_37_Text (co_s (sc_tx (tx_ds 0 (by decide)).1)) rfl ?_
          refine V.iload d_Text_cooling_97 rfl ?_
          refine V.bald d_Text_cooling_99 (co_k hT.fresh rfl) (vp_in_nI (by omega) (by omega)) ?_
          refine V.aload_n d_Text_cooling_100 rfl ?_
          refine V.get d_Text_cooling_101 f_Text_48_Text (co_s (sc_tx (tx_ds 0 (by decide)).1)) rfl ?_
          refine V.iadd d_Text_cooling_104 ?_
          refine V.iconst_ (nI 1) d_Text_cooling_105 (by decide +kernel) ?_
          refine V.isub d_Text_cooling_106 ?_
          refine V.iret d_Text_cooling_107 rfl (Nat.le_of_ble_eq_true rfl) (Nat.le_of_ble_eq_true rfl) ?_
          first
          | exact absurd rfl c_68
          | (rw [icl (by omega), pk_us, cb1q, cb2q]
             exact hQ _ _ (hK0.upd hx hy hzz))
        · skip
          refine V.aload_n d_Text_cooling_71 rfl ?_
          refine V.get d_Text_cooling_72 f_Text_37_Text (co_s (sc_tx (tx_ds 0 (by decide)).1)) rfl ?_
          refine V.iload d_Text_cooling_75 rfl ?_
          refine V.aload_n d_Text_cooling_77 rfl ?_
          refine V.iload_n d_Text_cooling_78 rfl ?_
          refine V.iload_n d_Text_cooling_79 rfl ?_
          refine V.iload_n d_Text_cooling_80 rfl ?_
          refine V.callV3 d_Text_cooling_81 k_Text_155_Text_gives_TextV (co_s (sc_tx (tx_ds 0 (by decide)).1)) (Nat.le_of_ble_eq_true rfl) (by omega) (by omega) (c_Text_gives (u := 0) (by decide) hX hz hC (fun P => ?_))
          refine V.aload_n d_Text_cooling_84 rfl ?_
          refine V.get d_Text_cooling_85 f_Text_48_Text (co_s (sc_tx (tx_ds 0 (by decide)).1)) rfl ?_
          refine V.isub d_Text_cooling_88 ?_
          refine V.iconst_ (nI 1) d_Text_cooling_89 (by decide +kernel) ?_
          refine V.iadd d_Text_cooling_90 ?_
          refine V.i2b d_Text_cooling_91 ?_
          refine V.bast d_Text_cooling_92 (co_k hT.fresh rfl) (vp_in_nI (by omega) (by omega)) ?_
          refine V.eqH (co_ukn hT.fresh) ?_
          rw [icl (by omega)]
          refine V.aload_n d_Text_cooling_93 rfl ?_
          refine V.get d_Text_cooling_94 f_Text_37_Text (co_s (sc_tx (tx_ds 0 (by decide)).1)) rfl ?_
          refine V.iload d_Text_cooling_97 rfl ?_
          refine V.bald d_Text_cooling_99 (co_k hT.fresh rfl) (vp_in_nI (by omega) (by omega)) ?_
          refine V.aload_n d_Text_cooling_100 rfl ?_
          refine V.get d_Text_cooling_101 f_Text_48_Text (co_s (sc_tx (tx_ds 0 (by decide)).1)) rfl ?_
          refine V.iadd d_Text_cooling_104 ?_
          refine V.iconst_ (nI 1) d_Text_cooling_105 (by decide +kernel) ?_
          refine V.isub d_Text_cooling_106 ?_
          refine V.iret d_Text_cooling_107 rfl (Nat.le_of_ble_eq_true rfl) (Nat.le_of_ble_eq_true rfl) ?_
          first
          | exact absurd rfl c_68
          | (rw [icl (by omega), pk_us, cb1q, cb2q]
             exact hQ _ _ (hK0.upd hx hy hzz))
      · skip
        first | exact absurd c_21 (by omega) | exact absurd c_26 (Int32.not_lt.mpr ((nI_leI (a := 0) (by decide) (by omega)).mpr (Nat.zero_le _))) | exact absurd c_34 (by omega)
theorem c_Text_cooling {len x y z : Nat} {Wc : Nat → Nat} {l : Launch} {d n : Nat} {R W Z : Nat → Nat → Int32} {T : Nat → Nat → Nat} {kn : Kn} {h0 : HP} {Q : QT} (hX : Wf Wc len) (hz : Z (4 + 6 * 0) 1 = nI len) (hC : ∀ k, k < len → R (4 + 6 * 0 + 1) k = nI (Wc k)) (hx : x < 100) (hy : y < 19) (hzz : z < 7) (hT : TI T kn n) (hK : KO (cvc Wc len) kn) (hQ : ∀ (P : Nat → Int32) (kn' : Kn) (n' : Nat), TI T kn' n' → KO (cvc Wc len) kn' → bud len kn' = 0 → n ≤ n' → Q (some (.int (cvc Wc len (nI x) (nI y) (nI z)))) n' (co (uA R 8 P) W Z T kn' h0)) : Ct l M_Text_cooling (d + 3) (bud len kn) (13300 * bud len kn) [.ref 3, .int (nI x), .int (nI y), .int (nI z)] n (co R W Z T kn h0) Q := by
  by_cases h3 : len ≤ 3
  · rw [bud_3 h3]
    exact c_Text_cooling1 hX hz hC hx hy hzz h3 (fun P => hQ P kn n hT hK (bud_3 h3) (Nat.le_refl _))
  · cases kn with
    | none =>
      rw [bud_n h3]
      exact c_Text_cooling3 (kn := none) hX hz hC hx hy hzz h3 hT (fun P g hg => hQ P _ _ hT.fresh hg bud_s (by omega))
    | some p =>
      obtain ⟨b, f⟩ := p
      rw [bud_s]
      exact c_Text_cooling2 (kn := none) hX hz hC hx hy hzz h3 hT hK (fun P g hg => hQ P _ _ hT.same hg bud_s (Nat.le_refl _))
