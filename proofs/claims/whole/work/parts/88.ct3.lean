/-! ===== what stands when the class has been made, before its texts are read ===== -/
def LPx (f : HP) : Nat → List AE → Prop
  | _, [] => True
  | b, e :: L => f b = some e ∧ LPx f (b + 1) L
section LPS
variable {f g : HP}
theorem LPx_get {L : List AE} : ∀ {b k : Nat} {e : AE}, LPx f b L → L[k]? = some e → f (b + k) = some e := by
  induction L with
  | nil => intro b k e _ h; cases h
  | cons x L ih =>
    intro b k e h hk
    cases k with
    | zero => rw [List.getElem?_cons_zero] at hk; cases hk; exact h.1
    | succ k => rw [List.getElem?_cons_succ] at hk; rw [show b + (k + 1) = b + 1 + k by omega]; exact ih h.2 hk
theorem LPx_app {L L2 : List AE} : ∀ {b : Nat}, LPx f b L → LPx f (b + L.length) L2 → LPx f b (L ++ L2) := by
  induction L with
  | nil => intro b _ h; exact h
  | cons x L ih => intro b h h2; exact ⟨h.1, ih h.2 (by rw [show b + 1 + L.length = b + (x :: L).length by rw [List.length_cons]; omega]; exact h2)⟩
theorem LPx_ov {b : Nat} {L : List AE} (h : LPx f b L) (hl : ∀ a, a < b → f a = g a) (ho : ∀ a, b + L.length ≤ a → f a = none) : ov g b L = f := by
  funext a
  by_cases h1 : b ≤ a
  · rw [ov_ge h1]
    by_cases h2 : a - b < L.length
    · have h3 := LPx_get h (List.getElem?_eq_getElem h2)
      rw [List.getElem?_eq_getElem h2, ← h3, show b + (a - b) = a by omega]
    · rw [List.getElem?_eq_none (by omega), ho a (by omega)]
  · rw [ov_lt (by omega), hl a (by omega)]
end LPS
def txc (b u : Nat) (lo hi : Int32) : List AE := [.inr (3, [.ref (b + 1), .ref 1, .float (UInt32.ofNat u), .int lo, .int hi, .ref (b + 3), .ref (b + 5), .int (nI 0), .int (nI 0), .int (-1), .null]), rwc (b + 1) 0, zar 50, rwc (b + 3) 0, zar 50, zar 50]
def wcl (b : Nat) : List AE := wdv b 3 9 :: (wl b (tff b 8) (hst 36) (pcs 36).1 (pcs 36).2 ++ tlc 8)
def ssc (k : Nat) : AE := .inl (3, 4, .inr (.inr (.inr (.inr (fun i => if i < k then some (80 + 2 * i) else none)))))
def Z0 : Nat → Nat → Int32 := fun b j => if j = 9 ∧ (b = 3 ∨ b = 9) then -1 else if j = 1 ∧ (b = 22 ∨ b = 39 ∨ b = 62) then nI 30 else nI 0
def R0 : Nat → Nat → Int32 := fun a => if a = 23 ∨ a = 40 ∨ a = 63 then (pcs 36).2 else fun _ => 0
def E0 : Nat → Int32 := fun j => if j < 50 then D0 j else if (j - 50) % 7 = 3 ∨ (j - 50) % 7 = 6 then nI 1 else nI 0
def W0 : Nat → Nat → Int32 := fun _ => E0
def T0 : Nat → Nat → Nat := fun w i => wb w + 9 + i
def h53 (k : Nat) : HP := fun a => if a = 53 then some (ssc k) else none
def INI : List AE := (.inr (0, ofl Z0) :: [rwc 1 0, zar 50]) ++ (txc 3 0 (-9) (nI 9) ++ (txc 9 1 (nI 0) (nI 99) ++ (wcl 15 ++ (wcl 32 ++ ([rwc 49 0, zar 20, rwc 51 0, zar 40, ssc 0, zar 6] ++ (wcl 55 ++ [rwc 72 0, zar 50, rwc 74 0, zar 20, rwc 76 0, zar 50, rwc 78 0, zar 50]))))))
theorem T0_d : ∀ w, w < 3 → ∀ i, i < 8 → ds (T0 w i) = Ds.no ∧ dsQ (T0 w i) = Ds.no ∧ T0 w i < 80 := by decide +kernel
theorem wb_3 : ∀ w, w < 3 → (wb w = 15 ∧ w = 0) ∨ (wb w = 32 ∧ w = 1) ∨ (wb w = 55 ∧ w = 2) := by decide +kernel
theorem T0_i : ∀ w, w < 3 → ∀ i, i < 8 → ∀ v, v < 3 → ∀ j, j < 8 → T0 w i = T0 v j → w = v ∧ i = j := by
  intro w hw i hi v hv j hj e
  have e2 : wb w + 9 + i = wb v + 9 + j := e
  have h1 := wb_3 w hw
  have h2 := wb_3 v hv
  omega
theorem T0_Q : TIQ T0 none 80 := ⟨fun w i hw hi => ⟨(T0_d w hw i hi).2.1, by have := (T0_d w hw i hi).2.2; omega, (T0_d w hw i hi).2.2⟩, fun w i v j hw hi hv hj => T0_i w hw i hi v hv j hj, fun b f e => (by cases e), by decide⟩
theorem T0_I {n : Nat} (hn : 104 ≤ n) : TI T0 none n := ⟨fun w i hw hi => ⟨(T0_d w hw i hi).1, by have := (T0_d w hw i hi).2.2; omega, by have := (T0_d w hw i hi).2.2; omega⟩, fun w i v j hw hi hv hj => T0_i w hw i hi v hv j hj, fun b f e => (by cases e), hn⟩
theorem E0_h : ∀ j, j < 36 → E0 (8 + j) = hst 36 j := by decide +kernel
theorem E0_ta : ∀ j, j < 6 → E0 (44 + j) = 0 := by decide +kernel
theorem E0_t : ∀ i, i < 8 → E0 (50 + 7 * i + 0) = nI 0 ∧ E0 (50 + 7 * i + 1) = nI 0 ∧ E0 (50 + 7 * i + 2) = nI 0 ∧ E0 (50 + 7 * i + 3) = nI 1 ∧ E0 (50 + 7 * i + 4) = nI 0 ∧ E0 (50 + 7 * i + 5) = nI 0 ∧ E0 (50 + 7 * i + 6) = nI 1 := by decide +kernel
theorem gd_h (w : Nat) : gd 36 (fun j => W0 w (8 + j)) = hst 36 := by
  funext j
  unfold gd
  by_cases h : j < 36
  · rw [if_pos h]; exact E0_h j h
  · rw [if_neg h]; exact (if_neg (fun z => h z.1)).symm
theorem gd_t (w : Nat) : gd 6 (fun j => W0 w (44 + j)) = fun _ => 0 := by
  funext j
  unfold gd
  by_cases h : j < 6
  · rw [if_pos h]; exact E0_ta j h
  · rw [if_neg h]
theorem trc_0 {w i : Nat} (hi : i < 8) : trc W0 w i = ntc 0 i := by
  obtain ⟨a0, a1, a2, a3, a4, a5, a6⟩ := E0_t i hi
  unfold trc trl tN
  rw [show W0 w = E0 from rfl, a0, a1, a2, a3, a4, a5, a6]
  rfl
theorem pcs_36 : (pcs 36).1 = 30 := by decide +kernel
section INI
variable {h0 : HP}
theorem ini_w {w : Nat} (hw : w < 3) (hz4 : Z0 (wb w + 4) 1 = nI 0) (hr5 : R0 (wb w + 5) = fun _ => 0) (hr6 : R0 (wb w + 6) = fun _ => 0) (hz7 : Z0 (wb w + 7) 1 = nI 30) (hr8 : R0 (wb w + 8) = (pcs 36).2) : LPx (coQ R0 W0 Z0 T0 none h0) (wb w) (wcl (wb w)) := by
  obtain ⟨q0, q1, q2, q3, q4, q5, q6, q7, q8⟩ := wb_dsQ w hw
  have tr : ∀ i, i < 8 → coQ R0 W0 Z0 T0 none h0 (wb w + 9 + i) = some (ntc 0 i) := fun i hi => (co_tQ T0_Q hw hi).trans (by rw [trc_0 hi])
  refine LPx_app (L := wdv (wb w) 3 9 :: wl (wb w) (tff (wb w) 8) (hst 36) (pcs 36).1 (pcs 36).2) ?_ ?_
  · refine And.intro ((co_sQ (sc_wdQ q0)).trans rfl) (And.intro ?_ (And.intro ?_ (And.intro ?_ (And.intro ?_ (And.intro ?_ (And.intro ?_ (And.intro ?_ (And.intro ?_ trivial))))))))
    · exact (co_sQ (sc_hoQ q1)).trans (by rw [gd_h])
    · exact (co_sQ (sc_taQ q2)).trans (by rw [gd_t])
    · exact (co_sQ (sc_trQ q3)).trans rfl
    · exact (co_sQ (sc_rwQ q4)).trans (by rw [hz4])
    · exact (co_sQ (sc_arQ q5)).trans (by rw [hr5])
    · exact (co_sQ (sc_arQ q6)).trans (by rw [hr6])
    · exact (co_sQ (sc_rwQ q7)).trans (by rw [hz7, pcs_36])
    · exact (co_sQ (sc_arQ q8)).trans (by rw [hr8])
  · exact And.intro (tr 0 (by decide)) (And.intro (tr 1 (by decide)) (And.intro (tr 2 (by decide)) (And.intro (tr 3 (by decide)) (And.intro (tr 4 (by decide)) (And.intro (tr 5 (by decide)) (And.intro (tr 6 (by decide)) (And.intro (tr 7 (by decide)) trivial)))))))
end INI
theorem dsQ_80a : ∀ a, a < 88 → 80 ≤ a → dsQ a = Ds.no := by decide +kernel
theorem dsQ_80 {a : Nat} (h : 80 ≤ a) : dsQ a = Ds.no := by
  by_cases h2 : a < 88
  · exact dsQ_80a a h2 h
  · exact ds_bigQ (by omega)
theorem ds_79 : ∀ a, a < 80 → a ≠ 53 → ds a = dsQ a := by decide +kernel
theorem T0_ne {a : Nat} (h : 80 ≤ a ∨ a = 53) : ∀ w i, w < 3 → i < 8 → T0 w i ≠ a := fun w i hw hi e => by
  have := T0_d w hw i hi
  rcases h with h | h
  · omega
  · subst h
    have h2 := this.1
    rw [e] at h2
    cases h2
section SS
variable {R W Z : Nat → Nat → Int32} {k : Nat}
theorem coQ_80 {a : Nat} (h : 80 ≤ a) : coQ R W Z T0 none (h53 k) a = none := (co_xQ (dsQ_80 h) (T0_ne (Or.inl h)) (fun b f e => by cases e)).trans (if_neg (by omega))
theorem coQ_53 : coQ R W Z T0 none (h53 k) 53 = some (ssc k) := (co_xQ rfl (T0_ne (Or.inr rfl)) (fun b f e => by cases e)).trans (if_pos rfl)
theorem coQ_u53 : up (coQ R W Z T0 none (h53 k)) 53 (ssc (k + 1)) = coQ R W Z T0 none (h53 (k + 1)) := by
  funext a
  by_cases h : a = 53
  · subst h; rw [up_s, coQ_53]
  · rw [up_n h]
    unfold coQ
    rw [show h53 k a = none from if_neg h, show h53 (k + 1) a = none from if_neg h]
theorem ssc_s : (.inl (3, 4, .inr (.inr (.inr (.inr (va_up (fun i => if i < k then some (80 + 2 * i) else none) k (some (80 + 2 * k))))))) : AE) = ssc (k + 1) := by
  unfold ssc
  have e : va_up (fun i => if i < k then some (80 + 2 * i) else none) k (some (80 + 2 * k)) = fun i => if i < k + 1 then some (80 + 2 * i) else none := by
    funext i
    show (if i = k then some (80 + 2 * k) else if i < k then some (80 + 2 * i) else none) = _
    by_cases h : i = k
    · subst h; rw [if_pos rfl, if_pos (by omega)]
    · rw [if_neg h]
      by_cases h2 : i < k
      · rw [if_pos h2, if_pos (by omega)]
      · rw [if_neg h2, if_neg (by omega)]
  rw [e]
theorem ov_nil {g : HP} {b : Nat} (h : ∀ a, b ≤ a → g a = none) : g = ov g b [] := by
  funext a
  by_cases h1 : b ≤ a
  · rw [ov_ge h1, h a h1]; rfl
  · rw [ov_lt (by omega)]
theorem ov_newA {g : HP} {b n : Nat} {L : List AE} {e : AE} (hn : n = b + L.length) : up (ov g b L) n e = ov (ov g b L) n [e] := by
  subst hn
  funext y
  by_cases hy : y = b + L.length
  · subst hy
    rw [up_s, ov_ge (Nat.le_refl _), Nat.sub_self]
    rfl
  · rw [up_n hy]
    by_cases h : b + L.length ≤ y
    · rw [ov_ge h, ov_ge (by omega), List.getElem?_eq_none (by omega), List.getElem?_eq_none (by rw [List.length_singleton]; omega)]
    · rw [ov_lt (a := y) (b := b + L.length) (by omega)]
theorem ov_catA {g : HP} {b n : Nat} {L L2 : List AE} (hn : n = b + L.length) : ov (ov g b L) n L2 = ov g b (L ++ L2) := by
  subst hn
  funext y
  by_cases h : b + L.length ≤ y
  · rw [ov_ge h, ov_ge (by omega), List.getElem?_append_right (by omega)]
    congr 1
    omega
  · rw [ov_lt (by omega)]
    by_cases h2 : b ≤ y
    · rw [ov_ge h2, ov_ge h2, List.getElem?_append_left (by omega)]
    · rw [ov_lt (by omega), ov_lt (by omega)]
theorem ov_upl {g : HP} {a b : Nat} {L : List AE} {e : AE} (h : a < b) : up (ov g b L) a e = ov (up g a e) b L := by
  funext y
  by_cases hy : y = a
  · subst hy; rw [up_s, ov_lt h, up_s]
  · rw [up_n hy]
    by_cases h2 : b ≤ y
    · rw [ov_ge h2, ov_ge h2]
    · rw [ov_lt (by omega), ov_lt (by omega), up_n hy]
def SL : Nat → List AE
  | 0 => []
  | k + 1 => SL k ++ [.inr (2, [.ref (80 + 2 * k + 1), .int (nI 0), .int (nI 0)]), zar 40]
theorem SL_len (k : Nat) : (SL k).length = 2 * k := by
  induction k with
  | zero => rfl
  | succ k ih => show (SL k ++ _).length = _; rw [List.length_append, ih]; show 2 * k + 2 = _; omega
theorem ss_step : up (ov (ov (coQ R W Z T0 none (h53 k)) 80 (SL k)) (80 + 2 * k) [.inr (2, [.ref (80 + 2 * k + 1), .int (nI 0), .int (nI 0)]), zar 40]) 53 (.inl (3, 4, .inr (.inr (.inr (.inr (va_up (fun i => if i < k then some (80 + 2 * i) else none) k (some (80 + 2 * k)))))))) = ov (coQ R W Z T0 none (h53 (k + 1))) 80 (SL (k + 1)) := by
  rw [ov_upl (by omega), ov_upl (by omega), ssc_s, coQ_u53, ov_catA (by rw [SL_len])]
  rfl
theorem ss_fin (hR : ∀ a, a = 81 ∨ a = 83 ∨ a = 85 ∨ a = 87 → R a = fun _ => 0) (hZ : ∀ a j, 80 ≤ a → Z a j = nI 0) : ov (coQ R W Z T0 none (h53 4)) 80 (SL 4) = co R W Z T0 none hN := by
  refine LPx_ov ?_ ?_ ?_
  · have hs : ∀ i, i < 4 → co R W Z T0 none hN (80 + 2 * i) = some (.inr (2, [.ref (80 + 2 * i + 1), .int (nI 0), .int (nI 0)])) := fun i hi => (co_s (sc_sh (sh_ds i hi).1)).trans (by rw [hZ _ _ (by omega), hZ _ _ (by omega)])
    have hr : ∀ i, i < 4 → co R W Z T0 none hN (80 + 2 * i + 1) = some (zar 40) := fun i hi => (co_s (sc_ar (sh_ds i hi).2)).trans (by rw [hR _ (by omega)])
    exact And.intro (hs 0 (by decide)) (And.intro (hr 0 (by decide)) (And.intro (hs 1 (by decide)) (And.intro (hr 1 (by decide)) (And.intro (hs 2 (by decide)) (And.intro (hr 2 (by decide)) (And.intro (hs 3 (by decide)) (And.intro (hr 3 (by decide)) trivial)))))))
  · intro a ha
    by_cases h : a = 53
    · subst h; rw [coQ_53, co_s sc_ss]; rfl
    · unfold co coQ
      rw [show sc R W Z T0 none a = scQ R W Z T0 none a by unfold sc scQ; rw [ds_79 a ha h], show h53 4 a = none from if_neg h]
      rfl
  · intro a ha
    have h88 : 88 ≤ a := ha
    exact (co_x (ds_big h88) (T0_ne (Or.inl (by omega))) (fun b f e => by cases e)).trans rfl
end SS
theorem V.eqNx {l : Launch} {M : MD} {d mc ms pc : Nat} {ls : List (Nat × Value)} {st : List Value} {n n' : Nat} {h : HP} {c s : Nat} {Q : QT} (hs : n = n') (k : V l M d mc ms pc ls st n' h c s Q) : V l M d mc ms pc ls st n h c s Q := hs ▸ k
theorem te_1 : (teP (bgk 2 (txl.getD 2 0) (R0 2)) (txl.getD 2 0) (decide (0 = 1))).2.1 = false ∧ (teP (bgk 2 (txl.getD 2 0) (R0 2)) (txl.getD 2 0) (decide (0 = 1))).2.2 = [0, 10001, 20045] := by decide +kernel
theorem te_2 : (teP (bgk 3 (txl.getD 3 0) (bgk 2 (txl.getD 2 0) (R0 2))) (txl.getD 3 0) (decide (1 = 1))).2.1 = false ∧ (teP (bgk 3 (txl.getD 3 0) (bgk 2 (txl.getD 2 0) (R0 2))) (txl.getD 3 0) (decide (1 = 1))).2.2 = [10000] := by decide +kernel
/-- what the class's rows and numbers are when it has been made -/
def FIx (R Z : Nat → Nat → Int32) : Prop := (∀ a, a ≠ 2 → a ≠ 5 → a ≠ 7 → a ≠ 11 → a ≠ 13 → R a = R0 a) ∧ (∀ b j, b ≠ 1 → b ≠ 3 → b ≠ 4 → b ≠ 6 → b ≠ 9 → b ≠ 10 → b ≠ 12 → Z b j = Z0 b j) ∧ Z 1 1 = nI 0 ∧ Z 4 1 = nI 3 ∧ (∀ k, k < 3 → R 5 k = nI ([0, 10001, 20045].getD k 0)) ∧ Z 10 1 = nI 1 ∧ ∀ k, k < 1 → R 11 k = nI ([10000].getD k 0)
theorem FIx.z {R Z : Nat → Nat → Int32} (h : FIx R Z) : ∀ a j, 80 ≤ a → Z a j = nI 0 := fun a j ha => (h.2.1 a j (by omega) (by omega) (by omega) (by omega) (by omega) (by omega) (by omega)).trans (by
  unfold Z0
  rw [if_neg (by omega), if_neg (by omega)])
theorem FIx.r {R Z : Nat → Nat → Int32} (h : FIx R Z) : ∀ a, a = 81 ∨ a = 83 ∨ a = 85 ∨ a = 87 → R a = fun _ => 0 := fun a ha => (h.1 a (by omega) (by omega) (by omega) (by omega) (by omega)).trans (if_neg (by omega))
theorem FIx.of {R1 Z1 R2 Z2 : Nat → Nat → Int32} (a1 : ∀ a, a ≠ 5 → a ≠ 7 → R1 a = uA R0 2 (bgk 2 (txl.getD 2 0) (R0 2)) a) (a2 : ∀ b j, b ≠ 3 → b ≠ 4 → b ≠ 6 → Z1 b j = uZ Z0 1 1 (nI (txl.getD 2 0)) b j) (a3 : ∀ k, k < 3 → R1 5 k = nI ([0, 10001, 20045].getD k 0)) (a4 : Z1 4 1 = nI 3)
    (b1 : ∀ a, a ≠ 11 → a ≠ 13 → R2 a = uA R1 2 (bgk 3 (txl.getD 3 0) (R1 2)) a) (b2 : ∀ b j, b ≠ 9 → b ≠ 10 → b ≠ 12 → Z2 b j = uZ (uZ Z1 1 1 (nI 0)) 1 1 (nI (txl.getD 3 0)) b j) (b3 : ∀ k, k < 1 → R2 11 k = nI ([10000].getD k 0)) (b4 : Z2 10 1 = nI 1) : FIx R2 (uZ Z2 1 1 (nI 0)) := by
  refine ⟨fun a h2 h5 h7 h11 h13 => ?_, fun b j h1 h3 h4 h6 h9 h10 h12 => ?_, uZ_s, ?_, fun k hk => ?_, ?_, b3⟩
  · rw [b1 a h11 h13, uA_n h2, a1 a h5 h7, uA_n h2]
  · rw [uZ_n (fun z => h1 z.1), b2 b j h9 h10 h12, uZ_n (fun z => h1 z.1), uZ_n (fun z => h1 z.1), a2 b j h3 h4 h6, uZ_n (fun z => h1 z.1)]
  · rw [uZ_n (by decide), b2 4 1 (by decide) (by decide) (by decide), uZ_n (by decide), uZ_n (by decide), a4]
  · rw [b1 5 (by decide) (by decide), uA_n (by decide), a3 k hk]
  · rw [uZ_n (by decide), b4]
theorem ini_co : ov hN 0 INI = coQ R0 W0 Z0 T0 none (h53 0) := by
  refine LPx_ov (show LPx (coQ R0 W0 Z0 T0 none (h53 0)) 0 _ from LPx_app (And.intro ((co_sQ sc_obQ).trans rfl) (And.intro ((co_sQ (sc_rwQ (a := 1) rfl)).trans rfl) (And.intro ((co_sQ (sc_arQ (a := 2) (N := 50) rfl)).trans rfl) trivial))) (show LPx (coQ R0 W0 Z0 T0 none (h53 0)) 3 _ from LPx_app (And.intro ((co_sQ (sc_txQ (a := 3) (u := 0) rfl)).trans rfl) (And.intro ((co_sQ (sc_rwQ (a := 4) rfl)).trans rfl) (And.intro ((co_sQ (sc_arQ (a := 5) (N := 50) rfl)).trans rfl) (And.intro ((co_sQ (sc_rwQ (a := 6) rfl)).trans rfl) (And.intro ((co_sQ (sc_arQ (a := 7) (N := 50) rfl)).trans rfl) (And.intro ((co_sQ (sc_arQ (a := 8) (N := 50) rfl)).trans rfl) trivial)))))) (show LPx (coQ R0 W0 Z0 T0 none (h53 0)) 9 _ from LPx_app (And.intro ((co_sQ (sc_txQ (a := 9) (u := 1) rfl)).trans rfl) (And.intro ((co_sQ (sc_rwQ (a := 10) rfl)).trans rfl) (And.intro ((co_sQ (sc_arQ (a := 11) (N := 50) rfl)).trans rfl) (And.intro ((co_sQ (sc_rwQ (a := 12) rfl)).trans rfl) (And.intro ((co_sQ (sc_arQ (a := 13) (N := 50) rfl)).trans rfl) (And.intro ((co_sQ (sc_arQ (a := 14) (N := 50) rfl)).trans rfl) trivial)))))) (show LPx (coQ R0 W0 Z0 T0 none (h53 0)) 15 _ from LPx_app (ini_w (w := 0) (by decide) rfl rfl rfl rfl rfl) (show LPx (coQ R0 W0 Z0 T0 none (h53 0)) 32 _ from LPx_app (ini_w (w := 1) (by decide) rfl rfl rfl rfl rfl) (show LPx (coQ R0 W0 Z0 T0 none (h53 0)) 49 _ from LPx_app (And.intro ((co_sQ (sc_rwQ (a := 49) rfl)).trans rfl) (And.intro ((co_sQ (sc_arQ (a := 50) (N := 20) rfl)).trans rfl) (And.intro ((co_sQ (sc_rwQ (a := 51) rfl)).trans rfl) (And.intro ((co_sQ (sc_arQ (a := 52) (N := 40) rfl)).trans rfl) (And.intro coQ_53 (And.intro ((co_sQ (sc_arQ (a := 54) (N := 6) rfl)).trans rfl) trivial)))))) (show LPx (coQ R0 W0 Z0 T0 none (h53 0)) 55 _ from LPx_app (ini_w (w := 2) (by decide) rfl rfl rfl rfl rfl) (show LPx (coQ R0 W0 Z0 T0 none (h53 0)) 72 _ from (And.intro ((co_sQ (sc_rwQ (a := 72) rfl)).trans rfl) (And.intro ((co_sQ (sc_arQ (a := 73) (N := 50) rfl)).trans rfl) (And.intro ((co_sQ (sc_rwQ (a := 74) rfl)).trans rfl) (And.intro ((co_sQ (sc_arQ (a := 75) (N := 20) rfl)).trans rfl) (And.intro ((co_sQ (sc_rwQ (a := 76) rfl)).trans rfl) (And.intro ((co_sQ (sc_arQ (a := 77) (N := 50) rfl)).trans rfl) (And.intro ((co_sQ (sc_rwQ (a := 78) rfl)).trans rfl) (And.intro ((co_sQ (sc_arQ (a := 79) (N := 50) rfl)).trans rfl) trivial)))))))))))))))) (fun a h => absurd h (Nat.not_lt_zero _)) (fun a ha => ?_)
  have h80 : 80 ≤ a := ha
  exact coQ_80 h80
abbrev M_F_init : MD := (⟨"FelledByNames", "<init>", "()V"⟩, prog_1_method_1_code, 2, none, fun _ => True)
theorem d_F_init_0 : decode prog_1_method_1_code 0 = .ok (.aload_n 0, 1) := by decide +kernel
theorem d_F_init_1 : decode prog_1_method_1_code 1 = .ok (.invokespecial 3, 3) := by decide +kernel
theorem d_F_init_4 : decode prog_1_method_1_code 4 = .ok (.aload_n 0, 1) := by decide +kernel
theorem nk_F_9 : nok "FelledByNames" 9 1 2 [.null, .int 0] := ⟨_, _, t_Row, rfl, i_Row, t_Row_ok, tm 31 (by decide +kernel) rfl, tm 32 (by decide +kernel) rfl, tm 2 (by decide +kernel) rfl, fun _ j hj => by rcases (show j = 0 ∨ j = 1 by omega) with rfl | rfl <;> rfl⟩
theorem d_F_init_5 : decode prog_1_method_1_code 5 = .ok (.new 9, 3) := by decide +kernel
theorem d_F_init_8 : decode prog_1_method_1_code 8 = .ok (.dup, 1) := by decide +kernel
theorem d_F_init_9 : decode prog_1_method_1_code 9 = .ok (.bipush 50, 2) := by decide +kernel
theorem d_F_init_11 : decode prog_1_method_1_code 11 = .ok (.invokespecial 11, 3) := by decide +kernel
theorem k_F_11_Row_initI : kI "FelledByNames" 11 M_Row_init 1 := ⟨kB_Row_init, tm 33 (by decide +kernel) rfl, tm 34 (by decide +kernel) rfl, rfl, rfl⟩
theorem d_F_init_14 : decode prog_1_method_1_code 14 = .ok (.putfield 14, 3) := by decide +kernel
theorem fF_F_F_0 : fpF "FelledByNames" 0 0 (.object "FelledByNames$Row") := ⟨_, _, _, rfl, rfl, rfl, by decide +kernel⟩
theorem d_F_init_17 : decode prog_1_method_1_code 17 = .ok (.aload_n 0, 1) := by decide +kernel
theorem nk_F_18 : nok "FelledByNames" 18 3 11 [.null, .null, .null, .int 0, .int 0, .null, .null, .int 0, .int 0, .int 0, .null] := ⟨_, _, t_Text, rfl, i_Text, t_Text_ok, tm 59 (by decide +kernel) rfl, tm 60 (by decide +kernel) rfl, tm 4 (by decide +kernel) rfl, fun _ j hj => by rcases (show j = 0 ∨ j = 1 ∨ j = 2 ∨ j = 3 ∨ j = 4 ∨ j = 5 ∨ j = 6 ∨ j = 7 ∨ j = 8 ∨ j = 9 ∨ j = 10 by omega) with rfl | rfl | rfl | rfl | rfl | rfl | rfl | rfl | rfl | rfl | rfl <;> rfl⟩
theorem d_F_init_18 : decode prog_1_method_1_code 18 = .ok (.new 18, 3) := by decide +kernel
theorem d_F_init_21 : decode prog_1_method_1_code 21 = .ok (.dup, 1) := by decide +kernel
theorem d_F_init_22 : decode prog_1_method_1_code 22 = .ok (.aload_n 0, 1) := by decide +kernel
theorem d_F_init_23 : decode prog_1_method_1_code 23 = .ok (.getfield 14, 3) := by decide +kernel
theorem d_F_init_26 : decode prog_1_method_1_code 26 = .ok (.ldc 20, 2) := by decide +kernel
theorem d_F_init_28 : decode prog_1_method_1_code 28 = .ok (.bipush (-9), 2) := by decide +kernel
theorem d_F_init_30 : decode prog_1_method_1_code 30 = .ok (.bipush 9, 2) := by decide +kernel
theorem d_F_init_32 : decode prog_1_method_1_code 32 = .ok (.invokespecial 22, 3) := by decide +kernel
theorem kB_Text_init : kB M_Text_init 4 := ⟨tm 4 (by decide +kernel) rfl, tm 64 (by decide +kernel) rfl, ⟨by decide, by decide, by decide +kernel⟩, by decide⟩
theorem k_F_22_Text_initI : kI "FelledByNames" 22 M_Text_init 4 := ⟨kB_Text_init, tm 62 (by decide +kernel) rfl, tm 63 (by decide +kernel) rfl, rfl, rfl⟩
theorem d_F_init_35 : decode prog_1_method_1_code 35 = .ok (.putfield 25, 3) := by decide +kernel
theorem fF_F_F_1 : fpF "FelledByNames" 0 1 (.object "FelledByNames$Text") := ⟨_, _, _, rfl, rfl, rfl, by decide +kernel⟩
theorem d_F_init_38 : decode prog_1_method_1_code 38 = .ok (.aload_n 0, 1) := by decide +kernel
theorem d_F_init_39 : decode prog_1_method_1_code 39 = .ok (.new 18, 3) := by decide +kernel
theorem d_F_init_42 : decode prog_1_method_1_code 42 = .ok (.dup, 1) := by decide +kernel
theorem d_F_init_43 : decode prog_1_method_1_code 43 = .ok (.aload_n 0, 1) := by decide +kernel
theorem d_F_init_44 : decode prog_1_method_1_code 44 = .ok (.getfield 14, 3) := by decide +kernel
theorem d_F_init_47 : decode prog_1_method_1_code 47 = .ok (.ldc 29, 2) := by decide +kernel
theorem d_F_init_49 : decode prog_1_method_1_code 49 = .ok (.iconst 0, 1) := by decide +kernel
theorem d_F_init_50 : decode prog_1_method_1_code 50 = .ok (.bipush 99, 2) := by decide +kernel
theorem d_F_init_52 : decode prog_1_method_1_code 52 = .ok (.invokespecial 22, 3) := by decide +kernel
theorem d_F_init_55 : decode prog_1_method_1_code 55 = .ok (.putfield 31, 3) := by decide +kernel
theorem fF_F_F_2 : fpF "FelledByNames" 0 2 (.object "FelledByNames$Text") := ⟨_, _, _, rfl, rfl, rfl, by decide +kernel⟩
theorem d_F_init_58 : decode prog_1_method_1_code 58 = .ok (.aload_n 0, 1) := by decide +kernel
theorem nk_F_34 : nok "FelledByNames" 34 4 14 [.null, .null, .null, .null, .null, .int 0, .int 0, .int 0, .int 0, .int 0, .int 0, .null, .null, .null] := ⟨_, _, t_World, rfl, i_World, t_World_ok, tm 105 (by decide +kernel) rfl, tm 106 (by decide +kernel) rfl, tm 5 (by decide +kernel) rfl, fun _ j hj => by rcases (show j = 0 ∨ j = 1 ∨ j = 2 ∨ j = 3 ∨ j = 4 ∨ j = 5 ∨ j = 6 ∨ j = 7 ∨ j = 8 ∨ j = 9 ∨ j = 10 ∨ j = 11 ∨ j = 12 ∨ j = 13 by omega) with rfl | rfl | rfl | rfl | rfl | rfl | rfl | rfl | rfl | rfl | rfl | rfl | rfl | rfl <;> rfl⟩
theorem d_F_init_59 : decode prog_1_method_1_code 59 = .ok (.new 34, 3) := by decide +kernel
theorem d_F_init_62 : decode prog_1_method_1_code 62 = .ok (.dup, 1) := by decide +kernel
theorem d_F_init_63 : decode prog_1_method_1_code 63 = .ok (.aload_n 0, 1) := by decide +kernel
theorem d_F_init_64 : decode prog_1_method_1_code 64 = .ok (.getfield 25, 3) := by decide +kernel
theorem d_F_init_67 : decode prog_1_method_1_code 67 = .ok (.aload_n 0, 1) := by decide +kernel
theorem d_F_init_68 : decode prog_1_method_1_code 68 = .ok (.getfield 31, 3) := by decide +kernel
theorem d_F_init_71 : decode prog_1_method_1_code 71 = .ok (.invokespecial 36, 3) := by decide +kernel
theorem kB_World_init : kB M_World_init 2 := ⟨tm 5 (by decide +kernel) rfl, tm 109 (by decide +kernel) rfl, ⟨by decide, by decide, by decide +kernel⟩, by decide⟩
theorem k_F_36_World_initI : kI "FelledByNames" 36 M_World_init 2 := ⟨kB_World_init, tm 107 (by decide +kernel) rfl, tm 108 (by decide +kernel) rfl, rfl, rfl⟩
theorem d_F_init_74 : decode prog_1_method_1_code 74 = .ok (.putfield 39, 3) := by decide +kernel
theorem fF_F_F_3 : fpF "FelledByNames" 0 3 (.object "FelledByNames$World") := ⟨_, _, _, rfl, rfl, rfl, by decide +kernel⟩
theorem d_F_init_77 : decode prog_1_method_1_code 77 = .ok (.aload_n 0, 1) := by decide +kernel
theorem d_F_init_78 : decode prog_1_method_1_code 78 = .ok (.new 34, 3) := by decide +kernel
theorem d_F_init_81 : decode prog_1_method_1_code 81 = .ok (.dup, 1) := by decide +kernel
theorem d_F_init_82 : decode prog_1_method_1_code 82 = .ok (.aload_n 0, 1) := by decide +kernel
theorem d_F_init_83 : decode prog_1_method_1_code 83 = .ok (.getfield 25, 3) := by decide +kernel
theorem d_F_init_86 : decode prog_1_method_1_code 86 = .ok (.aload_n 0, 1) := by decide +kernel
theorem d_F_init_87 : decode prog_1_method_1_code 87 = .ok (.getfield 31, 3) := by decide +kernel
theorem d_F_init_90 : decode prog_1_method_1_code 90 = .ok (.invokespecial 36, 3) := by decide +kernel
theorem d_F_init_93 : decode prog_1_method_1_code 93 = .ok (.putfield 43, 3) := by decide +kernel
theorem fF_F_F_4 : fpF "FelledByNames" 0 4 (.object "FelledByNames$World") := ⟨_, _, _, rfl, rfl, rfl, by decide +kernel⟩
theorem d_F_init_96 : decode prog_1_method_1_code 96 = .ok (.aload_n 0, 1) := by decide +kernel
theorem d_F_init_97 : decode prog_1_method_1_code 97 = .ok (.new 9, 3) := by decide +kernel
theorem d_F_init_100 : decode prog_1_method_1_code 100 = .ok (.dup, 1) := by decide +kernel
theorem d_F_init_101 : decode prog_1_method_1_code 101 = .ok (.bipush 20, 2) := by decide +kernel
theorem d_F_init_103 : decode prog_1_method_1_code 103 = .ok (.invokespecial 11, 3) := by decide +kernel
theorem d_F_init_106 : decode prog_1_method_1_code 106 = .ok (.putfield 46, 3) := by decide +kernel
theorem fF_F_F_5 : fpF "FelledByNames" 0 5 (.object "FelledByNames$Row") := ⟨_, _, _, rfl, rfl, rfl, by decide +kernel⟩
theorem d_F_init_109 : decode prog_1_method_1_code 109 = .ok (.aload_n 0, 1) := by decide +kernel
theorem d_F_init_110 : decode prog_1_method_1_code 110 = .ok (.new 9, 3) := by decide +kernel
theorem d_F_init_113 : decode prog_1_method_1_code 113 = .ok (.dup, 1) := by decide +kernel
theorem d_F_init_114 : decode prog_1_method_1_code 114 = .ok (.bipush 40, 2) := by decide +kernel
theorem d_F_init_116 : decode prog_1_method_1_code 116 = .ok (.invokespecial 11, 3) := by decide +kernel
theorem d_F_init_119 : decode prog_1_method_1_code 119 = .ok (.putfield 49, 3) := by decide +kernel
theorem fF_F_F_6 : fpF "FelledByNames" 0 6 (.object "FelledByNames$Row") := ⟨_, _, _, rfl, rfl, rfl, by decide +kernel⟩
theorem d_F_init_122 : decode prog_1_method_1_code 122 = .ok (.aload_n 0, 1) := by decide +kernel
theorem d_F_init_123 : decode prog_1_method_1_code 123 = .ok (.iconst 4, 1) := by decide +kernel
theorem d_F_init_124 : decode prog_1_method_1_code 124 = .ok (.anewarray 52, 3) := by decide +kernel
theorem d_F_init_127 : decode prog_1_method_1_code 127 = .ok (.putfield 54, 3) := by decide +kernel
theorem fF_F_F_7 : fpF "FelledByNames" 0 7 (.array (.object "FelledByNames$Sheet")) := ⟨_, _, _, rfl, rfl, rfl, by decide +kernel⟩
theorem d_F_init_130 : decode prog_1_method_1_code 130 = .ok (.aload_n 0, 1) := by decide +kernel
theorem d_F_init_131 : decode prog_1_method_1_code 131 = .ok (.bipush 6, 2) := by decide +kernel
theorem d_F_init_133 : decode prog_1_method_1_code 133 = .ok (.newarray .int, 2) := by decide +kernel
theorem d_F_init_135 : decode prog_1_method_1_code 135 = .ok (.putfield 58, 3) := by decide +kernel
theorem fF_F_F_8 : fpF "FelledByNames" 0 8 (.array .int) := ⟨_, _, _, rfl, rfl, rfl, by decide +kernel⟩
theorem d_F_init_138 : decode prog_1_method_1_code 138 = .ok (.aload_n 0, 1) := by decide +kernel
theorem d_F_init_139 : decode prog_1_method_1_code 139 = .ok (.new 34, 3) := by decide +kernel
theorem d_F_init_142 : decode prog_1_method_1_code 142 = .ok (.dup, 1) := by decide +kernel
theorem d_F_init_143 : decode prog_1_method_1_code 143 = .ok (.aload_n 0, 1) := by decide +kernel
theorem d_F_init_144 : decode prog_1_method_1_code 144 = .ok (.getfield 25, 3) := by decide +kernel
theorem d_F_init_147 : decode prog_1_method_1_code 147 = .ok (.aload_n 0, 1) := by decide +kernel
theorem d_F_init_148 : decode prog_1_method_1_code 148 = .ok (.getfield 31, 3) := by decide +kernel
theorem d_F_init_151 : decode prog_1_method_1_code 151 = .ok (.invokespecial 36, 3) := by decide +kernel
theorem d_F_init_154 : decode prog_1_method_1_code 154 = .ok (.putfield 62, 3) := by decide +kernel
theorem fF_F_F_9 : fpF "FelledByNames" 0 9 (.object "FelledByNames$World") := ⟨_, _, _, rfl, rfl, rfl, by decide +kernel⟩
theorem d_F_init_157 : decode prog_1_method_1_code 157 = .ok (.aload_n 0, 1) := by decide +kernel
theorem d_F_init_158 : decode prog_1_method_1_code 158 = .ok (.new 9, 3) := by decide +kernel
theorem d_F_init_161 : decode prog_1_method_1_code 161 = .ok (.dup, 1) := by decide +kernel
theorem d_F_init_162 : decode prog_1_method_1_code 162 = .ok (.bipush 50, 2) := by decide +kernel
theorem d_F_init_164 : decode prog_1_method_1_code 164 = .ok (.invokespecial 11, 3) := by decide +kernel
theorem d_F_init_167 : decode prog_1_method_1_code 167 = .ok (.putfield 65, 3) := by decide +kernel
theorem fF_F_F_10 : fpF "FelledByNames" 0 10 (.object "FelledByNames$Row") := ⟨_, _, _, rfl, rfl, rfl, by decide +kernel⟩
theorem d_F_init_170 : decode prog_1_method_1_code 170 = .ok (.aload_n 0, 1) := by decide +kernel
theorem d_F_init_171 : decode prog_1_method_1_code 171 = .ok (.new 9, 3) := by decide +kernel
theorem d_F_init_174 : decode prog_1_method_1_code 174 = .ok (.dup, 1) := by decide +kernel
theorem d_F_init_175 : decode prog_1_method_1_code 175 = .ok (.bipush 20, 2) := by decide +kernel
theorem d_F_init_177 : decode prog_1_method_1_code 177 = .ok (.invokespecial 11, 3) := by decide +kernel
theorem d_F_init_180 : decode prog_1_method_1_code 180 = .ok (.putfield 68, 3) := by decide +kernel
theorem fF_F_F_11 : fpF "FelledByNames" 0 11 (.object "FelledByNames$Row") := ⟨_, _, _, rfl, rfl, rfl, by decide +kernel⟩
theorem d_F_init_183 : decode prog_1_method_1_code 183 = .ok (.aload_n 0, 1) := by decide +kernel
theorem d_F_init_184 : decode prog_1_method_1_code 184 = .ok (.new 9, 3) := by decide +kernel
theorem d_F_init_187 : decode prog_1_method_1_code 187 = .ok (.dup, 1) := by decide +kernel
theorem d_F_init_188 : decode prog_1_method_1_code 188 = .ok (.bipush 50, 2) := by decide +kernel
theorem d_F_init_190 : decode prog_1_method_1_code 190 = .ok (.invokespecial 11, 3) := by decide +kernel
theorem d_F_init_193 : decode prog_1_method_1_code 193 = .ok (.putfield 71, 3) := by decide +kernel
theorem fF_F_F_12 : fpF "FelledByNames" 0 12 (.object "FelledByNames$Row") := ⟨_, _, _, rfl, rfl, rfl, by decide +kernel⟩
theorem d_F_init_196 : decode prog_1_method_1_code 196 = .ok (.aload_n 0, 1) := by decide +kernel
theorem d_F_init_197 : decode prog_1_method_1_code 197 = .ok (.new 9, 3) := by decide +kernel
theorem d_F_init_200 : decode prog_1_method_1_code 200 = .ok (.dup, 1) := by decide +kernel
theorem d_F_init_201 : decode prog_1_method_1_code 201 = .ok (.bipush 50, 2) := by decide +kernel
theorem d_F_init_203 : decode prog_1_method_1_code 203 = .ok (.invokespecial 11, 3) := by decide +kernel
theorem d_F_init_206 : decode prog_1_method_1_code 206 = .ok (.putfield 74, 3) := by decide +kernel
theorem fF_F_F_13 : fpF "FelledByNames" 0 13 (.object "FelledByNames$Row") := ⟨_, _, _, rfl, rfl, rfl, by decide +kernel⟩
theorem d_F_init_209 : decode prog_1_method_1_code 209 = .ok (.aload_n 0, 1) := by decide +kernel
theorem d_F_init_210 : decode prog_1_method_1_code 210 = .ok (.iconst 0, 1) := by decide +kernel
theorem d_F_init_211 : decode prog_1_method_1_code 211 = .ok (.putfield 77, 3) := by decide +kernel
theorem kB_Text_begin : kB M_Text_begin 1 := ⟨tm 4 (by decide +kernel) rfl, tm 235 (by decide +kernel) rfl, ⟨by decide, by decide, by decide +kernel⟩, by decide⟩
theorem k_F_83_Text_begin_TextV : kV "FelledByNames" 83 3 M_Text_begin 1 := ⟨kB_Text_begin, tm 232 (by decide +kernel) rfl, tm 233 (by decide +kernel) rfl, tm 234 (by decide +kernel) rfl, _, rfl, rfl⟩
theorem d_F_init_214 : decode prog_1_method_1_code 214 = .ok (.aload_n 0, 1) := by decide +kernel
theorem d_F_init_215 : decode prog_1_method_1_code 215 = .ok (.getfield 25, 3) := by decide +kernel
theorem d_F_init_218 : decode prog_1_method_1_code 218 = .ok (.ldc 81, 2) := by decide +kernel
theorem d_F_init_220 : decode prog_1_method_1_code 220 = .ok (.invokevirtual 83, 3) := by decide +kernel
theorem d_F_init_223 : decode prog_1_method_1_code 223 = .ok (.aload_n 0, 1) := by decide +kernel
theorem d_F_init_224 : decode prog_1_method_1_code 224 = .ok (.getfield 31, 3) := by decide +kernel
theorem d_F_init_227 : decode prog_1_method_1_code 227 = .ok (.ldc 87, 2) := by decide +kernel
theorem d_F_init_229 : decode prog_1_method_1_code 229 = .ok (.invokevirtual 83, 3) := by decide +kernel
theorem d_F_init_232 : decode prog_1_method_1_code 232 = .ok (.iconst 0, 1) := by decide +kernel
theorem d_F_init_233 : decode prog_1_method_1_code 233 = .ok (.istore_n 1, 1) := by decide +kernel
theorem d_F_init_234 : decode prog_1_method_1_code 234 = .ok (.iload_n 1, 1) := by decide +kernel
theorem d_F_init_235 : decode prog_1_method_1_code 235 = .ok (.iconst 4, 1) := by decide +kernel
theorem d_F_init_236 : decode prog_1_method_1_code 236 = .ok (.if_icmp .ge 22, 3) := by decide +kernel
theorem d_F_init_258 : decode prog_1_method_1_code 258 = .ok (.return_, 1) := by decide +kernel
theorem d_F_init_239 : decode prog_1_method_1_code 239 = .ok (.aload_n 0, 1) := by decide +kernel
theorem d_F_init_240 : decode prog_1_method_1_code 240 = .ok (.getfield 54, 3) := by decide +kernel
theorem d_F_init_243 : decode prog_1_method_1_code 243 = .ok (.iload_n 1, 1) := by decide +kernel
theorem nk_F_52 : nok "FelledByNames" 52 2 3 [.null, .int 0, .int 0] := ⟨_, _, t_Sheet, rfl, i_Sheet, t_Sheet_ok, tm 229 (by decide +kernel) rfl, tm 412 (by decide +kernel) rfl, tm 14 (by decide +kernel) rfl, fun _ j hj => by rcases (show j = 0 ∨ j = 1 ∨ j = 2 by omega) with rfl | rfl | rfl <;> rfl⟩
theorem d_F_init_244 : decode prog_1_method_1_code 244 = .ok (.new 52, 3) := by decide +kernel
theorem d_F_init_247 : decode prog_1_method_1_code 247 = .ok (.dup, 1) := by decide +kernel
theorem kB_Sheet_init : kB M_Sheet_init 0 := ⟨tm 14 (by decide +kernel) rfl, tm 415 (by decide +kernel) rfl, ⟨by decide, by decide, by decide +kernel⟩, by decide⟩
theorem k_F_89_Sheet_initI : kI "FelledByNames" 89 M_Sheet_init 0 := ⟨kB_Sheet_init, tm 413 (by decide +kernel) rfl, tm 414 (by decide +kernel) rfl, rfl, rfl⟩
theorem d_F_init_248 : decode prog_1_method_1_code 248 = .ok (.invokespecial 89, 3) := by decide +kernel
theorem d_F_init_251 : decode prog_1_method_1_code 251 = .ok (.aastore, 1) := by decide +kernel
theorem d_F_init_252 : decode prog_1_method_1_code 252 = .ok (.iinc 1 1, 3) := by decide +kernel
theorem d_F_init_255 : decode prog_1_method_1_code 255 = .ok (.goto (-21), 3) := by decide +kernel
set_option maxRecDepth 100000 in
theorem c_F_init {l : Launch} {d : Nat} {Q : QT} (hQ : ∀ R Z : Nat → Nat → Int32, FIx R Z → Q none 88 (co R W0 Z T0 none hN)) : Ct l M_F_init (d + 60) 100 2000 [.ref 0] 1 (ov hN 0 [.inr (0, [.null, .null, .null, .null, .null, .null, .null, .null, .null, .null, .null, .null, .null, .null, .int 0])]) Q := by
  refine Ct.of (fun _ => trivial) (by decide) (Nat.le_of_ble_eq_true rfl) ?_
  refine V.aload_n d_F_init_0 rfl ?_
  refine V.objInit d_F_init_1 ⟨tm 28 (by decide +kernel) rfl, tm 29 (by decide +kernel) rfl, tm 30 (by decide +kernel) rfl⟩ (Nat.le_of_ble_eq_true rfl) ?_
  refine V.aload_n d_F_init_4 rfl ?_
  refine V.new d_F_init_5 nk_F_9 (by omega) (by omega) ?_
  refine V.eqH (ov_new rfl) ?_
  refine V.dup rfl d_F_init_8 ?_
  refine V.bipush_ (nI 50) d_F_init_9 (by decide +kernel) ?_
  refine V.callI1 d_F_init_11 k_F_11_Row_initI (Nat.le_of_ble_eq_true rfl) (by omega) (by omega) (c_Row_init (by decide) ?_)
  refine V.eqH (ov_cat rfl) ?_
  refine V.putF d_F_init_14 f_F_14_F fF_F_F_0 rfl (fun _ => rfl) (fun _ => rfl) (ov_get (k := 0) rfl rfl) (Nat.le_of_ble_eq_true rfl) ?_
  refine V.eqH ov_set0 ?_
  refine V.aload_n d_F_init_17 rfl ?_
  refine V.new d_F_init_18 nk_F_18 (by omega) (by omega) ?_
  refine V.eqH (ov_new rfl) ?_
  refine V.dup rfl d_F_init_21 ?_
  refine V.aload_n d_F_init_22 rfl ?_
  refine V.get d_F_init_23 f_F_14_F ((ov_lt (by decide)).trans (ov_get (k := 0) rfl rfl)) rfl ?_
  refine V.ldcS (i := 0) d_F_init_26 rfl rfl rfl (by decide) ?_
  refine V.bipush_ (-9) d_F_init_28 (by decide +kernel) ?_
  refine V.bipush_ (nI 9) d_F_init_30 (by decide +kernel) ?_
  refine V.callI4 d_F_init_32 k_F_22_Text_initI (Nat.le_of_ble_eq_true rfl) (by omega) (by omega) (c_Text_init ?_)
  refine V.eqH (ov_cat rfl) ?_
  refine V.putF d_F_init_35 f_F_25_F fF_F_F_1 rfl (fun _ => rfl) (fun _ => rfl) (ov_get (k := 0) rfl rfl) (Nat.le_of_ble_eq_true rfl) ?_
  refine V.eqH ov_set0 ?_
  refine V.aload_n d_F_init_38 rfl ?_
  refine V.new d_F_init_39 nk_F_18 (by omega) (by omega) ?_
  refine V.eqH (ov_new rfl) ?_
  refine V.dup rfl d_F_init_42 ?_
  refine V.aload_n d_F_init_43 rfl ?_
  refine V.get d_F_init_44 f_F_14_F ((ov_lt (by decide)).trans (ov_get (k := 0) rfl rfl)) rfl ?_
  refine V.ldcS (i := 1) d_F_init_47 rfl rfl rfl (by decide) ?_
  refine V.iconst_ (nI 0) d_F_init_49 (by decide +kernel) ?_
  refine V.bipush_ (nI 99) d_F_init_50 (by decide +kernel) ?_
  refine V.callI4 d_F_init_52 k_F_22_Text_initI (Nat.le_of_ble_eq_true rfl) (by omega) (by omega) (c_Text_init ?_)
  refine V.eqH (ov_cat rfl) ?_
  refine V.putF d_F_init_55 f_F_31_F fF_F_F_2 rfl (fun _ => rfl) (fun _ => rfl) (ov_get (k := 0) rfl rfl) (Nat.le_of_ble_eq_true rfl) ?_
  refine V.eqH ov_set0 ?_
  refine V.aload_n d_F_init_58 rfl ?_
  refine V.new d_F_init_59 nk_F_34 (by omega) (by omega) ?_
  refine V.eqH (ov_new rfl) ?_
  refine V.dup rfl d_F_init_62 ?_
  refine V.aload_n d_F_init_63 rfl ?_
  refine V.get d_F_init_64 f_F_25_F ((ov_lt (by decide)).trans (ov_get (k := 0) rfl rfl)) rfl ?_
  refine V.aload_n d_F_init_67 rfl ?_
  refine V.get d_F_init_68 f_F_31_F ((ov_lt (by decide)).trans (ov_get (k := 0) rfl rfl)) rfl ?_
  refine V.callI2 d_F_init_71 k_F_36_World_initI (Nat.le_of_ble_eq_true rfl) (by omega) (by omega) (c_World_init ?_)
  refine V.eqH (ov_cat rfl) ?_
  refine V.putF d_F_init_74 f_F_39_F fF_F_F_3 rfl (fun _ => rfl) (fun _ => rfl) (ov_get (k := 0) rfl rfl) (Nat.le_of_ble_eq_true rfl) ?_
  refine V.eqH ov_set0 ?_
  refine V.aload_n d_F_init_77 rfl ?_
  refine V.new d_F_init_78 nk_F_34 (by omega) (by omega) ?_
  refine V.eqH (ov_new rfl) ?_
  refine V.dup rfl d_F_init_81 ?_
  refine V.aload_n d_F_init_82 rfl ?_
  refine V.get d_F_init_83 f_F_25_F ((ov_lt (by decide)).trans (ov_get (k := 0) rfl rfl)) rfl ?_
  refine V.aload_n d_F_init_86 rfl ?_
  refine V.get d_F_init_87 f_F_31_F ((ov_lt (by decide)).trans (ov_get (k := 0) rfl rfl)) rfl ?_
  refine V.callI2 d_F_init_90 k_F_36_World_initI (Nat.le_of_ble_eq_true rfl) (by omega) (by omega) (c_World_init ?_)
  refine V.eqH (ov_cat rfl) ?_
  refine V.putF d_F_init_93 f_F_43_F fF_F_F_4 rfl (fun _ => rfl) (fun _ => rfl) (ov_get (k := 0) rfl rfl) (Nat.le_of_ble_eq_true rfl) ?_
  refine V.eqH ov_set0 ?_
  refine V.aload_n d_F_init_96 rfl ?_
  refine V.new d_F_init_97 nk_F_9 (by omega) (by omega) ?_
  refine V.eqH (ov_new rfl) ?_
  refine V.dup rfl d_F_init_100 ?_
  refine V.bipush_ (nI 20) d_F_init_101 (by decide +kernel) ?_
  refine V.callI1 d_F_init_103 k_F_11_Row_initI (Nat.le_of_ble_eq_true rfl) (by omega) (by omega) (c_Row_init (by decide) ?_)
  refine V.eqH (ov_cat rfl) ?_
  refine V.putF d_F_init_106 f_F_46_F fF_F_F_5 rfl (fun _ => rfl) (fun _ => rfl) (ov_get (k := 0) rfl rfl) (Nat.le_of_ble_eq_true rfl) ?_
  refine V.eqH ov_set0 ?_
  refine V.aload_n d_F_init_109 rfl ?_
  refine V.new d_F_init_110 nk_F_9 (by omega) (by omega) ?_
  refine V.eqH (ov_new rfl) ?_
  refine V.dup rfl d_F_init_113 ?_
  refine V.bipush_ (nI 40) d_F_init_114 (by decide +kernel) ?_
  refine V.callI1 d_F_init_116 k_F_11_Row_initI (Nat.le_of_ble_eq_true rfl) (by omega) (by omega) (c_Row_init (by decide) ?_)
  refine V.eqH (ov_cat rfl) ?_
  refine V.putF d_F_init_119 f_F_49_F fF_F_F_6 rfl (fun _ => rfl) (fun _ => rfl) (ov_get (k := 0) rfl rfl) (Nat.le_of_ble_eq_true rfl) ?_
  refine V.eqH ov_set0 ?_
  refine V.aload_n d_F_init_122 rfl ?_
  refine V.iconst_ (nI 4) d_F_init_123 (by decide +kernel) ?_
  refine V.anew d_F_init_124 (Or.inr ⟨rfl, rfl⟩) rfl (by decide) (tm 229 (by decide +kernel) rfl) (by omega) (by omega) ?_
  refine V.eqH (ov_push rfl) ?_
  refine V.putF d_F_init_127 f_F_54_F fF_F_F_7 rfl (fun _ => rfl) (fun _ => rfl) (ov_get (k := 0) rfl rfl) (Nat.le_of_ble_eq_true rfl) ?_
  refine V.eqH ov_set0 ?_
  refine V.aload_n d_F_init_130 rfl ?_
  refine V.bipush_ (nI 6) d_F_init_131 (by decide +kernel) ?_
  refine V.newarr d_F_init_133 (Or.inl ⟨rfl, rfl, rfl⟩) rfl (by first | decide | omega) (tm 58 (by decide +kernel) rfl) (by omega) (by omega) ?_
  refine V.eqH (ov_push rfl) ?_
  refine V.putF d_F_init_135 f_F_58_F fF_F_F_8 rfl (fun _ => rfl) (fun _ => rfl) (ov_get (k := 0) rfl rfl) (Nat.le_of_ble_eq_true rfl) ?_
  refine V.eqH ov_set0 ?_
  refine V.aload_n d_F_init_138 rfl ?_
  refine V.new d_F_init_139 nk_F_34 (by omega) (by omega) ?_
  refine V.eqH (ov_new rfl) ?_
  refine V.dup rfl d_F_init_142 ?_
  refine V.aload_n d_F_init_143 rfl ?_
  refine V.get d_F_init_144 f_F_25_F ((ov_lt (by decide)).trans (ov_get (k := 0) rfl rfl)) rfl ?_
  refine V.aload_n d_F_init_147 rfl ?_
  refine V.get d_F_init_148 f_F_31_F ((ov_lt (by decide)).trans (ov_get (k := 0) rfl rfl)) rfl ?_
  refine V.callI2 d_F_init_151 k_F_36_World_initI (Nat.le_of_ble_eq_true rfl) (by omega) (by omega) (c_World_init ?_)
  refine V.eqH (ov_cat rfl) ?_
  refine V.putF d_F_init_154 f_F_62_F fF_F_F_9 rfl (fun _ => rfl) (fun _ => rfl) (ov_get (k := 0) rfl rfl) (Nat.le_of_ble_eq_true rfl) ?_
  refine V.eqH ov_set0 ?_
  refine V.aload_n d_F_init_157 rfl ?_
  refine V.new d_F_init_158 nk_F_9 (by omega) (by omega) ?_
  refine V.eqH (ov_new rfl) ?_
  refine V.dup rfl d_F_init_161 ?_
  refine V.bipush_ (nI 50) d_F_init_162 (by decide +kernel) ?_
  refine V.callI1 d_F_init_164 k_F_11_Row_initI (Nat.le_of_ble_eq_true rfl) (by omega) (by omega) (c_Row_init (by decide) ?_)
  refine V.eqH (ov_cat rfl) ?_
  refine V.putF d_F_init_167 f_F_65_F fF_F_F_10 rfl (fun _ => rfl) (fun _ => rfl) (ov_get (k := 0) rfl rfl) (Nat.le_of_ble_eq_true rfl) ?_
  refine V.eqH ov_set0 ?_
  refine V.aload_n d_F_init_170 rfl ?_
  refine V.new d_F_init_171 nk_F_9 (by omega) (by omega) ?_
  refine V.eqH (ov_new rfl) ?_
  refine V.dup rfl d_F_init_174 ?_
  refine V.bipush_ (nI 20) d_F_init_175 (by decide +kernel) ?_
  refine V.callI1 d_F_init_177 k_F_11_Row_initI (Nat.le_of_ble_eq_true rfl) (by omega) (by omega) (c_Row_init (by decide) ?_)
  refine V.eqH (ov_cat rfl) ?_
  refine V.putF d_F_init_180 f_F_68_F fF_F_F_11 rfl (fun _ => rfl) (fun _ => rfl) (ov_get (k := 0) rfl rfl) (Nat.le_of_ble_eq_true rfl) ?_
  refine V.eqH ov_set0 ?_
  refine V.aload_n d_F_init_183 rfl ?_
  refine V.new d_F_init_184 nk_F_9 (by omega) (by omega) ?_
  refine V.eqH (ov_new rfl) ?_
  refine V.dup rfl d_F_init_187 ?_
  refine V.bipush_ (nI 50) d_F_init_188 (by decide +kernel) ?_
  refine V.callI1 d_F_init_190 k_F_11_Row_initI (Nat.le_of_ble_eq_true rfl) (by omega) (by omega) (c_Row_init (by decide) ?_)
  refine V.eqH (ov_cat rfl) ?_
  refine V.putF d_F_init_193 f_F_71_F fF_F_F_12 rfl (fun _ => rfl) (fun _ => rfl) (ov_get (k := 0) rfl rfl) (Nat.le_of_ble_eq_true rfl) ?_
  refine V.eqH ov_set0 ?_
  refine V.aload_n d_F_init_196 rfl ?_
  refine V.new d_F_init_197 nk_F_9 (by omega) (by omega) ?_
  refine V.eqH (ov_new rfl) ?_
  refine V.dup rfl d_F_init_200 ?_
  refine V.bipush_ (nI 50) d_F_init_201 (by decide +kernel) ?_
  refine V.callI1 d_F_init_203 k_F_11_Row_initI (Nat.le_of_ble_eq_true rfl) (by omega) (by omega) (c_Row_init (by decide) ?_)
  refine V.eqH (ov_cat rfl) ?_
  refine V.putF d_F_init_206 f_F_74_F fF_F_F_13 rfl (fun _ => rfl) (fun _ => rfl) (ov_get (k := 0) rfl rfl) (Nat.le_of_ble_eq_true rfl) ?_
  refine V.eqH ov_set0 ?_
  refine V.aload_n d_F_init_209 rfl ?_
  refine V.iconst_ (nI 0) d_F_init_210 (by decide +kernel) ?_
  refine V.put d_F_init_211 f_F_77_F fp_F_14 (fun _ => rfl) (fun _ => rfl) (ov_get (k := 0) rfl rfl) (Nat.le_of_ble_eq_true rfl) ?_
  refine V.eqH ov_set0 ?_
  refine V.eqH (h' := ov hN 0 INI) rfl ?_
  refine V.eqH ini_co ?_
  refine V.eqNx (n' := 80) rfl ?_
  refine V.aload_n d_F_init_214 rfl ?_
  refine V.get d_F_init_215 f_F_25_F (co_sQ sc_obQ) rfl ?_
  refine V.ldcS (i := 2) d_F_init_218 rfl rfl rfl (by decide) ?_
  refine V.callV1 d_F_init_220 k_F_83_Text_begin_TextV (co_sQ (sc_txQ (a := 3) (u := 0) rfl)) (Nat.le_of_ble_eq_true rfl) (by omega) (by omega) (c_Text_beginQ (u := 0) (i := 2) (by decide) (by decide) rfl T0_Q te_1.1 (fun R1 Z1 a1 a2 a3 a4 => ?_))
  rw [te_1.2] at a3 a4
  refine V.eqH (h' := coQ R1 W0 (uZ Z1 1 1 (nI 0)) T0 none (h53 0)) rfl ?_
  have e2 : R1 2 = bgk 2 (txl.getD 2 0) (R0 2) := (a1 2 (by decide) (by decide)).trans uA_s
  refine V.aload_n d_F_init_223 rfl ?_
  refine V.get d_F_init_224 f_F_31_F (co_sQ sc_obQ) rfl ?_
  refine V.ldcS (i := 3) d_F_init_227 rfl rfl rfl (by decide) ?_
  refine V.callV1 d_F_init_229 k_F_83_Text_begin_TextV (co_sQ (sc_txQ (a := 9) (u := 1) rfl)) (Nat.le_of_ble_eq_true rfl) (by omega) (by omega) (c_Text_beginQ (u := 1) (i := 3) (by decide) (by decide) uZ_s T0_Q (by rw [e2]; exact te_2.1) (fun R2 Z2 b1 b2 b3 b4 => ?_))
  rw [e2, te_2.2] at b3 b4
  refine V.eqH (h' := coQ R2 W0 (uZ Z2 1 1 (nI 0)) T0 none (h53 0)) rfl ?_
  have hF : FIx R2 (uZ Z2 1 1 (nI 0)) := FIx.of a1 a2 a3 a4 b1 b2 b3 b4
  refine V.iconst_ (nI 0) d_F_init_232 (by decide +kernel) ?_
  refine V.istore_n d_F_init_233 (by decide) ?_
  refine V.lc (ls' := [(0, .ref 0), (1, .int (nI 0))]) rfl ?_
  refine V.eqH (h' := ov (coQ R2 W0 (uZ Z2 1 1 (nI 0)) T0 none (h53 0)) 80 (SL 0)) (ov_nil (fun a ha => coQ_80 ha)) ?_
  refine up_to (G := fun k => V l M_F_init (d + 60) 100 2000 234 [(0, .ref 0), (1, .int (nI k))] [] (80 + 2 * k) (ov (coQ R2 W0 (uZ Z2 1 1 (nI 0)) T0 none (h53 k)) 80 (SL k)) (79 + 2 * k) (1210 + 43 * k) Q) 4 ?_ (fun k hk hn => ?_) 0 (by omega)
  · skip
    refine V.iload_n d_F_init_234 rfl ?_
    refine V.iconst_ (nI 4) d_F_init_235 (by decide +kernel) ?_
    refine V.geN (tgt := 258) d_F_init_236 (by decide) (by omega) (by omega) (fun c_236 => ?_) (fun c_236 => absurd c_236 (by omega))
    refine V.vret d_F_init_258 rfl (by omega) (by omega) ?_
    rw [ss_fin hF.r hF.z]
    exact hQ _ _ hF
  · skip
    refine V.iload_n d_F_init_234 rfl ?_
    refine V.iconst_ (nI 4) d_F_init_235 (by decide +kernel) ?_
    refine V.geN (tgt := 258) d_F_init_236 (by decide) (by omega) (by omega) (fun c_236 => absurd c_236 (by omega)) (fun c_236 => ?_)
    refine V.aload_n d_F_init_239 rfl ?_
    refine V.get d_F_init_240 f_F_54_F ((ov_lt (by decide)).trans (co_sQ sc_obQ)) rfl ?_
    refine V.iload_n d_F_init_243 rfl ?_
    refine V.new d_F_init_244 nk_F_52 (by omega) (by omega) ?_
    refine V.eqH (ov_newA (by rw [SL_len])) ?_
    refine V.dup rfl d_F_init_247 ?_
    refine V.callI0 d_F_init_248 k_F_89_Sheet_initI (Nat.le_of_ble_eq_true rfl) (by omega) (by omega) (c_Sheet_init ?_)
    refine V.aast d_F_init_251 (Or.inr ⟨rfl, rfl⟩) ((ov_lt (by omega)).trans ((ov_lt (by decide)).trans coQ_53)) (ov_get (k := 0) rfl rfl) rfl (Or.inl rfl) (vp_in_nI (by omega) (by omega)) ?_
    rw [icl (by omega)]
    refine V.eqH ss_step ?_
    refine V.incN d_F_init_252 rfl (by decide) ?_
    refine V.goto (tgt := 234) d_F_init_255 (by decide) ?_
    exact V.lc rfl hn
