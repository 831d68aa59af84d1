theorem tbI_at {D : Nat → Int32} {x v : Int32} : ∀ k j, tbI D x v k j = if 44 ≤ j ∧ j < 44 + k ∧ ((x >>> (nI (j - 44) &&& 31)) &&& nI 1) = nI 1 then v else D j := by
  intro k
  induction k with
  | zero => intro j; rw [if_neg (by omega)]; rfl
  | succ k ih =>
    intro j
    by_cases e : j = 44 + k
    · have e' : j - 44 = k := by omega
      by_cases h : ((x >>> (nI k &&& 31)) &&& nI 1) = nI 1
      · rw [tbI_t h, e, pk_us, if_pos ⟨by omega, by omega, by rw [show 44 + k - 44 = k by omega]; exact h⟩]
      · rw [tbI_f h, ih j, if_neg (by omega), if_neg (fun z => h (by rw [e'] at z; exact z.2.2))]
    · have s : tbI D x v (k + 1) j = tbI D x v k j := by
        by_cases h : ((x >>> (nI k &&& 31)) &&& nI 1) = nI 1
        · rw [tbI_t h, pk_un e]
        · rw [tbI_f h]
      rw [s, ih j]
      by_cases c : 44 ≤ j ∧ j < 44 + k ∧ ((x >>> (nI (j - 44) &&& 31)) &&& nI 1) = nI 1
      · rw [if_pos c, if_pos ⟨c.1, by omega, c.2.2⟩]
      · rw [if_neg c, if_neg (fun z => c ⟨z.1, by omega, z.2.2⟩)]
theorem abD_at {D : Nat → Int32} {st : Nat} : ∀ k j, abD D st k j = if 44 ≤ j ∧ j < 44 + k ∧ ((nI st >>> (nI (j - 44) &&& 31)) &&& nI 1) = nI 1 then nI 9 else D j := by
  intro k
  induction k with
  | zero => intro j; rw [if_neg (by omega)]; rfl
  | succ k ih =>
    intro j
    show upd (abD D st k) (44 + k) (if ((nI st >>> (nI k &&& 31)) &&& nI 1) = nI 1 then nI 9 else abD D st k (44 + k)) j = _
    by_cases e : j = 44 + k
    · subst e
      rw [pk_us, show 44 + k - 44 = k by omega]
      by_cases h : ((nI st >>> (nI k &&& 31)) &&& nI 1) = nI 1
      · rw [if_pos h, if_pos ⟨by omega, by omega, h⟩]
      · rw [if_neg h, if_neg (fun z => h z.2.2), ih, if_neg (by omega)]
    · rw [pk_un e, ih j]
      by_cases c : 44 ≤ j ∧ j < 44 + k ∧ ((nI st >>> (nI (j - 44) &&& 31)) &&& nI 1) = nI 1
      · rw [if_pos c, if_pos ⟨c.1, by omega, c.2.2⟩]
      · rw [if_neg c, if_neg (fun z => c ⟨z.1, by omega, z.2.2⟩)]
theorem tlD_at {D : Nat → Int32} {v : Nat} : ∀ k j, tlD D v k j = if 44 ≤ j ∧ j < 44 + k then nI v else D j := by
  intro k
  induction k with
  | zero => intro j; rw [if_neg (by omega)]; rfl
  | succ k ih =>
    intro j
    show upd (tlD D v k) (44 + k) (nI v) j = _
    by_cases e : j = 44 + k
    · subst e
      rw [pk_us, if_pos (by omega)]
    · rw [pk_un e, ih j]
      by_cases c : 44 ≤ j ∧ j < 44 + k
      · rw [if_pos c, if_pos (by omega)]
      · rw [if_neg c, if_neg (by omega)]
theorem msk_bit : ∀ a, a < 6 → ∀ b, b < 6 → ∀ p, p < 6 → (((((nI 1 <<< (nI a &&& 31)) ||| (nI 1 <<< (nI b &&& 31))) >>> (nI p &&& 31)) &&& nI 1) = nI 1 ↔ (p = a ∨ p = b)) := by decide +kernel
theorem b63 : ∀ p, p < 6 → ((nI 63 >>> (nI p &&& 31)) &&& nI 1) = nI 1 := by decide +kernel
theorem AG.gs {N a b v : Nat} {D E : Nat → Int32} (h : AT N D E) (ha : a ≤ 5) (hb : b ≤ 5) : AT N (gsD D a b v) (tbI E ((nI 1 <<< (nI a &&& 31)) ||| (nI 1 <<< (nI b &&& 31))) (nI v) 6) := fun j hj => by
  rw [tbI_at]
  unfold gsD
  by_cases c : 44 ≤ j ∧ j < 50
  · have m := msk_bit a (by omega) b (by omega) (j - 44) (by omega)
    by_cases e2 : j = 44 + b
    · rw [e2, pk_us, ← e2, if_pos ⟨by omega, by omega, m.mpr (by omega)⟩]
    · by_cases e1 : j = 44 + a
      · rw [pk_un e2, e1, pk_us, ← e1, if_pos ⟨by omega, by omega, m.mpr (by omega)⟩]
      · rw [pk_un e2, pk_un e1, if_neg (fun z => by have := m.mp z.2.2; omega)]
        exact h j hj
  · rw [if_neg (fun z => by omega), pk_un (by omega), pk_un (by omega)]
    exact h j hj
theorem AG.ab {N st : Nat} {D E : Nat → Int32} (h : AT N D E) : AT N (abD D st 6) (tbI E (nI st) (nI 9) 6) := fun j hj => by
  rw [tbI_at, abD_at, h j hj]
theorem AG.tl {N v : Nat} {D E : Nat → Int32} (h : AT N D E) : AT N (tlD D v 6) (tbI E (nI 63) (nI v) 6) := fun j hj => by
  rw [tbI_at, tlD_at, h j hj]
  by_cases c : 44 ≤ j ∧ j < 44 + 6
  · rw [if_pos c, if_pos ⟨c.1, c.2, b63 _ (by omega)⟩]
  · rw [if_neg c, if_neg (fun z => c ⟨z.1, z.2.1⟩)]
theorem odD_W {D : Nat → Int32} {a b v : Nat} : odD D a b v = odW D a b v := by
  unfold odD odW
  rw [show 8 + 6 * a + b = 8 + (a * 6 + b) by omega, show 8 + 6 * b + a = 8 + (b * 6 + a) by omega]
theorem sb_0 : ∀ i, i < 8 → ∀ k, k < 256 → (((nI k >>> (nI i &&& 31)) &&& nI 1) = 0 ↔ (nI k &&& (nI 1 <<< (nI i &&& 31))) = 0) := by decide +kernel
theorem sb_1 : ∀ i, i < 8 → ∀ k, k < 256 → (((nI k >>> (nI i &&& 31)) &&& nI 1) = 0 ∨ ((nI k >>> (nI i &&& 31)) &&& nI 1) = nI 1) := by decide +kernel
theorem stS_256 {D : Nat → Int32} {b : Bool} {N : Nat} (hN : N ≤ 8) : ∃ k, k < 256 ∧ stS D b N = nI k := by
  obtain ⟨k, hk, e⟩ := stS_nat (D := D) (b := b) N hN
  have : 2 ^ N ≤ 2 ^ 8 := Nat.pow_le_pow_right (by decide) hN
  exact ⟨k, by omega, e⟩
theorem stS_sh {D : Nat → Int32} {N i : Nat} (hN : N ≤ 8) (hi : i < N) (h : NB D (50 + 7 * i + 6) 1) : ((stS D true N >>> (nI i &&& 31)) &&& nI 1) = D (50 + 7 * i + 6) := by
  obtain ⟨k, hk, e⟩ := stS_256 (D := D) (b := true) hN
  have o := stS_one (D := D) hN hi
  have z := sb_0 i (by omega) k hk
  rw [e] at o ⊢
  obtain ⟨c, hc, ec⟩ := h
  rcases (show c = 0 ∨ c = 1 by omega) with rfl | rfl
  · rw [ec]
    exact z.mpr (o.mpr (by rw [ec]; decide))
  · rw [ec]
    exact (sb_1 i (by omega) k hk).resolve_left (fun q => o.mp (z.mp q) ec)
theorem stS_bt {D : Nat → Int32} {b : Bool} {N : Nat} (hN : N ≤ 8) : btc (stS D b N) = bcv (stS D b N) := by
  obtain ⟨k, hk, e⟩ := stS_256 (D := D) (b := b) hN
  rw [e]
  exact (bcv_btc k hk).symm
theorem dsD_01 {cv wv : Int32 → Int32 → Int32 → Int32} {N i : Nat} {E : Nat → Int32} (h : NB E (50 + 7 * i + 6) 1) : ∀ k, NB (dsD cv wv N k E).1 (50 + 7 * i + 6) 1 := by
  intro k
  induction k with
  | zero => exact h
  | succ k ih =>
    rw [dsD_s]
    show ∃ c, c ≤ 1 ∧ (dayD cv wv N (dsD cv wv N k E).1).1 (50 + 7 * i + 6) = nI c
    rcases dayD_st (cv := cv) (wv := wv) (N := N) (D := (dsD cv wv N k E).1) (j := i) with e | e
    · rw [e]; exact ih
    · exact ⟨0, by omega, e⟩
section TIE3
variable {m : Nat} {R W Z : Nat → Nat → Int32} {T : Nat → Nat → Nat} {kn : Kn} {n : Nat} {D : Nat → Int32} {A : Nat → Nat → Int32} {S : Nat → Int32} {N dy tp wt : Nat} {Wc0 : Nat → Nat} {len0 : Nat} {V0 : Nat → Nat} {l0 : Nat} {Wc1 : Nat → Nat} {len1 : Nat} {V1 : Nat → Nat} {l1 : Nat}
theorem RelP.tieS (hP : RelP m R W Z T kn n D A S N dy tp wt Wc0 len0 V0 l0 Wc1 len1 V1 l1) {E F : Nat → Int32} (hA : AT N E F) (hk : ∀ j, 50 ≤ j → j < 106 → F j = W 0 j) (k : Nat) : stb (dsD (tgv 0 V0 l0) (tgv 1 V1 l1) N k E).1 N = stS (dsG (cvc Wc0 len0) (wvc Wc1 len1) N (fun i => (imP (W 0) N).getD i 0) (imP (W 0) N).length F k).1 true N ∧ (∀ i, i < N → (dsG (cvc Wc0 len0) (wvc Wc1 len1) N (fun i => (imP (W 0) N).getD i 0) (imP (W 0) N).length F k).1 (50 + 7 * i + 6) = (dsD (tgv 0 V0 l0) (tgv 1 V1 l1) N k E).1 (50 + 7 * i + 6) ∧ NB (dsD (tgv 0 V0 l0) (tgv 1 V1 l1) N k E).1 (50 + 7 * i + 6) 1) ∧ (dsG (cvc Wc0 len0) (wvc Wc1 len1) N (fun i => (imP (W 0) N).getD i 0) (imP (W 0) N).length F k).2 = (dsD (tgv 0 V0 l0) (tgv 1 V1 l1) N k E).2 := by
  obtain ⟨hN8, -, -, -, hB0, hBD, hAT, hDF⟩ := id hP.1.1
  have t := hP.tie (AG.w hA) (fun i hi => ⟨hk _ (by omega) (by omega), hk _ (by omega) (by omega), fun z => by rw [hk _ (by omega) (by omega)] at z; exact z⟩) k
  have nb : ∀ i, i < N → NB (dsD (tgv 0 V0 l0) (tgv 1 V1 l1) N k E).1 (50 + 7 * i + 6) 1 := fun i hi => dsD_01 (by
    unfold NB
    rw [← hA.tr hi (by omega), hk _ (by omega) (by omega)]
    exact hB0.k6 (by omega)) k
  exact ⟨by rw [stb_S N nb, t.1.stS_], fun i hi => ⟨t.1.tr hi (by omega), nb i hi⟩, t.2⟩
end TIE3
/-! the smallest set that does it -/
def pc (u : Nat) : Nat := (btc (nI u)).toNatClampNeg
theorem pc_e : ∀ u, u < 64 → pc u ≤ 6 ∧ btc (nI u) = nI (pc u) ∧ bcv (nI u) = nI (pc u) := by decide +kernel
theorem abB_spec {cv wv : Int32 → Int32 → Int32 → Int32} {N : Nat} {D : Nat → Int32} {k : Nat} {x : Int32} {ok : Nat → Prop} (hok : ∀ u, u < 64 → ((stb (dsD cv wv N k (abD D u 6)).1 N &&& x) = 0 ↔ ok u)) : ∀ n, n ≤ 64 → (abB cv wv N D k x n = -1 ∧ ∀ u, u < n → ¬ ok u) ∨ ∃ v, v < n ∧ abB cv wv N D k x n = nI v ∧ ok v ∧ ∀ u, u < n → ok u → pc v < pc u ∨ (pc v = pc u ∧ v ≤ u) := by
  intro n
  induction n with
  | zero => intro _; exact Or.inl ⟨rfl, fun u hu => absurd hu (by omega)⟩
  | succ n ih =>
    intro hn
    have s : abB cv wv N D k x (n + 1) = if ¬ abB cv wv N D k x n < 0 ∧ ¬ btc (nI n) < btc (abB cv wv N D k x n) then abB cv wv N D k x n else if (stb (dsD cv wv N k (abD D n 6)).1 N &&& x) = 0 then nI n else abB cv wv N D k x n := rfl
    have o := hok n (by omega)
    rcases ih (by omega) with ⟨e, h⟩ | ⟨v, hv, e, h1, h2⟩
    · rw [e] at s
      rw [if_neg (fun z => z.1 (show (-1 : Int32) < 0 by decide))] at s
      by_cases c : ok n
      · rw [if_pos (o.mpr c)] at s
        refine Or.inr ⟨n, by omega, s, c, fun u hu hu2 => ?_⟩
        by_cases z : u = n
        · subst z; exact Or.inr ⟨rfl, Nat.le_refl _⟩
        · exact absurd hu2 (h u (by omega))
      · rw [if_neg (fun z => c (o.mp z))] at s
        refine Or.inl ⟨s, fun u hu => ?_⟩
        by_cases z : u = n
        · subst z; exact c
        · exact h u (by omega)
    · rw [e] at s
      have e1 := (pc_e v (by omega)).2.1
      have e2 := (pc_e n (by omega)).2.1
      have l1 := (pc_e v (by omega)).1
      have l2 := (pc_e n (by omega)).1
      have n0 : ¬ nI v < 0 := Int32.not_lt.mpr (nI_pos' (by omega))
      by_cases g : pc n < pc v
      · have g' : btc (nI n) < btc (nI v) := by rw [e1, e2]; exact (nI_ltI (by omega) (by omega)).mpr g
        rw [if_neg (fun z => z.2 g')] at s
        by_cases c : ok n
        · rw [if_pos (o.mpr c)] at s
          refine Or.inr ⟨n, by omega, s, c, fun u hu hu2 => ?_⟩
          by_cases z : u = n
          · subst z; exact Or.inr ⟨rfl, Nat.le_refl _⟩
          · have := h2 u (by omega) hu2
            omega
        · rw [if_neg (fun z => c (o.mp z))] at s
          refine Or.inr ⟨v, by omega, s, h1, fun u hu hu2 => ?_⟩
          by_cases z : u = n
          · subst z; exact absurd hu2 c
          · exact h2 u (by omega) hu2
      · have g' : ¬ btc (nI n) < btc (nI v) := by rw [e1, e2]; exact fun z => g ((nI_ltI (by omega) (by omega)).mp z)
        rw [if_pos ⟨n0, g'⟩] at s
        refine Or.inr ⟨v, by omega, s, h1, fun u hu hu2 => ?_⟩
        by_cases z : u = n
        · subst z; omega
        · exact h2 u (by omega) hu2
/-! those who talk: upwards and downwards -/
def lS (b : Bool) (v : Nat) (ml : Nat × Int32) : Nat × Int32 := if b = true then (ml.1 + 1, if ml.1 = 0 then nI v else ml.2) else ml
def dS (b : Bool) (v : Nat) (ml : Nat × Int32) : Nat × Int32 := if b = true then (ml.1 + 1, nI v) else ml
theorem lS_dS : ∀ b0 b1 b2 b3 b4 b5 b6 b7 b8 b9 : Bool, (lS b9 9 (lS b8 8 (lS b7 7 (lS b6 6 (lS b5 5 (lS b4 4 (lS b3 3 (lS b2 2 (lS b1 1 (lS b0 0 (0, -1))))))))))) = (dS b0 0 (dS b1 1 (dS b2 2 (dS b3 3 (dS b4 4 (dS b5 5 (dS b6 6 (dS b7 7 (dS b8 8 (dS b9 9 (0, -1))))))))))) ∧ ((dS b0 0 (dS b1 1 (dS b2 2 (dS b3 3 (dS b4 4 (dS b5 5 (dS b6 6 (dS b7 7 (dS b8 8 (dS b9 9 (0, -1))))))))))).1 = 0 ↔ (dS b0 0 (dS b1 1 (dS b2 2 (dS b3 3 (dS b4 4 (dS b5 5 (dS b6 6 (dS b7 7 (dS b8 8 (dS b9 9 (0, -1))))))))))).2 < 0) := by decide +kernel
def lA (P : Nat → Bool) : Nat → Nat × Int32 := fun k => itr (fun v ml => lS (P v) v ml) k (0, -1)
theorem lA_td (P : Nat → Bool) : lA P 10 = tdB P 10 ∧ ((tdB P 10).1 = 0 ↔ (tdB P 10).2 < 0) := lS_dS (P 0) (P 1) (P 2) (P 3) (P 4) (P 5) (P 6) (P 7) (P 8) (P 9)
theorem tlB_lA {cv wv : Int32 → Int32 → Int32 → Int32} {N : Nat} {D : Nat → Int32} {k i : Nat} {f : Nat → Int32} {P : Nat → Bool} (h : ∀ v, v < 10 → tlI f (stb (dsD cv wv N k (tlD D v 6)).1 N) i N = P v) : ∀ n, n ≤ 10 → tlB cv wv N D k i f n = lA P n := by
  intro n
  induction n with
  | zero => intro _; rfl
  | succ n ih =>
    intro hn
    show (if tlI f (stb (dsD cv wv N k (tlD D n 6)).1 N) i N = true then ((tlB cv wv N D k i f n).1 + 1, if (tlB cv wv N D k i f n).1 = 0 then nI n else (tlB cv wv N D k i f n).2) else tlB cv wv N D k i f n) = lS (P n) n (lA P n)
    rw [h n (by omega), ih (by omega)]
    rfl
theorem tlI_iff {f : Nat → Int32} {g : Int32} {i : Nat} : ∀ t, tlI f g i t = true ↔ ∀ j, j < t → f (40 * i + j) = ((g >>> (nI j &&& 31)) &&& nI 1) := by
  intro t
  induction t with
  | zero => exact ⟨fun _ j hj => absurd hj (by omega), fun _ => rfl⟩
  | succ t ih =>
    have s : tlI f g i (t + 1) = (tlI f g i t && decide (f (40 * i + t) = ((g >>> (nI t &&& 31)) &&& nI 1))) := rfl
    rw [s, Bool.and_eq_true, ih, decide_eq_true_iff]
    refine ⟨fun z j hj => ?_, fun z => ⟨fun j hj => z j (by omega), z t (by omega)⟩⟩
    by_cases e : j = t
    · subst e; exact z.2
    · exact z.1 j (by omega)
theorem kpB_z {cv wv : Int32 → Int32 → Int32 → Int32} {N : Nat} {D : Nat → Int32} {k n : Nat} : kpB cv wv N D k (n + 1) = if (kpB cv wv N D k n).2 < btc (stb (dsD cv wv N k (kpD D n 6)).1 N) then (nI n, btc (stb (dsD cv wv N k (kpD D n 6)).1 N)) else kpB cv wv N D k n := rfl
theorem kpB_0 {cv wv : Int32 → Int32 → Int32 → Int32} {N : Nat} {D : Nat → Int32} {k : Nat} : kpB cv wv N D k 0 = (nI 0, -1) := rfl
theorem kcB_0 {f : Nat → Int32} : kcB f 0 = (nI 0, -1) := rfl
theorem kcB_z {f : Nat → Int32} {n : Nat} : kcB f (n + 1) = if (kcB f n).2 < f n then (nI n, f n) else kcB f n := rfl
theorem kpB_c {cv wv : Int32 → Int32 → Int32 → Int32} {N : Nat} {D : Nat → Int32} {k : Nat} {f : Nat → Int32} (h : ∀ p, p < 6 → btc (stb (dsD cv wv N k (kpD D p 6)).1 N) = f p) : ∀ n, n ≤ 6 → kpB cv wv N D k n = kcB f n := by
  intro n
  induction n with
  | zero => intro _; rw [kpB_0, kcB_0]
  | succ n ih =>
    intro hn
    rw [kpB_z, kcB_z, h n (by omega), ih (by omega)]
theorem odB_c {cv wv : Int32 → Int32 → Int32 → Int32} {N : Nat} {D : Nat → Int32} {k i a b : Nat} {P : Nat → Bool} (h : ∀ v, v < 10 → ((stb (dsD cv wv N k (odD D a b v)).1 N >>> (nI i &&& 31)) &&& nI 1) = if P v = true then nI 0 else nI 1) : ∀ n, n ≤ 10 → odB cv wv N D k i a b n = nI (ocB P n) ∧ ocB P n ≤ n := by
  intro n
  induction n with
  | zero => intro _; exact ⟨rfl, Nat.le_refl _⟩
  | succ n ih =>
    intro hn
    obtain ⟨i1, i2⟩ := ih (by omega)
    have s1 : odB cv wv N D k i a b (n + 1) = odB cv wv N D k i a b n + (nI 1 - ((stb (dsD cv wv N k (odD D a b n)).1 N >>> (nI i &&& 31)) &&& nI 1)) := rfl
    have s2 : ocB P (n + 1) = if P n = true then ocB P n + 1 else ocB P n := rfl
    rw [s1, s2, h n (by omega), i1]
    by_cases c : P n = true
    · rw [if_pos c, if_pos c, pk_sub (by omega), nI_add]; exact ⟨rfl, by omega⟩
    · rw [if_neg c, if_neg c, pk_sub (by omega)]
      show nI (ocB P n) + nI (1 - 1) = _ ∧ _
      rw [nI_add]
      exact ⟨rfl, by omega⟩
theorem cdP_k : ∀ m, m < 11 → gcdf 101 m 10 ≤ 10 ∧ 1 ≤ gcdf 101 m 10 ∧ m % gcdf 101 m 10 = 0 ∧ 10 % gcdf 101 m 10 = 0 ∧ ∀ r, r < 11 → gcdf 101 m 10 < r → ¬ (m % r = 0 ∧ 10 % r = 0) := by decide +kernel
theorem cdP_g {m r : Nat} (hm : m ≤ 10) (hr : r ≤ 10) (h : cdP m r) : gcdf 101 m 10 = r := by
  obtain ⟨k1, k2, k3, k4, k5⟩ := cdP_k m (by omega)
  obtain ⟨h1, h2, h3⟩ := h
  by_cases a : r < gcdf 101 m 10
  · exact absurd ⟨k3, k4⟩ (h3 _ k1 a)
  · by_cases b : gcdf 101 m 10 < r
    · exact absurd (h2.resolve_left (by omega)) (k5 r (by omega) b)
    · omega
