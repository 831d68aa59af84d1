/-! ===== the reading of a text, as it is: a place, whether a fault was met (there), the words so far ===== -/
abbrev PS : Type := Nat × Bool × List Nat
def hr (f : Nat → Int32) (sz : Nat) (s : PS) : Int32 := if s.1 < sz ∧ s.2.1 = false then f s.1 else -1
def adv (s : PS) : PS := (s.1 + 1, s.2.1, s.2.2)
def ly (w : Nat) (s : PS) : PS := if s.2.1 = true then s else (s.1, false, s.2.2 ++ [w])
def wg (s : PS) : PS := (s.1, true, s.2.2)
def nmo (wd : Bool) (c : Int32) : Option Nat := if c = nI (if wd then 120 else 104) then some 0 else if c = nI (if wd then 109 else 116) then some 1 else if c = nI (if wd then 112 else 100) then some 2 else none
def dgt (f : Nat → Int32) (sz : Nat) : Nat → Nat × PS → Nat × PS
  | 0, x => x
  | k + 1, x => if wi (hr f sz x.2) (nI 48) (nI 57) = true then dgt f sz k (10 * x.1 + ((hr f sz x.2).toNatClampNeg - 48), adv x.2) else x
def nuP (f : Nat → Int32) (sz : Nat) (s : PS) : PS := if (dgt f sz 4 (0, s)).2.1 = s.1 then wg s else ly (dgt f sz 4 (0, s)).1 (dgt f sz 4 (0, s)).2
def lp (f : Nat → Int32) (sz : Nat) (sg : Int32 → Bool) (u : PS → PS) : Nat → PS → PS
  | 0, s => s
  | k + 1, s => if sg (hr f sz s) = true then lp f sz sg u k (ly (20000 + (hr f sz s).toNatClampNeg) (u (adv s))) else s
def sg4 (c : Int32) : Bool := decide (c = nI 42 ∨ c = nI 47 ∨ c = nI 37)
def sg3 (c : Int32) : Bool := decide (c = nI 43 ∨ c = nI 45)
def sg2 (c : Int32) : Bool := decide (c = nI 60 ∨ c = nI 61 ∨ c = nI 62)
def sg1 (c : Int32) : Bool := decide (c = nI 38)
def sg0 (c : Int32) : Bool := decide (c = nI 124)
section PP
variable (f : Nat → Int32) (sz : Nat)
def prP (u : PS → PS) (s : PS) : PS := lp f sz sg4 u 50 (u s)
def smP (u : PS → PS) (s : PS) : PS := lp f sz sg3 (prP f sz u) 50 (prP f sz u s)
def cmP (u : PS → PS) (s : PS) : PS := lp f sz sg2 (smP f sz u) 1 (smP f sz u s)
def boP (u : PS → PS) (s : PS) : PS := lp f sz sg1 (cmP f sz u) 50 (cmP f sz u s)
def eiP (u : PS → PS) (s : PS) : PS := lp f sz sg0 (boP f sz u) 50 (boP f sz u s)
def clP (s : PS) : PS := if hr f sz s = nI 41 then adv s else wg s
def opP (o : Option (PS → PS)) (s : PS) : PS := match o with
  | none => wg s
  | some u => if hr f sz s = nI 33 then ly 20033 (u (adv s)) else clP f sz (eiP f sz u (adv s))
def utP (wd : Bool) (o : Option (PS → PS)) (s : PS) : PS := if hr f sz s = nI 33 ∨ hr f sz s = nI 40 then opP f sz o s else match nmo wd (hr f sz s) with
  | some k => ly (10000 + k) (adv s)
  | none => nuP f sz s
def unP (wd : Bool) : Nat → PS → PS
  | 0 => utP f sz wd none
  | o + 1 => utP f sz wd (some (unP wd o))
def teP (wd : Bool) : PS := let s := eiP f sz (unP f sz wd 5) (0, false, []); if s.2.1 = false ∧ s.1 < sz then wg s else s
end PP
/-- places stay inside; a word takes a byte -/
def Gp (sz : Nat) (u : PS → PS) : Prop := ∀ s, s.1 ≤ sz → s.1 ≤ (u s).1 ∧ (u s).1 ≤ sz ∧ (u s).2.2.length + s.1 ≤ (u s).1 + s.2.2.length
section PL
variable {f : Nat → Int32} {sz : Nat}
theorem hr_lt {s : PS} {c : Nat} (hc : c < 2 ^ 31) (h : hr f sz s = nI c) : s.1 < sz ∧ s.2.1 = false := by
  unfold hr at h
  split at h
  · assumption
  · exact absurd (congrArg Int32.toInt h) (by rw [nI_toInt hc]; show ¬ (-1 : Int) = _; omega)
theorem hr_lt9 {s : PS} (h : wi (hr f sz s) (nI 48) (nI 57) = true) : s.1 < sz ∧ s.2.1 = false := by
  obtain ⟨h1, h2⟩ := wi_t h
  obtain ⟨c, hc, e⟩ := wi_nat (k := 57) (by decide) (show wi (hr f sz s) 0 (nI 57) = true by unfold wi; rw [decide_eq_true h2, decide_eq_true (Int32.le_trans (by decide +kernel) h1)]; rfl)
  exact hr_lt (by omega) e
theorem tn_nI {x : Int32} {c : Nat} (hc : c < 2 ^ 31) (h : x = nI c) : x = nI x.toNatClampNeg := by rw [h, icl hc]
theorem sg_nat {sg : Int32 → Bool} {x : Int32} (hs : sg = sg0 ∨ sg = sg1 ∨ sg = sg2 ∨ sg = sg3 ∨ sg = sg4) (h : sg x = true) : ∃ c, c < 200 ∧ x = nI c ∧ c ≠ 33 ∧ c ≠ 40 := by
  rcases hs with rfl | rfl | rfl | rfl | rfl
  · exact ⟨124, by decide, by simpa [sg0] using h, by decide, by decide⟩
  · exact ⟨38, by decide, by simpa [sg1] using h, by decide, by decide⟩
  · rcases (by simpa [sg2] using h : x = nI 60 ∨ x = nI 61 ∨ x = nI 62) with e | e | e
    · exact ⟨60, by decide, e, by decide, by decide⟩
    · exact ⟨61, by decide, e, by decide, by decide⟩
    · exact ⟨62, by decide, e, by decide, by decide⟩
  · rcases (by simpa [sg3] using h : x = nI 43 ∨ x = nI 45) with e | e
    · exact ⟨43, by decide, e, by decide, by decide⟩
    · exact ⟨45, by decide, e, by decide, by decide⟩
  · rcases (by simpa [sg4] using h : x = nI 42 ∨ x = nI 47 ∨ x = nI 37) with e | e | e
    · exact ⟨42, by decide, e, by decide, by decide⟩
    · exact ⟨47, by decide, e, by decide, by decide⟩
    · exact ⟨37, by decide, e, by decide, by decide⟩
abbrev Sg (sg : Int32 → Bool) : Prop := sg = sg0 ∨ sg = sg1 ∨ sg = sg2 ∨ sg = sg3 ∨ sg = sg4
theorem ly_1 {w : Nat} {s : PS} : (ly w s).1 = s.1 := by unfold ly; split <;> rfl
theorem ly_len {w : Nat} {s : PS} : (ly w s).2.2.length ≤ s.2.2.length + 1 := by
  unfold ly
  split
  · omega
  · show (s.2.2 ++ [w]).length ≤ _
    rw [List.length_append]; exact Nat.le_refl _
theorem Gp.lpx {sg : Int32 → Bool} {u : PS → PS} (hs : Sg sg) (hu : Gp sz u) : ∀ k, Gp sz (lp f sz sg u k) := by
  intro k
  induction k with
  | zero => intro s h; exact ⟨Nat.le_refl _, h, by show s.2.2.length + s.1 ≤ s.1 + s.2.2.length; omega⟩
  | succ k ih =>
    intro s h
    unfold lp
    split
    · next hc =>
      obtain ⟨c, hc2, e, -⟩ := sg_nat hs hc
      obtain ⟨hl, -⟩ := hr_lt (by omega) e
      obtain ⟨a1, a2, a3⟩ := hu (adv s) hl
      obtain ⟨b1, b2, b3⟩ := ih (ly (20000 + (hr f sz s).toNatClampNeg) (u (adv s))) (by rw [ly_1]; exact a2)
      have e1 := ly_len (w := 20000 + (hr f sz s).toNatClampNeg) (s := u (adv s))
      rw [ly_1] at b1 b3
      have a1' : s.1 + 1 ≤ (u (adv s)).1 := a1
      have a3' : (u (adv s)).2.2.length + (s.1 + 1) ≤ (u (adv s)).1 + s.2.2.length := a3
      exact ⟨by omega, b2, by omega⟩
    · exact ⟨Nat.le_refl _, h, by omega⟩
theorem Gp.comp {u v : PS → PS} (hu : Gp sz u) (hv : Gp sz v) : Gp sz (fun s => v (u s)) := fun s h => by
  obtain ⟨a1, a2, a3⟩ := hu s h
  obtain ⟨b1, b2, b3⟩ := hv (u s) a2
  exact ⟨Nat.le_trans a1 b1, b2, by show (v (u s)).2.2.length + s.1 ≤ (v (u s)).1 + s.2.2.length; omega⟩
theorem Gp.pr {u : PS → PS} (hu : Gp sz u) : Gp sz (prP f sz u) := hu.comp (Gp.lpx (Or.inr (Or.inr (Or.inr (Or.inr rfl)))) hu 50)
theorem Gp.sm {u : PS → PS} (hu : Gp sz u) : Gp sz (smP f sz u) := (Gp.pr hu).comp (Gp.lpx (Or.inr (Or.inr (Or.inr (Or.inl rfl)))) (Gp.pr hu) 50)
theorem Gp.cm {u : PS → PS} (hu : Gp sz u) : Gp sz (cmP f sz u) := (Gp.sm hu).comp (Gp.lpx (Or.inr (Or.inr (Or.inl rfl))) (Gp.sm hu) 1)
theorem Gp.bo {u : PS → PS} (hu : Gp sz u) : Gp sz (boP f sz u) := (Gp.cm hu).comp (Gp.lpx (Or.inr (Or.inl rfl)) (Gp.cm hu) 50)
theorem Gp.ei {u : PS → PS} (hu : Gp sz u) : Gp sz (eiP f sz u) := (Gp.bo hu).comp (Gp.lpx (Or.inl rfl) (Gp.bo hu) 50)
theorem Gp.wgx : Gp sz wg := fun s h => ⟨Nat.le_refl _, h, by show s.2.2.length + s.1 ≤ s.1 + s.2.2.length; omega⟩
theorem dgt_gp : ∀ (k : Nat) (x : Nat × PS), x.2.1 ≤ sz → x.2.1 ≤ (dgt f sz k x).2.1 ∧ (dgt f sz k x).2.1 ≤ sz ∧ (dgt f sz k x).2.2 = x.2.2 ∧ (dgt f sz k x).2.1 ≤ x.2.1 + k := by
  intro k
  induction k with
  | zero => intro x h; exact ⟨Nat.le_refl _, h, rfl, Nat.le_refl _⟩
  | succ k ih =>
    intro x h
    unfold dgt
    split
    · next hc =>
      obtain ⟨h1, h2, h3, h4⟩ := ih (10 * x.1 + ((hr f sz x.2).toNatClampNeg - 48), adv x.2) (hr_lt9 hc).1
      have e1 : (10 * x.1 + ((hr f sz x.2).toNatClampNeg - 48), adv x.2).2.1 = x.2.1 + 1 := rfl
      rw [e1] at h1 h4
      exact ⟨by omega, h2, h3, by omega⟩
    · exact ⟨Nat.le_refl _, h, rfl, by omega⟩
theorem Gp.nu : Gp sz (nuP f sz) := fun s h => by
  obtain ⟨h1, h2, h3, -⟩ := dgt_gp (f := f) (sz := sz) 4 (0, s) h
  unfold nuP
  split
  · exact Gp.wgx s h
  · next hne =>
    have h1' : s.1 ≤ (dgt f sz 4 (0, s)).2.1 := h1
    have h3' : (dgt f sz 4 (0, s)).2.2 = s.2 := h3
    have e1 := ly_len (w := (dgt f sz 4 (0, s)).1) (s := (dgt f sz 4 (0, s)).2)
    rw [h3'] at e1
    rw [ly_1]
    exact ⟨h1', h2, by omega⟩
theorem nmo_lt {wd : Bool} {x : Int32} {k : Nat} (h : nmo wd x = some k) : k < 3 ∧ ∃ c, c < 200 ∧ x = nI c := by
  cases wd <;> (simp only [nmo, Bool.false_eq_true, if_false, if_true] at h)
  · by_cases h1 : x = nI 104
    · rw [if_pos h1] at h; cases h; exact ⟨by decide, 104, by decide, h1⟩
    · rw [if_neg h1] at h
      by_cases h2 : x = nI 116
      · rw [if_pos h2] at h; cases h; exact ⟨by decide, 116, by decide, h2⟩
      · rw [if_neg h2] at h
        by_cases h3 : x = nI 100
        · rw [if_pos h3] at h; cases h; exact ⟨by decide, 100, by decide, h3⟩
        · rw [if_neg h3] at h; cases h
  · by_cases h1 : x = nI 120
    · rw [if_pos h1] at h; cases h; exact ⟨by decide, 120, by decide, h1⟩
    · rw [if_neg h1] at h
      by_cases h2 : x = nI 109
      · rw [if_pos h2] at h; cases h; exact ⟨by decide, 109, by decide, h2⟩
      · rw [if_neg h2] at h
        by_cases h3 : x = nI 112
        · rw [if_pos h3] at h; cases h; exact ⟨by decide, 112, by decide, h3⟩
        · rw [if_neg h3] at h; cases h
theorem Gp.ut {wd : Bool} {o : Option (PS → PS)} (ho : ∀ u, o = some u → Gp sz u) : Gp sz (utP f sz wd o) := fun s h => by
  unfold utP
  split
  · next hc =>
    have hl : s.1 < sz := by rcases hc with hc | hc <;> exact (hr_lt (by decide) hc).1
    cases o with
    | none => exact Gp.wgx s h
    | some u =>
      have hu := ho u rfl
      show _ ≤ (if hr f sz s = nI 33 then ly 20033 (u (adv s)) else clP f sz (eiP f sz u (adv s))).1 ∧ (if hr f sz s = nI 33 then ly 20033 (u (adv s)) else clP f sz (eiP f sz u (adv s))).1 ≤ sz ∧ (if hr f sz s = nI 33 then ly 20033 (u (adv s)) else clP f sz (eiP f sz u (adv s))).2.2.length + s.1 ≤ (if hr f sz s = nI 33 then ly 20033 (u (adv s)) else clP f sz (eiP f sz u (adv s))).1 + s.2.2.length
      split
      · obtain ⟨a1, a2, a3⟩ := hu (adv s) hl
        have e1 := ly_len (w := 20033) (s := u (adv s))
        have a1' : s.1 + 1 ≤ (u (adv s)).1 := a1
        have a3' : (u (adv s)).2.2.length + (s.1 + 1) ≤ (u (adv s)).1 + s.2.2.length := a3
        rw [ly_1]
        exact ⟨by omega, a2, by omega⟩
      · obtain ⟨a1, a2, a3⟩ := (Gp.ei (f := f) hu) (adv s) hl
        have a1' : s.1 + 1 ≤ (eiP f sz u (adv s)).1 := a1
        have a3' : (eiP f sz u (adv s)).2.2.length + (s.1 + 1) ≤ (eiP f sz u (adv s)).1 + s.2.2.length := a3
        unfold clP
        split
        · next hc2 =>
          have := (hr_lt (by decide) hc2).1
          exact ⟨by show s.1 ≤ (eiP f sz u (adv s)).1 + 1; omega, this, by show (eiP f sz u (adv s)).2.2.length + s.1 ≤ (eiP f sz u (adv s)).1 + 1 + s.2.2.length; omega⟩
        · exact ⟨by show s.1 ≤ (eiP f sz u (adv s)).1; omega, a2, by show (eiP f sz u (adv s)).2.2.length + s.1 ≤ (eiP f sz u (adv s)).1 + s.2.2.length; omega⟩
  · split
    · next k hk =>
      obtain ⟨-, c, hc, ec⟩ := nmo_lt hk
      have hl : s.1 < sz := (hr_lt (by omega) ec).1
      have e1 := ly_len (w := 10000 + k) (s := adv s)
      rw [ly_1]
      have e2 : (adv s).2.2 = s.2.2 := rfl
      rw [e2] at e1
      exact ⟨by show s.1 ≤ s.1 + 1; omega, hl, by show (ly (10000 + k) (adv s)).2.2.length + s.1 ≤ s.1 + 1 + s.2.2.length; omega⟩
    · exact Gp.nu s h
theorem Gp.un {wd : Bool} : ∀ o, Gp sz (unP f sz wd o) := by
  intro o
  induction o with
  | zero => exact Gp.ut (fun u h => by simp at h)
  | succ o ih => exact Gp.ut (fun u h => by cases h; exact ih)
/-! what the words do to a pile: one number more -/
def stpw (w t : Nat) : Nat := if w < 20000 then t + 1 else if w = 20033 then t else t - 1
def okl : List Nat → Nat → Prop
  | [], _ => True
  | w :: g, t => okw w t ∧ okl g (stpw w t)
def tpl : List Nat → Nat → Nat
  | [], t => t
  | w :: g, t => tpl g (stpw w t)
theorem okl_cat : ∀ (a b : List Nat) (t : Nat), okl (a ++ b) t ↔ okl a t ∧ okl b (tpl a t) := by
  intro a
  induction a with
  | nil => intro b t; simp [okl, tpl]
  | cons w a ih => intro b t; simp only [List.cons_append, okl, tpl, ih, and_assoc]
theorem tpl_cat : ∀ (a b : List Nat) (t : Nat), tpl (a ++ b) t = tpl b (tpl a t) := by
  intro a
  induction a with
  | nil => intro b t; rfl
  | cons w a ih => intro b t; simp only [List.cons_append, tpl, ih]
def Bal (g : List Nat) : Prop := ∀ t, okl g t ∧ tpl g t = t + 1
theorem Bal.one {w : Nat} (h : w < 10003) : Bal [w] := fun t => by
  refine ⟨⟨⟨fun _ => h, fun e => by omega, fun e => by omega, by omega⟩, trivial⟩, ?_⟩
  show stpw w t = t + 1
  unfold stpw
  rw [if_pos (by omega)]
theorem Bal.not {g : List Nat} (h : Bal g) : Bal (g ++ [20033]) := fun t => by
  obtain ⟨h1, h2⟩ := h t
  refine ⟨(okl_cat _ _ _).mpr ⟨h1, ⟨⟨fun e => by omega, fun _ => by omega, fun _ e => absurd rfl e, by decide⟩, trivial⟩⟩, ?_⟩
  rw [tpl_cat, h2]
  rfl
theorem Bal.two {a b : List Nat} {c : Nat} (ha : Bal a) (hb : Bal b) (hc : c < 200) (h3 : c ≠ 33) : Bal (a ++ (b ++ [20000 + c])) := fun t => by
  obtain ⟨h1, h2⟩ := ha t
  obtain ⟨g1, g2⟩ := hb (t + 1)
  refine ⟨(okl_cat _ _ _).mpr ⟨h1, (okl_cat _ _ _).mpr ⟨by rw [h2]; exact g1, ⟨⟨fun e => by omega, fun e => by omega, fun _ _ => by rw [h2, g2]; omega, by omega⟩, trivial⟩⟩⟩, ?_⟩
  rw [tpl_cat, tpl_cat, h2, g2]
  show stpw (20000 + c) (t + 1 + 1) = t + 1
  unfold stpw
  rw [if_neg (by omega), if_neg (by omega)]
  omega
def Bl (u : PS → PS) : Prop := ∀ s, (u s).2.1 = false → s.2.1 = false ∧ ∃ g, (u s).2.2 = s.2.2 ++ g ∧ Bal g
theorem ly_f {w : Nat} {s : PS} (h : (ly w s).2.1 = false) : s.2.1 = false ∧ (ly w s).2.2 = s.2.2 ++ [w] := by
  unfold ly at h ⊢
  split at h
  · next hc => exact absurd h (by rw [hc]; decide)
  · next hc => rw [if_neg hc]; exact ⟨by simpa using hc, rfl⟩
theorem Bl.lpx {sg : Int32 → Bool} {u : PS → PS} (hs : Sg sg) (hu : Bl u) : ∀ k s, (lp f sz sg u k s).2.1 = false → s.2.1 = false ∧ ∀ (p a : List Nat), s.2.2 = p ++ a → Bal a → ∃ g, (lp f sz sg u k s).2.2 = p ++ g ∧ Bal g := by
  intro k
  induction k with
  | zero => intro s h; exact ⟨h, fun p a e ha => ⟨a, e, ha⟩⟩
  | succ k ih =>
    intro s h
    unfold lp at h ⊢
    split at h
    · next hc =>
      obtain ⟨c, hc2, e, h33, -⟩ := sg_nat hs hc
      rw [if_pos hc]
      obtain ⟨h1, h2⟩ := ih _ h
      obtain ⟨h3, h4⟩ := ly_f h1
      obtain ⟨h5, g, h6, h7⟩ := hu _ h3
      refine ⟨h5, fun p a e1 ha => ?_⟩
      have e2 : (hr f sz s).toNatClampNeg = c := by rw [e, icl (by omega)]
      refine h2 p (a ++ (g ++ [20000 + c])) ?_ (Bal.two ha h7 hc2 h33)
      rw [h4, h6, e2]
      show s.2.2 ++ g ++ [20000 + c] = _
      rw [e1, List.append_assoc, List.append_assoc]
    · next hc =>
      rw [if_neg hc]
      exact ⟨h, fun p a e ha => ⟨a, e, ha⟩⟩
theorem Bl.then {sg : Int32 → Bool} {u v : PS → PS} (hs : Sg sg) (hv : Bl v) (hu : Bl u) (k : Nat) : Bl (fun s => lp f sz sg u k (v s)) := fun s h => by
  obtain ⟨h1, h2⟩ := Bl.lpx hs hu k (v s) h
  obtain ⟨h3, g, h4, h5⟩ := hv s h1
  exact ⟨h3, h2 s.2.2 g h4 h5⟩
theorem Bl.ei {u : PS → PS} (hu : Bl u) : Bl (eiP f sz u) := by
  have h4 : Bl (prP f sz u) := Bl.then (Or.inr (Or.inr (Or.inr (Or.inr rfl)))) hu hu 50
  have h3 : Bl (smP f sz u) := Bl.then (Or.inr (Or.inr (Or.inr (Or.inl rfl)))) h4 h4 50
  have h2 : Bl (cmP f sz u) := Bl.then (Or.inr (Or.inr (Or.inl rfl))) h3 h3 1
  have h1 : Bl (boP f sz u) := Bl.then (Or.inr (Or.inl rfl)) h2 h2 50
  exact Bl.then (Or.inl rfl) h1 h1 50
theorem dgt_v : ∀ (k : Nat) (x : Nat × PS), (dgt f sz k x).1 + 1 ≤ (x.1 + 1) * 10 ^ k := by
  intro k
  induction k with
  | zero => intro x; show x.1 + 1 ≤ (x.1 + 1) * 1; omega
  | succ k ih =>
    intro x
    unfold dgt
    split
    · next hc =>
      obtain ⟨h1, h2⟩ := wi_t hc
      obtain ⟨c, hc, e⟩ := wi_nat (k := 57) (by decide) (show wi (hr f sz x.2) 0 (nI 57) = true by unfold wi; rw [decide_eq_true h2, decide_eq_true (Int32.le_trans (by decide +kernel) h1)]; rfl)
      have h3 := ih (10 * x.1 + ((hr f sz x.2).toNatClampNeg - 48), adv x.2)
      rw [e, icl (by omega)] at h3 ⊢
      have h4 : (10 * x.1 + (c - 48) + 1) * 10 ^ k ≤ ((x.1 + 1) * 10) * 10 ^ k := Nat.mul_le_mul_right _ (by omega)
      rw [Nat.mul_assoc, ← Nat.pow_succ'] at h4
      exact Nat.le_trans h3 h4
    · have : 1 ≤ 10 ^ (k + 1) := Nat.one_le_pow _ _ (by decide)
      exact Nat.le_mul_of_pos_right _ this
theorem Bl.nu : Bl (nuP f sz) := fun s h => by
  unfold nuP at h ⊢
  split at h
  · exact absurd h (by show ¬ true = false; decide)
  · next hne =>
    rw [if_neg hne]
    obtain ⟨h1, h2⟩ := ly_f h
    have h3 : (dgt f sz 4 (0, s)).2.2 = s.2 := by
      have key : ∀ (k : Nat) (x : Nat × PS), (dgt f sz k x).2.2 = x.2.2 := by
        intro k
        induction k with
        | zero => intro x; rfl
        | succ k ih => intro x; unfold dgt; split; · rw [ih]; rfl
                       · rfl
      exact key 4 (0, s)
    have h4 := dgt_v (f := f) (sz := sz) 4 (0, s)
    rw [h3] at h1 h2
    exact ⟨h1, _, h2, Bal.one (by show (dgt f sz 4 (0, s)).1 < 10003; have h4' : (dgt f sz 4 (0, s)).1 + 1 ≤ (0 + 1) * 10 ^ 4 := h4; omega)⟩
theorem Bl.ut {wd : Bool} {o : Option (PS → PS)} (ho : ∀ u, o = some u → Bl u) : Bl (utP f sz wd o) := fun s h => by
  unfold utP at h ⊢
  split at h
  · next hc =>
    rw [if_pos hc]
    cases o with
    | none => exact absurd h (by show ¬ true = false; decide)
    | some u =>
      have hu := ho u rfl
      have e0 : opP f sz (some u) s = if hr f sz s = nI 33 then ly 20033 (u (adv s)) else clP f sz (eiP f sz u (adv s)) := rfl
      rw [e0] at h ⊢
      split at h
      · next h33 =>
        rw [if_pos h33]
        obtain ⟨h1, h2⟩ := ly_f h
        obtain ⟨h3, g, h4, h5⟩ := hu _ h1
        exact ⟨h3, g ++ [20033], by rw [h2, h4]; show s.2.2 ++ g ++ [20033] = _; rw [List.append_assoc], h5.not⟩
      · next h33 =>
        rw [if_neg h33]
        unfold clP at h ⊢
        split at h
        · next h41 =>
          rw [if_pos h41]
          exact Bl.ei hu (adv s) h
        · exact absurd h (by show ¬ true = false; decide)
  · next hc =>
    rw [if_neg hc]
    split at h
    · next k hk =>
      obtain ⟨h1, h2⟩ := ly_f h
      exact ⟨h1, [10000 + k], h2, Bal.one (by have := (nmo_lt hk).1; omega)⟩
    · exact Bl.nu s h
theorem Bl.un {wd : Bool} : ∀ o, Bl (unP f sz wd o) := by
  intro o
  induction o with
  | zero => exact Bl.ut (fun u h => by simp at h)
  | succ o ih => exact Bl.ut (fun u h => by cases h; exact ih)
theorem okl_at : ∀ (g : List Nat) (t k : Nat), okl g t → k < g.length → okw (g.getD k 0) (tpl (g.take k) t) := by
  intro g
  induction g with
  | nil => intro t k _ hk; exact absurd hk (by simp)
  | cons w g ih =>
    intro t k h hk
    cases k with
    | zero => exact h.1
    | succ k => exact ih (stpw w t) k h.2 (by have : k + 1 < g.length + 1 := hk; omega)
theorem tops_tpl (g : List Nat) : ∀ k, k ≤ g.length → tops (fun j => g.getD j 0) k = tpl (g.take k) 0 := by
  intro k
  induction k with
  | zero => intro _; rfl
  | succ k ih =>
    intro hk
    have e1 : g.take (k + 1) = g.take k ++ [g.getD k 0] := by
      rw [List.take_succ, List.getElem?_eq_getElem (by omega)]
      simp [List.getD, List.getElem?_eq_getElem (show k < g.length by omega)]
    rw [e1, tpl_cat, ← ih (by omega)]
    rfl
theorem Wf_of {g : List Nat} (h : Bal g) (hl : g.length ≤ 50) : Wf (fun j => g.getD j 0) g.length := by
  obtain ⟨h1, h2⟩ := h 0
  refine ⟨hl, fun k hk => ?_, ?_⟩
  · rw [tops_tpl g k (by omega)]
    exact okl_at g 0 k h1 hk
  · rw [tops_tpl g _ (Nat.le_refl _), List.take_length, h2]
theorem teP_ok {wd : Bool} (hz : sz ≤ 50) (h : (teP f sz wd).2.1 = false) : Wf (fun j => (teP f sz wd).2.2.getD j 0) (teP f sz wd).2.2.length ∧ (teP f sz wd).2.2.length ≤ 50 ∧ 0 < (teP f sz wd).2.2.length := by
  have e0 : teP f sz wd = eiP f sz (unP f sz wd 5) (0, false, []) := by
    unfold teP at h ⊢
    dsimp only at h ⊢
    split at h
    · exact absurd h (by show ¬ true = false; decide)
    · next hc => rw [if_neg hc]
  rw [e0] at h ⊢
  obtain ⟨-, g, h1, h2⟩ := Bl.ei (Bl.un 5) _ h
  have h3 := (Gp.ei (f := f) (sz := sz) (Gp.un (f := f) (wd := wd) 5)) (0, false, []) (Nat.zero_le _)
  have e1 : (eiP f sz (unP f sz wd 5) (0, false, [])).2.2 = g := h1
  obtain ⟨a1, a2, a3⟩ := h3
  rw [e1] at a3 ⊢
  have a3' : g.length + 0 ≤ (eiP f sz (unP f sz wd 5) (0, false, [])).1 + 0 := a3
  refine ⟨Wf_of h2 (by omega), by omega, ?_⟩
  cases g with
  | nil => exact absurd (h2 0).2 (by show ¬ 0 = 0 + 1; decide)
  | cons w g => exact Nat.succ_pos _
theorem teP_le {wd : Bool} : (teP f sz wd).1 ≤ sz := by
  have h3 := (Gp.ei (f := f) (sz := sz) (Gp.un (f := f) (wd := wd) 5)) (0, false, []) (Nat.zero_le _)
  unfold teP
  dsimp only
  split
  · exact h3.2.1
  · exact h3.2.1
end PL
