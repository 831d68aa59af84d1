section TEC
variable {f g : Nat → Int32} {sz : Nat}
theorem hr_c (h : ∀ j, j < sz → f j = g j) : hr f sz = hr g sz := by
  funext s
  unfold hr
  by_cases c : s.1 < sz ∧ s.2.1 = false
  · rw [if_pos c, if_pos c, h _ c.1]
  · rw [if_neg c, if_neg c]
theorem dgt_c (h : hr f sz = hr g sz) : ∀ k x, dgt f sz k x = dgt g sz k x := by
  intro k
  induction k with
  | zero => intro x; rfl
  | succ k ih =>
    intro x
    show (if wi (hr f sz x.2) (nI 48) (nI 57) = true then dgt f sz k (10 * x.1 + ((hr f sz x.2).toNatClampNeg - 48), adv x.2) else x) = (if wi (hr g sz x.2) (nI 48) (nI 57) = true then dgt g sz k (10 * x.1 + ((hr g sz x.2).toNatClampNeg - 48), adv x.2) else x)
    rw [h, ih]
theorem nuP_c (h : hr f sz = hr g sz) : nuP f sz = nuP g sz := by
  funext s
  unfold nuP
  rw [dgt_c h]
theorem lp_c (h : hr f sz = hr g sz) (sg : Int32 → Bool) (u : PS → PS) : ∀ k s, lp f sz sg u k s = lp g sz sg u k s := by
  intro k
  induction k with
  | zero => intro s; rfl
  | succ k ih =>
    intro s
    show (if sg (hr f sz s) = true then lp f sz sg u k (ly (20000 + (hr f sz s).toNatClampNeg) (u (adv s))) else s) = (if sg (hr g sz s) = true then lp g sz sg u k (ly (20000 + (hr g sz s).toNatClampNeg) (u (adv s))) else s)
    rw [h, ih]
theorem prP_c (h : hr f sz = hr g sz) (u : PS → PS) : prP f sz u = prP g sz u := by
  funext s; unfold prP; rw [lp_c h]
theorem smP_c (h : hr f sz = hr g sz) (u : PS → PS) : smP f sz u = smP g sz u := by
  funext s; unfold smP; rw [prP_c h, lp_c h]
theorem cmP_c (h : hr f sz = hr g sz) (u : PS → PS) : cmP f sz u = cmP g sz u := by
  funext s; unfold cmP; rw [smP_c h, lp_c h]
theorem boP_c (h : hr f sz = hr g sz) (u : PS → PS) : boP f sz u = boP g sz u := by
  funext s; unfold boP; rw [cmP_c h, lp_c h]
theorem eiP_c (h : hr f sz = hr g sz) (u : PS → PS) : eiP f sz u = eiP g sz u := by
  funext s; unfold eiP; rw [boP_c h, lp_c h]
theorem opP_c (h : hr f sz = hr g sz) (o : Option (PS → PS)) : opP f sz o = opP g sz o := by
  funext s
  cases o with
  | none => rfl
  | some u =>
    show (if hr f sz s = nI 33 then ly 20033 (u (adv s)) else clP f sz (eiP f sz u (adv s))) = (if hr g sz s = nI 33 then ly 20033 (u (adv s)) else clP g sz (eiP g sz u (adv s)))
    unfold clP
    rw [eiP_c h, h]
theorem utP_c (h : hr f sz = hr g sz) (wd : Bool) (o : Option (PS → PS)) : utP f sz wd o = utP g sz wd o := by
  funext s
  unfold utP
  rw [opP_c h, nuP_c h, h]
theorem unP_c (h : hr f sz = hr g sz) (wd : Bool) : ∀ k, unP f sz wd k = unP g sz wd k := by
  intro k
  induction k with
  | zero =>
    show utP f sz wd none = utP g sz wd none
    exact utP_c h wd none
  | succ k ih =>
    show utP f sz wd (some (unP f sz wd k)) = utP g sz wd (some (unP g sz wd k))
    rw [utP_c h, ih]
theorem teP_c (h : ∀ j, j < sz → f j = g j) (wd : Bool) : teP f sz wd = teP g sz wd := by
  unfold teP
  rw [eiP_c (hr_c h), unP_c (hr_c h)]
end TEC
theorem tgv_n {u : Nat} {V : Nat → Nat} {vl : Nat} {a b c : Int32} (hu : u = 0 ∨ u = 1) (h : 0 < vl) : hld (evc a b c V vl) (lwv u) (hgv u) = tgv u V vl a b c := by
  unfold tgv
  rcases hu with rfl | rfl
  · rw [if_pos rfl, if_neg (by omega)]; rfl
  · rw [if_neg (by decide), if_neg (by omega)]; rfl
set_option maxRecDepth 10000 in
theorem j_text {l : Launch} {d m n : Nat} {R W Z : Nat → Nat → Int32} {T : Nat → Nat → Nat} {kn : Kn} {D : Nat → Int32} {A : Nat → Nat → Int32} {S : Nat → Int32} {x : Int32} (hR : Rel m R W Z T kn n D A S) : Ct l M_F_text (d + 60) 0 0 [.ref 0, .int x] n (co R W Z T kn (mo 88 D A S hN)) (JN m l M_Mo_text (d + 60) [.ref 88, .int x]) := by
  obtain ⟨N, dy, tp, wt, Wc0, len0, V0, l0, Wc1, len1, V1, l1, hP⟩ := id hR
  obtain ⟨hS, hB1, hB2, hK, hT, hPr, hTr, hSh, hEr, hIm, fm, hfm, hfl⟩ := id hP
  obtain ⟨⟨hN8, d0, d1, dy9, hB0, hBD, hAT, hDF⟩, ⟨tp1, tp2, tp3, tp4⟩, ⟨wt1, wt2, wt3, wt4⟩, hQ0, hQ1⟩ := id hS
  have e0 : W 0 0 = nI N := (hAT.lo (by omega)).trans d0
  have hdy : W 0 1 = nI dy := (hAT.lo (by omega)).trans d1
  have hTS : TS D N := fun t ht => ⟨hBD.k0 (by omega), hBD.k2 (by omega), hBD.k3 (by omega)⟩
  have aT : ∀ i k, i < N → k < 7 → W 0 (50 + 7 * i + k) = D (50 + 7 * i + k) := fun i k hi hk => hAT.tr hi hk
  have eT : ∀ b, teP (fun j => upd D 6 (nI 0) (228 + j)) tp b = teP (R 2) tp b := fun b => teP_c (fun j hj => by rw [pk_un (by omega)]; exact (tp4 j hj).1.symm) b
  refine c_F_text tp1 tp2 (fun j hj => (tp4 j hj).2) hT (fun hE => JN.of hT (fun Q2 q => ?_)) (fun u hu ex hf R1 Z1 r1 z1 hr hz => JN.of hT (fun Q2 q => ?_)) (fun u hu ex hf R1 Z1 r1 z1 hr hz => JN.of (fgK_T hT) (fun Q2 q => ?_))
  · exact c_Mo_text tp1 tp3 (fun _ => q _ _ _ _ _ _ _ _ _ rfl (hR.err.mm (by omega))) (fun u hu ex _ _ _ _ _ => absurd hE (by rw [ex, wiT hu (by decide)]; decide)) (fun u hu ex _ _ _ _ _ _ _ _ => absurd hE (by rw [ex, wiT hu (by decide)]; decide))
  · refine c_Mo_text tp1 tp3 (fun hE => absurd hE (by rw [ex, wiT hu (by decide)]; decide)) (fun u' hu' ex' hf' A1 S1 hA hs => ?_) (fun u' hu' ex' hf' _ _ _ _ _ _ _ => ?_)
    · obtain rfl : u = u' := (nI_eq (by omega) (by omega)).mp (ex.symm.trans ex')
      rw [eT]
      rcases (show u = 0 ∨ u = 1 by omega) with rfl | rfl
      · have z4 : uZ Z1 1 1 (nI 0) 4 1 = Z 4 1 := (uZ_n (by decide)).trans hz
        have z10 : uZ Z1 1 1 (nI 0) 10 1 = Z 10 1 := (uZ_n (by decide)).trans (z1 10 1 (by decide) (by decide) (by decide))
        have r5 : R1 5 = R 5 := hr
        have r11 : R1 11 = R 11 := r1 11 (by decide) (by decide)
        refine q _ _ _ _ _ _ _ _ _ rfl ((hP.e (R' := R1) (W' := W) (Z' := uZ Z1 1 1 (nI 0)) (D' := upd D 6 (nI 0)) (hS.d (tp' := 0) (wt' := wt) (fun j hj => pk_un (by omega)) ⟨by omega, uZ_s, pk_us, fun j hj => absurd hj (by omega)⟩ ⟨wt1, by rw [uZ_n (by decide), z1 49 1 (by decide) (by decide) (by decide)]; exact wt2, by rw [pk_un (by omega)]; exact wt3, fun j hj => by rw [r1 50 (by decide) (by decide), pk_un (by omega)]; exact wt4 j hj⟩ (by rw [z4, r5]; exact hQ0.d (fun j hj => pk_un (by omega))) (by rw [z10, r11]; exact hQ1.d (fun j hj => pk_un (by omega)))) hB1 rfl hK hT (fun a ha => r1 a (by omega) (by omega)) (fun b j hb => by rw [uZ_n (by omega)]; exact z1 b j (by omega) (by omega) (by omega)) (fun j hj => hA j (by omega)) (fun j hj => hs j (by omega))).r.mm (by omega))
      · have z4 : uZ Z1 1 1 (nI 0) 4 1 = Z 4 1 := (uZ_n (by decide)).trans (z1 4 1 (by decide) (by decide) (by decide))
        have z10 : uZ Z1 1 1 (nI 0) 10 1 = Z 10 1 := (uZ_n (by decide)).trans hz
        have r5 : R1 5 = R 5 := r1 5 (by decide) (by decide)
        have r11 : R1 11 = R 11 := hr
        refine q _ _ _ _ _ _ _ _ _ rfl ((hP.e (R' := R1) (W' := W) (Z' := uZ Z1 1 1 (nI 0)) (D' := upd D 6 (nI 0)) (hS.d (tp' := 0) (wt' := wt) (fun j hj => pk_un (by omega)) ⟨by omega, uZ_s, pk_us, fun j hj => absurd hj (by omega)⟩ ⟨wt1, by rw [uZ_n (by decide), z1 49 1 (by decide) (by decide) (by decide)]; exact wt2, by rw [pk_un (by omega)]; exact wt3, fun j hj => by rw [r1 50 (by decide) (by decide), pk_un (by omega)]; exact wt4 j hj⟩ (by rw [z4, r5]; exact hQ0.d (fun j hj => pk_un (by omega))) (by rw [z10, r11]; exact hQ1.d (fun j hj => pk_un (by omega)))) hB1 rfl hK hT (fun a ha => r1 a (by omega) (by omega)) (fun b j hb => by rw [uZ_n (by omega)]; exact z1 b j (by omega) (by omega) (by omega)) (fun j hj => hA j (by omega)) (fun j hj => hs j (by omega))).r.mm (by omega))
    · obtain rfl : u = u' := (nI_eq (by omega) (by omega)).mp (ex.symm.trans ex')
      rw [eT, hf] at hf'
      cases hf'
  · refine c_Mo_text tp1 tp3 (fun hE => absurd hE (by rw [ex, wiT hu (by decide)]; decide)) (fun u' hu' ex' hf' _ _ _ _ => ?_) (fun u' hu' ex' hf' hW hl h0 A1 S1 hA hs => ?_)
    · obtain rfl : u = u' := (nI_eq (by omega) (by omega)).mp (ex.symm.trans ex')
      rw [eT, hf] at hf'
      cases hf'
    · obtain rfl : u = u' := (nI_eq (by omega) (by omega)).mp (ex.symm.trans ex')
      rw [eT] at hW hl h0 ⊢
      rcases (show u = 0 ∨ u = 1 by omega) with rfl | rfl
      · have z4 : uZ Z1 1 1 (nI 0) 4 1 = nI (teP (R 2) tp (decide (0 = 1))).2.2.length := (uZ_n (by decide)).trans hz
        have z10 : uZ Z1 1 1 (nI 0) 10 1 = Z 10 1 := (uZ_n (by decide)).trans (z1 10 1 (by decide) (by decide) (by decide))
        have r11 : R1 11 = R 11 := r1 11 (by decide) (by decide)
        refine q _ _ _ _ _ _ _ _ _ rfl ((hP.e (R' := R1) (W' := W) (Z' := uZ Z1 1 1 (nI 0)) (D' := (sgc (upd (upd D 6 (nI 0)) (106 + 0) (nI (teP (R 2) tp (decide (0 = 1))).2.2.length)) (fun t => nI ((teP (R 2) tp (decide (0 = 1))).2.2.getD t 0)) (128 + 50 * 0) (teP (R 2) tp (decide (0 = 1))).2.2.length)) (Wc0' := (fun j => (teP (R 2) tp (decide (0 = 1))).2.2.getD j 0)) (len0' := (teP (R 2) tp (decide (0 = 1))).2.2.length) (V0' := (fun j => (teP (R 2) tp (decide (0 = 1))).2.2.getD j 0)) (l0' := (teP (R 2) tp (decide (0 = 1))).2.2.length) (Wc1' := Wc1) (len1' := len1) (V1' := V1) (l1' := l1) (hS.d (tp' := 0) (wt' := wt) (Wc0' := (fun j => (teP (R 2) tp (decide (0 = 1))).2.2.getD j 0)) (len0' := (teP (R 2) tp (decide (0 = 1))).2.2.length) (V0' := (fun j => (teP (R 2) tp (decide (0 = 1))).2.2.getD j 0)) (l0' := (teP (R 2) tp (decide (0 = 1))).2.2.length) (Wc1' := Wc1) (len1' := len1) (V1' := V1) (l1' := l1) (fun j hj => by rw [sgc_out (by omega), pk_un (by omega), pk_un (by omega)]) ⟨by omega, uZ_s, by rw [sgc_out (by omega), pk_un (by omega), pk_us], fun j hj => absurd hj (by omega)⟩ ⟨wt1, by rw [uZ_n (by decide), z1 49 1 (by decide) (by decide) (by decide)]; exact wt2, by rw [sgc_out (by omega), pk_un (by omega), pk_un (by omega)]; exact wt3, fun j hj => by rw [r1 50 (by decide) (by decide), sgc_out (by omega), pk_un (by omega), pk_un (by omega)]; exact wt4 j hj⟩ ⟨hW, z4, fun k hk => hr k hk, ⟨by rw [sgc_out (by omega), pk_us], fun k hk => by rw [sgc_in (by omega)]; congr 3; omega, Or.inr hW, hl⟩, fun a b c => tgv_n (by decide) h0⟩ (by rw [z10, r11]; exact hQ1.d (fun j hj => by rw [sgc_out (by omega), pk_un (by omega), pk_un (by omega)]))) hB1 rfl (fgK_O _) (fgK_T hT) (fun a ha => r1 a (by omega) (by omega)) (fun b j hb => by rw [uZ_n (by omega)]; exact z1 b j (by omega) (by omega) (by omega)) (fun j hj => hA j (by omega)) (fun j hj => hs j (by omega))).r.mm (by omega))
      · have z10 : uZ Z1 1 1 (nI 0) 10 1 = nI (teP (R 2) tp (decide (1 = 1))).2.2.length := (uZ_n (by decide)).trans hz
        have z4 : uZ Z1 1 1 (nI 0) 4 1 = Z 4 1 := (uZ_n (by decide)).trans (z1 4 1 (by decide) (by decide) (by decide))
        have r5 : R1 5 = R 5 := r1 5 (by decide) (by decide)
        refine q _ _ _ _ _ _ _ _ _ rfl ((hP.e (R' := R1) (W' := W) (Z' := uZ Z1 1 1 (nI 0)) (D' := (sgc (upd (upd D 6 (nI 0)) (106 + 1) (nI (teP (R 2) tp (decide (1 = 1))).2.2.length)) (fun t => nI ((teP (R 2) tp (decide (1 = 1))).2.2.getD t 0)) (128 + 50 * 1) (teP (R 2) tp (decide (1 = 1))).2.2.length)) (Wc0' := Wc0) (len0' := len0) (V0' := V0) (l0' := l0) (Wc1' := (fun j => (teP (R 2) tp (decide (1 = 1))).2.2.getD j 0)) (len1' := (teP (R 2) tp (decide (1 = 1))).2.2.length) (V1' := (fun j => (teP (R 2) tp (decide (1 = 1))).2.2.getD j 0)) (l1' := (teP (R 2) tp (decide (1 = 1))).2.2.length) (hS.d (tp' := 0) (wt' := wt) (Wc0' := Wc0) (len0' := len0) (V0' := V0) (l0' := l0) (Wc1' := (fun j => (teP (R 2) tp (decide (1 = 1))).2.2.getD j 0)) (len1' := (teP (R 2) tp (decide (1 = 1))).2.2.length) (V1' := (fun j => (teP (R 2) tp (decide (1 = 1))).2.2.getD j 0)) (l1' := (teP (R 2) tp (decide (1 = 1))).2.2.length) (fun j hj => by rw [sgc_out (by omega), pk_un (by omega), pk_un (by omega)]) ⟨by omega, uZ_s, by rw [sgc_out (by omega), pk_un (by omega), pk_us], fun j hj => absurd hj (by omega)⟩ ⟨wt1, by rw [uZ_n (by decide), z1 49 1 (by decide) (by decide) (by decide)]; exact wt2, by rw [sgc_out (by omega), pk_un (by omega), pk_un (by omega)]; exact wt3, fun j hj => by rw [r1 50 (by decide) (by decide), sgc_out (by omega), pk_un (by omega), pk_un (by omega)]; exact wt4 j hj⟩ (by rw [z4, r5]; exact hQ0.d (fun j hj => by rw [sgc_out (by omega), pk_un (by omega), pk_un (by omega)])) ⟨hW, z10, fun k hk => hr k hk, ⟨by rw [sgc_out (by omega), pk_us], fun k hk => by rw [sgc_in (by omega)]; congr 3; omega, Or.inr hW, hl⟩, fun a b c => tgv_n (by decide) h0⟩) hB1 rfl (by show KO _ (if 1 = 0 then _ else kn); rw [if_neg (by decide)]; exact hK) (fgK_T hT) (fun a ha => r1 a (by omega) (by omega)) (fun b j hb => by rw [uZ_n (by omega)]; exact z1 b j (by omega) (by omega) (by omega)) (fun j hj => hA j (by omega)) (fun j hj => hs j (by omega))).r.mm (by omega))
set_option maxRecDepth 10000 in
theorem j_restore {l : Launch} {d m n : Nat} {R W Z : Nat → Nat → Int32} {T : Nat → Nat → Nat} {kn : Kn} {D : Nat → Int32} {A : Nat → Nat → Int32} {S : Nat → Int32} (hR : Rel m R W Z T kn n D A S) : Ct l M_F_restore (d + 60) 8 64 [.ref 0] n (co R W Z T kn (mo 88 D A S hN)) (JN m l M_Mo_restore (d + 60) [.ref 88]) := by
  obtain ⟨N, dy, tp, wt, Wc0, len0, V0, l0, Wc1, len1, V1, l1, hP⟩ := id hR
  obtain ⟨hS, hB1, hB2, hK, hT, hPr, hTr, hSh, hEr, hIm, fm, hfm, hfl⟩ := id hP
  obtain ⟨⟨hN8, d0, d1, dy9, hB0, hBD, hAT, hDF⟩, ⟨tp1, tp2, tp3, tp4⟩, ⟨wt1, wt2, wt3, wt4⟩, hQ0, hQ1⟩ := id hS
  have e0 : W 0 0 = nI N := (hAT.lo (by omega)).trans d0
  have hdy : W 0 1 = nI dy := (hAT.lo (by omega)).trans d1
  have hTS : TS D N := fun t ht => ⟨hBD.k0 (by omega), hBD.k2 (by omega), hBD.k3 (by omega)⟩
  have aT : ∀ i k, i < N → k < 7 → W 0 (50 + 7 * i + k) = D (50 + 7 * i + k) := fun i k hi hk => hAT.tr hi hk
  obtain ⟨i1, i2⟩ := id hIm
  by_cases c : S 3 = 0
  · refine c_F_restore (tp := 0) (wt := 0) (l0 := 0) (l1 := 0) hT hB0 hB2 hN_mo (fun _ => JN.of hT (fun Q2 q => ?_)) (fun h => absurd (i1.trans c) h) (fun h => absurd (i1.trans c) h)
    exact c_Mo_restore (fun _ => q _ _ _ _ _ _ _ _ _ rfl (hR.err.mm (by omega))) (fun h => absurd c h)
  · obtain ⟨N', dy', tp', wt', Wa, la, Va, va, Wb, lb, Vb, vb, sn⟩ := i2 c
    obtain ⟨⟨s1, s2, s3, s4, s5, s6, s7, s8⟩, ⟨p1, p2, p3, p4⟩, ⟨w1, w2, w3, w4⟩, ⟨a1, a2, a3, ⟨a41, a42, a43, a44⟩, a5⟩, ⟨b1, b2, b3, ⟨b41, b42, b43, b44⟩, b5⟩⟩ := id sn
    refine c_F_restore (tp := tp') (wt := wt') (l0 := la) (l1 := lb) hT hB0 hB2 hN_mo (fun h => absurd (i1.symm.trans h) c) (fun _ => ⟨p1, p2, w1, w2, a1.1, a2, b1.1, b2⟩) (fun _ R1 Z1 T1 n1 hT1 hn r1 r2 r50 r5 r11 z1 z49 z4 z10 zo => JN.of hT1 (fun Q2 q => ?_))
    refine c_Mo_restore (fun h => absurd h c) (fun _ => ?_)
    have cp : ∀ j, j < 278 → cpN 278 (A 1) D j = A 1 j := fun j hj => if_pos hj
    refine q _ _ _ _ _ _ _ _ _ (s7.lo (by omega)).symm ((hP.e (R' := R1) (W' := uW W 0 (cpW (W 0) (W 2))) (Z' := Z1) (D' := cpN 278 (A 1) D) (N' := N') (dy' := dy') (tp' := tp') (wt' := wt') (Wc0' := Wa) (len0' := la) (V0' := Va) (l0' := va) (Wc1' := Wb) (len1' := lb) (V1' := Vb) (l1' := vb) ?_ (by rw [uW_n (by decide)]; exact hB1) (uW_n (by decide)) (fgK_O _) hT1 (fun a ha => r1 a (by omega) (by omega) (by omega) (by omega)) (fun b j hb => zo b j (by omega) (by omega) (by omega) (by omega)) (fun _ _ => rfl) (fun _ _ => rfl)).r.mm (by omega))
    rw [uW_s]
    refine ⟨⟨s1, by rw [cp 0 (by omega)]; exact s2, by rw [cp 1 (by omega)]; exact s3, s4, WB.cp hB0 s5, fun j hj => ?_, fun j hj => ?_, s8.k (fun i hi => ⟨if_pos (by omega), if_pos (by omega)⟩)⟩, ⟨p1, z1, by rw [cp 6 (by omega)]; exact p3, fun j hj => ?_⟩, ⟨w1, z49, by rw [cp 7 (by omega)]; exact w3, fun j hj => ?_⟩, ⟨a1, z4, fun k hk => by rw [r5 k hk]; exact a3 k hk, ⟨?_, fun k hk => ?_, a43, a44⟩, a5⟩, ⟨b1, z10, fun k hk => by rw [r11 k hk]; exact b3 k hk, ⟨?_, fun k hk => ?_, b43, b44⟩, b5⟩⟩
    · obtain ⟨c, c1, c2⟩ := s6 j hj
      exact ⟨c, c1, by rw [cp j (by omega)]; exact c2⟩
    · rw [cp j (by rcases hj with h | h | h <;> omega)]
      exact (AG.t s7 (AG.cp s1)) j hj
    · rw [r2 j hj, cp _ (by omega)]; exact p4 j hj
    · rw [r50 j hj, cp _ (by omega)]; exact w4 j hj
    · rw [cp _ (by omega)]; exact a41
    · rw [cp _ (by omega)]; exact a42 k hk
    · rw [cp _ (by omega)]; exact b41
    · rw [cp _ (by omega)]; exact b42 k hk
