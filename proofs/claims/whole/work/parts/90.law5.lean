/-! ===== what the Statement gives of the start ===== -/
def fgn : List Cond := flatC (Jvm.Cond.and given_1 narrow_1)
def tmT (i : Nat) : Term := .string (txs.getD i ("", 0, "")).1 (txs.getD i ("", 0, "")).2.1
def tmV (i : Nat) : Term := .field (tmT i) "java/lang/String" "value" "[B"
theorem gs_ex : ∀ i, i < 10 → Cond.exactly (tmT i) "java/lang/String" ∈ fgn := by decide +kernel
theorem gs_co : ∀ i, i < 10 → Cond.eq (.field (tmT i) "java/lang/String" "coder" "B") (.int 0) ∈ fgn := by decide +kernel
theorem gs_ar : ∀ i, i < 10 → Cond.arrayOf (tmV i) .byte ∈ fgn := by decide +kernel
theorem gs_le : ∀ i, i < 10 → Cond.eq (.length (tmV i)) (.int (Int32.ofNat (txl.getD i 0))) ∈ fgn := by decide +kernel
theorem gs_el : ∀ i, i < 10 → ∀ j, j < txl.getD i 0 → Cond.eq (.elem (tmV i) (.int (Int32.ofNat j))) (.int ((txb.getD i []).getD j 0)) ∈ fgn := by decide +kernel
theorem gs_ne : ∀ i, i < 10 → ∀ j, j < 10 → i ≠ j → (Cond.not (Cond.eq (tmT i) (tmT j)) ∈ fgn ∨ Cond.not (Cond.eq (tmT j) (tmT i)) ∈ fgn) := by decide +kernel
theorem gs_nc : ∀ q ∈ ncs, Cond.not (.castable q.1 q.2) ∈ fgn := by decide +kernel
theorem gs_cs : Cond.eq (.static "java/lang/String" "COMPACT_STRINGS" "Z") (.int 1) ∈ fgn := by decide +kernel
theorem gs_fm : Cond.isRef (.static "jdk/internal/util/Preconditions" "SIOOBE_FORMATTER" "Ljava/util/function/BiFunction;") ∈ fgn := by decide +kernel
theorem gs_sr : ∀ i, i < 10 → Cond.stringRef (txs.getD i ("", 0, "")).1 (txs.getD i ("", 0, "")).2.1 (txs.getD i ("", 0, "")).2.2 ∈ lw_tbl := by
  intro i hi
  rcases (show i = 0 ∨ i = 1 ∨ i = 2 ∨ i = 3 ∨ i = 4 ∨ i = 5 ∨ i = 6 ∨ i = 7 ∨ i = 8 ∨ i = 9 by omega) with rfl | rfl | rfl | rfl | rfl | rfl | rfl | rfl | rfl | rfl
  · exact List.mem_append_right _ (List.mem_of_getElem? (i := 61) (by decide +kernel))
  · exact List.mem_append_right _ (List.mem_of_getElem? (i := 104) (by decide +kernel))
  · exact List.mem_append_right _ (List.mem_of_getElem? (i := 231) (by decide +kernel))
  · exact List.mem_append_right _ (List.mem_of_getElem? (i := 411) (by decide +kernel))
  · exact List.mem_append_right _ (List.mem_of_getElem? (i := 385) (by decide +kernel))
  · exact List.mem_append_right _ (List.mem_of_getElem? (i := 386) (by decide +kernel))
  · exact List.mem_append_right _ (List.mem_of_getElem? (i := 387) (by decide +kernel))
  · exact List.mem_append_right _ (List.mem_of_getElem? (i := 388) (by decide +kernel))
  · exact List.mem_append_right _ (List.mem_of_getElem? (i := 389) (by decide +kernel))
  · exact List.mem_append_right _ (List.mem_of_getElem? (i := 377) (by decide +kernel))
theorem gs_nl : ∀ q ∈ nls, Cond.methodLinkNest q.1 q.2.1 q.2.2.1 q.2.2.2 ∈ lw_tbl := (List.forall_mem_cons.mpr ⟨List.mem_append_right _ (List.mem_of_getElem? (i := 722) (by decide +kernel)), (List.forall_mem_cons.mpr ⟨List.mem_append_right _ (List.mem_of_getElem? (i := 751) (by decide +kernel)), (List.forall_mem_cons.mpr ⟨List.mem_append_right _ (List.mem_of_getElem? (i := 787) (by decide +kernel)), (List.forall_mem_cons.mpr ⟨List.mem_append_right _ (List.mem_of_getElem? (i := 852) (by decide +kernel)), (List.forall_mem_cons.mpr ⟨List.mem_append_right _ (List.mem_of_getElem? (i := 861) (by decide +kernel)), (List.forall_mem_cons.mpr ⟨List.mem_append_right _ (List.mem_of_getElem? (i := 991) (by decide +kernel)), fun _ h => absurd h List.not_mem_nil⟩)⟩)⟩)⟩)⟩)⟩)
theorem gs_ca : ∀ q ∈ css, Cond.castable q.1 q.2 ∈ lw_tbl := (List.forall_mem_cons.mpr ⟨List.mem_append_right _ (List.mem_of_getElem? (i := 1513) (by decide +kernel)), (List.forall_mem_cons.mpr ⟨List.mem_append_right _ (List.mem_of_getElem? (i := 1514) (by decide +kernel)), (List.forall_mem_cons.mpr ⟨List.mem_append_right _ (List.mem_of_getElem? (i := 1515) (by decide +kernel)), (List.forall_mem_cons.mpr ⟨List.mem_append_right _ (List.mem_of_getElem? (i := 1516) (by decide +kernel)), (List.forall_mem_cons.mpr ⟨List.mem_append_right _ (List.mem_of_getElem? (i := 1517) (by decide +kernel)), (List.forall_mem_cons.mpr ⟨List.mem_append_right _ (List.mem_of_getElem? (i := 1518) (by decide +kernel)), (List.forall_mem_cons.mpr ⟨List.mem_append_right _ (List.mem_of_getElem? (i := 1519) (by decide +kernel)), (List.forall_mem_cons.mpr ⟨List.mem_append_right _ (List.mem_of_getElem? (i := 1520) (by decide +kernel)), (List.forall_mem_cons.mpr ⟨List.mem_append_right _ (List.mem_of_getElem? (i := 1521) (by decide +kernel)), fun _ h => absurd h List.not_mem_nil⟩)⟩)⟩)⟩)⟩)⟩)⟩)⟩)⟩)
theorem gx_start {s : State} {b L : Nat} {xs : Nat → Int32} (hts : ∀ w ∈ lw_tbl, w.before #[Value.ref b] s = true) (hX : va_X b L xs s s.heap) (hbl : b < s.heap.size) (hL : L ≤ 3072) (hgv : (Jvm.Cond.and given_1 narrow_1).before #[Value.ref b] s = true) : ∃ E : Ev, E.1 = s.heap.size ∧ E.2.1 200 = b ∧ E.2.2.2.2 = (L, xs) ∧ Gx E s s.heap := by
  have hs : ∀ c ∈ fgn, c.before #[Value.ref b] s = true := flat_of_before _ hgv
  have htb : ∀ w ∈ tb, w.before #[Value.ref b] s = true := fun w hw => hts w (List.mem_filter.mp hw).1
  have hA : ∀ a : Nat, a < s.heap.size → ¬ (fun q : Nat => s.heap.size ≤ q) a := fun a h => Nat.not_le.mpr h
  obtain ⟨adK, adV, hSt, hSe⟩ := vk_Sof (args := #[Value.ref b]) (s := s) (N := 10) (tm := tmT) (len := txl) (byt := txb) (A := fun q : Nat => s.heap.size ≤ q) (fun i hi => Nat.lt_of_le_of_lt (txl_3 i hi) (by decide)) (fun i hi => hs _ (gs_ex i hi)) (fun i hi => hs _ (gs_co i hi)) (fun i hi => hs _ (gs_ar i hi)) (fun i hi => hs _ (gs_le i hi)) (fun i hi j hj => hs _ (gs_el i hi j hj)) (fun i j hi hj h => (gs_ne i hi j hj h).imp (hs _) (hs _)) hA
  have hCS : va_Z "java/lang/String" "COMPACT_STRINGS" "Z" (.int 1) (fun q : Nat => s.heap.size ≤ q) s s.heap := va_Zof (args := #[Value.ref b]) (hts _ (List.mem_append_right _ (List.mem_of_getElem? (i := 245) (by decide +kernel)))) (hts _ (List.mem_append_right _ (List.mem_of_getElem? (i := 7) (by decide +kernel)))) (va_eqt (hs _ gs_cs)) hA
  obtain ⟨ft, fl, hFm⟩ : ∃ ft fl : Nat, va_Z "jdk/internal/util/Preconditions" "SIOOBE_FORMATTER" "Ljava/util/function/BiFunction;" (if fl = 0 then .ref ft else .null) (fun q : Nat => s.heap.size ≤ q) s s.heap := by
    rcases va_Zqof (args := #[Value.ref b]) (A := fun q : Nat => s.heap.size ≤ q) (hts _ (List.mem_append_right _ (List.mem_of_getElem? (i := 261) (by decide +kernel)))) (hts _ (List.mem_append_right _ (List.mem_of_getElem? (i := 9) (by decide +kernel)))) (hs _ gs_fm) hA with h | ⟨t, h⟩
    · exact ⟨0, 1, by rw [if_neg (by decide)]; exact h⟩
    · exact ⟨t, 0, by rw [if_pos rfl]; exact h⟩
  obtain ⟨c0, s0, k0⟩ := u_known (C := R_F) (T := F_F) (N := 15) (n := 15) htb i_F (htb (.instantiable R_F 15) (tm 24 (by decide +kernel) rfl))
  obtain ⟨c1, s1, k1⟩ := u_known (C := R_Row) (T := F_Row) (N := 2) (n := 2) htb i_Row (htb (.instantiable R_Row 2) (tm 32 (by decide +kernel) rfl))
  obtain ⟨c2, s2, k2⟩ := u_known (C := R_Sheet) (T := F_Sheet) (N := 3) (n := 3) htb i_Sheet (htb (.instantiable R_Sheet 3) (tm 412 (by decide +kernel) rfl))
  obtain ⟨c3, s3, k3⟩ := u_known (C := R_Text) (T := F_Text) (N := 11) (n := 11) htb i_Text (htb (.instantiable R_Text 11) (tm 60 (by decide +kernel) rfl))
  obtain ⟨c4, s4, k4⟩ := u_known (C := R_World) (T := F_World) (N := 14) (n := 14) htb i_World (htb (.instantiable R_World 14) (tm 106 (by decide +kernel) rfl))
  obtain ⟨c5, s5, k5⟩ := u_known (C := R_Mo) (T := F_Mo) (N := 26) (n := 26) htb i_Mo (htb (.instantiable R_Mo 26) (tm 1054 (by decide +kernel) rfl))
  obtain ⟨c6, s6, k6⟩ := u_known (C := R_Tree) (T := F_Tree) (N := 8) (n := 8) htb i_Tree (htb (.instantiable R_Tree 8) (tm 115 (by decide +kernel) rfl))
  obtain ⟨c7, s7, k7⟩ := u_known (C := R_Beech) (T := F_Beech) (N := 8) (n := 8) htb i_Beech (htb (.instantiable R_Beech 8) (tm 513 (by decide +kernel) rfl))
  obtain ⟨c8, s8, k8⟩ := u_known (C := R_Oak) (T := F_Oak) (N := 8) (n := 8) htb i_Oak (htb (.instantiable R_Oak 8) (tm 528 (by decide +kernel) rfl))
  obtain ⟨c9, s9, k9⟩ := u_known (C := R_Sapling) (T := F_Sapling) (N := 8) (n := 8) htb i_Sapling (htb (.instantiable R_Sapling 8) (tm 543 (by decide +kernel) rfl))
  obtain ⟨c10, s10, k10⟩ := u_known (C := R_Wedged) (T := F_Wedged) (N := 8) (n := 8) htb i_Wedged (htb (.instantiable R_Wedged 8) (tm 558 (by decide +kernel) rfl))
  obtain ⟨c11, s11, k11⟩ := u_known (C := R_Hollow) (T := F_Hollow) (N := 8) (n := 8) htb i_Hollow (htb (.instantiable R_Hollow 8) (tm 573 (by decide +kernel) rfl))
  obtain ⟨c12, s12, k12⟩ := u_known (C := R_Hill) (T := F_Hill) (N := 8) (n := 8) htb i_Hill (htb (.instantiable R_Hill 8) (tm 588 (by decide +kernel) rfl))
  obtain ⟨a0, kA0, cp0, f0, g0, t0⟩ := Cond.arrayClass_spec (htb (.arrayClass .int) (tm 58 (by decide +kernel) rfl))
  obtain ⟨a1, kA1, cp1, f1, g1, t1⟩ := Cond.arrayClass_spec (htb (.arrayClass .byte) (tm 103 (by decide +kernel) rfl))
  have hO2 := hts (.arrayOver (.object "FelledByNames$Tree")) (List.mem_append_right _ (List.mem_of_getElem? (i := 112) (by decide +kernel)))
  obtain ⟨cp2, a2, kA2, e2, -, g2, t2, f2⟩ := Cond.arrayOver_spec hO2
  have hO3 := hts (.arrayOver (.object "FelledByNames$Sheet")) (List.mem_append_right _ (List.mem_of_getElem? (i := 230) (by decide +kernel)))
  obtain ⟨cp3, a3, kA3, e3, -, g3, t3, f3⟩ := Cond.arrayOver_spec hO3
  obtain ⟨scr, x1, x2, x3, x4, x5⟩ := hX
  refine ⟨(s.heap.size, fun k => if k < 100 then adK k else if k < 200 then adV (k - 100) else if k = 200 then b else if k = 201 then ft else fl, fun k => [a0, a1, a2, a3].getD k a0, (fun k => [c0, c1, c2, c3, c4, c5, c6, c7, c8, c9, c10, c11, c12].getD k c0, fun k => [s0, s1, s2, s3, s4, s5, s6, s7, s8, s9, s10, s11, s12].getD k s0), L, xs), rfl, rfl, rfl, ⟨?_, ?_⟩, ?_, ?_, ?_, hCS, ?_, va_AO.of hO2, va_AO.of hO3, hFm, ?_, ?_⟩
  · intro k q hq
    match k, hq with
    | 0, hq => cases hq; exact k0
    | 1, hq => cases hq; exact k1
    | 2, hq => cases hq; exact k2
    | 3, hq => cases hq; exact k3
    | 4, hq => cases hq; exact k4
    | 5, hq => cases hq; exact k5
    | 6, hq => cases hq; exact k6
    | 7, hq => cases hq; exact k7
    | 8, hq => cases hq; exact k8
    | 9, hq => cases hq; exact k9
    | 10, hq => cases hq; exact k10
    | 11, hq => cases hq; exact k11
    | 12, hq => cases hq; exact k12
    | k + 13, hq => simp [cls] at hq
  · intro k q hq
    match k, hq with
    | 0, hq => cases hq; exact ⟨fun n z => ⟨fun k h => (by cases h), kA0, g0, cp0, t0⟩, f0⟩
    | 1, hq => cases hq; exact ⟨fun n z => ⟨fun k h => (by cases h), kA1, g1, cp1, t1⟩, f1⟩
    | 2, hq => cases hq; exact ⟨fun n z => ⟨fun k h => (by cases h), kA2, g2, cp2, t2⟩, kA2, cp2, g2, t2, e2, f2⟩
    | 3, hq => cases hq; exact ⟨fun n z => ⟨fun k h => (by cases h), kA3, g3, cp3, t3⟩, kA3, cp3, g3, t3, e3, f3⟩
    | k + 4, hq => simp [tys] at hq
  · exact fun q hq => va_Nc.of (hs _ (gs_nc q hq))
  · have eK : ∀ i, i < 10 → (if i < 100 then adK i else if i < 200 then adV (i - 100) else if i = 200 then b else if i = 201 then ft else fl) = adK i := fun i hi => if_pos (by omega)
    have eV : ∀ i, i < 10 → (if 100 + i < 100 then adK (100 + i) else if 100 + i < 200 then adV (100 + i - 100) else if 100 + i = 200 then b else if 100 + i = 201 then ft else fl) = adV i := fun i hi => by rw [if_neg (by omega), if_pos (by omega), Nat.add_sub_cancel_left]
    refine ⟨fun i hi => ?_, fun i j hi hj e => hSt.2 i j hi hj ((eK i hi).symm.trans (e.trans (eK j hj)))⟩
    have h := hSt.1 i hi
    rw [← eK i hi, ← eV i hi] at h
    exact h
  · intro i q hq
    have hi : i < 10 := (List.getElem?_eq_some_iff.mp hq).1
    have eq : txs.getD i ("", 0, "") = q := by rw [List.getD_eq_getElem?_getD, hq]; rfl
    have h1 := hts _ (gs_sr i hi)
    have h2 := hSe i hi
    unfold tmT at h2
    rw [eq] at h1 h2
    have h3 := vk_R.of h1 h2
    show vk_R q.1 q.2.1 q.2.2 (if i < 100 then adK i else _) s
    rw [if_pos (by omega)]
    exact h3
  · exact ⟨scr, x1, x2, x3, by rw [x4]; exact Nat.le_refl _, by rw [x4], fun j hj => x5 j hj, Nat.not_le.mpr hbl⟩
  · exact fun q hq => va_Nw.of rfl (hts _ (gs_nl q hq))
  · exact fun q hq => va_Nw.of rfl (hts _ (gs_ca q hq))
theorem room_le {s : State} {pl : Platform} (h : s.hasRoom pl room_1 = true) : s.hasRoom pl (rmd (0 + 61) 600000 7302250) = true := by
  have el : (rmd (0 + 61) 600000 7302250).locals ≤ room_1.locals := by decide
  have ef : (rmd (0 + 61) 600000 7302250).frames ≤ room_1.frames := by decide
  simp only [State.hasRoom, Bool.and_eq_true, decide_eq_true_eq] at h ⊢
  obtain ⟨⟨⟨⟨h5, h1, h2, h3, h4, hb⟩, h6⟩, h7⟩, h0⟩ := h
  exact ⟨⟨⟨⟨Nat.le_trans (Nat.add_le_add_right (Nat.add_le_add_left el _) _) h5, Nat.le_trans (Nat.add_le_add_left ef _) h1, Nat.le_trans (Nat.add_le_add_left ef _) h2, Nat.le_trans (Nat.add_le_add_left el _) h3, Nat.le_trans (Nat.add_le_add_left el _) h4, hb⟩, h6⟩, h7⟩, h0⟩
def R_law : String := "FelledByNamesLaw"
def lw_P (b : Addr) (xs : List Int32) (args : Array Value) (s : State) : Prop := args = #[.ref b] ∧ s.IntsAt b xs ∧ xs.length ≤ 3072 ∧ (Jvm.Cond.and given_1 narrow_1).before args s = true
def lw_Q (_ : Array Value) (s : State) (o : Outcome) (t : State) : Prop := o = .returned (some (.int 1)) ∧ Framed s o t [] 600000 7302250
def lw_Z (below : List Frame) (a : Array Value) (s : State) : State → Prop := fun t => ∃ o, t.status = .running ∧ Ended t below o ∧ lw_Q a s o t
/-- the law's own end, with 1 on the stack, nothing written that was there before, its room as the claim has it -/
theorem lw_ret {p : Program} {l : Launch} {e : Env} {s : State} {m : MethodId} {below : List Frame} {meth : Method} {c : Code} {b : Nat} (hx : p.tables.exec = Jvm.exec) (hb : c.code = code) (hr : meth.sig.returnType = ret) (hlocks : meth.locks = false) {pc : Nat} {H : Heap} {ls : Array Slot} (hdg : decode code pc = .ok (.ireturn, 1)) : W p l e room_1 s m #[Value.ref b] below meth c H [] 600000 7302250 (lw_Z below #[Value.ref b] s) (F0 m pc ls [.int 1]) := by
  intro T hT X
  obtain ⟨fs, hret, hrun, hended, hW, hframe⟩ := X.leave (v := some (.int 1)) (hlocks := hlocks) (fun h => by rw [hr] at h; cases h)
  have hmeth' : T.vm.method? m = some meth := X.method'
  refine ⟨T.setFrames fs, ?_, .returned (some (.int 1)), hrun, hended, rfl, ⟨_, rfl⟩, hW, hframe⟩
  jvm_step X.here [X.here.top, hx, hb, hdg, hmeth', hr, ret, narrow_b1]
  (try refine ⟨rfl, ?_⟩); (try refine ⟨rfl, ?_⟩)
  first | (intro acts; rw [hret _ acts rfl rfl rfl]) | rw [hret _ _ rfl rfl rfl]
  exact Steps.refl _
/-- what holds at the law's entry: the machine, the code, the tables' words (any of lw_tbl by 'hts w (by decide +kernel)'), the script of L ints xs at the cell b, what the Statement gives of the start (any of its parts by flat_of_before) -/
def lw_At (p : Program) (s : State) (m : MethodId) (meth : Method) (c : Code) (b L : Nat) (xs : Nat → Int32) : Prop :=
  p.tables.exec = Jvm.exec ∧ c.code = code ∧ meth.sig.returnType = ret ∧ c.maxLocals = 4 ∧ s.vm.findClass R_law = some m.cls ∧ (∀ w ∈ lw_tbl, w.before #[Value.ref b] s = true) ∧ va_X b L xs s s.heap ∧ b < s.heap.size ∧ meth.locks = false ∧ (Jvm.Cond.and given_1 narrow_1).before #[Value.ref b] s = true ∧ meth.name = "law"
theorem whole_start {p : Program} {e : Env} {s : State} {m : MethodId} {below : List Frame} {meth : Method} {c : Code} (l : Launch) {b L : Nat} {xs : Nat → Int32} (hL : L ≤ 3072) (C0 : lw_At p s m meth c b L xs) : W p l e room_1 s m #[Value.ref b] below meth c s.heap [] 0 0 (lw_Z below #[Value.ref b] s) (entryFrame m ([Value.ref b] : List Value).toArray 4) := by
  obtain ⟨hx, hb, hr, hml, hown, hts, hX, hbl, hlocks, hgv, hnm⟩ := C0
  obtain ⟨E, e1, e2, e3, hG⟩ := gx_start hts hX hbl hL hgv
  have hl := lv_entry ([.ref b]) (n := 4) (Nat.le_of_ble_eq_true rfl)
  rw [lg_entry_eq]
  generalize (lg_sl ([.ref b]) ++ List.replicate (4 - (lg_sl ([.ref b])).length) Slot.unset).toArray = ls at hl ⊢
  have hl2 : lv_has ls 4 (tL E [(0, .float 200)]) := by
    have hb2 : E.2.1 (200 : UInt32).toNat = b := e2
    show lv_has ls 4 [(0, .ref (E.2.1 (200 : UInt32).toNat))]
    rw [hb2]
    exact hl
  have k := law_V (l := l) (d := 0) (L := L) (xs := xs) (Q := fun r _ _ => r = some (.int (nI 1))) hL (fun _ _ => rfl) E p e s m #[Value.ref b] below meth c ⟨hx, hb, hml, hr, hown, fun w hw => hts w (List.mem_filter.mp hw).1, hlocks, hnm, hG⟩ e3 s.heap [] ls ⟨by rw [e1]; rfl, fun a e h => by cases h⟩ ⟨by rw [e1]; exact Nat.le_refl _, fun _ _ => rfl, fun _ h => (by cases h), Nat.le_refl _⟩ hl2
  intro T hT X
  obtain ⟨t, a1, o, b1, b2, ⟨r, n1, h1, eo, hr1, -, -, -⟩, Lc, hfe, hfr⟩ := k T hT { X with room := room_le X.room }
  refine ⟨t, a1, o, b1, b2, ?_, hfe.1, hfe.2.1, ?_⟩
  · rw [eo, hr1]; rfl
  · exact hfe.2.2.weaken (fun y hy hlt => absurd hlt (Nat.not_lt.mpr (by rw [← e1]; exact hfr y hy))) (Nat.le_refl _) (Nat.le_refl _)
