theorem kB_F_hold : kB M_F_hold 3 := ⟨tm 1 (by decide +kernel) rfl, tm 473 (by decide +kernel) rfl, ⟨by decide, by decide, by decide +kernel⟩, by decide⟩
theorem k_Law_13_F_hold_FV : kV "FelledByNamesLaw" 13 0 M_F_hold 3 := ⟨kB_F_hold, tm 470 (by decide +kernel) rfl, tm 471 (by decide +kernel) rfl, tm 472 (by decide +kernel) rfl, _, rfl, rfl⟩
theorem kB_Mo_hold : kB M_Mo_hold 3 := ⟨tm 15 (by decide +kernel) rfl, tm 1231 (by decide +kernel) rfl, ⟨by decide, by decide, by decide +kernel⟩, by decide⟩
theorem k_Law_17_Mo_hold_MoV : kV "FelledByNamesLaw" 17 5 M_Mo_hold 3 := ⟨kB_Mo_hold, tm 1228 (by decide +kernel) rfl, tm 1229 (by decide +kernel) rfl, tm 1230 (by decide +kernel) rfl, _, rfl, rfl⟩
set_option maxRecDepth 10000 in
theorem lw_c0 {l : Launch} {d m n c s i L : Nat} {xs : Nat → Int32} {R W Z : Nat → Nat → Int32} {T : Nat → Nat → Nat} {kn : Kn} {D : Nat → Int32} {A : Nat → Nat → Int32} {S : Nat → Int32} {Q : QT} (hR : Rel m R W Z T kn n D A S) (hm : m < 2 ^ 25) (hi : i + 6 ≤ L) (hL : L ≤ 3072) (hc : c + 9 ≤ 600000) (hs : s + 13364 ≤ 7302250) (K : ∀ (R1 W1 Z1 : Nat → Nat → Int32) (T1 : Nat → Nat → Nat) (kn1 : Kn) (n1 : Nat) (D1 : Nat → Int32) (A1 : Nat → Nat → Int32) (S1 : Nat → Int32) (c1 s1 : Nat), Rel (m + 40000) R1 W1 Z1 T1 kn1 n1 D1 A1 S1 → c1 ≤ c + 9 → s1 ≤ s + 13364 → V l (M_Law L xs) (d + 61) 600000 7302250 1505 [(0, .float 200), (1, .ref 0), (2, .ref 88), (3, .int (nI i))] [] n1 (co R1 W1 Z1 T1 kn1 (mo 88 D1 A1 S1 hN)) c1 s1 Q) : V l (M_Law L xs) (d + 61) 600000 7302250 212 [(0, .float 200), (1, .ref 0), (2, .ref 88), (3, .int (nI i))] [] n (co R W Z T kn (mo 88 D A S hN)) c s Q := by
  have hin : ∀ k, k < 6 → vp_in (nI (i + k)) L := fun k hk => vin_N (by omega) (by omega)
  refine V.aload_n d_Law_212 rfl ?_
  refine V.aloadK_n d_Law_213 rfl ?_
  refine V.iload_n d_Law_214 rfl ?_
  refine V.iconst_ (nI 1) d_Law_215 (by decide +kernel) ?_
  refine V.addN d_Law_216 ?_
  refine V.ialdX rfl d_Law_217 (hin 1 (by decide)) ?_
  refine V.aloadK_n d_Law_218 rfl ?_
  refine V.iload_n d_Law_219 rfl ?_
  refine V.iconst_ (nI 2) d_Law_220 (by decide +kernel) ?_
  refine V.addN d_Law_221 ?_
  refine V.ialdX rfl d_Law_222 (hin 2 (by decide)) ?_
  refine V.aloadK_n d_Law_223 rfl ?_
  refine V.iload_n d_Law_224 rfl ?_
  refine V.iconst_ (nI 3) d_Law_225 (by decide +kernel) ?_
  refine V.addN d_Law_226 ?_
  refine V.ialdX rfl d_Law_227 (hin 3 (by decide)) ?_
  refine V.callV3 d_Law_228 k_Law_13_F_hold_FV (co_s sc_ob) (Nat.le_of_ble_eq_true rfl) (by omega) (by omega) ((j_hold hR).mono (fun r n1 h1 hJ => ?_))
  obtain ⟨⟨v, rfl⟩, ⟨fs, hfs⟩, hJ⟩ := hJ
  refine V.aload_n d_Law_231 rfl ?_
  refine V.aloadK_n d_Law_232 rfl ?_
  refine V.iload_n d_Law_233 rfl ?_
  refine V.iconst_ (nI 1) d_Law_234 (by decide +kernel) ?_
  refine V.addN d_Law_235 ?_
  refine V.ialdX rfl d_Law_236 (hin 1 (by decide)) ?_
  refine V.aloadK_n d_Law_237 rfl ?_
  refine V.iload_n d_Law_238 rfl ?_
  refine V.iconst_ (nI 2) d_Law_239 (by decide +kernel) ?_
  refine V.addN d_Law_240 ?_
  refine V.ialdX rfl d_Law_241 (hin 2 (by decide)) ?_
  refine V.aloadK_n d_Law_242 rfl ?_
  refine V.iload_n d_Law_243 rfl ?_
  refine V.iconst_ (nI 3) d_Law_244 (by decide +kernel) ?_
  refine V.addN d_Law_245 ?_
  refine V.ialdX rfl d_Law_246 (hin 3 (by decide)) ?_
  refine V.callV3 d_Law_247 k_Law_17_Mo_hold_MoV hfs (Nat.le_of_ble_eq_true rfl) (by omega) (by omega) (hJ _ (fun R1 W1 Z1 T1 kn1 D1 A1 S1 hR1 => ?_))
  exact V.icmp_eq (tgt := 1505) d_Law_250 (by decide) (fun _ => K R1 W1 Z1 T1 kn1 n1 D1 A1 S1 _ _ hR1 (by omega) (by omega)) (fun z => absurd rfl z)
theorem kB_F_holds : kB M_F_holds 2 := ⟨tm 1 (by decide +kernel) rfl, tm 491 (by decide +kernel) rfl, ⟨by decide, by decide, by decide +kernel⟩, by decide⟩
theorem k_Law_18_F_holds_FV : kV "FelledByNamesLaw" 18 0 M_F_holds 2 := ⟨kB_F_holds, tm 488 (by decide +kernel) rfl, tm 489 (by decide +kernel) rfl, tm 490 (by decide +kernel) rfl, _, rfl, rfl⟩
theorem kB_Mo_holds : kB M_Mo_holds 2 := ⟨tm 15 (by decide +kernel) rfl, tm 1247 (by decide +kernel) rfl, ⟨by decide, by decide, by decide +kernel⟩, by decide⟩
theorem k_Law_22_Mo_holds_MoV : kV "FelledByNamesLaw" 22 5 M_Mo_holds 2 := ⟨kB_Mo_holds, tm 1244 (by decide +kernel) rfl, tm 1245 (by decide +kernel) rfl, tm 1246 (by decide +kernel) rfl, _, rfl, rfl⟩
set_option maxRecDepth 10000 in
theorem lw_c1 {l : Launch} {d m n c s i L : Nat} {xs : Nat → Int32} {R W Z : Nat → Nat → Int32} {T : Nat → Nat → Nat} {kn : Kn} {D : Nat → Int32} {A : Nat → Nat → Int32} {S : Nat → Int32} {Q : QT} (hR : Rel m R W Z T kn n D A S) (hm : m < 2 ^ 25) (hi : i + 6 ≤ L) (hL : L ≤ 3072) (hc : c + 9 ≤ 600000) (hs : s + 13364 ≤ 7302250) (K : ∀ (R1 W1 Z1 : Nat → Nat → Int32) (T1 : Nat → Nat → Nat) (kn1 : Kn) (n1 : Nat) (D1 : Nat → Int32) (A1 : Nat → Nat → Int32) (S1 : Nat → Int32) (c1 s1 : Nat), Rel (m + 40000) R1 W1 Z1 T1 kn1 n1 D1 A1 S1 → c1 ≤ c + 9 → s1 ≤ s + 13364 → V l (M_Law L xs) (d + 61) 600000 7302250 1505 [(0, .float 200), (1, .ref 0), (2, .ref 88), (3, .int (nI i))] [] n1 (co R1 W1 Z1 T1 kn1 (mo 88 D1 A1 S1 hN)) c1 s1 Q) : V l (M_Law L xs) (d + 61) 600000 7302250 255 [(0, .float 200), (1, .ref 0), (2, .ref 88), (3, .int (nI i))] [] n (co R W Z T kn (mo 88 D A S hN)) c s Q := by
  have hin : ∀ k, k < 6 → vp_in (nI (i + k)) L := fun k hk => vin_N (by omega) (by omega)
  refine V.aload_n d_Law_255 rfl ?_
  refine V.aloadK_n d_Law_256 rfl ?_
  refine V.iload_n d_Law_257 rfl ?_
  refine V.iconst_ (nI 1) d_Law_258 (by decide +kernel) ?_
  refine V.addN d_Law_259 ?_
  refine V.ialdX rfl d_Law_260 (hin 1 (by decide)) ?_
  refine V.aloadK_n d_Law_261 rfl ?_
  refine V.iload_n d_Law_262 rfl ?_
  refine V.iconst_ (nI 2) d_Law_263 (by decide +kernel) ?_
  refine V.addN d_Law_264 ?_
  refine V.ialdX rfl d_Law_265 (hin 2 (by decide)) ?_
  refine V.callV2 d_Law_266 k_Law_18_F_holds_FV (co_s sc_ob) (Nat.le_of_ble_eq_true rfl) (by omega) (by omega) ((j_holds hR).mono (fun r n1 h1 hJ => ?_))
  obtain ⟨⟨v, rfl⟩, ⟨fs, hfs⟩, hJ⟩ := hJ
  refine V.aload_n d_Law_269 rfl ?_
  refine V.aloadK_n d_Law_270 rfl ?_
  refine V.iload_n d_Law_271 rfl ?_
  refine V.iconst_ (nI 1) d_Law_272 (by decide +kernel) ?_
  refine V.addN d_Law_273 ?_
  refine V.ialdX rfl d_Law_274 (hin 1 (by decide)) ?_
  refine V.aloadK_n d_Law_275 rfl ?_
  refine V.iload_n d_Law_276 rfl ?_
  refine V.iconst_ (nI 2) d_Law_277 (by decide +kernel) ?_
  refine V.addN d_Law_278 ?_
  refine V.ialdX rfl d_Law_279 (hin 2 (by decide)) ?_
  refine V.callV2 d_Law_280 k_Law_22_Mo_holds_MoV hfs (Nat.le_of_ble_eq_true rfl) (by omega) (by omega) (hJ _ (fun R1 W1 Z1 T1 kn1 D1 A1 S1 hR1 => ?_))
  exact V.icmp_eq (tgt := 1505) d_Law_283 (by decide) (fun _ => K R1 W1 Z1 T1 kn1 n1 D1 A1 S1 _ _ hR1 (by omega) (by omega)) (fun z => absurd rfl z)
theorem kB_F_talk : kB M_F_talk 2 := ⟨tm 1 (by decide +kernel) rfl, tm 495 (by decide +kernel) rfl, ⟨by decide, by decide, by decide +kernel⟩, by decide⟩
theorem k_Law_23_F_talk_FV : kV "FelledByNamesLaw" 23 0 M_F_talk 2 := ⟨kB_F_talk, tm 492 (by decide +kernel) rfl, tm 493 (by decide +kernel) rfl, tm 494 (by decide +kernel) rfl, _, rfl, rfl⟩
theorem kB_Mo_talk : kB M_Mo_talk 2 := ⟨tm 15 (by decide +kernel) rfl, tm 1251 (by decide +kernel) rfl, ⟨by decide, by decide, by decide +kernel⟩, by decide⟩
theorem k_Law_26_Mo_talk_MoV : kV "FelledByNamesLaw" 26 5 M_Mo_talk 2 := ⟨kB_Mo_talk, tm 1248 (by decide +kernel) rfl, tm 1249 (by decide +kernel) rfl, tm 1250 (by decide +kernel) rfl, _, rfl, rfl⟩
set_option maxRecDepth 10000 in
theorem lw_c2 {l : Launch} {d m n c s i L : Nat} {xs : Nat → Int32} {R W Z : Nat → Nat → Int32} {T : Nat → Nat → Nat} {kn : Kn} {D : Nat → Int32} {A : Nat → Nat → Int32} {S : Nat → Int32} {Q : QT} (hR : Rel m R W Z T kn n D A S) (hm : m < 2 ^ 25) (hi : i + 6 ≤ L) (hL : L ≤ 3072) (hc : c + 9 ≤ 600000) (hs : s + 13364 ≤ 7302250) (K : ∀ (R1 W1 Z1 : Nat → Nat → Int32) (T1 : Nat → Nat → Nat) (kn1 : Kn) (n1 : Nat) (D1 : Nat → Int32) (A1 : Nat → Nat → Int32) (S1 : Nat → Int32) (c1 s1 : Nat), Rel (m + 40000) R1 W1 Z1 T1 kn1 n1 D1 A1 S1 → c1 ≤ c + 9 → s1 ≤ s + 13364 → V l (M_Law L xs) (d + 61) 600000 7302250 1505 [(0, .float 200), (1, .ref 0), (2, .ref 88), (3, .int (nI i))] [] n1 (co R1 W1 Z1 T1 kn1 (mo 88 D1 A1 S1 hN)) c1 s1 Q) : V l (M_Law L xs) (d + 61) 600000 7302250 288 [(0, .float 200), (1, .ref 0), (2, .ref 88), (3, .int (nI i))] [] n (co R W Z T kn (mo 88 D A S hN)) c s Q := by
  have hin : ∀ k, k < 6 → vp_in (nI (i + k)) L := fun k hk => vin_N (by omega) (by omega)
  refine V.aload_n d_Law_288 rfl ?_
  refine V.aloadK_n d_Law_289 rfl ?_
  refine V.iload_n d_Law_290 rfl ?_
  refine V.iconst_ (nI 1) d_Law_291 (by decide +kernel) ?_
  refine V.addN d_Law_292 ?_
  refine V.ialdX rfl d_Law_293 (hin 1 (by decide)) ?_
  refine V.aloadK_n d_Law_294 rfl ?_
  refine V.iload_n d_Law_295 rfl ?_
  refine V.iconst_ (nI 2) d_Law_296 (by decide +kernel) ?_
  refine V.addN d_Law_297 ?_
  refine V.ialdX rfl d_Law_298 (hin 2 (by decide)) ?_
  refine V.callV2 d_Law_299 k_Law_23_F_talk_FV (co_s sc_ob) (Nat.le_of_ble_eq_true rfl) (by omega) (by omega) ((j_talk hR).mono (fun r n1 h1 hJ => ?_))
  obtain ⟨⟨v, rfl⟩, ⟨fs, hfs⟩, hJ⟩ := hJ
  refine V.aload_n d_Law_302 rfl ?_
  refine V.aloadK_n d_Law_303 rfl ?_
  refine V.iload_n d_Law_304 rfl ?_
  refine V.iconst_ (nI 1) d_Law_305 (by decide +kernel) ?_
  refine V.addN d_Law_306 ?_
  refine V.ialdX rfl d_Law_307 (hin 1 (by decide)) ?_
  refine V.aloadK_n d_Law_308 rfl ?_
  refine V.iload_n d_Law_309 rfl ?_
  refine V.iconst_ (nI 2) d_Law_310 (by decide +kernel) ?_
  refine V.addN d_Law_311 ?_
  refine V.ialdX rfl d_Law_312 (hin 2 (by decide)) ?_
  refine V.callV2 d_Law_313 k_Law_26_Mo_talk_MoV hfs (Nat.le_of_ble_eq_true rfl) (by omega) (by omega) (hJ _ (fun R1 W1 Z1 T1 kn1 D1 A1 S1 hR1 => ?_))
  exact V.icmp_eq (tgt := 1505) d_Law_316 (by decide) (fun _ => K R1 W1 Z1 T1 kn1 n1 D1 A1 S1 _ _ hR1 (by omega) (by omega)) (fun z => absurd rfl z)
theorem kB_F_talkOf : kB M_F_talkOf 1 := ⟨tm 1 (by decide +kernel) rfl, tm 499 (by decide +kernel) rfl, ⟨by decide, by decide, by decide +kernel⟩, by decide⟩
theorem k_Law_27_F_talkOf_FV : kV "FelledByNamesLaw" 27 0 M_F_talkOf 1 := ⟨kB_F_talkOf, tm 496 (by decide +kernel) rfl, tm 497 (by decide +kernel) rfl, tm 498 (by decide +kernel) rfl, _, rfl, rfl⟩
theorem kB_Mo_talkOf : kB M_Mo_talkOf 1 := ⟨tm 15 (by decide +kernel) rfl, tm 1256 (by decide +kernel) rfl, ⟨by decide, by decide, by decide +kernel⟩, by decide⟩
theorem k_Law_31_Mo_talkOf_MoV : kV "FelledByNamesLaw" 31 5 M_Mo_talkOf 1 := ⟨kB_Mo_talkOf, tm 1253 (by decide +kernel) rfl, tm 1254 (by decide +kernel) rfl, tm 1255 (by decide +kernel) rfl, _, rfl, rfl⟩
set_option maxRecDepth 10000 in
theorem lw_c3 {l : Launch} {d m n c s i L : Nat} {xs : Nat → Int32} {R W Z : Nat → Nat → Int32} {T : Nat → Nat → Nat} {kn : Kn} {D : Nat → Int32} {A : Nat → Nat → Int32} {S : Nat → Int32} {Q : QT} (hR : Rel m R W Z T kn n D A S) (hm : m < 2 ^ 25) (hi : i + 6 ≤ L) (hL : L ≤ 3072) (hc : c + 9 ≤ 600000) (hs : s + 13364 ≤ 7302250) (K : ∀ (R1 W1 Z1 : Nat → Nat → Int32) (T1 : Nat → Nat → Nat) (kn1 : Kn) (n1 : Nat) (D1 : Nat → Int32) (A1 : Nat → Nat → Int32) (S1 : Nat → Int32) (c1 s1 : Nat), Rel (m + 40000) R1 W1 Z1 T1 kn1 n1 D1 A1 S1 → c1 ≤ c + 9 → s1 ≤ s + 13364 → V l (M_Law L xs) (d + 61) 600000 7302250 1505 [(0, .float 200), (1, .ref 0), (2, .ref 88), (3, .int (nI i))] [] n1 (co R1 W1 Z1 T1 kn1 (mo 88 D1 A1 S1 hN)) c1 s1 Q) : V l (M_Law L xs) (d + 61) 600000 7302250 321 [(0, .float 200), (1, .ref 0), (2, .ref 88), (3, .int (nI i))] [] n (co R W Z T kn (mo 88 D A S hN)) c s Q := by
  have hin : ∀ k, k < 6 → vp_in (nI (i + k)) L := fun k hk => vin_N (by omega) (by omega)
  refine V.aload_n d_Law_321 rfl ?_
  refine V.aloadK_n d_Law_322 rfl ?_
  refine V.iload_n d_Law_323 rfl ?_
  refine V.iconst_ (nI 1) d_Law_324 (by decide +kernel) ?_
  refine V.addN d_Law_325 ?_
  refine V.ialdX rfl d_Law_326 (hin 1 (by decide)) ?_
  refine V.callV1 d_Law_327 k_Law_27_F_talkOf_FV (co_s sc_ob) (Nat.le_of_ble_eq_true rfl) (by omega) (by omega) ((j_talkOf hR).mono (fun r n1 h1 hJ => ?_))
  obtain ⟨⟨v, rfl⟩, ⟨fs, hfs⟩, hJ⟩ := hJ
  refine V.aload_n d_Law_330 rfl ?_
  refine V.aloadK_n d_Law_331 rfl ?_
  refine V.iload_n d_Law_332 rfl ?_
  refine V.iconst_ (nI 1) d_Law_333 (by decide +kernel) ?_
  refine V.addN d_Law_334 ?_
  refine V.ialdX rfl d_Law_335 (hin 1 (by decide)) ?_
  refine V.callV1 d_Law_336 k_Law_31_Mo_talkOf_MoV hfs (Nat.le_of_ble_eq_true rfl) (by omega) (by omega) (hJ _ (fun R1 W1 Z1 T1 kn1 D1 A1 S1 hR1 => ?_))
  exact V.icmp_eq (tgt := 1505) d_Law_339 (by decide) (fun _ => K R1 W1 Z1 T1 kn1 n1 D1 A1 S1 _ _ hR1 (by omega) (by omega)) (fun z => absurd rfl z)
theorem kB_F_set : kB M_F_set 2 := ⟨tm 1 (by decide +kernel) rfl, tm 503 (by decide +kernel) rfl, ⟨by decide, by decide, by decide +kernel⟩, by decide⟩
theorem k_Law_32_F_set_FV : kV "FelledByNamesLaw" 32 0 M_F_set 2 := ⟨kB_F_set, tm 500 (by decide +kernel) rfl, tm 501 (by decide +kernel) rfl, tm 502 (by decide +kernel) rfl, _, rfl, rfl⟩
theorem kB_Mo_set : kB M_Mo_set 2 := ⟨tm 15 (by decide +kernel) rfl, tm 1260 (by decide +kernel) rfl, ⟨by decide, by decide, by decide +kernel⟩, by decide⟩
theorem k_Law_35_Mo_set_MoV : kV "FelledByNamesLaw" 35 5 M_Mo_set 2 := ⟨kB_Mo_set, tm 1257 (by decide +kernel) rfl, tm 1258 (by decide +kernel) rfl, tm 1259 (by decide +kernel) rfl, _, rfl, rfl⟩
set_option maxRecDepth 10000 in
theorem lw_c4 {l : Launch} {d m n c s i L : Nat} {xs : Nat → Int32} {R W Z : Nat → Nat → Int32} {T : Nat → Nat → Nat} {kn : Kn} {D : Nat → Int32} {A : Nat → Nat → Int32} {S : Nat → Int32} {Q : QT} (hR : Rel m R W Z T kn n D A S) (hm : m < 2 ^ 25) (hi : i + 6 ≤ L) (hL : L ≤ 3072) (hc : c + 9 ≤ 600000) (hs : s + 13364 ≤ 7302250) (K : ∀ (R1 W1 Z1 : Nat → Nat → Int32) (T1 : Nat → Nat → Nat) (kn1 : Kn) (n1 : Nat) (D1 : Nat → Int32) (A1 : Nat → Nat → Int32) (S1 : Nat → Int32) (c1 s1 : Nat), Rel (m + 40000) R1 W1 Z1 T1 kn1 n1 D1 A1 S1 → c1 ≤ c + 9 → s1 ≤ s + 13364 → V l (M_Law L xs) (d + 61) 600000 7302250 1505 [(0, .float 200), (1, .ref 0), (2, .ref 88), (3, .int (nI i))] [] n1 (co R1 W1 Z1 T1 kn1 (mo 88 D1 A1 S1 hN)) c1 s1 Q) : V l (M_Law L xs) (d + 61) 600000 7302250 344 [(0, .float 200), (1, .ref 0), (2, .ref 88), (3, .int (nI i))] [] n (co R W Z T kn (mo 88 D A S hN)) c s Q := by
  have hin : ∀ k, k < 6 → vp_in (nI (i + k)) L := fun k hk => vin_N (by omega) (by omega)
  refine V.aload_n d_Law_344 rfl ?_
  refine V.aloadK_n d_Law_345 rfl ?_
  refine V.iload_n d_Law_346 rfl ?_
  refine V.iconst_ (nI 1) d_Law_347 (by decide +kernel) ?_
  refine V.addN d_Law_348 ?_
  refine V.ialdX rfl d_Law_349 (hin 1 (by decide)) ?_
  refine V.aloadK_n d_Law_350 rfl ?_
  refine V.iload_n d_Law_351 rfl ?_
  refine V.iconst_ (nI 2) d_Law_352 (by decide +kernel) ?_
  refine V.addN d_Law_353 ?_
  refine V.ialdX rfl d_Law_354 (hin 2 (by decide)) ?_
  refine V.callV2 d_Law_355 k_Law_32_F_set_FV (co_s sc_ob) (Nat.le_of_ble_eq_true rfl) (by omega) (by omega) ((j_set hR).mono (fun r n1 h1 hJ => ?_))
  obtain ⟨⟨v, rfl⟩, ⟨fs, hfs⟩, hJ⟩ := hJ
  refine V.aload_n d_Law_358 rfl ?_
  refine V.aloadK_n d_Law_359 rfl ?_
  refine V.iload_n d_Law_360 rfl ?_
  refine V.iconst_ (nI 1) d_Law_361 (by decide +kernel) ?_
  refine V.addN d_Law_362 ?_
  refine V.ialdX rfl d_Law_363 (hin 1 (by decide)) ?_
  refine V.aloadK_n d_Law_364 rfl ?_
  refine V.iload_n d_Law_365 rfl ?_
  refine V.iconst_ (nI 2) d_Law_366 (by decide +kernel) ?_
  refine V.addN d_Law_367 ?_
  refine V.ialdX rfl d_Law_368 (hin 2 (by decide)) ?_
  refine V.callV2 d_Law_369 k_Law_35_Mo_set_MoV hfs (Nat.le_of_ble_eq_true rfl) (by omega) (by omega) (hJ _ (fun R1 W1 Z1 T1 kn1 D1 A1 S1 hR1 => ?_))
  exact V.icmp_eq (tgt := 1505) d_Law_372 (by decide) (fun _ => K R1 W1 Z1 T1 kn1 n1 D1 A1 S1 _ _ hR1 (by omega) (by omega)) (fun z => absurd rfl z)
theorem kB_F_tree : kB M_F_tree 4 := ⟨tm 1 (by decide +kernel) rfl, tm 508 (by decide +kernel) rfl, ⟨by decide, by decide, by decide +kernel⟩, by decide⟩
theorem k_Law_36_F_tree_FV : kV "FelledByNamesLaw" 36 0 M_F_tree 4 := ⟨kB_F_tree, tm 505 (by decide +kernel) rfl, tm 506 (by decide +kernel) rfl, tm 507 (by decide +kernel) rfl, _, rfl, rfl⟩
theorem kB_Mo_tree : kB M_Mo_tree 4 := ⟨tm 15 (by decide +kernel) rfl, tm 1268 (by decide +kernel) rfl, ⟨by decide, by decide, by decide +kernel⟩, by decide⟩
theorem k_Law_40_Mo_tree_MoV : kV "FelledByNamesLaw" 40 5 M_Mo_tree 4 := ⟨kB_Mo_tree, tm 1265 (by decide +kernel) rfl, tm 1266 (by decide +kernel) rfl, tm 1267 (by decide +kernel) rfl, _, rfl, rfl⟩
set_option maxRecDepth 10000 in
theorem lw_c5 {l : Launch} {d m n c s i L : Nat} {xs : Nat → Int32} {R W Z : Nat → Nat → Int32} {T : Nat → Nat → Nat} {kn : Kn} {D : Nat → Int32} {A : Nat → Nat → Int32} {S : Nat → Int32} {Q : QT} (hR : Rel m R W Z T kn n D A S) (hm : m < 2 ^ 25) (hi : i + 6 ≤ L) (hL : L ≤ 3072) (hc : c + 9 ≤ 600000) (hs : s + 13364 ≤ 7302250) (K : ∀ (R1 W1 Z1 : Nat → Nat → Int32) (T1 : Nat → Nat → Nat) (kn1 : Kn) (n1 : Nat) (D1 : Nat → Int32) (A1 : Nat → Nat → Int32) (S1 : Nat → Int32) (c1 s1 : Nat), Rel (m + 40000) R1 W1 Z1 T1 kn1 n1 D1 A1 S1 → c1 ≤ c + 9 → s1 ≤ s + 13364 → V l (M_Law L xs) (d + 61) 600000 7302250 1505 [(0, .float 200), (1, .ref 0), (2, .ref 88), (3, .int (nI i))] [] n1 (co R1 W1 Z1 T1 kn1 (mo 88 D1 A1 S1 hN)) c1 s1 Q) : V l (M_Law L xs) (d + 61) 600000 7302250 377 [(0, .float 200), (1, .ref 0), (2, .ref 88), (3, .int (nI i))] [] n (co R W Z T kn (mo 88 D A S hN)) c s Q := by
  have hin : ∀ k, k < 6 → vp_in (nI (i + k)) L := fun k hk => vin_N (by omega) (by omega)
  refine V.aload_n d_Law_377 rfl ?_
  refine V.aloadK_n d_Law_378 rfl ?_
  refine V.iload_n d_Law_379 rfl ?_
  refine V.iconst_ (nI 1) d_Law_380 (by decide +kernel) ?_
  refine V.addN d_Law_381 ?_
  refine V.ialdX rfl d_Law_382 (hin 1 (by decide)) ?_
  refine V.aloadK_n d_Law_383 rfl ?_
  refine V.iload_n d_Law_384 rfl ?_
  refine V.iconst_ (nI 2) d_Law_385 (by decide +kernel) ?_
  refine V.addN d_Law_386 ?_
  refine V.ialdX rfl d_Law_387 (hin 2 (by decide)) ?_
  refine V.aloadK_n d_Law_388 rfl ?_
  refine V.iload_n d_Law_389 rfl ?_
  refine V.iconst_ (nI 3) d_Law_390 (by decide +kernel) ?_
  refine V.addN d_Law_391 ?_
  refine V.ialdX rfl d_Law_392 (hin 3 (by decide)) ?_
  refine V.aloadK_n d_Law_393 rfl ?_
  refine V.iload_n d_Law_394 rfl ?_
  refine V.iconst_ (nI 4) d_Law_395 (by decide +kernel) ?_
  refine V.addN d_Law_396 ?_
  refine V.ialdX rfl d_Law_397 (hin 4 (by decide)) ?_
  refine V.callV4 d_Law_398 k_Law_36_F_tree_FV (co_s sc_ob) (Nat.le_of_ble_eq_true rfl) (by omega) (by omega) ((j_tree hR).mono (fun r n1 h1 hJ => ?_))
  obtain ⟨⟨v, rfl⟩, ⟨fs, hfs⟩, hJ⟩ := hJ
  refine V.aload_n d_Law_401 rfl ?_
  refine V.aloadK_n d_Law_402 rfl ?_
  refine V.iload_n d_Law_403 rfl ?_
  refine V.iconst_ (nI 1) d_Law_404 (by decide +kernel) ?_
  refine V.addN d_Law_405 ?_
  refine V.ialdX rfl d_Law_406 (hin 1 (by decide)) ?_
  refine V.aloadK_n d_Law_407 rfl ?_
  refine V.iload_n d_Law_408 rfl ?_
  refine V.iconst_ (nI 2) d_Law_409 (by decide +kernel) ?_
  refine V.addN d_Law_410 ?_
  refine V.ialdX rfl d_Law_411 (hin 2 (by decide)) ?_
  refine V.aloadK_n d_Law_412 rfl ?_
  refine V.iload_n d_Law_413 rfl ?_
  refine V.iconst_ (nI 3) d_Law_414 (by decide +kernel) ?_
  refine V.addN d_Law_415 ?_
  refine V.ialdX rfl d_Law_416 (hin 3 (by decide)) ?_
  refine V.aloadK_n d_Law_417 rfl ?_
  refine V.iload_n d_Law_418 rfl ?_
  refine V.iconst_ (nI 4) d_Law_419 (by decide +kernel) ?_
  refine V.addN d_Law_420 ?_
  refine V.ialdX rfl d_Law_421 (hin 4 (by decide)) ?_
  refine V.callV4 d_Law_422 k_Law_40_Mo_tree_MoV hfs (Nat.le_of_ble_eq_true rfl) (by omega) (by omega) (hJ _ (fun R1 W1 Z1 T1 kn1 D1 A1 S1 hR1 => ?_))
  exact V.icmp_eq (tgt := 1505) d_Law_425 (by decide) (fun _ => K R1 W1 Z1 T1 kn1 n1 D1 A1 S1 _ _ hR1 (by omega) (by omega)) (fun z => absurd rfl z)
theorem kB_F_ofTree : kB M_F_ofTree 2 := ⟨tm 1 (by decide +kernel) rfl, tm 607 (by decide +kernel) rfl, ⟨by decide, by decide, by decide +kernel⟩, by decide⟩
theorem k_Law_41_F_ofTree_FV : kV "FelledByNamesLaw" 41 0 M_F_ofTree 2 := ⟨kB_F_ofTree, tm 604 (by decide +kernel) rfl, tm 605 (by decide +kernel) rfl, tm 606 (by decide +kernel) rfl, _, rfl, rfl⟩
theorem kB_Mo_ofTree : kB M_Mo_ofTree 2 := ⟨tm 15 (by decide +kernel) rfl, tm 1277 (by decide +kernel) rfl, ⟨by decide, by decide, by decide +kernel⟩, by decide⟩
theorem k_Law_44_Mo_ofTree_MoV : kV "FelledByNamesLaw" 44 5 M_Mo_ofTree 2 := ⟨kB_Mo_ofTree, tm 1274 (by decide +kernel) rfl, tm 1275 (by decide +kernel) rfl, tm 1276 (by decide +kernel) rfl, _, rfl, rfl⟩
set_option maxRecDepth 10000 in
theorem lw_c6 {l : Launch} {d m n c s i L : Nat} {xs : Nat → Int32} {R W Z : Nat → Nat → Int32} {T : Nat → Nat → Nat} {kn : Kn} {D : Nat → Int32} {A : Nat → Nat → Int32} {S : Nat → Int32} {Q : QT} (hR : Rel m R W Z T kn n D A S) (hm : m < 2 ^ 25) (hi : i + 6 ≤ L) (hL : L ≤ 3072) (hc : c + 9 ≤ 600000) (hs : s + 13364 ≤ 7302250) (K : ∀ (R1 W1 Z1 : Nat → Nat → Int32) (T1 : Nat → Nat → Nat) (kn1 : Kn) (n1 : Nat) (D1 : Nat → Int32) (A1 : Nat → Nat → Int32) (S1 : Nat → Int32) (c1 s1 : Nat), Rel (m + 40000) R1 W1 Z1 T1 kn1 n1 D1 A1 S1 → c1 ≤ c + 9 → s1 ≤ s + 13364 → V l (M_Law L xs) (d + 61) 600000 7302250 1505 [(0, .float 200), (1, .ref 0), (2, .ref 88), (3, .int (nI i))] [] n1 (co R1 W1 Z1 T1 kn1 (mo 88 D1 A1 S1 hN)) c1 s1 Q) : V l (M_Law L xs) (d + 61) 600000 7302250 430 [(0, .float 200), (1, .ref 0), (2, .ref 88), (3, .int (nI i))] [] n (co R W Z T kn (mo 88 D A S hN)) c s Q := by
  have hin : ∀ k, k < 6 → vp_in (nI (i + k)) L := fun k hk => vin_N (by omega) (by omega)
  refine V.aload_n d_Law_430 rfl ?_
  refine V.aloadK_n d_Law_431 rfl ?_
  refine V.iload_n d_Law_432 rfl ?_
  refine V.iconst_ (nI 1) d_Law_433 (by decide +kernel) ?_
  refine V.addN d_Law_434 ?_
  refine V.ialdX rfl d_Law_435 (hin 1 (by decide)) ?_
  refine V.aloadK_n d_Law_436 rfl ?_
  refine V.iload_n d_Law_437 rfl ?_
  refine V.iconst_ (nI 2) d_Law_438 (by decide +kernel) ?_
  refine V.addN d_Law_439 ?_
  refine V.ialdX rfl d_Law_440 (hin 2 (by decide)) ?_
  refine V.callV2 d_Law_441 k_Law_41_F_ofTree_FV (co_s sc_ob) (Nat.le_of_ble_eq_true rfl) (by omega) (by omega) ((j_ofTree hR).mono (fun r n1 h1 hJ => ?_))
  obtain ⟨⟨v, rfl⟩, ⟨fs, hfs⟩, hJ⟩ := hJ
  refine V.aload_n d_Law_444 rfl ?_
  refine V.aloadK_n d_Law_445 rfl ?_
  refine V.iload_n d_Law_446 rfl ?_
  refine V.iconst_ (nI 1) d_Law_447 (by decide +kernel) ?_
  refine V.addN d_Law_448 ?_
  refine V.ialdX rfl d_Law_449 (hin 1 (by decide)) ?_
  refine V.aloadK_n d_Law_450 rfl ?_
  refine V.iload_n d_Law_451 rfl ?_
  refine V.iconst_ (nI 2) d_Law_452 (by decide +kernel) ?_
  refine V.addN d_Law_453 ?_
  refine V.ialdX rfl d_Law_454 (hin 2 (by decide)) ?_
  refine V.callV2 d_Law_455 k_Law_44_Mo_ofTree_MoV hfs (Nat.le_of_ble_eq_true rfl) (by omega) (by omega) (hJ _ (fun R1 W1 Z1 T1 kn1 D1 A1 S1 hR1 => ?_))
  exact V.icmp_eq (tgt := 1505) d_Law_458 (by decide) (fun _ => K R1 W1 Z1 T1 kn1 n1 D1 A1 S1 _ _ hR1 (by omega) (by omega)) (fun z => absurd rfl z)
theorem kB_F_change : kB M_F_change 3 := ⟨tm 1 (by decide +kernel) rfl, tm 655 (by decide +kernel) rfl, ⟨by decide, by decide, by decide +kernel⟩, by decide⟩
theorem k_Law_45_F_change_FV : kV "FelledByNamesLaw" 45 0 M_F_change 3 := ⟨kB_F_change, tm 652 (by decide +kernel) rfl, tm 653 (by decide +kernel) rfl, tm 654 (by decide +kernel) rfl, _, rfl, rfl⟩
theorem kB_Mo_change : kB M_Mo_change 3 := ⟨tm 15 (by decide +kernel) rfl, tm 1298 (by decide +kernel) rfl, ⟨by decide, by decide, by decide +kernel⟩, by decide⟩
theorem k_Law_48_Mo_change_MoV : kV "FelledByNamesLaw" 48 5 M_Mo_change 3 := ⟨kB_Mo_change, tm 1295 (by decide +kernel) rfl, tm 1296 (by decide +kernel) rfl, tm 1297 (by decide +kernel) rfl, _, rfl, rfl⟩
set_option maxRecDepth 10000 in
theorem lw_c7 {l : Launch} {d m n c s i L : Nat} {xs : Nat → Int32} {R W Z : Nat → Nat → Int32} {T : Nat → Nat → Nat} {kn : Kn} {D : Nat → Int32} {A : Nat → Nat → Int32} {S : Nat → Int32} {Q : QT} (hR : Rel m R W Z T kn n D A S) (hm : m < 2 ^ 25) (hi : i + 6 ≤ L) (hL : L ≤ 3072) (hc : c + 9 ≤ 600000) (hs : s + 13364 ≤ 7302250) (K : ∀ (R1 W1 Z1 : Nat → Nat → Int32) (T1 : Nat → Nat → Nat) (kn1 : Kn) (n1 : Nat) (D1 : Nat → Int32) (A1 : Nat → Nat → Int32) (S1 : Nat → Int32) (c1 s1 : Nat), Rel (m + 40000) R1 W1 Z1 T1 kn1 n1 D1 A1 S1 → c1 ≤ c + 9 → s1 ≤ s + 13364 → V l (M_Law L xs) (d + 61) 600000 7302250 1505 [(0, .float 200), (1, .ref 0), (2, .ref 88), (3, .int (nI i))] [] n1 (co R1 W1 Z1 T1 kn1 (mo 88 D1 A1 S1 hN)) c1 s1 Q) : V l (M_Law L xs) (d + 61) 600000 7302250 463 [(0, .float 200), (1, .ref 0), (2, .ref 88), (3, .int (nI i))] [] n (co R W Z T kn (mo 88 D A S hN)) c s Q := by
  have hin : ∀ k, k < 6 → vp_in (nI (i + k)) L := fun k hk => vin_N (by omega) (by omega)
  refine V.aload_n d_Law_463 rfl ?_
  refine V.aloadK_n d_Law_464 rfl ?_
  refine V.iload_n d_Law_465 rfl ?_
  refine V.iconst_ (nI 1) d_Law_466 (by decide +kernel) ?_
  refine V.addN d_Law_467 ?_
  refine V.ialdX rfl d_Law_468 (hin 1 (by decide)) ?_
  refine V.aloadK_n d_Law_469 rfl ?_
  refine V.iload_n d_Law_470 rfl ?_
  refine V.iconst_ (nI 2) d_Law_471 (by decide +kernel) ?_
  refine V.addN d_Law_472 ?_
  refine V.ialdX rfl d_Law_473 (hin 2 (by decide)) ?_
  refine V.aloadK_n d_Law_474 rfl ?_
  refine V.iload_n d_Law_475 rfl ?_
  refine V.iconst_ (nI 3) d_Law_476 (by decide +kernel) ?_
  refine V.addN d_Law_477 ?_
  refine V.ialdX rfl d_Law_478 (hin 3 (by decide)) ?_
  refine V.callV3 d_Law_479 k_Law_45_F_change_FV (co_s sc_ob) (Nat.le_of_ble_eq_true rfl) (by omega) (by omega) ((j_change hR).mono (fun r n1 h1 hJ => ?_))
  obtain ⟨⟨v, rfl⟩, ⟨fs, hfs⟩, hJ⟩ := hJ
  refine V.aload_n d_Law_482 rfl ?_
  refine V.aloadK_n d_Law_483 rfl ?_
  refine V.iload_n d_Law_484 rfl ?_
  refine V.iconst_ (nI 1) d_Law_485 (by decide +kernel) ?_
  refine V.addN d_Law_486 ?_
  refine V.ialdX rfl d_Law_487 (hin 1 (by decide)) ?_
  refine V.aloadK_n d_Law_488 rfl ?_
  refine V.iload_n d_Law_489 rfl ?_
  refine V.iconst_ (nI 2) d_Law_490 (by decide +kernel) ?_
  refine V.addN d_Law_491 ?_
  refine V.ialdX rfl d_Law_492 (hin 2 (by decide)) ?_
  refine V.aloadK_n d_Law_493 rfl ?_
  refine V.iload_n d_Law_494 rfl ?_
  refine V.iconst_ (nI 3) d_Law_495 (by decide +kernel) ?_
  refine V.addN d_Law_496 ?_
  refine V.ialdX rfl d_Law_497 (hin 3 (by decide)) ?_
  refine V.callV3 d_Law_498 k_Law_48_Mo_change_MoV hfs (Nat.le_of_ble_eq_true rfl) (by omega) (by omega) (hJ _ (fun R1 W1 Z1 T1 kn1 D1 A1 S1 hR1 => ?_))
  exact V.icmp_eq (tgt := 1505) d_Law_501 (by decide) (fun _ => K R1 W1 Z1 T1 kn1 n1 D1 A1 S1 _ _ hR1 (by omega) (by omega)) (fun z => absurd rfl z)
theorem kB_F_become : kB M_F_become 2 := ⟨tm 1 (by decide +kernel) rfl, tm 659 (by decide +kernel) rfl, ⟨by decide, by decide, by decide +kernel⟩, by decide⟩
theorem k_Law_49_F_become_FV : kV "FelledByNamesLaw" 49 0 M_F_become 2 := ⟨kB_F_become, tm 656 (by decide +kernel) rfl, tm 657 (by decide +kernel) rfl, tm 658 (by decide +kernel) rfl, _, rfl, rfl⟩
theorem kB_Mo_become : kB M_Mo_become 2 := ⟨tm 15 (by decide +kernel) rfl, tm 1302 (by decide +kernel) rfl, ⟨by decide, by decide, by decide +kernel⟩, by decide⟩
theorem k_Law_52_Mo_become_MoV : kV "FelledByNamesLaw" 52 5 M_Mo_become 2 := ⟨kB_Mo_become, tm 1299 (by decide +kernel) rfl, tm 1300 (by decide +kernel) rfl, tm 1301 (by decide +kernel) rfl, _, rfl, rfl⟩
set_option maxRecDepth 10000 in
theorem lw_c8 {l : Launch} {d m n c s i L : Nat} {xs : Nat → Int32} {R W Z : Nat → Nat → Int32} {T : Nat → Nat → Nat} {kn : Kn} {D : Nat → Int32} {A : Nat → Nat → Int32} {S : Nat → Int32} {Q : QT} (hR : Rel m R W Z T kn n D A S) (hm : m < 2 ^ 25) (hi : i + 6 ≤ L) (hL : L ≤ 3072) (hc : c + 9 ≤ 600000) (hs : s + 13364 ≤ 7302250) (K : ∀ (R1 W1 Z1 : Nat → Nat → Int32) (T1 : Nat → Nat → Nat) (kn1 : Kn) (n1 : Nat) (D1 : Nat → Int32) (A1 : Nat → Nat → Int32) (S1 : Nat → Int32) (c1 s1 : Nat), Rel (m + 40000) R1 W1 Z1 T1 kn1 n1 D1 A1 S1 → c1 ≤ c + 9 → s1 ≤ s + 13364 → V l (M_Law L xs) (d + 61) 600000 7302250 1505 [(0, .float 200), (1, .ref 0), (2, .ref 88), (3, .int (nI i))] [] n1 (co R1 W1 Z1 T1 kn1 (mo 88 D1 A1 S1 hN)) c1 s1 Q) : V l (M_Law L xs) (d + 61) 600000 7302250 506 [(0, .float 200), (1, .ref 0), (2, .ref 88), (3, .int (nI i))] [] n (co R W Z T kn (mo 88 D A S hN)) c s Q := by
  have hin : ∀ k, k < 6 → vp_in (nI (i + k)) L := fun k hk => vin_N (by omega) (by omega)
  refine V.aload_n d_Law_506 rfl ?_
  refine V.aloadK_n d_Law_507 rfl ?_
  refine V.iload_n d_Law_508 rfl ?_
  refine V.iconst_ (nI 1) d_Law_509 (by decide +kernel) ?_
  refine V.addN d_Law_510 ?_
  refine V.ialdX rfl d_Law_511 (hin 1 (by decide)) ?_
  refine V.aloadK_n d_Law_512 rfl ?_
  refine V.iload_n d_Law_513 rfl ?_
  refine V.iconst_ (nI 2) d_Law_514 (by decide +kernel) ?_
  refine V.addN d_Law_515 ?_
  refine V.ialdX rfl d_Law_516 (hin 2 (by decide)) ?_
  refine V.callV2 d_Law_517 k_Law_49_F_become_FV (co_s sc_ob) (Nat.le_of_ble_eq_true rfl) (by omega) (by omega) ((j_become hR).mono (fun r n1 h1 hJ => ?_))
  obtain ⟨⟨v, rfl⟩, ⟨fs, hfs⟩, hJ⟩ := hJ
  refine V.aload_n d_Law_520 rfl ?_
  refine V.aloadK_n d_Law_521 rfl ?_
  refine V.iload_n d_Law_522 rfl ?_
  refine V.iconst_ (nI 1) d_Law_523 (by decide +kernel) ?_
  refine V.addN d_Law_524 ?_
  refine V.ialdX rfl d_Law_525 (hin 1 (by decide)) ?_
  refine V.aloadK_n d_Law_526 rfl ?_
  refine V.iload_n d_Law_527 rfl ?_
  refine V.iconst_ (nI 2) d_Law_528 (by decide +kernel) ?_
  refine V.addN d_Law_529 ?_
  refine V.ialdX rfl d_Law_530 (hin 2 (by decide)) ?_
  refine V.callV2 d_Law_531 k_Law_52_Mo_become_MoV hfs (Nat.le_of_ble_eq_true rfl) (by omega) (by omega) (hJ _ (fun R1 W1 Z1 T1 kn1 D1 A1 S1 hR1 => ?_))
  exact V.icmp_eq (tgt := 1505) d_Law_534 (by decide) (fun _ => K R1 W1 Z1 T1 kn1 n1 D1 A1 S1 _ _ hR1 (by omega) (by omega)) (fun z => absurd rfl z)
theorem kB_F_as : kB M_F_as 2 := ⟨tm 1 (by decide +kernel) rfl, tm 674 (by decide +kernel) rfl, ⟨by decide, by decide, by decide +kernel⟩, by decide⟩
theorem k_Law_53_F_as_FV : kV "FelledByNamesLaw" 53 0 M_F_as 2 := ⟨kB_F_as, tm 671 (by decide +kernel) rfl, tm 672 (by decide +kernel) rfl, tm 673 (by decide +kernel) rfl, _, rfl, rfl⟩
theorem kB_Mo_as : kB M_Mo_as 2 := ⟨tm 15 (by decide +kernel) rfl, tm 1306 (by decide +kernel) rfl, ⟨by decide, by decide, by decide +kernel⟩, by decide⟩
theorem k_Law_56_Mo_as_MoV : kV "FelledByNamesLaw" 56 5 M_Mo_as 2 := ⟨kB_Mo_as, tm 1303 (by decide +kernel) rfl, tm 1304 (by decide +kernel) rfl, tm 1305 (by decide +kernel) rfl, _, rfl, rfl⟩
set_option maxRecDepth 10000 in
theorem lw_c9 {l : Launch} {d m n c s i L : Nat} {xs : Nat → Int32} {R W Z : Nat → Nat → Int32} {T : Nat → Nat → Nat} {kn : Kn} {D : Nat → Int32} {A : Nat → Nat → Int32} {S : Nat → Int32} {Q : QT} (hR : Rel m R W Z T kn n D A S) (hm : m < 2 ^ 25) (hi : i + 6 ≤ L) (hL : L ≤ 3072) (hc : c + 9 ≤ 600000) (hs : s + 13364 ≤ 7302250) (K : ∀ (R1 W1 Z1 : Nat → Nat → Int32) (T1 : Nat → Nat → Nat) (kn1 : Kn) (n1 : Nat) (D1 : Nat → Int32) (A1 : Nat → Nat → Int32) (S1 : Nat → Int32) (c1 s1 : Nat), Rel (m + 40000) R1 W1 Z1 T1 kn1 n1 D1 A1 S1 → c1 ≤ c + 9 → s1 ≤ s + 13364 → V l (M_Law L xs) (d + 61) 600000 7302250 1505 [(0, .float 200), (1, .ref 0), (2, .ref 88), (3, .int (nI i))] [] n1 (co R1 W1 Z1 T1 kn1 (mo 88 D1 A1 S1 hN)) c1 s1 Q) : V l (M_Law L xs) (d + 61) 600000 7302250 539 [(0, .float 200), (1, .ref 0), (2, .ref 88), (3, .int (nI i))] [] n (co R W Z T kn (mo 88 D A S hN)) c s Q := by
  have hin : ∀ k, k < 6 → vp_in (nI (i + k)) L := fun k hk => vin_N (by omega) (by omega)
  refine V.aload_n d_Law_539 rfl ?_
  refine V.aloadK_n d_Law_540 rfl ?_
  refine V.iload_n d_Law_541 rfl ?_
  refine V.iconst_ (nI 1) d_Law_542 (by decide +kernel) ?_
  refine V.addN d_Law_543 ?_
  refine V.ialdX rfl d_Law_544 (hin 1 (by decide)) ?_
  refine V.aloadK_n d_Law_545 rfl ?_
  refine V.iload_n d_Law_546 rfl ?_
  refine V.iconst_ (nI 2) d_Law_547 (by decide +kernel) ?_
  refine V.addN d_Law_548 ?_
  refine V.ialdX rfl d_Law_549 (hin 2 (by decide)) ?_
  refine V.callV2 d_Law_550 k_Law_53_F_as_FV (co_s sc_ob) (Nat.le_of_ble_eq_true rfl) (by omega) (by omega) ((j_as hR).mono (fun r n1 h1 hJ => ?_))
  obtain ⟨⟨v, rfl⟩, ⟨fs, hfs⟩, hJ⟩ := hJ
  refine V.aload_n d_Law_553 rfl ?_
  refine V.aloadK_n d_Law_554 rfl ?_
  refine V.iload_n d_Law_555 rfl ?_
  refine V.iconst_ (nI 1) d_Law_556 (by decide +kernel) ?_
  refine V.addN d_Law_557 ?_
  refine V.ialdX rfl d_Law_558 (hin 1 (by decide)) ?_
  refine V.aloadK_n d_Law_559 rfl ?_
  refine V.iload_n d_Law_560 rfl ?_
  refine V.iconst_ (nI 2) d_Law_561 (by decide +kernel) ?_
  refine V.addN d_Law_562 ?_
  refine V.ialdX rfl d_Law_563 (hin 2 (by decide)) ?_
  refine V.callV2 d_Law_564 k_Law_56_Mo_as_MoV hfs (Nat.le_of_ble_eq_true rfl) (by omega) (by omega) (hJ _ (fun R1 W1 Z1 T1 kn1 D1 A1 S1 hR1 => ?_))
  exact V.icmp_eq (tgt := 1505) d_Law_567 (by decide) (fun _ => K R1 W1 Z1 T1 kn1 n1 D1 A1 S1 _ _ hR1 (by omega) (by omega)) (fun z => absurd rfl z)
theorem kc_Law_57 : Cond.constantLong "FelledByNamesLaw" 57 4294967295 ∈ tb := tm 1498 (by decide +kernel) rfl
theorem kB_F_feed : kB M_F_feed 2 := ⟨tm 1 (by decide +kernel) rfl, tm 681 (by decide +kernel) rfl, ⟨by decide, by decide, by decide +kernel⟩, by decide⟩
theorem k_Law_59_F_feed_FV : kV "FelledByNamesLaw" 59 0 M_F_feed 2 := ⟨kB_F_feed, tm 678 (by decide +kernel) rfl, tm 679 (by decide +kernel) rfl, tm 680 (by decide +kernel) rfl, _, rfl, rfl⟩
theorem kB_Mo_feed : kB M_Mo_feed 2 := ⟨tm 15 (by decide +kernel) rfl, tm 1141 (by decide +kernel) rfl, ⟨by decide, by decide, by decide +kernel⟩, by decide⟩
theorem k_Law_63_Mo_feed_MoV : kV "FelledByNamesLaw" 63 5 M_Mo_feed 2 := ⟨kB_Mo_feed, tm 1138 (by decide +kernel) rfl, tm 1139 (by decide +kernel) rfl, tm 1140 (by decide +kernel) rfl, _, rfl, rfl⟩
set_option maxRecDepth 10000 in
theorem lw_c10 {l : Launch} {d m n c s i L : Nat} {xs : Nat → Int32} {R W Z : Nat → Nat → Int32} {T : Nat → Nat → Nat} {kn : Kn} {D : Nat → Int32} {A : Nat → Nat → Int32} {S : Nat → Int32} {Q : QT} (hR : Rel m R W Z T kn n D A S) (hm : m < 2 ^ 25) (hi : i + 6 ≤ L) (hL : L ≤ 3072) (hc : c + 9 ≤ 600000) (hs : s + 13364 ≤ 7302250) (K : ∀ (R1 W1 Z1 : Nat → Nat → Int32) (T1 : Nat → Nat → Nat) (kn1 : Kn) (n1 : Nat) (D1 : Nat → Int32) (A1 : Nat → Nat → Int32) (S1 : Nat → Int32) (c1 s1 : Nat), Rel (m + 40000) R1 W1 Z1 T1 kn1 n1 D1 A1 S1 → c1 ≤ c + 9 → s1 ≤ s + 13364 → V l (M_Law L xs) (d + 61) 600000 7302250 1505 [(0, .float 200), (1, .ref 0), (2, .ref 88), (3, .int (nI i))] [] n1 (co R1 W1 Z1 T1 kn1 (mo 88 D1 A1 S1 hN)) c1 s1 Q) : V l (M_Law L xs) (d + 61) 600000 7302250 572 [(0, .float 200), (1, .ref 0), (2, .ref 88), (3, .int (nI i))] [] n (co R W Z T kn (mo 88 D A S hN)) c s Q := by
  have hin : ∀ k, k < 6 → vp_in (nI (i + k)) L := fun k hk => vin_N (by omega) (by omega)
  refine V.aload_n d_Law_572 rfl ?_
  refine V.aloadK_n d_Law_573 rfl ?_
  refine V.iload_n d_Law_574 rfl ?_
  refine V.iconst_ (nI 1) d_Law_575 (by decide +kernel) ?_
  refine V.addN d_Law_576 ?_
  refine V.ialdX rfl d_Law_577 (hin 1 (by decide)) ?_
  refine V.i2l d_Law_578 ?_
  refine V.bipush_ (nI 32) d_Law_579 (by decide +kernel) ?_
  refine V.lshl d_Law_581 ?_
  refine V.aloadK_n d_Law_582 rfl ?_
  refine V.iload_n d_Law_583 rfl ?_
  refine V.iconst_ (nI 2) d_Law_584 (by decide +kernel) ?_
  refine V.addN d_Law_585 ?_
  refine V.ialdX rfl d_Law_586 (hin 2 (by decide)) ?_
  refine V.i2l d_Law_587 ?_
  refine V.ldc2 (v := 4294967295) d_Law_588 kc_Law_57 ?_
  refine V.land d_Law_591 ?_
  refine V.lor d_Law_592 ?_
  refine V.aloadK_n d_Law_593 rfl ?_
  refine V.iload_n d_Law_594 rfl ?_
  refine V.iconst_ (nI 3) d_Law_595 (by decide +kernel) ?_
  refine V.addN d_Law_596 ?_
  refine V.ialdX rfl d_Law_597 (hin 3 (by decide)) ?_
  refine V.callV2 d_Law_598 k_Law_59_F_feed_FV (co_s sc_ob) (Nat.le_of_ble_eq_true rfl) (by omega) (by omega) ((j_feed hR).mono (fun r n1 h1 hJ => ?_))
  obtain ⟨⟨v, rfl⟩, ⟨fs, hfs⟩, hJ⟩ := hJ
  refine V.aload_n d_Law_601 rfl ?_
  refine V.aloadK_n d_Law_602 rfl ?_
  refine V.iload_n d_Law_603 rfl ?_
  refine V.iconst_ (nI 1) d_Law_604 (by decide +kernel) ?_
  refine V.addN d_Law_605 ?_
  refine V.ialdX rfl d_Law_606 (hin 1 (by decide)) ?_
  refine V.i2l d_Law_607 ?_
  refine V.bipush_ (nI 32) d_Law_608 (by decide +kernel) ?_
  refine V.lshl d_Law_610 ?_
  refine V.aloadK_n d_Law_611 rfl ?_
  refine V.iload_n d_Law_612 rfl ?_
  refine V.iconst_ (nI 2) d_Law_613 (by decide +kernel) ?_
  refine V.addN d_Law_614 ?_
  refine V.ialdX rfl d_Law_615 (hin 2 (by decide)) ?_
  refine V.i2l d_Law_616 ?_
  refine V.ldc2 (v := 4294967295) d_Law_617 kc_Law_57 ?_
  refine V.land d_Law_620 ?_
  refine V.lor d_Law_621 ?_
  refine V.aloadK_n d_Law_622 rfl ?_
  refine V.iload_n d_Law_623 rfl ?_
  refine V.iconst_ (nI 3) d_Law_624 (by decide +kernel) ?_
  refine V.addN d_Law_625 ?_
  refine V.ialdX rfl d_Law_626 (hin 3 (by decide)) ?_
  refine V.callV2 d_Law_627 k_Law_63_Mo_feed_MoV hfs (Nat.le_of_ble_eq_true rfl) (by omega) (by omega) (hJ _ (fun R1 W1 Z1 T1 kn1 D1 A1 S1 hR1 => ?_))
  exact V.icmp_eq (tgt := 1505) d_Law_630 (by decide) (fun _ => K R1 W1 Z1 T1 kn1 n1 D1 A1 S1 _ _ hR1 (by omega) (by omega)) (fun z => absurd rfl z)
theorem kB_F_text : kB M_F_text 1 := ⟨tm 1 (by decide +kernel) rfl, tm 686 (by decide +kernel) rfl, ⟨by decide, by decide, by decide +kernel⟩, by decide⟩
theorem k_Law_64_F_text_FV : kV "FelledByNamesLaw" 64 0 M_F_text 1 := ⟨kB_F_text, tm 683 (by decide +kernel) rfl, tm 684 (by decide +kernel) rfl, tm 685 (by decide +kernel) rfl, _, rfl, rfl⟩
theorem kB_Mo_text : kB M_Mo_text 1 := ⟨tm 15 (by decide +kernel) rfl, tm 1155 (by decide +kernel) rfl, ⟨by decide, by decide, by decide +kernel⟩, by decide⟩
theorem k_Law_67_Mo_text_MoV : kV "FelledByNamesLaw" 67 5 M_Mo_text 1 := ⟨kB_Mo_text, tm 1152 (by decide +kernel) rfl, tm 1153 (by decide +kernel) rfl, tm 1154 (by decide +kernel) rfl, _, rfl, rfl⟩
set_option maxRecDepth 10000 in
theorem lw_c11 {l : Launch} {d m n c s i L : Nat} {xs : Nat → Int32} {R W Z : Nat → Nat → Int32} {T : Nat → Nat → Nat} {kn : Kn} {D : Nat → Int32} {A : Nat → Nat → Int32} {S : Nat → Int32} {Q : QT} (hR : Rel m R W Z T kn n D A S) (hm : m < 2 ^ 25) (hi : i + 6 ≤ L) (hL : L ≤ 3072) (hc : c + 9 ≤ 600000) (hs : s + 13364 ≤ 7302250) (K : ∀ (R1 W1 Z1 : Nat → Nat → Int32) (T1 : Nat → Nat → Nat) (kn1 : Kn) (n1 : Nat) (D1 : Nat → Int32) (A1 : Nat → Nat → Int32) (S1 : Nat → Int32) (c1 s1 : Nat), Rel (m + 40000) R1 W1 Z1 T1 kn1 n1 D1 A1 S1 → c1 ≤ c + 9 → s1 ≤ s + 13364 → V l (M_Law L xs) (d + 61) 600000 7302250 1505 [(0, .float 200), (1, .ref 0), (2, .ref 88), (3, .int (nI i))] [] n1 (co R1 W1 Z1 T1 kn1 (mo 88 D1 A1 S1 hN)) c1 s1 Q) : V l (M_Law L xs) (d + 61) 600000 7302250 635 [(0, .float 200), (1, .ref 0), (2, .ref 88), (3, .int (nI i))] [] n (co R W Z T kn (mo 88 D A S hN)) c s Q := by
  have hin : ∀ k, k < 6 → vp_in (nI (i + k)) L := fun k hk => vin_N (by omega) (by omega)
  refine V.aload_n d_Law_635 rfl ?_
  refine V.aloadK_n d_Law_636 rfl ?_
  refine V.iload_n d_Law_637 rfl ?_
  refine V.iconst_ (nI 1) d_Law_638 (by decide +kernel) ?_
  refine V.addN d_Law_639 ?_
  refine V.ialdX rfl d_Law_640 (hin 1 (by decide)) ?_
  refine V.callV1 d_Law_641 k_Law_64_F_text_FV (co_s sc_ob) (Nat.le_of_ble_eq_true rfl) (by omega) (by omega) ((j_text hR).mono (fun r n1 h1 hJ => ?_))
  obtain ⟨⟨v, rfl⟩, ⟨fs, hfs⟩, hJ⟩ := hJ
  refine V.aload_n d_Law_644 rfl ?_
  refine V.aloadK_n d_Law_645 rfl ?_
  refine V.iload_n d_Law_646 rfl ?_
  refine V.iconst_ (nI 1) d_Law_647 (by decide +kernel) ?_
  refine V.addN d_Law_648 ?_
  refine V.ialdX rfl d_Law_649 (hin 1 (by decide)) ?_
  refine V.callV1 d_Law_650 k_Law_67_Mo_text_MoV hfs (Nat.le_of_ble_eq_true rfl) (by omega) (by omega) (hJ _ (fun R1 W1 Z1 T1 kn1 D1 A1 S1 hR1 => ?_))
  exact V.icmp_eq (tgt := 1505) d_Law_653 (by decide) (fun _ => K R1 W1 Z1 T1 kn1 n1 D1 A1 S1 _ _ hR1 (by omega) (by omega)) (fun z => absurd rfl z)
theorem kB_F_law : kB M_F_law 4 := ⟨tm 1 (by decide +kernel) rfl, tm 692 (by decide +kernel) rfl, ⟨by decide, by decide, by decide +kernel⟩, by decide⟩
theorem k_Law_68_F_law_FV : kV "FelledByNamesLaw" 68 0 M_F_law 4 := ⟨kB_F_law, tm 689 (by decide +kernel) rfl, tm 690 (by decide +kernel) rfl, tm 691 (by decide +kernel) rfl, _, rfl, rfl⟩
theorem kB_Mo_law : kB M_Mo_law 4 := ⟨tm 15 (by decide +kernel) rfl, tm 1213 (by decide +kernel) rfl, ⟨by decide, by decide, by decide +kernel⟩, by decide⟩
theorem k_Law_71_Mo_law_MoV : kV "FelledByNamesLaw" 71 5 M_Mo_law 4 := ⟨kB_Mo_law, tm 1210 (by decide +kernel) rfl, tm 1211 (by decide +kernel) rfl, tm 1212 (by decide +kernel) rfl, _, rfl, rfl⟩
set_option maxRecDepth 10000 in
theorem lw_c12 {l : Launch} {d m n c s i L : Nat} {xs : Nat → Int32} {R W Z : Nat → Nat → Int32} {T : Nat → Nat → Nat} {kn : Kn} {D : Nat → Int32} {A : Nat → Nat → Int32} {S : Nat → Int32} {Q : QT} (hR : Rel m R W Z T kn n D A S) (hm : m < 2 ^ 25) (hi : i + 6 ≤ L) (hL : L ≤ 3072) (hc : c + 9 ≤ 600000) (hs : s + 13364 ≤ 7302250) (K : ∀ (R1 W1 Z1 : Nat → Nat → Int32) (T1 : Nat → Nat → Nat) (kn1 : Kn) (n1 : Nat) (D1 : Nat → Int32) (A1 : Nat → Nat → Int32) (S1 : Nat → Int32) (c1 s1 : Nat), Rel (m + 40000) R1 W1 Z1 T1 kn1 n1 D1 A1 S1 → c1 ≤ c + 9 → s1 ≤ s + 13364 → V l (M_Law L xs) (d + 61) 600000 7302250 1505 [(0, .float 200), (1, .ref 0), (2, .ref 88), (3, .int (nI i))] [] n1 (co R1 W1 Z1 T1 kn1 (mo 88 D1 A1 S1 hN)) c1 s1 Q) : V l (M_Law L xs) (d + 61) 600000 7302250 658 [(0, .float 200), (1, .ref 0), (2, .ref 88), (3, .int (nI i))] [] n (co R W Z T kn (mo 88 D A S hN)) c s Q := by
  have hin : ∀ k, k < 6 → vp_in (nI (i + k)) L := fun k hk => vin_N (by omega) (by omega)
  refine V.aload_n d_Law_658 rfl ?_
  refine V.aloadK_n d_Law_659 rfl ?_
  refine V.iload_n d_Law_660 rfl ?_
  refine V.iconst_ (nI 1) d_Law_661 (by decide +kernel) ?_
  refine V.addN d_Law_662 ?_
  refine V.ialdX rfl d_Law_663 (hin 1 (by decide)) ?_
  refine V.aloadK_n d_Law_664 rfl ?_
  refine V.iload_n d_Law_665 rfl ?_
  refine V.iconst_ (nI 2) d_Law_666 (by decide +kernel) ?_
  refine V.addN d_Law_667 ?_
  refine V.ialdX rfl d_Law_668 (hin 2 (by decide)) ?_
  refine V.aloadK_n d_Law_669 rfl ?_
  refine V.iload_n d_Law_670 rfl ?_
  refine V.iconst_ (nI 3) d_Law_671 (by decide +kernel) ?_
  refine V.addN d_Law_672 ?_
  refine V.ialdX rfl d_Law_673 (hin 3 (by decide)) ?_
  refine V.aloadK_n d_Law_674 rfl ?_
  refine V.iload_n d_Law_675 rfl ?_
  refine V.iconst_ (nI 4) d_Law_676 (by decide +kernel) ?_
  refine V.addN d_Law_677 ?_
  refine V.ialdX rfl d_Law_678 (hin 4 (by decide)) ?_
  refine V.callV4 d_Law_679 k_Law_68_F_law_FV (co_s sc_ob) (Nat.le_of_ble_eq_true rfl) (by omega) (by omega) ((j_law hR hm).mono (fun r n1 h1 hJ => ?_))
  obtain ⟨⟨v, rfl⟩, ⟨fs, hfs⟩, hJ⟩ := hJ
  refine V.aload_n d_Law_682 rfl ?_
  refine V.aloadK_n d_Law_683 rfl ?_
  refine V.iload_n d_Law_684 rfl ?_
  refine V.iconst_ (nI 1) d_Law_685 (by decide +kernel) ?_
  refine V.addN d_Law_686 ?_
  refine V.ialdX rfl d_Law_687 (hin 1 (by decide)) ?_
  refine V.aloadK_n d_Law_688 rfl ?_
  refine V.iload_n d_Law_689 rfl ?_
  refine V.iconst_ (nI 2) d_Law_690 (by decide +kernel) ?_
  refine V.addN d_Law_691 ?_
  refine V.ialdX rfl d_Law_692 (hin 2 (by decide)) ?_
  refine V.aloadK_n d_Law_693 rfl ?_
  refine V.iload_n d_Law_694 rfl ?_
  refine V.iconst_ (nI 3) d_Law_695 (by decide +kernel) ?_
  refine V.addN d_Law_696 ?_
  refine V.ialdX rfl d_Law_697 (hin 3 (by decide)) ?_
  refine V.aloadK_n d_Law_698 rfl ?_
  refine V.iload_n d_Law_699 rfl ?_
  refine V.iconst_ (nI 4) d_Law_700 (by decide +kernel) ?_
  refine V.addN d_Law_701 ?_
  refine V.ialdX rfl d_Law_702 (hin 4 (by decide)) ?_
  refine V.callV4 d_Law_703 k_Law_71_Mo_law_MoV hfs (Nat.le_of_ble_eq_true rfl) (by omega) (by omega) (hJ _ (fun R1 W1 Z1 T1 kn1 D1 A1 S1 hR1 => ?_))
  exact V.icmp_eq (tgt := 1505) d_Law_706 (by decide) (fun _ => K R1 W1 Z1 T1 kn1 n1 D1 A1 S1 _ _ hR1 (by omega) (by omega)) (fun z => absurd rfl z)
theorem kB_F_days : kB M_F_days 1 := ⟨tm 1 (by decide +kernel) rfl, tm 708 (by decide +kernel) rfl, ⟨by decide, by decide, by decide +kernel⟩, by decide⟩
theorem k_Law_72_F_days_FV : kV "FelledByNamesLaw" 72 0 M_F_days 1 := ⟨kB_F_days, tm 705 (by decide +kernel) rfl, tm 706 (by decide +kernel) rfl, tm 707 (by decide +kernel) rfl, _, rfl, rfl⟩
theorem kB_Mo_days : kB M_Mo_days 1 := ⟨tm 15 (by decide +kernel) rfl, tm 1314 (by decide +kernel) rfl, ⟨by decide, by decide, by decide +kernel⟩, by decide⟩
theorem k_Law_75_Mo_days_MoV : kV "FelledByNamesLaw" 75 5 M_Mo_days 1 := ⟨kB_Mo_days, tm 1311 (by decide +kernel) rfl, tm 1312 (by decide +kernel) rfl, tm 1313 (by decide +kernel) rfl, _, rfl, rfl⟩
set_option maxRecDepth 10000 in
theorem lw_c13 {l : Launch} {d m n c s i L : Nat} {xs : Nat → Int32} {R W Z : Nat → Nat → Int32} {T : Nat → Nat → Nat} {kn : Kn} {D : Nat → Int32} {A : Nat → Nat → Int32} {S : Nat → Int32} {Q : QT} (hR : Rel m R W Z T kn n D A S) (hm : m < 2 ^ 25) (hi : i + 6 ≤ L) (hL : L ≤ 3072) (hc : c + 9 ≤ 600000) (hs : s + 13364 ≤ 7302250) (K : ∀ (R1 W1 Z1 : Nat → Nat → Int32) (T1 : Nat → Nat → Nat) (kn1 : Kn) (n1 : Nat) (D1 : Nat → Int32) (A1 : Nat → Nat → Int32) (S1 : Nat → Int32) (c1 s1 : Nat), Rel (m + 40000) R1 W1 Z1 T1 kn1 n1 D1 A1 S1 → c1 ≤ c + 9 → s1 ≤ s + 13364 → V l (M_Law L xs) (d + 61) 600000 7302250 1505 [(0, .float 200), (1, .ref 0), (2, .ref 88), (3, .int (nI i))] [] n1 (co R1 W1 Z1 T1 kn1 (mo 88 D1 A1 S1 hN)) c1 s1 Q) : V l (M_Law L xs) (d + 61) 600000 7302250 711 [(0, .float 200), (1, .ref 0), (2, .ref 88), (3, .int (nI i))] [] n (co R W Z T kn (mo 88 D A S hN)) c s Q := by
  have hin : ∀ k, k < 6 → vp_in (nI (i + k)) L := fun k hk => vin_N (by omega) (by omega)
  refine V.aload_n d_Law_711 rfl ?_
  refine V.aloadK_n d_Law_712 rfl ?_
  refine V.iload_n d_Law_713 rfl ?_
  refine V.iconst_ (nI 1) d_Law_714 (by decide +kernel) ?_
  refine V.addN d_Law_715 ?_
  refine V.ialdX rfl d_Law_716 (hin 1 (by decide)) ?_
  refine V.callV1 d_Law_717 k_Law_72_F_days_FV (co_s sc_ob) (Nat.le_of_ble_eq_true rfl) (by omega) (by omega) ((j_days hR hm).mono (fun r n1 h1 hJ => ?_))
  obtain ⟨⟨v, rfl⟩, ⟨fs, hfs⟩, hJ⟩ := hJ
  refine V.aload_n d_Law_720 rfl ?_
  refine V.aloadK_n d_Law_721 rfl ?_
  refine V.iload_n d_Law_722 rfl ?_
  refine V.iconst_ (nI 1) d_Law_723 (by decide +kernel) ?_
  refine V.addN d_Law_724 ?_
  refine V.ialdX rfl d_Law_725 (hin 1 (by decide)) ?_
  refine V.callV1 d_Law_726 k_Law_75_Mo_days_MoV hfs (Nat.le_of_ble_eq_true rfl) (by omega) (by omega) (hJ _ (fun R1 W1 Z1 T1 kn1 D1 A1 S1 hR1 => ?_))
  exact V.icmp_eq (tgt := 1505) d_Law_729 (by decide) (fun _ => K R1 W1 Z1 T1 kn1 n1 D1 A1 S1 _ _ hR1 (by omega) (by omega)) (fun z => absurd rfl z)
theorem kB_F_loose : kB M_F_loose 1 := ⟨tm 1 (by decide +kernel) rfl, tm 762 (by decide +kernel) rfl, ⟨by decide, by decide, by decide +kernel⟩, by decide⟩
theorem k_Law_76_F_loose_FV : kV "FelledByNamesLaw" 76 0 M_F_loose 1 := ⟨kB_F_loose, tm 759 (by decide +kernel) rfl, tm 760 (by decide +kernel) rfl, tm 761 (by decide +kernel) rfl, _, rfl, rfl⟩
theorem kB_Mo_loose : kB M_Mo_loose 1 := ⟨tm 15 (by decide +kernel) rfl, tm 1340 (by decide +kernel) rfl, ⟨by decide, by decide, by decide +kernel⟩, by decide⟩
theorem k_Law_79_Mo_loose_MoV : kV "FelledByNamesLaw" 79 5 M_Mo_loose 1 := ⟨kB_Mo_loose, tm 1337 (by decide +kernel) rfl, tm 1338 (by decide +kernel) rfl, tm 1339 (by decide +kernel) rfl, _, rfl, rfl⟩
set_option maxRecDepth 10000 in
theorem lw_c14 {l : Launch} {d m n c s i L : Nat} {xs : Nat → Int32} {R W Z : Nat → Nat → Int32} {T : Nat → Nat → Nat} {kn : Kn} {D : Nat → Int32} {A : Nat → Nat → Int32} {S : Nat → Int32} {Q : QT} (hR : Rel m R W Z T kn n D A S) (hm : m < 2 ^ 25) (hi : i + 6 ≤ L) (hL : L ≤ 3072) (hc : c + 9 ≤ 600000) (hs : s + 13364 ≤ 7302250) (K : ∀ (R1 W1 Z1 : Nat → Nat → Int32) (T1 : Nat → Nat → Nat) (kn1 : Kn) (n1 : Nat) (D1 : Nat → Int32) (A1 : Nat → Nat → Int32) (S1 : Nat → Int32) (c1 s1 : Nat), Rel (m + 40000) R1 W1 Z1 T1 kn1 n1 D1 A1 S1 → c1 ≤ c + 9 → s1 ≤ s + 13364 → V l (M_Law L xs) (d + 61) 600000 7302250 1505 [(0, .float 200), (1, .ref 0), (2, .ref 88), (3, .int (nI i))] [] n1 (co R1 W1 Z1 T1 kn1 (mo 88 D1 A1 S1 hN)) c1 s1 Q) : V l (M_Law L xs) (d + 61) 600000 7302250 734 [(0, .float 200), (1, .ref 0), (2, .ref 88), (3, .int (nI i))] [] n (co R W Z T kn (mo 88 D A S hN)) c s Q := by
  have hin : ∀ k, k < 6 → vp_in (nI (i + k)) L := fun k hk => vin_N (by omega) (by omega)
  refine V.aload_n d_Law_734 rfl ?_
  refine V.aloadK_n d_Law_735 rfl ?_
  refine V.iload_n d_Law_736 rfl ?_
  refine V.iconst_ (nI 1) d_Law_737 (by decide +kernel) ?_
  refine V.addN d_Law_738 ?_
  refine V.ialdX rfl d_Law_739 (hin 1 (by decide)) ?_
  refine V.callV1 d_Law_740 k_Law_76_F_loose_FV (co_s sc_ob) (Nat.le_of_ble_eq_true rfl) (by omega) (by omega) ((j_loose hR hm).mono (fun r n1 h1 hJ => ?_))
  obtain ⟨⟨v, rfl⟩, ⟨fs, hfs⟩, hJ⟩ := hJ
  refine V.aload_n d_Law_743 rfl ?_
  refine V.aloadK_n d_Law_744 rfl ?_
  refine V.iload_n d_Law_745 rfl ?_
  refine V.iconst_ (nI 1) d_Law_746 (by decide +kernel) ?_
  refine V.addN d_Law_747 ?_
  refine V.ialdX rfl d_Law_748 (hin 1 (by decide)) ?_
  refine V.callV1 d_Law_749 k_Law_79_Mo_loose_MoV hfs (Nat.le_of_ble_eq_true rfl) (by omega) (by omega) (hJ _ (fun R1 W1 Z1 T1 kn1 D1 A1 S1 hR1 => ?_))
  exact V.icmp_eq (tgt := 1505) d_Law_752 (by decide) (fun _ => K R1 W1 Z1 T1 kn1 n1 D1 A1 S1 _ _ hR1 (by omega) (by omega)) (fun z => absurd rfl z)
theorem kB_F_then : kB M_F_then 3 := ⟨tm 1 (by decide +kernel) rfl, tm 771 (by decide +kernel) rfl, ⟨by decide, by decide, by decide +kernel⟩, by decide⟩
theorem k_Law_80_F_then_FV : kV "FelledByNamesLaw" 80 0 M_F_then 3 := ⟨kB_F_then, tm 768 (by decide +kernel) rfl, tm 769 (by decide +kernel) rfl, tm 770 (by decide +kernel) rfl, _, rfl, rfl⟩
theorem kB_Mo_then : kB M_Mo_then 3 := ⟨tm 15 (by decide +kernel) rfl, tm 1350 (by decide +kernel) rfl, ⟨by decide, by decide, by decide +kernel⟩, by decide⟩
theorem k_Law_83_Mo_then_MoV : kV "FelledByNamesLaw" 83 5 M_Mo_then 3 := ⟨kB_Mo_then, tm 1347 (by decide +kernel) rfl, tm 1348 (by decide +kernel) rfl, tm 1349 (by decide +kernel) rfl, _, rfl, rfl⟩
set_option maxRecDepth 10000 in
theorem lw_c15 {l : Launch} {d m n c s i L : Nat} {xs : Nat → Int32} {R W Z : Nat → Nat → Int32} {T : Nat → Nat → Nat} {kn : Kn} {D : Nat → Int32} {A : Nat → Nat → Int32} {S : Nat → Int32} {Q : QT} (hR : Rel m R W Z T kn n D A S) (hm : m < 2 ^ 25) (hi : i + 6 ≤ L) (hL : L ≤ 3072) (hc : c + 9 ≤ 600000) (hs : s + 13364 ≤ 7302250) (K : ∀ (R1 W1 Z1 : Nat → Nat → Int32) (T1 : Nat → Nat → Nat) (kn1 : Kn) (n1 : Nat) (D1 : Nat → Int32) (A1 : Nat → Nat → Int32) (S1 : Nat → Int32) (c1 s1 : Nat), Rel (m + 40000) R1 W1 Z1 T1 kn1 n1 D1 A1 S1 → c1 ≤ c + 9 → s1 ≤ s + 13364 → V l (M_Law L xs) (d + 61) 600000 7302250 1505 [(0, .float 200), (1, .ref 0), (2, .ref 88), (3, .int (nI i))] [] n1 (co R1 W1 Z1 T1 kn1 (mo 88 D1 A1 S1 hN)) c1 s1 Q) : V l (M_Law L xs) (d + 61) 600000 7302250 757 [(0, .float 200), (1, .ref 0), (2, .ref 88), (3, .int (nI i))] [] n (co R W Z T kn (mo 88 D A S hN)) c s Q := by
  have hin : ∀ k, k < 6 → vp_in (nI (i + k)) L := fun k hk => vin_N (by omega) (by omega)
  refine V.aload_n d_Law_757 rfl ?_
  refine V.aloadK_n d_Law_758 rfl ?_
  refine V.iload_n d_Law_759 rfl ?_
  refine V.iconst_ (nI 1) d_Law_760 (by decide +kernel) ?_
  refine V.addN d_Law_761 ?_
  refine V.ialdX rfl d_Law_762 (hin 1 (by decide)) ?_
  refine V.aloadK_n d_Law_763 rfl ?_
  refine V.iload_n d_Law_764 rfl ?_
  refine V.iconst_ (nI 2) d_Law_765 (by decide +kernel) ?_
  refine V.addN d_Law_766 ?_
  refine V.ialdX rfl d_Law_767 (hin 2 (by decide)) ?_
  refine V.aloadK_n d_Law_768 rfl ?_
  refine V.iload_n d_Law_769 rfl ?_
  refine V.iconst_ (nI 3) d_Law_770 (by decide +kernel) ?_
  refine V.addN d_Law_771 ?_
  refine V.ialdX rfl d_Law_772 (hin 3 (by decide)) ?_
  refine V.callV3 d_Law_773 k_Law_80_F_then_FV (co_s sc_ob) (Nat.le_of_ble_eq_true rfl) (by omega) (by omega) ((j_then hR hm).mono (fun r n1 h1 hJ => ?_))
  obtain ⟨⟨v, rfl⟩, ⟨fs, hfs⟩, hJ⟩ := hJ
  refine V.aload_n d_Law_776 rfl ?_
  refine V.aloadK_n d_Law_777 rfl ?_
  refine V.iload_n d_Law_778 rfl ?_
  refine V.iconst_ (nI 1) d_Law_779 (by decide +kernel) ?_
  refine V.addN d_Law_780 ?_
  refine V.ialdX rfl d_Law_781 (hin 1 (by decide)) ?_
  refine V.aloadK_n d_Law_782 rfl ?_
  refine V.iload_n d_Law_783 rfl ?_
  refine V.iconst_ (nI 2) d_Law_784 (by decide +kernel) ?_
  refine V.addN d_Law_785 ?_
  refine V.ialdX rfl d_Law_786 (hin 2 (by decide)) ?_
  refine V.aloadK_n d_Law_787 rfl ?_
  refine V.iload_n d_Law_788 rfl ?_
  refine V.iconst_ (nI 3) d_Law_789 (by decide +kernel) ?_
  refine V.addN d_Law_790 ?_
  refine V.ialdX rfl d_Law_791 (hin 3 (by decide)) ?_
  refine V.callV3 d_Law_792 k_Law_83_Mo_then_MoV hfs (Nat.le_of_ble_eq_true rfl) (by omega) (by omega) (hJ _ (fun R1 W1 Z1 T1 kn1 D1 A1 S1 hR1 => ?_))
  exact V.icmp_eq (tgt := 1505) d_Law_795 (by decide) (fun _ => K R1 W1 Z1 T1 kn1 n1 D1 A1 S1 _ _ hR1 (by omega) (by omega)) (fun z => absurd rfl z)
theorem kB_F_when : kB M_F_when 1 := ⟨tm 1 (by decide +kernel) rfl, tm 777 (by decide +kernel) rfl, ⟨by decide, by decide, by decide +kernel⟩, by decide⟩
theorem k_Law_84_F_when_FV : kV "FelledByNamesLaw" 84 0 M_F_when 1 := ⟨kB_F_when, tm 774 (by decide +kernel) rfl, tm 775 (by decide +kernel) rfl, tm 776 (by decide +kernel) rfl, _, rfl, rfl⟩
theorem kB_Mo_when : kB M_Mo_when 1 := ⟨tm 15 (by decide +kernel) rfl, tm 1362 (by decide +kernel) rfl, ⟨by decide, by decide, by decide +kernel⟩, by decide⟩
theorem k_Law_87_Mo_when_MoV : kV "FelledByNamesLaw" 87 5 M_Mo_when 1 := ⟨kB_Mo_when, tm 1359 (by decide +kernel) rfl, tm 1360 (by decide +kernel) rfl, tm 1361 (by decide +kernel) rfl, _, rfl, rfl⟩
set_option maxRecDepth 10000 in
theorem lw_c16 {l : Launch} {d m n c s i L : Nat} {xs : Nat → Int32} {R W Z : Nat → Nat → Int32} {T : Nat → Nat → Nat} {kn : Kn} {D : Nat → Int32} {A : Nat → Nat → Int32} {S : Nat → Int32} {Q : QT} (hR : Rel m R W Z T kn n D A S) (hm : m < 2 ^ 25) (hi : i + 6 ≤ L) (hL : L ≤ 3072) (hc : c + 9 ≤ 600000) (hs : s + 13364 ≤ 7302250) (K : ∀ (R1 W1 Z1 : Nat → Nat → Int32) (T1 : Nat → Nat → Nat) (kn1 : Kn) (n1 : Nat) (D1 : Nat → Int32) (A1 : Nat → Nat → Int32) (S1 : Nat → Int32) (c1 s1 : Nat), Rel (m + 40000) R1 W1 Z1 T1 kn1 n1 D1 A1 S1 → c1 ≤ c + 9 → s1 ≤ s + 13364 → V l (M_Law L xs) (d + 61) 600000 7302250 1505 [(0, .float 200), (1, .ref 0), (2, .ref 88), (3, .int (nI i))] [] n1 (co R1 W1 Z1 T1 kn1 (mo 88 D1 A1 S1 hN)) c1 s1 Q) : V l (M_Law L xs) (d + 61) 600000 7302250 800 [(0, .float 200), (1, .ref 0), (2, .ref 88), (3, .int (nI i))] [] n (co R W Z T kn (mo 88 D A S hN)) c s Q := by
  have hin : ∀ k, k < 6 → vp_in (nI (i + k)) L := fun k hk => vin_N (by omega) (by omega)
  refine V.aload_n d_Law_800 rfl ?_
  refine V.aloadK_n d_Law_801 rfl ?_
  refine V.iload_n d_Law_802 rfl ?_
  refine V.iconst_ (nI 1) d_Law_803 (by decide +kernel) ?_
  refine V.addN d_Law_804 ?_
  refine V.ialdX rfl d_Law_805 (hin 1 (by decide)) ?_
  refine V.callV1 d_Law_806 k_Law_84_F_when_FV (co_s sc_ob) (Nat.le_of_ble_eq_true rfl) (by omega) (by omega) ((j_when hR hm).mono (fun r n1 h1 hJ => ?_))
  obtain ⟨⟨v, rfl⟩, ⟨fs, hfs⟩, hJ⟩ := hJ
  refine V.aload_n d_Law_809 rfl ?_
  refine V.aloadK_n d_Law_810 rfl ?_
  refine V.iload_n d_Law_811 rfl ?_
  refine V.iconst_ (nI 1) d_Law_812 (by decide +kernel) ?_
  refine V.addN d_Law_813 ?_
  refine V.ialdX rfl d_Law_814 (hin 1 (by decide)) ?_
  refine V.callV1 d_Law_815 k_Law_87_Mo_when_MoV hfs (Nat.le_of_ble_eq_true rfl) (by omega) (by omega) (hJ _ (fun R1 W1 Z1 T1 kn1 D1 A1 S1 hR1 => ?_))
  exact V.icmp_eq (tgt := 1505) d_Law_818 (by decide) (fun _ => K R1 W1 Z1 T1 kn1 n1 D1 A1 S1 _ _ hR1 (by omega) (by omega)) (fun z => absurd rfl z)
theorem kB_F_down : kB M_F_down 1 := ⟨tm 1 (by decide +kernel) rfl, tm 805 (by decide +kernel) rfl, ⟨by decide, by decide, by decide +kernel⟩, by decide⟩
theorem k_Law_88_F_down_FV : kV "FelledByNamesLaw" 88 0 M_F_down 1 := ⟨kB_F_down, tm 802 (by decide +kernel) rfl, tm 803 (by decide +kernel) rfl, tm 804 (by decide +kernel) rfl, _, rfl, rfl⟩
theorem kB_Mo_down : kB M_Mo_down 1 := ⟨tm 15 (by decide +kernel) rfl, tm 1366 (by decide +kernel) rfl, ⟨by decide, by decide, by decide +kernel⟩, by decide⟩
theorem k_Law_91_Mo_down_MoV : kV "FelledByNamesLaw" 91 5 M_Mo_down 1 := ⟨kB_Mo_down, tm 1363 (by decide +kernel) rfl, tm 1364 (by decide +kernel) rfl, tm 1365 (by decide +kernel) rfl, _, rfl, rfl⟩
set_option maxRecDepth 10000 in
theorem lw_c17 {l : Launch} {d m n c s i L : Nat} {xs : Nat → Int32} {R W Z : Nat → Nat → Int32} {T : Nat → Nat → Nat} {kn : Kn} {D : Nat → Int32} {A : Nat → Nat → Int32} {S : Nat → Int32} {Q : QT} (hR : Rel m R W Z T kn n D A S) (hm : m < 2 ^ 25) (hi : i + 6 ≤ L) (hL : L ≤ 3072) (hc : c + 9 ≤ 600000) (hs : s + 13364 ≤ 7302250) (K : ∀ (R1 W1 Z1 : Nat → Nat → Int32) (T1 : Nat → Nat → Nat) (kn1 : Kn) (n1 : Nat) (D1 : Nat → Int32) (A1 : Nat → Nat → Int32) (S1 : Nat → Int32) (c1 s1 : Nat), Rel (m + 40000) R1 W1 Z1 T1 kn1 n1 D1 A1 S1 → c1 ≤ c + 9 → s1 ≤ s + 13364 → V l (M_Law L xs) (d + 61) 600000 7302250 1505 [(0, .float 200), (1, .ref 0), (2, .ref 88), (3, .int (nI i))] [] n1 (co R1 W1 Z1 T1 kn1 (mo 88 D1 A1 S1 hN)) c1 s1 Q) : V l (M_Law L xs) (d + 61) 600000 7302250 823 [(0, .float 200), (1, .ref 0), (2, .ref 88), (3, .int (nI i))] [] n (co R W Z T kn (mo 88 D A S hN)) c s Q := by
  have hin : ∀ k, k < 6 → vp_in (nI (i + k)) L := fun k hk => vin_N (by omega) (by omega)
  refine V.aload_n d_Law_823 rfl ?_
  refine V.aloadK_n d_Law_824 rfl ?_
  refine V.iload_n d_Law_825 rfl ?_
  refine V.iconst_ (nI 1) d_Law_826 (by decide +kernel) ?_
  refine V.addN d_Law_827 ?_
  refine V.ialdX rfl d_Law_828 (hin 1 (by decide)) ?_
  refine V.callV1 d_Law_829 k_Law_88_F_down_FV (co_s sc_ob) (Nat.le_of_ble_eq_true rfl) (by omega) (by omega) ((j_down hR hm).mono (fun r n1 h1 hJ => ?_))
  obtain ⟨⟨v, rfl⟩, ⟨fs, hfs⟩, hJ⟩ := hJ
  refine V.aload_n d_Law_832 rfl ?_
  refine V.aloadK_n d_Law_833 rfl ?_
  refine V.iload_n d_Law_834 rfl ?_
  refine V.iconst_ (nI 1) d_Law_835 (by decide +kernel) ?_
  refine V.addN d_Law_836 ?_
  refine V.ialdX rfl d_Law_837 (hin 1 (by decide)) ?_
  refine V.callV1 d_Law_838 k_Law_91_Mo_down_MoV hfs (Nat.le_of_ble_eq_true rfl) (by omega) (by omega) (hJ _ (fun R1 W1 Z1 T1 kn1 D1 A1 S1 hR1 => ?_))
  exact V.icmp_eq (tgt := 1505) d_Law_841 (by decide) (fun _ => K R1 W1 Z1 T1 kn1 n1 D1 A1 S1 _ _ hR1 (by omega) (by omega)) (fun z => absurd rfl z)
theorem kB_F_gossip : kB M_F_gossip 2 := ⟨tm 1 (by decide +kernel) rfl, tm 810 (by decide +kernel) rfl, ⟨by decide, by decide, by decide +kernel⟩, by decide⟩
theorem k_Law_92_F_gossip_FV : kV "FelledByNamesLaw" 92 0 M_F_gossip 2 := ⟨kB_F_gossip, tm 807 (by decide +kernel) rfl, tm 808 (by decide +kernel) rfl, tm 809 (by decide +kernel) rfl, _, rfl, rfl⟩
theorem kB_Mo_gossip : kB M_Mo_gossip 2 := ⟨tm 15 (by decide +kernel) rfl, tm 1378 (by decide +kernel) rfl, ⟨by decide, by decide, by decide +kernel⟩, by decide⟩
theorem k_Law_95_Mo_gossip_MoV : kV "FelledByNamesLaw" 95 5 M_Mo_gossip 2 := ⟨kB_Mo_gossip, tm 1375 (by decide +kernel) rfl, tm 1376 (by decide +kernel) rfl, tm 1377 (by decide +kernel) rfl, _, rfl, rfl⟩
set_option maxRecDepth 10000 in
theorem lw_c18 {l : Launch} {d m n c s i L : Nat} {xs : Nat → Int32} {R W Z : Nat → Nat → Int32} {T : Nat → Nat → Nat} {kn : Kn} {D : Nat → Int32} {A : Nat → Nat → Int32} {S : Nat → Int32} {Q : QT} (hR : Rel m R W Z T kn n D A S) (hm : m < 2 ^ 25) (hi : i + 6 ≤ L) (hL : L ≤ 3072) (hc : c + 9 ≤ 600000) (hs : s + 13364 ≤ 7302250) (K : ∀ (R1 W1 Z1 : Nat → Nat → Int32) (T1 : Nat → Nat → Nat) (kn1 : Kn) (n1 : Nat) (D1 : Nat → Int32) (A1 : Nat → Nat → Int32) (S1 : Nat → Int32) (c1 s1 : Nat), Rel (m + 40000) R1 W1 Z1 T1 kn1 n1 D1 A1 S1 → c1 ≤ c + 9 → s1 ≤ s + 13364 → V l (M_Law L xs) (d + 61) 600000 7302250 1505 [(0, .float 200), (1, .ref 0), (2, .ref 88), (3, .int (nI i))] [] n1 (co R1 W1 Z1 T1 kn1 (mo 88 D1 A1 S1 hN)) c1 s1 Q) : V l (M_Law L xs) (d + 61) 600000 7302250 846 [(0, .float 200), (1, .ref 0), (2, .ref 88), (3, .int (nI i))] [] n (co R W Z T kn (mo 88 D A S hN)) c s Q := by
  have hin : ∀ k, k < 6 → vp_in (nI (i + k)) L := fun k hk => vin_N (by omega) (by omega)
  refine V.aload_n d_Law_846 rfl ?_
  refine V.aloadK_n d_Law_847 rfl ?_
  refine V.iload_n d_Law_848 rfl ?_
  refine V.iconst_ (nI 1) d_Law_849 (by decide +kernel) ?_
  refine V.addN d_Law_850 ?_
  refine V.ialdX rfl d_Law_851 (hin 1 (by decide)) ?_
  refine V.aloadK_n d_Law_852 rfl ?_
  refine V.iload_n d_Law_853 rfl ?_
  refine V.iconst_ (nI 2) d_Law_854 (by decide +kernel) ?_
  refine V.addN d_Law_855 ?_
  refine V.ialdX rfl d_Law_856 (hin 2 (by decide)) ?_
  refine V.callV2 d_Law_857 k_Law_92_F_gossip_FV (co_s sc_ob) (Nat.le_of_ble_eq_true rfl) (by omega) (by omega) ((j_gossip hR hm).mono (fun r n1 h1 hJ => ?_))
  obtain ⟨⟨v, rfl⟩, ⟨fs, hfs⟩, hJ⟩ := hJ
  refine V.aload_n d_Law_860 rfl ?_
  refine V.aloadK_n d_Law_861 rfl ?_
  refine V.iload_n d_Law_862 rfl ?_
  refine V.iconst_ (nI 1) d_Law_863 (by decide +kernel) ?_
  refine V.addN d_Law_864 ?_
  refine V.ialdX rfl d_Law_865 (hin 1 (by decide)) ?_
  refine V.aloadK_n d_Law_866 rfl ?_
  refine V.iload_n d_Law_867 rfl ?_
  refine V.iconst_ (nI 2) d_Law_868 (by decide +kernel) ?_
  refine V.addN d_Law_869 ?_
  refine V.ialdX rfl d_Law_870 (hin 2 (by decide)) ?_
  refine V.callV2 d_Law_871 k_Law_95_Mo_gossip_MoV hfs (Nat.le_of_ble_eq_true rfl) (by omega) (by omega) (hJ _ (fun R1 W1 Z1 T1 kn1 D1 A1 S1 hR1 => ?_))
  exact V.icmp_eq (tgt := 1505) d_Law_874 (by decide) (fun _ => K R1 W1 Z1 T1 kn1 n1 D1 A1 S1 _ _ hR1 (by omega) (by omega)) (fun z => absurd rfl z)
theorem kB_F_about : kB M_F_about 2 := ⟨tm 1 (by decide +kernel) rfl, tm 822 (by decide +kernel) rfl, ⟨by decide, by decide, by decide +kernel⟩, by decide⟩
theorem k_Law_96_F_about_FV : kV "FelledByNamesLaw" 96 0 M_F_about 2 := ⟨kB_F_about, tm 819 (by decide +kernel) rfl, tm 820 (by decide +kernel) rfl, tm 821 (by decide +kernel) rfl, _, rfl, rfl⟩
theorem kB_Mo_about : kB M_Mo_about 2 := ⟨tm 15 (by decide +kernel) rfl, tm 1383 (by decide +kernel) rfl, ⟨by decide, by decide, by decide +kernel⟩, by decide⟩
theorem k_Law_99_Mo_about_MoV : kV "FelledByNamesLaw" 99 5 M_Mo_about 2 := ⟨kB_Mo_about, tm 1380 (by decide +kernel) rfl, tm 1381 (by decide +kernel) rfl, tm 1382 (by decide +kernel) rfl, _, rfl, rfl⟩
set_option maxRecDepth 10000 in
theorem lw_c19 {l : Launch} {d m n c s i L : Nat} {xs : Nat → Int32} {R W Z : Nat → Nat → Int32} {T : Nat → Nat → Nat} {kn : Kn} {D : Nat → Int32} {A : Nat → Nat → Int32} {S : Nat → Int32} {Q : QT} (hR : Rel m R W Z T kn n D A S) (hm : m < 2 ^ 25) (hi : i + 6 ≤ L) (hL : L ≤ 3072) (hc : c + 9 ≤ 600000) (hs : s + 13364 ≤ 7302250) (K : ∀ (R1 W1 Z1 : Nat → Nat → Int32) (T1 : Nat → Nat → Nat) (kn1 : Kn) (n1 : Nat) (D1 : Nat → Int32) (A1 : Nat → Nat → Int32) (S1 : Nat → Int32) (c1 s1 : Nat), Rel (m + 40000) R1 W1 Z1 T1 kn1 n1 D1 A1 S1 → c1 ≤ c + 9 → s1 ≤ s + 13364 → V l (M_Law L xs) (d + 61) 600000 7302250 1505 [(0, .float 200), (1, .ref 0), (2, .ref 88), (3, .int (nI i))] [] n1 (co R1 W1 Z1 T1 kn1 (mo 88 D1 A1 S1 hN)) c1 s1 Q) : V l (M_Law L xs) (d + 61) 600000 7302250 879 [(0, .float 200), (1, .ref 0), (2, .ref 88), (3, .int (nI i))] [] n (co R W Z T kn (mo 88 D A S hN)) c s Q := by
  have hin : ∀ k, k < 6 → vp_in (nI (i + k)) L := fun k hk => vin_N (by omega) (by omega)
  refine V.aload_n d_Law_879 rfl ?_
  refine V.aloadK_n d_Law_880 rfl ?_
  refine V.iload_n d_Law_881 rfl ?_
  refine V.iconst_ (nI 1) d_Law_882 (by decide +kernel) ?_
  refine V.addN d_Law_883 ?_
  refine V.ialdX rfl d_Law_884 (hin 1 (by decide)) ?_
  refine V.aloadK_n d_Law_885 rfl ?_
  refine V.iload_n d_Law_886 rfl ?_
  refine V.iconst_ (nI 2) d_Law_887 (by decide +kernel) ?_
  refine V.addN d_Law_888 ?_
  refine V.ialdX rfl d_Law_889 (hin 2 (by decide)) ?_
  refine V.callV2 d_Law_890 k_Law_96_F_about_FV (co_s sc_ob) (Nat.le_of_ble_eq_true rfl) (by omega) (by omega) ((j_about hR hm).mono (fun r n1 h1 hJ => ?_))
  obtain ⟨⟨v, rfl⟩, ⟨fs, hfs⟩, hJ⟩ := hJ
  refine V.aload_n d_Law_893 rfl ?_
  refine V.aloadK_n d_Law_894 rfl ?_
  refine V.iload_n d_Law_895 rfl ?_
  refine V.iconst_ (nI 1) d_Law_896 (by decide +kernel) ?_
  refine V.addN d_Law_897 ?_
  refine V.ialdX rfl d_Law_898 (hin 1 (by decide)) ?_
  refine V.aloadK_n d_Law_899 rfl ?_
  refine V.iload_n d_Law_900 rfl ?_
  refine V.iconst_ (nI 2) d_Law_901 (by decide +kernel) ?_
  refine V.addN d_Law_902 ?_
  refine V.ialdX rfl d_Law_903 (hin 2 (by decide)) ?_
  refine V.callV2 d_Law_904 k_Law_99_Mo_about_MoV hfs (Nat.le_of_ble_eq_true rfl) (by omega) (by omega) (hJ _ (fun R1 W1 Z1 T1 kn1 D1 A1 S1 hR1 => ?_))
  exact V.icmp_eq (tgt := 1505) d_Law_907 (by decide) (fun _ => K R1 W1 Z1 T1 kn1 n1 D1 A1 S1 _ _ hR1 (by omega) (by omega)) (fun z => absurd rfl z)
theorem kB_F_talked : kB M_F_talked 2 := ⟨tm 1 (by decide +kernel) rfl, tm 832 (by decide +kernel) rfl, ⟨by decide, by decide, by decide +kernel⟩, by decide⟩
theorem k_Law_100_F_talked_FV : kV "FelledByNamesLaw" 100 0 M_F_talked 2 := ⟨kB_F_talked, tm 829 (by decide +kernel) rfl, tm 830 (by decide +kernel) rfl, tm 831 (by decide +kernel) rfl, _, rfl, rfl⟩
theorem kB_Mo_talked : kB M_Mo_talked 2 := ⟨tm 15 (by decide +kernel) rfl, tm 1390 (by decide +kernel) rfl, ⟨by decide, by decide, by decide +kernel⟩, by decide⟩
theorem k_Law_103_Mo_talked_MoV : kV "FelledByNamesLaw" 103 5 M_Mo_talked 2 := ⟨kB_Mo_talked, tm 1387 (by decide +kernel) rfl, tm 1388 (by decide +kernel) rfl, tm 1389 (by decide +kernel) rfl, _, rfl, rfl⟩
set_option maxRecDepth 10000 in
theorem lw_c20 {l : Launch} {d m n c s i L : Nat} {xs : Nat → Int32} {R W Z : Nat → Nat → Int32} {T : Nat → Nat → Nat} {kn : Kn} {D : Nat → Int32} {A : Nat → Nat → Int32} {S : Nat → Int32} {Q : QT} (hR : Rel m R W Z T kn n D A S) (hm : m < 2 ^ 25) (hi : i + 6 ≤ L) (hL : L ≤ 3072) (hc : c + 9 ≤ 600000) (hs : s + 13364 ≤ 7302250) (K : ∀ (R1 W1 Z1 : Nat → Nat → Int32) (T1 : Nat → Nat → Nat) (kn1 : Kn) (n1 : Nat) (D1 : Nat → Int32) (A1 : Nat → Nat → Int32) (S1 : Nat → Int32) (c1 s1 : Nat), Rel (m + 40000) R1 W1 Z1 T1 kn1 n1 D1 A1 S1 → c1 ≤ c + 9 → s1 ≤ s + 13364 → V l (M_Law L xs) (d + 61) 600000 7302250 1505 [(0, .float 200), (1, .ref 0), (2, .ref 88), (3, .int (nI i))] [] n1 (co R1 W1 Z1 T1 kn1 (mo 88 D1 A1 S1 hN)) c1 s1 Q) : V l (M_Law L xs) (d + 61) 600000 7302250 912 [(0, .float 200), (1, .ref 0), (2, .ref 88), (3, .int (nI i))] [] n (co R W Z T kn (mo 88 D A S hN)) c s Q := by
  have hin : ∀ k, k < 6 → vp_in (nI (i + k)) L := fun k hk => vin_N (by omega) (by omega)
  refine V.aload_n d_Law_912 rfl ?_
  refine V.aloadK_n d_Law_913 rfl ?_
  refine V.iload_n d_Law_914 rfl ?_
  refine V.iconst_ (nI 1) d_Law_915 (by decide +kernel) ?_
  refine V.addN d_Law_916 ?_
  refine V.ialdX rfl d_Law_917 (hin 1 (by decide)) ?_
  refine V.aloadK_n d_Law_918 rfl ?_
  refine V.iload_n d_Law_919 rfl ?_
  refine V.iconst_ (nI 2) d_Law_920 (by decide +kernel) ?_
  refine V.addN d_Law_921 ?_
  refine V.ialdX rfl d_Law_922 (hin 2 (by decide)) ?_
  refine V.callV2 d_Law_923 k_Law_100_F_talked_FV (co_s sc_ob) (Nat.le_of_ble_eq_true rfl) (by omega) (by omega) ((j_talked hR hm).mono (fun r n1 h1 hJ => ?_))
  obtain ⟨⟨v, rfl⟩, ⟨fs, hfs⟩, hJ⟩ := hJ
  refine V.aload_n d_Law_926 rfl ?_
  refine V.aloadK_n d_Law_927 rfl ?_
  refine V.iload_n d_Law_928 rfl ?_
  refine V.iconst_ (nI 1) d_Law_929 (by decide +kernel) ?_
  refine V.addN d_Law_930 ?_
  refine V.ialdX rfl d_Law_931 (hin 1 (by decide)) ?_
  refine V.aloadK_n d_Law_932 rfl ?_
  refine V.iload_n d_Law_933 rfl ?_
  refine V.iconst_ (nI 2) d_Law_934 (by decide +kernel) ?_
  refine V.addN d_Law_935 ?_
  refine V.ialdX rfl d_Law_936 (hin 2 (by decide)) ?_
  refine V.callV2 d_Law_937 k_Law_103_Mo_talked_MoV hfs (Nat.le_of_ble_eq_true rfl) (by omega) (by omega) (hJ _ (fun R1 W1 Z1 T1 kn1 D1 A1 S1 hR1 => ?_))
  exact V.icmp_eq (tgt := 1505) d_Law_940 (by decide) (fun _ => K R1 W1 Z1 T1 kn1 n1 D1 A1 S1 _ _ hR1 (by omega) (by omega)) (fun z => absurd rfl z)
theorem kB_F_crash : kB M_F_crash 1 := ⟨tm 1 (by decide +kernel) rfl, tm 851 (by decide +kernel) rfl, ⟨by decide, by decide, by decide +kernel⟩, by decide⟩
theorem k_Law_104_F_crash_FV : kV "FelledByNamesLaw" 104 0 M_F_crash 1 := ⟨kB_F_crash, tm 848 (by decide +kernel) rfl, tm 849 (by decide +kernel) rfl, tm 850 (by decide +kernel) rfl, _, rfl, rfl⟩
theorem kB_Mo_crash : kB M_Mo_crash 1 := ⟨tm 15 (by decide +kernel) rfl, tm 1398 (by decide +kernel) rfl, ⟨by decide, by decide, by decide +kernel⟩, by decide⟩
theorem k_Law_107_Mo_crash_MoV : kV "FelledByNamesLaw" 107 5 M_Mo_crash 1 := ⟨kB_Mo_crash, tm 1395 (by decide +kernel) rfl, tm 1396 (by decide +kernel) rfl, tm 1397 (by decide +kernel) rfl, _, rfl, rfl⟩
set_option maxRecDepth 10000 in
theorem lw_c21 {l : Launch} {d m n c s i L : Nat} {xs : Nat → Int32} {R W Z : Nat → Nat → Int32} {T : Nat → Nat → Nat} {kn : Kn} {D : Nat → Int32} {A : Nat → Nat → Int32} {S : Nat → Int32} {Q : QT} (hR : Rel m R W Z T kn n D A S) (hm : m < 2 ^ 25) (hi : i + 6 ≤ L) (hL : L ≤ 3072) (hc : c + 9 ≤ 600000) (hs : s + 13364 ≤ 7302250) (K : ∀ (R1 W1 Z1 : Nat → Nat → Int32) (T1 : Nat → Nat → Nat) (kn1 : Kn) (n1 : Nat) (D1 : Nat → Int32) (A1 : Nat → Nat → Int32) (S1 : Nat → Int32) (c1 s1 : Nat), Rel (m + 40000) R1 W1 Z1 T1 kn1 n1 D1 A1 S1 → c1 ≤ c + 9 → s1 ≤ s + 13364 → V l (M_Law L xs) (d + 61) 600000 7302250 1505 [(0, .float 200), (1, .ref 0), (2, .ref 88), (3, .int (nI i))] [] n1 (co R1 W1 Z1 T1 kn1 (mo 88 D1 A1 S1 hN)) c1 s1 Q) : V l (M_Law L xs) (d + 61) 600000 7302250 945 [(0, .float 200), (1, .ref 0), (2, .ref 88), (3, .int (nI i))] [] n (co R W Z T kn (mo 88 D A S hN)) c s Q := by
  have hin : ∀ k, k < 6 → vp_in (nI (i + k)) L := fun k hk => vin_N (by omega) (by omega)
  refine V.aload_n d_Law_945 rfl ?_
  refine V.aloadK_n d_Law_946 rfl ?_
  refine V.iload_n d_Law_947 rfl ?_
  refine V.iconst_ (nI 1) d_Law_948 (by decide +kernel) ?_
  refine V.addN d_Law_949 ?_
  refine V.ialdX rfl d_Law_950 (hin 1 (by decide)) ?_
  refine V.callV1 d_Law_951 k_Law_104_F_crash_FV (co_s sc_ob) (Nat.le_of_ble_eq_true rfl) (by omega) (by omega) ((j_crash hR hm).mono (fun r n1 h1 hJ => ?_))
  obtain ⟨⟨v, rfl⟩, ⟨fs, hfs⟩, hJ⟩ := hJ
  refine V.aload_n d_Law_954 rfl ?_
  refine V.aloadK_n d_Law_955 rfl ?_
  refine V.iload_n d_Law_956 rfl ?_
  refine V.iconst_ (nI 1) d_Law_957 (by decide +kernel) ?_
  refine V.addN d_Law_958 ?_
  refine V.ialdX rfl d_Law_959 (hin 1 (by decide)) ?_
  refine V.callV1 d_Law_960 k_Law_107_Mo_crash_MoV hfs (Nat.le_of_ble_eq_true rfl) (by omega) (by omega) (hJ _ (fun R1 W1 Z1 T1 kn1 D1 A1 S1 hR1 => ?_))
  exact V.icmp_eq (tgt := 1505) d_Law_963 (by decide) (fun _ => K R1 W1 Z1 T1 kn1 n1 D1 A1 S1 _ _ hR1 (by omega) (by omega)) (fun z => absurd rfl z)
theorem kB_F_keeper : kB M_F_keeper 2 := ⟨tm 1 (by decide +kernel) rfl, tm 856 (by decide +kernel) rfl, ⟨by decide, by decide, by decide +kernel⟩, by decide⟩
theorem k_Law_108_F_keeper_FV : kV "FelledByNamesLaw" 108 0 M_F_keeper 2 := ⟨kB_F_keeper, tm 853 (by decide +kernel) rfl, tm 854 (by decide +kernel) rfl, tm 855 (by decide +kernel) rfl, _, rfl, rfl⟩
theorem kB_Mo_keeper : kB M_Mo_keeper 2 := ⟨tm 15 (by decide +kernel) rfl, tm 1402 (by decide +kernel) rfl, ⟨by decide, by decide, by decide +kernel⟩, by decide⟩
theorem k_Law_111_Mo_keeper_MoV : kV "FelledByNamesLaw" 111 5 M_Mo_keeper 2 := ⟨kB_Mo_keeper, tm 1399 (by decide +kernel) rfl, tm 1400 (by decide +kernel) rfl, tm 1401 (by decide +kernel) rfl, _, rfl, rfl⟩
set_option maxRecDepth 10000 in
theorem lw_c22 {l : Launch} {d m n c s i L : Nat} {xs : Nat → Int32} {R W Z : Nat → Nat → Int32} {T : Nat → Nat → Nat} {kn : Kn} {D : Nat → Int32} {A : Nat → Nat → Int32} {S : Nat → Int32} {Q : QT} (hR : Rel m R W Z T kn n D A S) (hm : m < 2 ^ 25) (hi : i + 6 ≤ L) (hL : L ≤ 3072) (hc : c + 9 ≤ 600000) (hs : s + 13364 ≤ 7302250) (K : ∀ (R1 W1 Z1 : Nat → Nat → Int32) (T1 : Nat → Nat → Nat) (kn1 : Kn) (n1 : Nat) (D1 : Nat → Int32) (A1 : Nat → Nat → Int32) (S1 : Nat → Int32) (c1 s1 : Nat), Rel (m + 40000) R1 W1 Z1 T1 kn1 n1 D1 A1 S1 → c1 ≤ c + 9 → s1 ≤ s + 13364 → V l (M_Law L xs) (d + 61) 600000 7302250 1505 [(0, .float 200), (1, .ref 0), (2, .ref 88), (3, .int (nI i))] [] n1 (co R1 W1 Z1 T1 kn1 (mo 88 D1 A1 S1 hN)) c1 s1 Q) : V l (M_Law L xs) (d + 61) 600000 7302250 968 [(0, .float 200), (1, .ref 0), (2, .ref 88), (3, .int (nI i))] [] n (co R W Z T kn (mo 88 D A S hN)) c s Q := by
  have hin : ∀ k, k < 6 → vp_in (nI (i + k)) L := fun k hk => vin_N (by omega) (by omega)
  refine V.aload_n d_Law_968 rfl ?_
  refine V.aloadK_n d_Law_969 rfl ?_
  refine V.iload_n d_Law_970 rfl ?_
  refine V.iconst_ (nI 1) d_Law_971 (by decide +kernel) ?_
  refine V.addN d_Law_972 ?_
  refine V.ialdX rfl d_Law_973 (hin 1 (by decide)) ?_
  refine V.aloadK_n d_Law_974 rfl ?_
  refine V.iload_n d_Law_975 rfl ?_
  refine V.iconst_ (nI 2) d_Law_976 (by decide +kernel) ?_
  refine V.addN d_Law_977 ?_
  refine V.ialdX rfl d_Law_978 (hin 2 (by decide)) ?_
  refine V.callV2 d_Law_979 k_Law_108_F_keeper_FV (co_s sc_ob) (Nat.le_of_ble_eq_true rfl) (by omega) (by omega) ((j_keeper hR hm).mono (fun r n1 h1 hJ => ?_))
  obtain ⟨⟨v, rfl⟩, ⟨fs, hfs⟩, hJ⟩ := hJ
  refine V.aload_n d_Law_982 rfl ?_
  refine V.aloadK_n d_Law_983 rfl ?_
  refine V.iload_n d_Law_984 rfl ?_
  refine V.iconst_ (nI 1) d_Law_985 (by decide +kernel) ?_
  refine V.addN d_Law_986 ?_
  refine V.ialdX rfl d_Law_987 (hin 1 (by decide)) ?_
  refine V.aloadK_n d_Law_988 rfl ?_
  refine V.iload_n d_Law_989 rfl ?_
  refine V.iconst_ (nI 2) d_Law_990 (by decide +kernel) ?_
  refine V.addN d_Law_991 ?_
  refine V.ialdX rfl d_Law_992 (hin 2 (by decide)) ?_
  refine V.callV2 d_Law_993 k_Law_111_Mo_keeper_MoV hfs (Nat.le_of_ble_eq_true rfl) (by omega) (by omega) (hJ _ (fun R1 W1 Z1 T1 kn1 D1 A1 S1 hR1 => ?_))
  exact V.icmp_eq (tgt := 1505) d_Law_996 (by decide) (fun _ => K R1 W1 Z1 T1 kn1 n1 D1 A1 S1 _ _ hR1 (by omega) (by omega)) (fun z => absurd rfl z)
theorem kB_F_order : kB M_F_order 1 := ⟨tm 1 (by decide +kernel) rfl, tm 865 (by decide +kernel) rfl, ⟨by decide, by decide, by decide +kernel⟩, by decide⟩
theorem k_Law_112_F_order_FV : kV "FelledByNamesLaw" 112 0 M_F_order 1 := ⟨kB_F_order, tm 862 (by decide +kernel) rfl, tm 863 (by decide +kernel) rfl, tm 864 (by decide +kernel) rfl, _, rfl, rfl⟩
theorem kB_Mo_order : kB M_Mo_order 1 := ⟨tm 15 (by decide +kernel) rfl, tm 1406 (by decide +kernel) rfl, ⟨by decide, by decide, by decide +kernel⟩, by decide⟩
theorem k_Law_115_Mo_order_MoV : kV "FelledByNamesLaw" 115 5 M_Mo_order 1 := ⟨kB_Mo_order, tm 1403 (by decide +kernel) rfl, tm 1404 (by decide +kernel) rfl, tm 1405 (by decide +kernel) rfl, _, rfl, rfl⟩
set_option maxRecDepth 10000 in
theorem lw_c23 {l : Launch} {d m n c s i L : Nat} {xs : Nat → Int32} {R W Z : Nat → Nat → Int32} {T : Nat → Nat → Nat} {kn : Kn} {D : Nat → Int32} {A : Nat → Nat → Int32} {S : Nat → Int32} {Q : QT} (hR : Rel m R W Z T kn n D A S) (hm : m < 2 ^ 25) (hi : i + 6 ≤ L) (hL : L ≤ 3072) (hc : c + 9 ≤ 600000) (hs : s + 13364 ≤ 7302250) (K : ∀ (R1 W1 Z1 : Nat → Nat → Int32) (T1 : Nat → Nat → Nat) (kn1 : Kn) (n1 : Nat) (D1 : Nat → Int32) (A1 : Nat → Nat → Int32) (S1 : Nat → Int32) (c1 s1 : Nat), Rel (m + 40000) R1 W1 Z1 T1 kn1 n1 D1 A1 S1 → c1 ≤ c + 9 → s1 ≤ s + 13364 → V l (M_Law L xs) (d + 61) 600000 7302250 1505 [(0, .float 200), (1, .ref 0), (2, .ref 88), (3, .int (nI i))] [] n1 (co R1 W1 Z1 T1 kn1 (mo 88 D1 A1 S1 hN)) c1 s1 Q) : V l (M_Law L xs) (d + 61) 600000 7302250 1001 [(0, .float 200), (1, .ref 0), (2, .ref 88), (3, .int (nI i))] [] n (co R W Z T kn (mo 88 D A S hN)) c s Q := by
  have hin : ∀ k, k < 6 → vp_in (nI (i + k)) L := fun k hk => vin_N (by omega) (by omega)
  refine V.aload_n d_Law_1001 rfl ?_
  refine V.aloadK_n d_Law_1002 rfl ?_
  refine V.iload_n d_Law_1003 rfl ?_
  refine V.iconst_ (nI 1) d_Law_1004 (by decide +kernel) ?_
  refine V.addN d_Law_1005 ?_
  refine V.ialdX rfl d_Law_1006 (hin 1 (by decide)) ?_
  refine V.callV1 d_Law_1007 k_Law_112_F_order_FV (co_s sc_ob) (Nat.le_of_ble_eq_true rfl) (by omega) (by omega) ((j_order hR hm).mono (fun r n1 h1 hJ => ?_))
  obtain ⟨⟨v, rfl⟩, ⟨fs, hfs⟩, hJ⟩ := hJ
  refine V.aload_n d_Law_1010 rfl ?_
  refine V.aloadK_n d_Law_1011 rfl ?_
  refine V.iload_n d_Law_1012 rfl ?_
  refine V.iconst_ (nI 1) d_Law_1013 (by decide +kernel) ?_
  refine V.addN d_Law_1014 ?_
  refine V.ialdX rfl d_Law_1015 (hin 1 (by decide)) ?_
  refine V.callV1 d_Law_1016 k_Law_115_Mo_order_MoV hfs (Nat.le_of_ble_eq_true rfl) (by omega) (by omega) (hJ _ (fun R1 W1 Z1 T1 kn1 D1 A1 S1 hR1 => ?_))
  exact V.icmp_eq (tgt := 1505) d_Law_1019 (by decide) (fun _ => K R1 W1 Z1 T1 kn1 n1 D1 A1 S1 _ _ hR1 (by omega) (by omega)) (fun z => absurd rfl z)
theorem kB_F_timber : kB M_F_timber 1 := ⟨tm 1 (by decide +kernel) rfl, tm 870 (by decide +kernel) rfl, ⟨by decide, by decide, by decide +kernel⟩, by decide⟩
theorem k_Law_116_F_timber_FV : kV "FelledByNamesLaw" 116 0 M_F_timber 1 := ⟨kB_F_timber, tm 867 (by decide +kernel) rfl, tm 868 (by decide +kernel) rfl, tm 869 (by decide +kernel) rfl, _, rfl, rfl⟩
theorem kB_Mo_timber : kB M_Mo_timber 1 := ⟨tm 15 (by decide +kernel) rfl, tm 1410 (by decide +kernel) rfl, ⟨by decide, by decide, by decide +kernel⟩, by decide⟩
theorem k_Law_119_Mo_timber_MoV : kV "FelledByNamesLaw" 119 5 M_Mo_timber 1 := ⟨kB_Mo_timber, tm 1407 (by decide +kernel) rfl, tm 1408 (by decide +kernel) rfl, tm 1409 (by decide +kernel) rfl, _, rfl, rfl⟩
set_option maxRecDepth 10000 in
theorem lw_c24 {l : Launch} {d m n c s i L : Nat} {xs : Nat → Int32} {R W Z : Nat → Nat → Int32} {T : Nat → Nat → Nat} {kn : Kn} {D : Nat → Int32} {A : Nat → Nat → Int32} {S : Nat → Int32} {Q : QT} (hR : Rel m R W Z T kn n D A S) (hm : m < 2 ^ 25) (hi : i + 6 ≤ L) (hL : L ≤ 3072) (hc : c + 9 ≤ 600000) (hs : s + 13364 ≤ 7302250) (K : ∀ (R1 W1 Z1 : Nat → Nat → Int32) (T1 : Nat → Nat → Nat) (kn1 : Kn) (n1 : Nat) (D1 : Nat → Int32) (A1 : Nat → Nat → Int32) (S1 : Nat → Int32) (c1 s1 : Nat), Rel (m + 40000) R1 W1 Z1 T1 kn1 n1 D1 A1 S1 → c1 ≤ c + 9 → s1 ≤ s + 13364 → V l (M_Law L xs) (d + 61) 600000 7302250 1505 [(0, .float 200), (1, .ref 0), (2, .ref 88), (3, .int (nI i))] [] n1 (co R1 W1 Z1 T1 kn1 (mo 88 D1 A1 S1 hN)) c1 s1 Q) : V l (M_Law L xs) (d + 61) 600000 7302250 1024 [(0, .float 200), (1, .ref 0), (2, .ref 88), (3, .int (nI i))] [] n (co R W Z T kn (mo 88 D A S hN)) c s Q := by
  have hin : ∀ k, k < 6 → vp_in (nI (i + k)) L := fun k hk => vin_N (by omega) (by omega)
  refine V.aload_n d_Law_1024 rfl ?_
  refine V.aloadK_n d_Law_1025 rfl ?_
  refine V.iload_n d_Law_1026 rfl ?_
  refine V.iconst_ (nI 1) d_Law_1027 (by decide +kernel) ?_
  refine V.addN d_Law_1028 ?_
  refine V.ialdX rfl d_Law_1029 (hin 1 (by decide)) ?_
  refine V.callV1 d_Law_1030 k_Law_116_F_timber_FV (co_s sc_ob) (Nat.le_of_ble_eq_true rfl) (by omega) (by omega) ((j_timber hR hm).mono (fun r n1 h1 hJ => ?_))
  obtain ⟨⟨v, rfl⟩, ⟨fs, hfs⟩, hJ⟩ := hJ
  refine V.aload_n d_Law_1033 rfl ?_
  refine V.aloadK_n d_Law_1034 rfl ?_
  refine V.iload_n d_Law_1035 rfl ?_
  refine V.iconst_ (nI 1) d_Law_1036 (by decide +kernel) ?_
  refine V.addN d_Law_1037 ?_
  refine V.ialdX rfl d_Law_1038 (hin 1 (by decide)) ?_
  refine V.callV1 d_Law_1039 k_Law_119_Mo_timber_MoV hfs (Nat.le_of_ble_eq_true rfl) (by omega) (by omega) (hJ _ (fun R1 W1 Z1 T1 kn1 D1 A1 S1 hR1 => ?_))
  exact V.icmp_eq (tgt := 1505) d_Law_1042 (by decide) (fun _ => K R1 W1 Z1 T1 kn1 n1 D1 A1 S1 _ _ hR1 (by omega) (by omega)) (fun z => absurd rfl z)
theorem kB_F_safe : kB M_F_safe 1 := ⟨tm 1 (by decide +kernel) rfl, tm 874 (by decide +kernel) rfl, ⟨by decide, by decide, by decide +kernel⟩, by decide⟩
theorem k_Law_120_F_safe_FV : kV "FelledByNamesLaw" 120 0 M_F_safe 1 := ⟨kB_F_safe, tm 871 (by decide +kernel) rfl, tm 872 (by decide +kernel) rfl, tm 873 (by decide +kernel) rfl, _, rfl, rfl⟩
theorem kB_Mo_safe : kB M_Mo_safe 1 := ⟨tm 15 (by decide +kernel) rfl, tm 1414 (by decide +kernel) rfl, ⟨by decide, by decide, by decide +kernel⟩, by decide⟩
theorem k_Law_123_Mo_safe_MoV : kV "FelledByNamesLaw" 123 5 M_Mo_safe 1 := ⟨kB_Mo_safe, tm 1411 (by decide +kernel) rfl, tm 1412 (by decide +kernel) rfl, tm 1413 (by decide +kernel) rfl, _, rfl, rfl⟩
set_option maxRecDepth 10000 in
theorem lw_c25 {l : Launch} {d m n c s i L : Nat} {xs : Nat → Int32} {R W Z : Nat → Nat → Int32} {T : Nat → Nat → Nat} {kn : Kn} {D : Nat → Int32} {A : Nat → Nat → Int32} {S : Nat → Int32} {Q : QT} (hR : Rel m R W Z T kn n D A S) (hm : m < 2 ^ 25) (hi : i + 6 ≤ L) (hL : L ≤ 3072) (hc : c + 9 ≤ 600000) (hs : s + 13364 ≤ 7302250) (K : ∀ (R1 W1 Z1 : Nat → Nat → Int32) (T1 : Nat → Nat → Nat) (kn1 : Kn) (n1 : Nat) (D1 : Nat → Int32) (A1 : Nat → Nat → Int32) (S1 : Nat → Int32) (c1 s1 : Nat), Rel (m + 40000) R1 W1 Z1 T1 kn1 n1 D1 A1 S1 → c1 ≤ c + 9 → s1 ≤ s + 13364 → V l (M_Law L xs) (d + 61) 600000 7302250 1505 [(0, .float 200), (1, .ref 0), (2, .ref 88), (3, .int (nI i))] [] n1 (co R1 W1 Z1 T1 kn1 (mo 88 D1 A1 S1 hN)) c1 s1 Q) : V l (M_Law L xs) (d + 61) 600000 7302250 1047 [(0, .float 200), (1, .ref 0), (2, .ref 88), (3, .int (nI i))] [] n (co R W Z T kn (mo 88 D A S hN)) c s Q := by
  have hin : ∀ k, k < 6 → vp_in (nI (i + k)) L := fun k hk => vin_N (by omega) (by omega)
  refine V.aload_n d_Law_1047 rfl ?_
  refine V.aloadK_n d_Law_1048 rfl ?_
  refine V.iload_n d_Law_1049 rfl ?_
  refine V.iconst_ (nI 1) d_Law_1050 (by decide +kernel) ?_
  refine V.addN d_Law_1051 ?_
  refine V.ialdX rfl d_Law_1052 (hin 1 (by decide)) ?_
  refine V.callV1 d_Law_1053 k_Law_120_F_safe_FV (co_s sc_ob) (Nat.le_of_ble_eq_true rfl) (by omega) (by omega) ((j_safe hR hm).mono (fun r n1 h1 hJ => ?_))
  obtain ⟨⟨v, rfl⟩, ⟨fs, hfs⟩, hJ⟩ := hJ
  refine V.aload_n d_Law_1056 rfl ?_
  refine V.aloadK_n d_Law_1057 rfl ?_
  refine V.iload_n d_Law_1058 rfl ?_
  refine V.iconst_ (nI 1) d_Law_1059 (by decide +kernel) ?_
  refine V.addN d_Law_1060 ?_
  refine V.ialdX rfl d_Law_1061 (hin 1 (by decide)) ?_
  refine V.callV1 d_Law_1062 k_Law_123_Mo_safe_MoV hfs (Nat.le_of_ble_eq_true rfl) (by omega) (by omega) (hJ _ (fun R1 W1 Z1 T1 kn1 D1 A1 S1 hR1 => ?_))
  exact V.icmp_eq (tgt := 1505) d_Law_1065 (by decide) (fun _ => K R1 W1 Z1 T1 kn1 n1 D1 A1 S1 _ _ hR1 (by omega) (by omega)) (fun z => absurd rfl z)
theorem kB_F_odds : kB M_F_odds 3 := ⟨tm 1 (by decide +kernel) rfl, tm 878 (by decide +kernel) rfl, ⟨by decide, by decide, by decide +kernel⟩, by decide⟩
theorem k_Law_124_F_odds_FV : kV "FelledByNamesLaw" 124 0 M_F_odds 3 := ⟨kB_F_odds, tm 875 (by decide +kernel) rfl, tm 876 (by decide +kernel) rfl, tm 877 (by decide +kernel) rfl, _, rfl, rfl⟩
theorem kB_Mo_odds : kB M_Mo_odds 3 := ⟨tm 15 (by decide +kernel) rfl, tm 1418 (by decide +kernel) rfl, ⟨by decide, by decide, by decide +kernel⟩, by decide⟩
theorem k_Law_127_Mo_odds_MoV : kV "FelledByNamesLaw" 127 5 M_Mo_odds 3 := ⟨kB_Mo_odds, tm 1415 (by decide +kernel) rfl, tm 1416 (by decide +kernel) rfl, tm 1417 (by decide +kernel) rfl, _, rfl, rfl⟩
set_option maxRecDepth 10000 in
theorem lw_c26 {l : Launch} {d m n c s i L : Nat} {xs : Nat → Int32} {R W Z : Nat → Nat → Int32} {T : Nat → Nat → Nat} {kn : Kn} {D : Nat → Int32} {A : Nat → Nat → Int32} {S : Nat → Int32} {Q : QT} (hR : Rel m R W Z T kn n D A S) (hm : m < 2 ^ 25) (hi : i + 6 ≤ L) (hL : L ≤ 3072) (hc : c + 9 ≤ 600000) (hs : s + 13364 ≤ 7302250) (K : ∀ (R1 W1 Z1 : Nat → Nat → Int32) (T1 : Nat → Nat → Nat) (kn1 : Kn) (n1 : Nat) (D1 : Nat → Int32) (A1 : Nat → Nat → Int32) (S1 : Nat → Int32) (c1 s1 : Nat), Rel (m + 40000) R1 W1 Z1 T1 kn1 n1 D1 A1 S1 → c1 ≤ c + 9 → s1 ≤ s + 13364 → V l (M_Law L xs) (d + 61) 600000 7302250 1505 [(0, .float 200), (1, .ref 0), (2, .ref 88), (3, .int (nI i))] [] n1 (co R1 W1 Z1 T1 kn1 (mo 88 D1 A1 S1 hN)) c1 s1 Q) : V l (M_Law L xs) (d + 61) 600000 7302250 1070 [(0, .float 200), (1, .ref 0), (2, .ref 88), (3, .int (nI i))] [] n (co R W Z T kn (mo 88 D A S hN)) c s Q := by
  have hin : ∀ k, k < 6 → vp_in (nI (i + k)) L := fun k hk => vin_N (by omega) (by omega)
  refine V.aload_n d_Law_1070 rfl ?_
  refine V.aloadK_n d_Law_1071 rfl ?_
  refine V.iload_n d_Law_1072 rfl ?_
  refine V.iconst_ (nI 1) d_Law_1073 (by decide +kernel) ?_
  refine V.addN d_Law_1074 ?_
  refine V.ialdX rfl d_Law_1075 (hin 1 (by decide)) ?_
  refine V.aloadK_n d_Law_1076 rfl ?_
  refine V.iload_n d_Law_1077 rfl ?_
  refine V.iconst_ (nI 2) d_Law_1078 (by decide +kernel) ?_
  refine V.addN d_Law_1079 ?_
  refine V.ialdX rfl d_Law_1080 (hin 2 (by decide)) ?_
  refine V.aloadK_n d_Law_1081 rfl ?_
  refine V.iload_n d_Law_1082 rfl ?_
  refine V.iconst_ (nI 3) d_Law_1083 (by decide +kernel) ?_
  refine V.addN d_Law_1084 ?_
  refine V.ialdX rfl d_Law_1085 (hin 3 (by decide)) ?_
  refine V.callV3 d_Law_1086 k_Law_124_F_odds_FV (co_s sc_ob) (Nat.le_of_ble_eq_true rfl) (by omega) (by omega) ((j_odds hR hm).mono (fun r n1 h1 hJ => ?_))
  obtain ⟨⟨v, rfl⟩, ⟨fs, hfs⟩, hJ⟩ := hJ
  refine V.aload_n d_Law_1089 rfl ?_
  refine V.aloadK_n d_Law_1090 rfl ?_
  refine V.iload_n d_Law_1091 rfl ?_
  refine V.iconst_ (nI 1) d_Law_1092 (by decide +kernel) ?_
  refine V.addN d_Law_1093 ?_
  refine V.ialdX rfl d_Law_1094 (hin 1 (by decide)) ?_
  refine V.aloadK_n d_Law_1095 rfl ?_
  refine V.iload_n d_Law_1096 rfl ?_
  refine V.iconst_ (nI 2) d_Law_1097 (by decide +kernel) ?_
  refine V.addN d_Law_1098 ?_
  refine V.ialdX rfl d_Law_1099 (hin 2 (by decide)) ?_
  refine V.aloadK_n d_Law_1100 rfl ?_
  refine V.iload_n d_Law_1101 rfl ?_
  refine V.iconst_ (nI 3) d_Law_1102 (by decide +kernel) ?_
  refine V.addN d_Law_1103 ?_
  refine V.ialdX rfl d_Law_1104 (hin 3 (by decide)) ?_
  refine V.callV3 d_Law_1105 k_Law_127_Mo_odds_MoV hfs (Nat.le_of_ble_eq_true rfl) (by omega) (by omega) (hJ _ (fun R1 W1 Z1 T1 kn1 D1 A1 S1 hR1 => ?_))
  exact V.icmp_eq (tgt := 1505) d_Law_1108 (by decide) (fun _ => K R1 W1 Z1 T1 kn1 n1 D1 A1 S1 _ _ hR1 (by omega) (by omega)) (fun z => absurd rfl z)
theorem kB_F_seed : kB M_F_seed 1 := ⟨tm 1 (by decide +kernel) rfl, tm 885 (by decide +kernel) rfl, ⟨by decide, by decide, by decide +kernel⟩, by decide⟩
theorem k_Law_128_F_seed_FV : kV "FelledByNamesLaw" 128 0 M_F_seed 1 := ⟨kB_F_seed, tm 882 (by decide +kernel) rfl, tm 883 (by decide +kernel) rfl, tm 884 (by decide +kernel) rfl, _, rfl, rfl⟩
theorem kB_Mo_seed : kB M_Mo_seed 1 := ⟨tm 15 (by decide +kernel) rfl, tm 1425 (by decide +kernel) rfl, ⟨by decide, by decide, by decide +kernel⟩, by decide⟩
theorem k_Law_131_Mo_seed_MoV : kV "FelledByNamesLaw" 131 5 M_Mo_seed 1 := ⟨kB_Mo_seed, tm 1422 (by decide +kernel) rfl, tm 1423 (by decide +kernel) rfl, tm 1424 (by decide +kernel) rfl, _, rfl, rfl⟩
set_option maxRecDepth 10000 in
theorem lw_c27 {l : Launch} {d m n c s i L : Nat} {xs : Nat → Int32} {R W Z : Nat → Nat → Int32} {T : Nat → Nat → Nat} {kn : Kn} {D : Nat → Int32} {A : Nat → Nat → Int32} {S : Nat → Int32} {Q : QT} (hR : Rel m R W Z T kn n D A S) (hm : m < 2 ^ 25) (hi : i + 6 ≤ L) (hL : L ≤ 3072) (hc : c + 9 ≤ 600000) (hs : s + 13364 ≤ 7302250) (K : ∀ (R1 W1 Z1 : Nat → Nat → Int32) (T1 : Nat → Nat → Nat) (kn1 : Kn) (n1 : Nat) (D1 : Nat → Int32) (A1 : Nat → Nat → Int32) (S1 : Nat → Int32) (c1 s1 : Nat), Rel (m + 40000) R1 W1 Z1 T1 kn1 n1 D1 A1 S1 → c1 ≤ c + 9 → s1 ≤ s + 13364 → V l (M_Law L xs) (d + 61) 600000 7302250 1505 [(0, .float 200), (1, .ref 0), (2, .ref 88), (3, .int (nI i))] [] n1 (co R1 W1 Z1 T1 kn1 (mo 88 D1 A1 S1 hN)) c1 s1 Q) : V l (M_Law L xs) (d + 61) 600000 7302250 1113 [(0, .float 200), (1, .ref 0), (2, .ref 88), (3, .int (nI i))] [] n (co R W Z T kn (mo 88 D A S hN)) c s Q := by
  have hin : ∀ k, k < 6 → vp_in (nI (i + k)) L := fun k hk => vin_N (by omega) (by omega)
  refine V.aload_n d_Law_1113 rfl ?_
  refine V.aloadK_n d_Law_1114 rfl ?_
  refine V.iload_n d_Law_1115 rfl ?_
  refine V.iconst_ (nI 1) d_Law_1116 (by decide +kernel) ?_
  refine V.addN d_Law_1117 ?_
  refine V.ialdX rfl d_Law_1118 (hin 1 (by decide)) ?_
  refine V.callV1 d_Law_1119 k_Law_128_F_seed_FV (co_s sc_ob) (Nat.le_of_ble_eq_true rfl) (by omega) (by omega) ((j_seed hR).mono (fun r n1 h1 hJ => ?_))
  obtain ⟨⟨v, rfl⟩, ⟨fs, hfs⟩, hJ⟩ := hJ
  refine V.aload_n d_Law_1122 rfl ?_
  refine V.aloadK_n d_Law_1123 rfl ?_
  refine V.iload_n d_Law_1124 rfl ?_
  refine V.iconst_ (nI 1) d_Law_1125 (by decide +kernel) ?_
  refine V.addN d_Law_1126 ?_
  refine V.ialdX rfl d_Law_1127 (hin 1 (by decide)) ?_
  refine V.callV1 d_Law_1128 k_Law_131_Mo_seed_MoV hfs (Nat.le_of_ble_eq_true rfl) (by omega) (by omega) (hJ _ (fun R1 W1 Z1 T1 kn1 D1 A1 S1 hR1 => ?_))
  exact V.icmp_eq (tgt := 1505) d_Law_1131 (by decide) (fun _ => K R1 W1 Z1 T1 kn1 n1 D1 A1 S1 _ _ hR1 (by omega) (by omega)) (fun z => absurd rfl z)
theorem kB_F_voice : kB M_F_voice 3 := ⟨tm 1 (by decide +kernel) rfl, tm 889 (by decide +kernel) rfl, ⟨by decide, by decide, by decide +kernel⟩, by decide⟩
theorem k_Law_132_F_voice_FV : kV "FelledByNamesLaw" 132 0 M_F_voice 3 := ⟨kB_F_voice, tm 886 (by decide +kernel) rfl, tm 887 (by decide +kernel) rfl, tm 888 (by decide +kernel) rfl, _, rfl, rfl⟩
theorem kB_Mo_voice : kB M_Mo_voice 3 := ⟨tm 15 (by decide +kernel) rfl, tm 1429 (by decide +kernel) rfl, ⟨by decide, by decide, by decide +kernel⟩, by decide⟩
theorem k_Law_135_Mo_voice_MoV : kV "FelledByNamesLaw" 135 5 M_Mo_voice 3 := ⟨kB_Mo_voice, tm 1426 (by decide +kernel) rfl, tm 1427 (by decide +kernel) rfl, tm 1428 (by decide +kernel) rfl, _, rfl, rfl⟩
set_option maxRecDepth 10000 in
theorem lw_c28 {l : Launch} {d m n c s i L : Nat} {xs : Nat → Int32} {R W Z : Nat → Nat → Int32} {T : Nat → Nat → Nat} {kn : Kn} {D : Nat → Int32} {A : Nat → Nat → Int32} {S : Nat → Int32} {Q : QT} (hR : Rel m R W Z T kn n D A S) (hm : m < 2 ^ 25) (hi : i + 6 ≤ L) (hL : L ≤ 3072) (hc : c + 9 ≤ 600000) (hs : s + 13364 ≤ 7302250) (K : ∀ (R1 W1 Z1 : Nat → Nat → Int32) (T1 : Nat → Nat → Nat) (kn1 : Kn) (n1 : Nat) (D1 : Nat → Int32) (A1 : Nat → Nat → Int32) (S1 : Nat → Int32) (c1 s1 : Nat), Rel (m + 40000) R1 W1 Z1 T1 kn1 n1 D1 A1 S1 → c1 ≤ c + 9 → s1 ≤ s + 13364 → V l (M_Law L xs) (d + 61) 600000 7302250 1505 [(0, .float 200), (1, .ref 0), (2, .ref 88), (3, .int (nI i))] [] n1 (co R1 W1 Z1 T1 kn1 (mo 88 D1 A1 S1 hN)) c1 s1 Q) : V l (M_Law L xs) (d + 61) 600000 7302250 1136 [(0, .float 200), (1, .ref 0), (2, .ref 88), (3, .int (nI i))] [] n (co R W Z T kn (mo 88 D A S hN)) c s Q := by
  have hin : ∀ k, k < 6 → vp_in (nI (i + k)) L := fun k hk => vin_N (by omega) (by omega)
  refine V.aload_n d_Law_1136 rfl ?_
  refine V.aloadK_n d_Law_1137 rfl ?_
  refine V.iload_n d_Law_1138 rfl ?_
  refine V.iconst_ (nI 1) d_Law_1139 (by decide +kernel) ?_
  refine V.addN d_Law_1140 ?_
  refine V.ialdX rfl d_Law_1141 (hin 1 (by decide)) ?_
  refine V.aloadK_n d_Law_1142 rfl ?_
  refine V.iload_n d_Law_1143 rfl ?_
  refine V.iconst_ (nI 2) d_Law_1144 (by decide +kernel) ?_
  refine V.addN d_Law_1145 ?_
  refine V.ialdX rfl d_Law_1146 (hin 2 (by decide)) ?_
  refine V.aloadK_n d_Law_1147 rfl ?_
  refine V.iload_n d_Law_1148 rfl ?_
  refine V.iconst_ (nI 3) d_Law_1149 (by decide +kernel) ?_
  refine V.addN d_Law_1150 ?_
  refine V.ialdX rfl d_Law_1151 (hin 3 (by decide)) ?_
  refine V.callV3 d_Law_1152 k_Law_132_F_voice_FV (co_s sc_ob) (Nat.le_of_ble_eq_true rfl) (by omega) (by omega) ((j_voice hR).mono (fun r n1 h1 hJ => ?_))
  obtain ⟨⟨v, rfl⟩, ⟨fs, hfs⟩, hJ⟩ := hJ
  refine V.aload_n d_Law_1155 rfl ?_
  refine V.aloadK_n d_Law_1156 rfl ?_
  refine V.iload_n d_Law_1157 rfl ?_
  refine V.iconst_ (nI 1) d_Law_1158 (by decide +kernel) ?_
  refine V.addN d_Law_1159 ?_
  refine V.ialdX rfl d_Law_1160 (hin 1 (by decide)) ?_
  refine V.aloadK_n d_Law_1161 rfl ?_
  refine V.iload_n d_Law_1162 rfl ?_
  refine V.iconst_ (nI 2) d_Law_1163 (by decide +kernel) ?_
  refine V.addN d_Law_1164 ?_
  refine V.ialdX rfl d_Law_1165 (hin 2 (by decide)) ?_
  refine V.aloadK_n d_Law_1166 rfl ?_
  refine V.iload_n d_Law_1167 rfl ?_
  refine V.iconst_ (nI 3) d_Law_1168 (by decide +kernel) ?_
  refine V.addN d_Law_1169 ?_
  refine V.ialdX rfl d_Law_1170 (hin 3 (by decide)) ?_
  refine V.callV3 d_Law_1171 k_Law_135_Mo_voice_MoV hfs (Nat.le_of_ble_eq_true rfl) (by omega) (by omega) (hJ _ (fun R1 W1 Z1 T1 kn1 D1 A1 S1 hR1 => ?_))
  exact V.icmp_eq (tgt := 1505) d_Law_1174 (by decide) (fun _ => K R1 W1 Z1 T1 kn1 n1 D1 A1 S1 _ _ hR1 (by omega) (by omega)) (fun z => absurd rfl z)
theorem kB_F_trace : kB M_F_trace 1 := ⟨tm 1 (by decide +kernel) rfl, tm 976 (by decide +kernel) rfl, ⟨by decide, by decide, by decide +kernel⟩, by decide⟩
theorem k_Law_136_F_trace_FV : kV "FelledByNamesLaw" 136 0 M_F_trace 1 := ⟨kB_F_trace, tm 973 (by decide +kernel) rfl, tm 974 (by decide +kernel) rfl, tm 975 (by decide +kernel) rfl, _, rfl, rfl⟩
theorem kB_Mo_trace : kB M_Mo_trace 1 := ⟨tm 15 (by decide +kernel) rfl, tm 1453 (by decide +kernel) rfl, ⟨by decide, by decide, by decide +kernel⟩, by decide⟩
theorem k_Law_139_Mo_trace_MoV : kV "FelledByNamesLaw" 139 5 M_Mo_trace 1 := ⟨kB_Mo_trace, tm 1450 (by decide +kernel) rfl, tm 1451 (by decide +kernel) rfl, tm 1452 (by decide +kernel) rfl, _, rfl, rfl⟩
set_option maxRecDepth 10000 in
theorem lw_c29 {l : Launch} {d m n c s i L : Nat} {xs : Nat → Int32} {R W Z : Nat → Nat → Int32} {T : Nat → Nat → Nat} {kn : Kn} {D : Nat → Int32} {A : Nat → Nat → Int32} {S : Nat → Int32} {Q : QT} (hR : Rel m R W Z T kn n D A S) (hm : m < 2 ^ 25) (hi : i + 6 ≤ L) (hL : L ≤ 3072) (hc : c + 9 ≤ 600000) (hs : s + 13364 ≤ 7302250) (K : ∀ (R1 W1 Z1 : Nat → Nat → Int32) (T1 : Nat → Nat → Nat) (kn1 : Kn) (n1 : Nat) (D1 : Nat → Int32) (A1 : Nat → Nat → Int32) (S1 : Nat → Int32) (c1 s1 : Nat), Rel (m + 40000) R1 W1 Z1 T1 kn1 n1 D1 A1 S1 → c1 ≤ c + 9 → s1 ≤ s + 13364 → V l (M_Law L xs) (d + 61) 600000 7302250 1505 [(0, .float 200), (1, .ref 0), (2, .ref 88), (3, .int (nI i))] [] n1 (co R1 W1 Z1 T1 kn1 (mo 88 D1 A1 S1 hN)) c1 s1 Q) : V l (M_Law L xs) (d + 61) 600000 7302250 1179 [(0, .float 200), (1, .ref 0), (2, .ref 88), (3, .int (nI i))] [] n (co R W Z T kn (mo 88 D A S hN)) c s Q := by
  have hin : ∀ k, k < 6 → vp_in (nI (i + k)) L := fun k hk => vin_N (by omega) (by omega)
  refine V.aload_n d_Law_1179 rfl ?_
  refine V.aloadK_n d_Law_1180 rfl ?_
  refine V.iload_n d_Law_1181 rfl ?_
  refine V.iconst_ (nI 1) d_Law_1182 (by decide +kernel) ?_
  refine V.addN d_Law_1183 ?_
  refine V.ialdX rfl d_Law_1184 (hin 1 (by decide)) ?_
  refine V.callV1 d_Law_1185 k_Law_136_F_trace_FV (co_s sc_ob) (Nat.le_of_ble_eq_true rfl) (by omega) (by omega) ((j_trace hR).mono (fun r n1 h1 hJ => ?_))
  obtain ⟨⟨v, rfl⟩, ⟨fs, hfs⟩, hJ⟩ := hJ
  refine V.aload_n d_Law_1188 rfl ?_
  refine V.aloadK_n d_Law_1189 rfl ?_
  refine V.iload_n d_Law_1190 rfl ?_
  refine V.iconst_ (nI 1) d_Law_1191 (by decide +kernel) ?_
  refine V.addN d_Law_1192 ?_
  refine V.ialdX rfl d_Law_1193 (hin 1 (by decide)) ?_
  refine V.callV1 d_Law_1194 k_Law_139_Mo_trace_MoV hfs (Nat.le_of_ble_eq_true rfl) (by omega) (by omega) (hJ _ (fun R1 W1 Z1 T1 kn1 D1 A1 S1 hR1 => ?_))
  exact V.icmp_eq (tgt := 1505) d_Law_1197 (by decide) (fun _ => K R1 W1 Z1 T1 kn1 n1 D1 A1 S1 _ _ hR1 (by omega) (by omega)) (fun z => absurd rfl z)
theorem kB_F_sheet : kB M_F_sheet 3 := ⟨tm 1 (by decide +kernel) rfl, tm 986 (by decide +kernel) rfl, ⟨by decide, by decide, by decide +kernel⟩, by decide⟩
theorem k_Law_140_F_sheet_FV : kV "FelledByNamesLaw" 140 0 M_F_sheet 3 := ⟨kB_F_sheet, tm 983 (by decide +kernel) rfl, tm 984 (by decide +kernel) rfl, tm 985 (by decide +kernel) rfl, _, rfl, rfl⟩
theorem kB_Mo_sheet : kB M_Mo_sheet 3 := ⟨tm 15 (by decide +kernel) rfl, tm 1457 (by decide +kernel) rfl, ⟨by decide, by decide, by decide +kernel⟩, by decide⟩
theorem k_Law_143_Mo_sheet_MoV : kV "FelledByNamesLaw" 143 5 M_Mo_sheet 3 := ⟨kB_Mo_sheet, tm 1454 (by decide +kernel) rfl, tm 1455 (by decide +kernel) rfl, tm 1456 (by decide +kernel) rfl, _, rfl, rfl⟩
set_option maxRecDepth 10000 in
theorem lw_c30 {l : Launch} {d m n c s i L : Nat} {xs : Nat → Int32} {R W Z : Nat → Nat → Int32} {T : Nat → Nat → Nat} {kn : Kn} {D : Nat → Int32} {A : Nat → Nat → Int32} {S : Nat → Int32} {Q : QT} (hR : Rel m R W Z T kn n D A S) (hm : m < 2 ^ 25) (hi : i + 6 ≤ L) (hL : L ≤ 3072) (hc : c + 9 ≤ 600000) (hs : s + 13364 ≤ 7302250) (K : ∀ (R1 W1 Z1 : Nat → Nat → Int32) (T1 : Nat → Nat → Nat) (kn1 : Kn) (n1 : Nat) (D1 : Nat → Int32) (A1 : Nat → Nat → Int32) (S1 : Nat → Int32) (c1 s1 : Nat), Rel (m + 40000) R1 W1 Z1 T1 kn1 n1 D1 A1 S1 → c1 ≤ c + 9 → s1 ≤ s + 13364 → V l (M_Law L xs) (d + 61) 600000 7302250 1505 [(0, .float 200), (1, .ref 0), (2, .ref 88), (3, .int (nI i))] [] n1 (co R1 W1 Z1 T1 kn1 (mo 88 D1 A1 S1 hN)) c1 s1 Q) : V l (M_Law L xs) (d + 61) 600000 7302250 1202 [(0, .float 200), (1, .ref 0), (2, .ref 88), (3, .int (nI i))] [] n (co R W Z T kn (mo 88 D A S hN)) c s Q := by
  have hin : ∀ k, k < 6 → vp_in (nI (i + k)) L := fun k hk => vin_N (by omega) (by omega)
  refine V.aload_n d_Law_1202 rfl ?_
  refine V.aloadK_n d_Law_1203 rfl ?_
  refine V.iload_n d_Law_1204 rfl ?_
  refine V.iconst_ (nI 1) d_Law_1205 (by decide +kernel) ?_
  refine V.addN d_Law_1206 ?_
  refine V.ialdX rfl d_Law_1207 (hin 1 (by decide)) ?_
  refine V.aloadK_n d_Law_1208 rfl ?_
  refine V.iload_n d_Law_1209 rfl ?_
  refine V.iconst_ (nI 2) d_Law_1210 (by decide +kernel) ?_
  refine V.addN d_Law_1211 ?_
  refine V.ialdX rfl d_Law_1212 (hin 2 (by decide)) ?_
  refine V.aloadK_n d_Law_1213 rfl ?_
  refine V.iload_n d_Law_1214 rfl ?_
  refine V.iconst_ (nI 3) d_Law_1215 (by decide +kernel) ?_
  refine V.addN d_Law_1216 ?_
  refine V.ialdX rfl d_Law_1217 (hin 3 (by decide)) ?_
  refine V.callV3 d_Law_1218 k_Law_140_F_sheet_FV (co_s sc_ob) (Nat.le_of_ble_eq_true rfl) (by omega) (by omega) ((j_sheet hR).mono (fun r n1 h1 hJ => ?_))
  obtain ⟨⟨v, rfl⟩, ⟨fs, hfs⟩, hJ⟩ := hJ
  refine V.aload_n d_Law_1221 rfl ?_
  refine V.aloadK_n d_Law_1222 rfl ?_
  refine V.iload_n d_Law_1223 rfl ?_
  refine V.iconst_ (nI 1) d_Law_1224 (by decide +kernel) ?_
  refine V.addN d_Law_1225 ?_
  refine V.ialdX rfl d_Law_1226 (hin 1 (by decide)) ?_
  refine V.aloadK_n d_Law_1227 rfl ?_
  refine V.iload_n d_Law_1228 rfl ?_
  refine V.iconst_ (nI 2) d_Law_1229 (by decide +kernel) ?_
  refine V.addN d_Law_1230 ?_
  refine V.ialdX rfl d_Law_1231 (hin 2 (by decide)) ?_
  refine V.aloadK_n d_Law_1232 rfl ?_
  refine V.iload_n d_Law_1233 rfl ?_
  refine V.iconst_ (nI 3) d_Law_1234 (by decide +kernel) ?_
  refine V.addN d_Law_1235 ?_
  refine V.ialdX rfl d_Law_1236 (hin 3 (by decide)) ?_
  refine V.callV3 d_Law_1237 k_Law_143_Mo_sheet_MoV hfs (Nat.le_of_ble_eq_true rfl) (by omega) (by omega) (hJ _ (fun R1 W1 Z1 T1 kn1 D1 A1 S1 hR1 => ?_))
  exact V.icmp_eq (tgt := 1505) d_Law_1240 (by decide) (fun _ => K R1 W1 Z1 T1 kn1 n1 D1 A1 S1 _ _ hR1 (by omega) (by omega)) (fun z => absurd rfl z)
theorem kB_F_put : kB M_F_put 3 := ⟨tm 1 (by decide +kernel) rfl, tm 996 (by decide +kernel) rfl, ⟨by decide, by decide, by decide +kernel⟩, by decide⟩
theorem k_Law_144_F_put_FV : kV "FelledByNamesLaw" 144 0 M_F_put 3 := ⟨kB_F_put, tm 993 (by decide +kernel) rfl, tm 994 (by decide +kernel) rfl, tm 995 (by decide +kernel) rfl, _, rfl, rfl⟩
theorem kB_Mo_put : kB M_Mo_put 3 := ⟨tm 15 (by decide +kernel) rfl, tm 1461 (by decide +kernel) rfl, ⟨by decide, by decide, by decide +kernel⟩, by decide⟩
theorem k_Law_147_Mo_put_MoV : kV "FelledByNamesLaw" 147 5 M_Mo_put 3 := ⟨kB_Mo_put, tm 1458 (by decide +kernel) rfl, tm 1459 (by decide +kernel) rfl, tm 1460 (by decide +kernel) rfl, _, rfl, rfl⟩
set_option maxRecDepth 10000 in
theorem lw_c31 {l : Launch} {d m n c s i L : Nat} {xs : Nat → Int32} {R W Z : Nat → Nat → Int32} {T : Nat → Nat → Nat} {kn : Kn} {D : Nat → Int32} {A : Nat → Nat → Int32} {S : Nat → Int32} {Q : QT} (hR : Rel m R W Z T kn n D A S) (hm : m < 2 ^ 25) (hi : i + 6 ≤ L) (hL : L ≤ 3072) (hc : c + 9 ≤ 600000) (hs : s + 13364 ≤ 7302250) (K : ∀ (R1 W1 Z1 : Nat → Nat → Int32) (T1 : Nat → Nat → Nat) (kn1 : Kn) (n1 : Nat) (D1 : Nat → Int32) (A1 : Nat → Nat → Int32) (S1 : Nat → Int32) (c1 s1 : Nat), Rel (m + 40000) R1 W1 Z1 T1 kn1 n1 D1 A1 S1 → c1 ≤ c + 9 → s1 ≤ s + 13364 → V l (M_Law L xs) (d + 61) 600000 7302250 1505 [(0, .float 200), (1, .ref 0), (2, .ref 88), (3, .int (nI i))] [] n1 (co R1 W1 Z1 T1 kn1 (mo 88 D1 A1 S1 hN)) c1 s1 Q) : V l (M_Law L xs) (d + 61) 600000 7302250 1245 [(0, .float 200), (1, .ref 0), (2, .ref 88), (3, .int (nI i))] [] n (co R W Z T kn (mo 88 D A S hN)) c s Q := by
  have hin : ∀ k, k < 6 → vp_in (nI (i + k)) L := fun k hk => vin_N (by omega) (by omega)
  refine V.aload_n d_Law_1245 rfl ?_
  refine V.aloadK_n d_Law_1246 rfl ?_
  refine V.iload_n d_Law_1247 rfl ?_
  refine V.iconst_ (nI 1) d_Law_1248 (by decide +kernel) ?_
  refine V.addN d_Law_1249 ?_
  refine V.ialdX rfl d_Law_1250 (hin 1 (by decide)) ?_
  refine V.aloadK_n d_Law_1251 rfl ?_
  refine V.iload_n d_Law_1252 rfl ?_
  refine V.iconst_ (nI 2) d_Law_1253 (by decide +kernel) ?_
  refine V.addN d_Law_1254 ?_
  refine V.ialdX rfl d_Law_1255 (hin 2 (by decide)) ?_
  refine V.aloadK_n d_Law_1256 rfl ?_
  refine V.iload_n d_Law_1257 rfl ?_
  refine V.iconst_ (nI 3) d_Law_1258 (by decide +kernel) ?_
  refine V.addN d_Law_1259 ?_
  refine V.ialdX rfl d_Law_1260 (hin 3 (by decide)) ?_
  refine V.callV3 d_Law_1261 k_Law_144_F_put_FV (co_s sc_ob) (Nat.le_of_ble_eq_true rfl) (by omega) (by omega) ((j_put hR).mono (fun r n1 h1 hJ => ?_))
  obtain ⟨⟨v, rfl⟩, ⟨fs, hfs⟩, hJ⟩ := hJ
  refine V.aload_n d_Law_1264 rfl ?_
  refine V.aloadK_n d_Law_1265 rfl ?_
  refine V.iload_n d_Law_1266 rfl ?_
  refine V.iconst_ (nI 1) d_Law_1267 (by decide +kernel) ?_
  refine V.addN d_Law_1268 ?_
  refine V.ialdX rfl d_Law_1269 (hin 1 (by decide)) ?_
  refine V.aloadK_n d_Law_1270 rfl ?_
  refine V.iload_n d_Law_1271 rfl ?_
  refine V.iconst_ (nI 2) d_Law_1272 (by decide +kernel) ?_
  refine V.addN d_Law_1273 ?_
  refine V.ialdX rfl d_Law_1274 (hin 2 (by decide)) ?_
  refine V.aloadK_n d_Law_1275 rfl ?_
  refine V.iload_n d_Law_1276 rfl ?_
  refine V.iconst_ (nI 3) d_Law_1277 (by decide +kernel) ?_
  refine V.addN d_Law_1278 ?_
  refine V.ialdX rfl d_Law_1279 (hin 3 (by decide)) ?_
  refine V.callV3 d_Law_1280 k_Law_147_Mo_put_MoV hfs (Nat.le_of_ble_eq_true rfl) (by omega) (by omega) (hJ _ (fun R1 W1 Z1 T1 kn1 D1 A1 S1 hR1 => ?_))
  exact V.icmp_eq (tgt := 1505) d_Law_1283 (by decide) (fun _ => K R1 W1 Z1 T1 kn1 n1 D1 A1 S1 _ _ hR1 (by omega) (by omega)) (fun z => absurd rfl z)
theorem kB_F_move : kB M_F_move 5 := ⟨tm 1 (by decide +kernel) rfl, tm 1008 (by decide +kernel) rfl, ⟨by decide, by decide, by decide +kernel⟩, by decide⟩
theorem k_Law_148_F_move_FV : kV "FelledByNamesLaw" 148 0 M_F_move 5 := ⟨kB_F_move, tm 1005 (by decide +kernel) rfl, tm 1006 (by decide +kernel) rfl, tm 1007 (by decide +kernel) rfl, _, rfl, rfl⟩
theorem kB_Mo_move : kB M_Mo_move 5 := ⟨tm 15 (by decide +kernel) rfl, tm 1465 (by decide +kernel) rfl, ⟨by decide, by decide, by decide +kernel⟩, by decide⟩
theorem k_Law_152_Mo_move_MoV : kV "FelledByNamesLaw" 152 5 M_Mo_move 5 := ⟨kB_Mo_move, tm 1462 (by decide +kernel) rfl, tm 1463 (by decide +kernel) rfl, tm 1464 (by decide +kernel) rfl, _, rfl, rfl⟩
set_option maxRecDepth 10000 in
theorem lw_c32 {l : Launch} {d m n c s i L : Nat} {xs : Nat → Int32} {R W Z : Nat → Nat → Int32} {T : Nat → Nat → Nat} {kn : Kn} {D : Nat → Int32} {A : Nat → Nat → Int32} {S : Nat → Int32} {Q : QT} (hR : Rel m R W Z T kn n D A S) (hm : m < 2 ^ 25) (hi : i + 6 ≤ L) (hL : L ≤ 3072) (hc : c + 9 ≤ 600000) (hs : s + 13364 ≤ 7302250) (K : ∀ (R1 W1 Z1 : Nat → Nat → Int32) (T1 : Nat → Nat → Nat) (kn1 : Kn) (n1 : Nat) (D1 : Nat → Int32) (A1 : Nat → Nat → Int32) (S1 : Nat → Int32) (c1 s1 : Nat), Rel (m + 40000) R1 W1 Z1 T1 kn1 n1 D1 A1 S1 → c1 ≤ c + 9 → s1 ≤ s + 13364 → V l (M_Law L xs) (d + 61) 600000 7302250 1505 [(0, .float 200), (1, .ref 0), (2, .ref 88), (3, .int (nI i))] [] n1 (co R1 W1 Z1 T1 kn1 (mo 88 D1 A1 S1 hN)) c1 s1 Q) : V l (M_Law L xs) (d + 61) 600000 7302250 1288 [(0, .float 200), (1, .ref 0), (2, .ref 88), (3, .int (nI i))] [] n (co R W Z T kn (mo 88 D A S hN)) c s Q := by
  have hin : ∀ k, k < 6 → vp_in (nI (i + k)) L := fun k hk => vin_N (by omega) (by omega)
  refine V.aload_n d_Law_1288 rfl ?_
  refine V.aloadK_n d_Law_1289 rfl ?_
  refine V.iload_n d_Law_1290 rfl ?_
  refine V.iconst_ (nI 1) d_Law_1291 (by decide +kernel) ?_
  refine V.addN d_Law_1292 ?_
  refine V.ialdX rfl d_Law_1293 (hin 1 (by decide)) ?_
  refine V.aloadK_n d_Law_1294 rfl ?_
  refine V.iload_n d_Law_1295 rfl ?_
  refine V.iconst_ (nI 2) d_Law_1296 (by decide +kernel) ?_
  refine V.addN d_Law_1297 ?_
  refine V.ialdX rfl d_Law_1298 (hin 2 (by decide)) ?_
  refine V.aloadK_n d_Law_1299 rfl ?_
  refine V.iload_n d_Law_1300 rfl ?_
  refine V.iconst_ (nI 3) d_Law_1301 (by decide +kernel) ?_
  refine V.addN d_Law_1302 ?_
  refine V.ialdX rfl d_Law_1303 (hin 3 (by decide)) ?_
  refine V.aloadK_n d_Law_1304 rfl ?_
  refine V.iload_n d_Law_1305 rfl ?_
  refine V.iconst_ (nI 4) d_Law_1306 (by decide +kernel) ?_
  refine V.addN d_Law_1307 ?_
  refine V.ialdX rfl d_Law_1308 (hin 4 (by decide)) ?_
  refine V.aloadK_n d_Law_1309 rfl ?_
  refine V.iload_n d_Law_1310 rfl ?_
  refine V.iconst_ (nI 5) d_Law_1311 (by decide +kernel) ?_
  refine V.addN d_Law_1312 ?_
  refine V.ialdX rfl d_Law_1313 (hin 5 (by decide)) ?_
  refine V.callV5 d_Law_1314 k_Law_148_F_move_FV (co_s sc_ob) (Nat.le_of_ble_eq_true rfl) (by omega) (by omega) ((j_move hR).mono (fun r n1 h1 hJ => ?_))
  obtain ⟨⟨v, rfl⟩, ⟨fs, hfs⟩, hJ⟩ := hJ
  refine V.aload_n d_Law_1317 rfl ?_
  refine V.aloadK_n d_Law_1318 rfl ?_
  refine V.iload_n d_Law_1319 rfl ?_
  refine V.iconst_ (nI 1) d_Law_1320 (by decide +kernel) ?_
  refine V.addN d_Law_1321 ?_
  refine V.ialdX rfl d_Law_1322 (hin 1 (by decide)) ?_
  refine V.aloadK_n d_Law_1323 rfl ?_
  refine V.iload_n d_Law_1324 rfl ?_
  refine V.iconst_ (nI 2) d_Law_1325 (by decide +kernel) ?_
  refine V.addN d_Law_1326 ?_
  refine V.ialdX rfl d_Law_1327 (hin 2 (by decide)) ?_
  refine V.aloadK_n d_Law_1328 rfl ?_
  refine V.iload_n d_Law_1329 rfl ?_
  refine V.iconst_ (nI 3) d_Law_1330 (by decide +kernel) ?_
  refine V.addN d_Law_1331 ?_
  refine V.ialdX rfl d_Law_1332 (hin 3 (by decide)) ?_
  refine V.aloadK_n d_Law_1333 rfl ?_
  refine V.iload_n d_Law_1334 rfl ?_
  refine V.iconst_ (nI 4) d_Law_1335 (by decide +kernel) ?_
  refine V.addN d_Law_1336 ?_
  refine V.ialdX rfl d_Law_1337 (hin 4 (by decide)) ?_
  refine V.aloadK_n d_Law_1338 rfl ?_
  refine V.iload_n d_Law_1339 rfl ?_
  refine V.iconst_ (nI 5) d_Law_1340 (by decide +kernel) ?_
  refine V.addN d_Law_1341 ?_
  refine V.ialdX rfl d_Law_1342 (hin 5 (by decide)) ?_
  refine V.callV5 d_Law_1343 k_Law_152_Mo_move_MoV hfs (Nat.le_of_ble_eq_true rfl) (by omega) (by omega) (hJ _ (fun R1 W1 Z1 T1 kn1 D1 A1 S1 hR1 => ?_))
  exact V.icmp_eq (tgt := 1505) d_Law_1346 (by decide) (fun _ => K R1 W1 Z1 T1 kn1 n1 D1 A1 S1 _ _ hR1 (by omega) (by omega)) (fun z => absurd rfl z)
theorem kB_F_talks : kB M_F_talks 1 := ⟨tm 1 (by decide +kernel) rfl, tm 1017 (by decide +kernel) rfl, ⟨by decide, by decide, by decide +kernel⟩, by decide⟩
theorem k_Law_153_F_talks_FV : kV "FelledByNamesLaw" 153 0 M_F_talks 1 := ⟨kB_F_talks, tm 1014 (by decide +kernel) rfl, tm 1015 (by decide +kernel) rfl, tm 1016 (by decide +kernel) rfl, _, rfl, rfl⟩
theorem kB_Mo_talks : kB M_Mo_talks 1 := ⟨tm 15 (by decide +kernel) rfl, tm 1469 (by decide +kernel) rfl, ⟨by decide, by decide, by decide +kernel⟩, by decide⟩
theorem k_Law_156_Mo_talks_MoV : kV "FelledByNamesLaw" 156 5 M_Mo_talks 1 := ⟨kB_Mo_talks, tm 1466 (by decide +kernel) rfl, tm 1467 (by decide +kernel) rfl, tm 1468 (by decide +kernel) rfl, _, rfl, rfl⟩
set_option maxRecDepth 10000 in
theorem lw_c33 {l : Launch} {d m n c s i L : Nat} {xs : Nat → Int32} {R W Z : Nat → Nat → Int32} {T : Nat → Nat → Nat} {kn : Kn} {D : Nat → Int32} {A : Nat → Nat → Int32} {S : Nat → Int32} {Q : QT} (hR : Rel m R W Z T kn n D A S) (hm : m < 2 ^ 25) (hi : i + 6 ≤ L) (hL : L ≤ 3072) (hc : c + 9 ≤ 600000) (hs : s + 13364 ≤ 7302250) (K : ∀ (R1 W1 Z1 : Nat → Nat → Int32) (T1 : Nat → Nat → Nat) (kn1 : Kn) (n1 : Nat) (D1 : Nat → Int32) (A1 : Nat → Nat → Int32) (S1 : Nat → Int32) (c1 s1 : Nat), Rel (m + 40000) R1 W1 Z1 T1 kn1 n1 D1 A1 S1 → c1 ≤ c + 9 → s1 ≤ s + 13364 → V l (M_Law L xs) (d + 61) 600000 7302250 1505 [(0, .float 200), (1, .ref 0), (2, .ref 88), (3, .int (nI i))] [] n1 (co R1 W1 Z1 T1 kn1 (mo 88 D1 A1 S1 hN)) c1 s1 Q) : V l (M_Law L xs) (d + 61) 600000 7302250 1351 [(0, .float 200), (1, .ref 0), (2, .ref 88), (3, .int (nI i))] [] n (co R W Z T kn (mo 88 D A S hN)) c s Q := by
  have hin : ∀ k, k < 6 → vp_in (nI (i + k)) L := fun k hk => vin_N (by omega) (by omega)
  refine V.aload_n d_Law_1351 rfl ?_
  refine V.aloadK_n d_Law_1352 rfl ?_
  refine V.iload_n d_Law_1353 rfl ?_
  refine V.iconst_ (nI 1) d_Law_1354 (by decide +kernel) ?_
  refine V.addN d_Law_1355 ?_
  refine V.ialdX rfl d_Law_1356 (hin 1 (by decide)) ?_
  refine V.callV1 d_Law_1357 k_Law_153_F_talks_FV (co_s sc_ob) (Nat.le_of_ble_eq_true rfl) (by omega) (by omega) ((j_talks hR).mono (fun r n1 h1 hJ => ?_))
  obtain ⟨⟨v, rfl⟩, ⟨fs, hfs⟩, hJ⟩ := hJ
  refine V.aload_n d_Law_1360 rfl ?_
  refine V.aloadK_n d_Law_1361 rfl ?_
  refine V.iload_n d_Law_1362 rfl ?_
  refine V.iconst_ (nI 1) d_Law_1363 (by decide +kernel) ?_
  refine V.addN d_Law_1364 ?_
  refine V.ialdX rfl d_Law_1365 (hin 1 (by decide)) ?_
  refine V.callV1 d_Law_1366 k_Law_156_Mo_talks_MoV hfs (Nat.le_of_ble_eq_true rfl) (by omega) (by omega) (hJ _ (fun R1 W1 Z1 T1 kn1 D1 A1 S1 hR1 => ?_))
  exact V.icmp_eq (tgt := 1505) d_Law_1369 (by decide) (fun _ => K R1 W1 Z1 T1 kn1 n1 D1 A1 S1 _ _ hR1 (by omega) (by omega)) (fun z => absurd rfl z)
theorem kB_F_judge : kB M_F_judge 1 := ⟨tm 1 (by decide +kernel) rfl, tm 1021 (by decide +kernel) rfl, ⟨by decide, by decide, by decide +kernel⟩, by decide⟩
theorem k_Law_157_F_judge_FV : kV "FelledByNamesLaw" 157 0 M_F_judge 1 := ⟨kB_F_judge, tm 1018 (by decide +kernel) rfl, tm 1019 (by decide +kernel) rfl, tm 1020 (by decide +kernel) rfl, _, rfl, rfl⟩
theorem kB_Mo_judge : kB M_Mo_judge 1 := ⟨tm 15 (by decide +kernel) rfl, tm 1473 (by decide +kernel) rfl, ⟨by decide, by decide, by decide +kernel⟩, by decide⟩
theorem k_Law_160_Mo_judge_MoV : kV "FelledByNamesLaw" 160 5 M_Mo_judge 1 := ⟨kB_Mo_judge, tm 1470 (by decide +kernel) rfl, tm 1471 (by decide +kernel) rfl, tm 1472 (by decide +kernel) rfl, _, rfl, rfl⟩
set_option maxRecDepth 10000 in
theorem lw_c34 {l : Launch} {d m n c s i L : Nat} {xs : Nat → Int32} {R W Z : Nat → Nat → Int32} {T : Nat → Nat → Nat} {kn : Kn} {D : Nat → Int32} {A : Nat → Nat → Int32} {S : Nat → Int32} {Q : QT} (hR : Rel m R W Z T kn n D A S) (hm : m < 2 ^ 25) (hi : i + 6 ≤ L) (hL : L ≤ 3072) (hc : c + 9 ≤ 600000) (hs : s + 13364 ≤ 7302250) (K : ∀ (R1 W1 Z1 : Nat → Nat → Int32) (T1 : Nat → Nat → Nat) (kn1 : Kn) (n1 : Nat) (D1 : Nat → Int32) (A1 : Nat → Nat → Int32) (S1 : Nat → Int32) (c1 s1 : Nat), Rel (m + 40000) R1 W1 Z1 T1 kn1 n1 D1 A1 S1 → c1 ≤ c + 9 → s1 ≤ s + 13364 → V l (M_Law L xs) (d + 61) 600000 7302250 1505 [(0, .float 200), (1, .ref 0), (2, .ref 88), (3, .int (nI i))] [] n1 (co R1 W1 Z1 T1 kn1 (mo 88 D1 A1 S1 hN)) c1 s1 Q) : V l (M_Law L xs) (d + 61) 600000 7302250 1374 [(0, .float 200), (1, .ref 0), (2, .ref 88), (3, .int (nI i))] [] n (co R W Z T kn (mo 88 D A S hN)) c s Q := by
  have hin : ∀ k, k < 6 → vp_in (nI (i + k)) L := fun k hk => vin_N (by omega) (by omega)
  refine V.aload_n d_Law_1374 rfl ?_
  refine V.aloadK_n d_Law_1375 rfl ?_
  refine V.iload_n d_Law_1376 rfl ?_
  refine V.iconst_ (nI 1) d_Law_1377 (by decide +kernel) ?_
  refine V.addN d_Law_1378 ?_
  refine V.ialdX rfl d_Law_1379 (hin 1 (by decide)) ?_
  refine V.callV1 d_Law_1380 k_Law_157_F_judge_FV (co_s sc_ob) (Nat.le_of_ble_eq_true rfl) (by omega) (by omega) ((j_judge hR).mono (fun r n1 h1 hJ => ?_))
  obtain ⟨⟨v, rfl⟩, ⟨fs, hfs⟩, hJ⟩ := hJ
  refine V.aload_n d_Law_1383 rfl ?_
  refine V.aloadK_n d_Law_1384 rfl ?_
  refine V.iload_n d_Law_1385 rfl ?_
  refine V.iconst_ (nI 1) d_Law_1386 (by decide +kernel) ?_
  refine V.addN d_Law_1387 ?_
  refine V.ialdX rfl d_Law_1388 (hin 1 (by decide)) ?_
  refine V.callV1 d_Law_1389 k_Law_160_Mo_judge_MoV hfs (Nat.le_of_ble_eq_true rfl) (by omega) (by omega) (hJ _ (fun R1 W1 Z1 T1 kn1 D1 A1 S1 hR1 => ?_))
  exact V.icmp_eq (tgt := 1505) d_Law_1392 (by decide) (fun _ => K R1 W1 Z1 T1 kn1 n1 D1 A1 S1 _ _ hR1 (by omega) (by omega)) (fun z => absurd rfl z)
theorem kB_F_image : kB M_F_image 0 := ⟨tm 1 (by decide +kernel) rfl, tm 1025 (by decide +kernel) rfl, ⟨by decide, by decide, by decide +kernel⟩, by decide⟩
theorem k_Law_161_F_image_FV : kV "FelledByNamesLaw" 161 0 M_F_image 0 := ⟨kB_F_image, tm 1022 (by decide +kernel) rfl, tm 1023 (by decide +kernel) rfl, tm 1024 (by decide +kernel) rfl, _, rfl, rfl⟩
theorem kB_Mo_image : kB M_Mo_image 0 := ⟨tm 15 (by decide +kernel) rfl, tm 1477 (by decide +kernel) rfl, ⟨by decide, by decide, by decide +kernel⟩, by decide⟩
theorem k_Law_165_Mo_image_MoV : kV "FelledByNamesLaw" 165 5 M_Mo_image 0 := ⟨kB_Mo_image, tm 1474 (by decide +kernel) rfl, tm 1475 (by decide +kernel) rfl, tm 1476 (by decide +kernel) rfl, _, rfl, rfl⟩
set_option maxRecDepth 10000 in
theorem lw_c35 {l : Launch} {d m n c s i L : Nat} {xs : Nat → Int32} {R W Z : Nat → Nat → Int32} {T : Nat → Nat → Nat} {kn : Kn} {D : Nat → Int32} {A : Nat → Nat → Int32} {S : Nat → Int32} {Q : QT} (hR : Rel m R W Z T kn n D A S) (hm : m < 2 ^ 25) (hi : i + 6 ≤ L) (hL : L ≤ 3072) (hc : c + 9 ≤ 600000) (hs : s + 13364 ≤ 7302250) (K : ∀ (R1 W1 Z1 : Nat → Nat → Int32) (T1 : Nat → Nat → Nat) (kn1 : Kn) (n1 : Nat) (D1 : Nat → Int32) (A1 : Nat → Nat → Int32) (S1 : Nat → Int32) (c1 s1 : Nat), Rel (m + 40000) R1 W1 Z1 T1 kn1 n1 D1 A1 S1 → c1 ≤ c + 9 → s1 ≤ s + 13364 → V l (M_Law L xs) (d + 61) 600000 7302250 1505 [(0, .float 200), (1, .ref 0), (2, .ref 88), (3, .int (nI i))] [] n1 (co R1 W1 Z1 T1 kn1 (mo 88 D1 A1 S1 hN)) c1 s1 Q) : V l (M_Law L xs) (d + 61) 600000 7302250 1397 [(0, .float 200), (1, .ref 0), (2, .ref 88), (3, .int (nI i))] [] n (co R W Z T kn (mo 88 D A S hN)) c s Q := by
  have hin : ∀ k, k < 6 → vp_in (nI (i + k)) L := fun k hk => vin_N (by omega) (by omega)
  refine V.aload_n d_Law_1397 rfl ?_
  refine V.callV0 d_Law_1398 k_Law_161_F_image_FV (co_s sc_ob) (Nat.le_of_ble_eq_true rfl) (by omega) (by omega) ((j_image hR).mono (fun r n1 h1 hJ => ?_))
  obtain ⟨⟨v, rfl⟩, ⟨fs, hfs⟩, hJ⟩ := hJ
  refine V.aload_n d_Law_1401 rfl ?_
  refine V.callV0 d_Law_1402 k_Law_165_Mo_image_MoV hfs (Nat.le_of_ble_eq_true rfl) (by omega) (by omega) (hJ _ (fun R1 W1 Z1 T1 kn1 D1 A1 S1 hR1 => ?_))
  exact V.icmp_eq (tgt := 1505) d_Law_1405 (by decide) (fun _ => K R1 W1 Z1 T1 kn1 n1 D1 A1 S1 _ _ hR1 (by omega) (by omega)) (fun z => absurd rfl z)
theorem kB_F_restore : kB M_F_restore 0 := ⟨tm 1 (by decide +kernel) rfl, tm 1031 (by decide +kernel) rfl, ⟨by decide, by decide, by decide +kernel⟩, by decide⟩
theorem k_Law_166_F_restore_FV : kV "FelledByNamesLaw" 166 0 M_F_restore 0 := ⟨kB_F_restore, tm 1028 (by decide +kernel) rfl, tm 1029 (by decide +kernel) rfl, tm 1030 (by decide +kernel) rfl, _, rfl, rfl⟩
theorem kB_Mo_restore : kB M_Mo_restore 0 := ⟨tm 15 (by decide +kernel) rfl, tm 1481 (by decide +kernel) rfl, ⟨by decide, by decide, by decide +kernel⟩, by decide⟩
theorem k_Law_169_Mo_restore_MoV : kV "FelledByNamesLaw" 169 5 M_Mo_restore 0 := ⟨kB_Mo_restore, tm 1478 (by decide +kernel) rfl, tm 1479 (by decide +kernel) rfl, tm 1480 (by decide +kernel) rfl, _, rfl, rfl⟩
set_option maxRecDepth 10000 in
theorem lw_c36 {l : Launch} {d m n c s i L : Nat} {xs : Nat → Int32} {R W Z : Nat → Nat → Int32} {T : Nat → Nat → Nat} {kn : Kn} {D : Nat → Int32} {A : Nat → Nat → Int32} {S : Nat → Int32} {Q : QT} (hR : Rel m R W Z T kn n D A S) (hm : m < 2 ^ 25) (hi : i + 6 ≤ L) (hL : L ≤ 3072) (hc : c + 9 ≤ 600000) (hs : s + 13364 ≤ 7302250) (K : ∀ (R1 W1 Z1 : Nat → Nat → Int32) (T1 : Nat → Nat → Nat) (kn1 : Kn) (n1 : Nat) (D1 : Nat → Int32) (A1 : Nat → Nat → Int32) (S1 : Nat → Int32) (c1 s1 : Nat), Rel (m + 40000) R1 W1 Z1 T1 kn1 n1 D1 A1 S1 → c1 ≤ c + 9 → s1 ≤ s + 13364 → V l (M_Law L xs) (d + 61) 600000 7302250 1505 [(0, .float 200), (1, .ref 0), (2, .ref 88), (3, .int (nI i))] [] n1 (co R1 W1 Z1 T1 kn1 (mo 88 D1 A1 S1 hN)) c1 s1 Q) : V l (M_Law L xs) (d + 61) 600000 7302250 1410 [(0, .float 200), (1, .ref 0), (2, .ref 88), (3, .int (nI i))] [] n (co R W Z T kn (mo 88 D A S hN)) c s Q := by
  have hin : ∀ k, k < 6 → vp_in (nI (i + k)) L := fun k hk => vin_N (by omega) (by omega)
  refine V.aload_n d_Law_1410 rfl ?_
  refine V.callV0 d_Law_1411 k_Law_166_F_restore_FV (co_s sc_ob) (Nat.le_of_ble_eq_true rfl) (by omega) (by omega) ((j_restore hR).mono (fun r n1 h1 hJ => ?_))
  obtain ⟨⟨v, rfl⟩, ⟨fs, hfs⟩, hJ⟩ := hJ
  refine V.aload_n d_Law_1414 rfl ?_
  refine V.callV0 d_Law_1415 k_Law_169_Mo_restore_MoV hfs (Nat.le_of_ble_eq_true rfl) (by omega) (by omega) (hJ _ (fun R1 W1 Z1 T1 kn1 D1 A1 S1 hR1 => ?_))
  exact V.icmp_eq (tgt := 1505) d_Law_1418 (by decide) (fun _ => K R1 W1 Z1 T1 kn1 n1 D1 A1 S1 _ _ hR1 (by omega) (by omega)) (fun z => absurd rfl z)
theorem kB_F_tell : kB M_F_tell 1 := ⟨tm 1 (by decide +kernel) rfl, tm 1036 (by decide +kernel) rfl, ⟨by decide, by decide, by decide +kernel⟩, by decide⟩
theorem k_Law_170_F_tell_FV : kV "FelledByNamesLaw" 170 0 M_F_tell 1 := ⟨kB_F_tell, tm 1033 (by decide +kernel) rfl, tm 1034 (by decide +kernel) rfl, tm 1035 (by decide +kernel) rfl, _, rfl, rfl⟩
theorem kB_Mo_tell : kB M_Mo_tell 1 := ⟨tm 15 (by decide +kernel) rfl, tm 1485 (by decide +kernel) rfl, ⟨by decide, by decide, by decide +kernel⟩, by decide⟩
theorem k_Law_173_Mo_tell_MoV : kV "FelledByNamesLaw" 173 5 M_Mo_tell 1 := ⟨kB_Mo_tell, tm 1482 (by decide +kernel) rfl, tm 1483 (by decide +kernel) rfl, tm 1484 (by decide +kernel) rfl, _, rfl, rfl⟩
set_option maxRecDepth 10000 in
theorem lw_c37 {l : Launch} {d m n c s i L : Nat} {xs : Nat → Int32} {R W Z : Nat → Nat → Int32} {T : Nat → Nat → Nat} {kn : Kn} {D : Nat → Int32} {A : Nat → Nat → Int32} {S : Nat → Int32} {Q : QT} (hR : Rel m R W Z T kn n D A S) (hm : m < 2 ^ 25) (hi : i + 6 ≤ L) (hL : L ≤ 3072) (hc : c + 9 ≤ 600000) (hs : s + 13364 ≤ 7302250) (K : ∀ (R1 W1 Z1 : Nat → Nat → Int32) (T1 : Nat → Nat → Nat) (kn1 : Kn) (n1 : Nat) (D1 : Nat → Int32) (A1 : Nat → Nat → Int32) (S1 : Nat → Int32) (c1 s1 : Nat), Rel (m + 40000) R1 W1 Z1 T1 kn1 n1 D1 A1 S1 → c1 ≤ c + 9 → s1 ≤ s + 13364 → V l (M_Law L xs) (d + 61) 600000 7302250 1505 [(0, .float 200), (1, .ref 0), (2, .ref 88), (3, .int (nI i))] [] n1 (co R1 W1 Z1 T1 kn1 (mo 88 D1 A1 S1 hN)) c1 s1 Q) : V l (M_Law L xs) (d + 61) 600000 7302250 1423 [(0, .float 200), (1, .ref 0), (2, .ref 88), (3, .int (nI i))] [] n (co R W Z T kn (mo 88 D A S hN)) c s Q := by
  have hin : ∀ k, k < 6 → vp_in (nI (i + k)) L := fun k hk => vin_N (by omega) (by omega)
  refine V.aload_n d_Law_1423 rfl ?_
  refine V.aloadK_n d_Law_1424 rfl ?_
  refine V.iload_n d_Law_1425 rfl ?_
  refine V.iconst_ (nI 1) d_Law_1426 (by decide +kernel) ?_
  refine V.addN d_Law_1427 ?_
  refine V.ialdX rfl d_Law_1428 (hin 1 (by decide)) ?_
  refine V.callV1 d_Law_1429 k_Law_170_F_tell_FV (co_s sc_ob) (Nat.le_of_ble_eq_true rfl) (by omega) (by omega) ((j_tell hR).mono (fun r n1 h1 hJ => ?_))
  obtain ⟨⟨v, rfl⟩, ⟨fs, hfs⟩, hJ⟩ := hJ
  refine V.aload_n d_Law_1432 rfl ?_
  refine V.aloadK_n d_Law_1433 rfl ?_
  refine V.iload_n d_Law_1434 rfl ?_
  refine V.iconst_ (nI 1) d_Law_1435 (by decide +kernel) ?_
  refine V.addN d_Law_1436 ?_
  refine V.ialdX rfl d_Law_1437 (hin 1 (by decide)) ?_
  refine V.callV1 d_Law_1438 k_Law_173_Mo_tell_MoV hfs (Nat.le_of_ble_eq_true rfl) (by omega) (by omega) (hJ _ (fun R1 W1 Z1 T1 kn1 D1 A1 S1 hR1 => ?_))
  exact V.icmp_eq (tgt := 1505) d_Law_1441 (by decide) (fun _ => K R1 W1 Z1 T1 kn1 n1 D1 A1 S1 _ _ hR1 (by omega) (by omega)) (fun z => absurd rfl z)
theorem kB_F_check : kB M_F_check 0 := ⟨tm 1 (by decide +kernel) rfl, tm 1040 (by decide +kernel) rfl, ⟨by decide, by decide, by decide +kernel⟩, by decide⟩
theorem k_Law_174_F_check_FV : kV "FelledByNamesLaw" 174 0 M_F_check 0 := ⟨kB_F_check, tm 1037 (by decide +kernel) rfl, tm 1038 (by decide +kernel) rfl, tm 1039 (by decide +kernel) rfl, _, rfl, rfl⟩
theorem kB_Mo_check : kB M_Mo_check 0 := ⟨tm 15 (by decide +kernel) rfl, tm 1489 (by decide +kernel) rfl, ⟨by decide, by decide, by decide +kernel⟩, by decide⟩
theorem k_Law_177_Mo_check_MoV : kV "FelledByNamesLaw" 177 5 M_Mo_check 0 := ⟨kB_Mo_check, tm 1486 (by decide +kernel) rfl, tm 1487 (by decide +kernel) rfl, tm 1488 (by decide +kernel) rfl, _, rfl, rfl⟩
set_option maxRecDepth 10000 in
theorem lw_c38 {l : Launch} {d m n c s i L : Nat} {xs : Nat → Int32} {R W Z : Nat → Nat → Int32} {T : Nat → Nat → Nat} {kn : Kn} {D : Nat → Int32} {A : Nat → Nat → Int32} {S : Nat → Int32} {Q : QT} (hR : Rel m R W Z T kn n D A S) (hm : m < 2 ^ 25) (hi : i + 6 ≤ L) (hL : L ≤ 3072) (hc : c + 9 ≤ 600000) (hs : s + 13364 ≤ 7302250) (K : ∀ (R1 W1 Z1 : Nat → Nat → Int32) (T1 : Nat → Nat → Nat) (kn1 : Kn) (n1 : Nat) (D1 : Nat → Int32) (A1 : Nat → Nat → Int32) (S1 : Nat → Int32) (c1 s1 : Nat), Rel (m + 40000) R1 W1 Z1 T1 kn1 n1 D1 A1 S1 → c1 ≤ c + 9 → s1 ≤ s + 13364 → V l (M_Law L xs) (d + 61) 600000 7302250 1505 [(0, .float 200), (1, .ref 0), (2, .ref 88), (3, .int (nI i))] [] n1 (co R1 W1 Z1 T1 kn1 (mo 88 D1 A1 S1 hN)) c1 s1 Q) : V l (M_Law L xs) (d + 61) 600000 7302250 1446 [(0, .float 200), (1, .ref 0), (2, .ref 88), (3, .int (nI i))] [] n (co R W Z T kn (mo 88 D A S hN)) c s Q := by
  have hin : ∀ k, k < 6 → vp_in (nI (i + k)) L := fun k hk => vin_N (by omega) (by omega)
  refine V.aload_n d_Law_1446 rfl ?_
  refine V.callV0 d_Law_1447 k_Law_174_F_check_FV (co_s sc_ob) (Nat.le_of_ble_eq_true rfl) (by omega) (by omega) ((j_check hR hm).mono (fun r n1 h1 hJ => ?_))
  obtain ⟨⟨v, rfl⟩, ⟨fs, hfs⟩, hJ⟩ := hJ
  refine V.aload_n d_Law_1450 rfl ?_
  refine V.callV0 d_Law_1451 k_Law_177_Mo_check_MoV hfs (Nat.le_of_ble_eq_true rfl) (by omega) (by omega) (hJ _ (fun R1 W1 Z1 T1 kn1 D1 A1 S1 hR1 => ?_))
  exact V.icmp_eq (tgt := 1505) d_Law_1454 (by decide) (fun _ => K R1 W1 Z1 T1 kn1 n1 D1 A1 S1 _ _ hR1 (by omega) (by omega)) (fun z => absurd rfl z)
theorem kB_F_count : kB M_F_count 1 := ⟨tm 1 (by decide +kernel) rfl, tm 1044 (by decide +kernel) rfl, ⟨by decide, by decide, by decide +kernel⟩, by decide⟩
theorem k_Law_178_F_count_FV : kV "FelledByNamesLaw" 178 0 M_F_count 1 := ⟨kB_F_count, tm 1041 (by decide +kernel) rfl, tm 1042 (by decide +kernel) rfl, tm 1043 (by decide +kernel) rfl, _, rfl, rfl⟩
theorem kB_Mo_count : kB M_Mo_count 1 := ⟨tm 15 (by decide +kernel) rfl, tm 1493 (by decide +kernel) rfl, ⟨by decide, by decide, by decide +kernel⟩, by decide⟩
theorem k_Law_181_Mo_count_MoV : kV "FelledByNamesLaw" 181 5 M_Mo_count 1 := ⟨kB_Mo_count, tm 1490 (by decide +kernel) rfl, tm 1491 (by decide +kernel) rfl, tm 1492 (by decide +kernel) rfl, _, rfl, rfl⟩
set_option maxRecDepth 10000 in
theorem lw_c39 {l : Launch} {d m n c s i L : Nat} {xs : Nat → Int32} {R W Z : Nat → Nat → Int32} {T : Nat → Nat → Nat} {kn : Kn} {D : Nat → Int32} {A : Nat → Nat → Int32} {S : Nat → Int32} {Q : QT} (hR : Rel m R W Z T kn n D A S) (hm : m < 2 ^ 25) (hi : i + 6 ≤ L) (hL : L ≤ 3072) (hc : c + 9 ≤ 600000) (hs : s + 13364 ≤ 7302250) (K : ∀ (R1 W1 Z1 : Nat → Nat → Int32) (T1 : Nat → Nat → Nat) (kn1 : Kn) (n1 : Nat) (D1 : Nat → Int32) (A1 : Nat → Nat → Int32) (S1 : Nat → Int32) (c1 s1 : Nat), Rel (m + 40000) R1 W1 Z1 T1 kn1 n1 D1 A1 S1 → c1 ≤ c + 9 → s1 ≤ s + 13364 → V l (M_Law L xs) (d + 61) 600000 7302250 1505 [(0, .float 200), (1, .ref 0), (2, .ref 88), (3, .int (nI i))] [] n1 (co R1 W1 Z1 T1 kn1 (mo 88 D1 A1 S1 hN)) c1 s1 Q) : V l (M_Law L xs) (d + 61) 600000 7302250 1459 [(0, .float 200), (1, .ref 0), (2, .ref 88), (3, .int (nI i))] [] n (co R W Z T kn (mo 88 D A S hN)) c s Q := by
  have hin : ∀ k, k < 6 → vp_in (nI (i + k)) L := fun k hk => vin_N (by omega) (by omega)
  refine V.aload_n d_Law_1459 rfl ?_
  refine V.aloadK_n d_Law_1460 rfl ?_
  refine V.iload_n d_Law_1461 rfl ?_
  refine V.iconst_ (nI 1) d_Law_1462 (by decide +kernel) ?_
  refine V.addN d_Law_1463 ?_
  refine V.ialdX rfl d_Law_1464 (hin 1 (by decide)) ?_
  refine V.callV1 d_Law_1465 k_Law_178_F_count_FV (co_s sc_ob) (Nat.le_of_ble_eq_true rfl) (by omega) (by omega) ((j_count hR).mono (fun r n1 h1 hJ => ?_))
  obtain ⟨⟨v, rfl⟩, ⟨fs, hfs⟩, hJ⟩ := hJ
  refine V.aload_n d_Law_1468 rfl ?_
  refine V.aloadK_n d_Law_1469 rfl ?_
  refine V.iload_n d_Law_1470 rfl ?_
  refine V.iconst_ (nI 1) d_Law_1471 (by decide +kernel) ?_
  refine V.addN d_Law_1472 ?_
  refine V.ialdX rfl d_Law_1473 (hin 1 (by decide)) ?_
  refine V.callV1 d_Law_1474 k_Law_181_Mo_count_MoV hfs (Nat.le_of_ble_eq_true rfl) (by omega) (by omega) (hJ _ (fun R1 W1 Z1 T1 kn1 D1 A1 S1 hR1 => ?_))
  exact V.icmp_eq (tgt := 1505) d_Law_1477 (by decide) (fun _ => K R1 W1 Z1 T1 kn1 n1 D1 A1 S1 _ _ hR1 (by omega) (by omega)) (fun z => absurd rfl z)
theorem kB_F_told : kB M_F_told 1 := ⟨tm 1 (by decide +kernel) rfl, tm 1052 (by decide +kernel) rfl, ⟨by decide, by decide, by decide +kernel⟩, by decide⟩
theorem k_Law_182_F_told_FV : kV "FelledByNamesLaw" 182 0 M_F_told 1 := ⟨kB_F_told, tm 1049 (by decide +kernel) rfl, tm 1050 (by decide +kernel) rfl, tm 1051 (by decide +kernel) rfl, _, rfl, rfl⟩
theorem kB_Mo_told : kB M_Mo_told 1 := ⟨tm 15 (by decide +kernel) rfl, tm 1497 (by decide +kernel) rfl, ⟨by decide, by decide, by decide +kernel⟩, by decide⟩
theorem k_Law_185_Mo_told_MoV : kV "FelledByNamesLaw" 185 5 M_Mo_told 1 := ⟨kB_Mo_told, tm 1494 (by decide +kernel) rfl, tm 1495 (by decide +kernel) rfl, tm 1496 (by decide +kernel) rfl, _, rfl, rfl⟩
set_option maxRecDepth 10000 in
theorem lw_c40 {l : Launch} {d m n c s i L : Nat} {xs : Nat → Int32} {R W Z : Nat → Nat → Int32} {T : Nat → Nat → Nat} {kn : Kn} {D : Nat → Int32} {A : Nat → Nat → Int32} {S : Nat → Int32} {Q : QT} (hR : Rel m R W Z T kn n D A S) (hm : m < 2 ^ 25) (hi : i + 6 ≤ L) (hL : L ≤ 3072) (hc : c + 9 ≤ 600000) (hs : s + 13364 ≤ 7302250) (K : ∀ (R1 W1 Z1 : Nat → Nat → Int32) (T1 : Nat → Nat → Nat) (kn1 : Kn) (n1 : Nat) (D1 : Nat → Int32) (A1 : Nat → Nat → Int32) (S1 : Nat → Int32) (c1 s1 : Nat), Rel (m + 40000) R1 W1 Z1 T1 kn1 n1 D1 A1 S1 → c1 ≤ c + 9 → s1 ≤ s + 13364 → V l (M_Law L xs) (d + 61) 600000 7302250 1505 [(0, .float 200), (1, .ref 0), (2, .ref 88), (3, .int (nI i))] [] n1 (co R1 W1 Z1 T1 kn1 (mo 88 D1 A1 S1 hN)) c1 s1 Q) : V l (M_Law L xs) (d + 61) 600000 7302250 1482 [(0, .float 200), (1, .ref 0), (2, .ref 88), (3, .int (nI i))] [] n (co R W Z T kn (mo 88 D A S hN)) c s Q := by
  have hin : ∀ k, k < 6 → vp_in (nI (i + k)) L := fun k hk => vin_N (by omega) (by omega)
  refine V.aload_n d_Law_1482 rfl ?_
  refine V.aloadK_n d_Law_1483 rfl ?_
  refine V.iload_n d_Law_1484 rfl ?_
  refine V.iconst_ (nI 1) d_Law_1485 (by decide +kernel) ?_
  refine V.addN d_Law_1486 ?_
  refine V.ialdX rfl d_Law_1487 (hin 1 (by decide)) ?_
  refine V.callV1 d_Law_1488 k_Law_182_F_told_FV (co_s sc_ob) (Nat.le_of_ble_eq_true rfl) (by omega) (by omega) ((j_told hR).mono (fun r n1 h1 hJ => ?_))
  obtain ⟨⟨v, rfl⟩, ⟨fs, hfs⟩, hJ⟩ := hJ
  refine V.aload_n d_Law_1491 rfl ?_
  refine V.aloadK_n d_Law_1492 rfl ?_
  refine V.iload_n d_Law_1493 rfl ?_
  refine V.iconst_ (nI 1) d_Law_1494 (by decide +kernel) ?_
  refine V.addN d_Law_1495 ?_
  refine V.ialdX rfl d_Law_1496 (hin 1 (by decide)) ?_
  refine V.callV1 d_Law_1497 k_Law_185_Mo_told_MoV hfs (Nat.le_of_ble_eq_true rfl) (by omega) (by omega) (hJ _ (fun R1 W1 Z1 T1 kn1 D1 A1 S1 hR1 => ?_))
  exact V.icmp_eq (tgt := 1505) d_Law_1500 (by decide) (fun _ => K R1 W1 Z1 T1 kn1 n1 D1 A1 S1 _ _ hR1 (by omega) (by omega)) (fun z => absurd rfl z)
