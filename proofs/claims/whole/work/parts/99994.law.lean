section K0
variable {X : gX} {R : Room} {Z : gZt} {N : Nat → Prop} {y : MethodName} {cc : ByteArray} {nL : Nat} {ret : Option FieldType} {pc pc' tgt : Nat} {lv : List (Nat × Value)} {st : List Value} {M : gM} {bc bs bc2 bs2 : Nat}
theorem g_tlen {b n : Nat} {v : Int32} {ty : FieldType} {f : Nat → Value} (hd : decode cc pc = .ok (.arraylength, 1)) (hT : ∀ U, X.2.2.2.2.2 U → va_T ty (X.2.2.2.2.1 b) n f (gA X) U U.heap) (hb : 5000 ≤ b) (hv : Int32.ofNat n = v) (hp : pc + 1 = pc') (k : gW X R Z N y cc nL ret pc' lv (.int v :: st) M bc bs) : gW X R Z N y cc nL ret pc lv (.ref b :: st) M bc bs := by
  subst hp
  intro ad0 ad p e s m args below meth c H locs cells slots ls hF hR hS hN h1 h2 hl
  have es : (Value.ref b :: st).map (gT ad) = .ref (X.2.2.2.2.1 b) :: st.map (gT ad) := by
    show Value.ref (ad b) :: _ = _
    rw [hR.2.2.1 b hb]
  rw [es]
  exact va_tlen hF.1 hF.2.1 (hT s hF.2.2.2.2.2.2.2.2.1.2) hS hv hd (k ad0 ad p e s m args below meth c H locs cells slots ls hF hR hS hN h1 h2 hl)
theorem g_less (h1 : bc ≤ bc2) (h2 : bs ≤ bs2) (k : gW X R Z N y cc nL ret pc lv st M bc bs) : gW X R Z N y cc nL ret pc lv st M bc2 bs2 := by
  intro ad0 ad p e s m args below meth c H locs cells slots ls hF hR hS hN a1 a2 hl
  exact k ad0 ad p e s m args below meth c H locs cells slots ls hF hR hS hN (by omega) (by omega) hl
/-- the script -/
def gSc (X : gX) (n : Nat) (xs : Nat → Int32) : Prop := ∀ U, X.2.2.2.2.2 U → va_T .int (X.2.2.2.2.1 5030) n (fun j => .int (xs j)) (gA X) U U.heap
abbrev gNt : Nat → Prop := fun _ => True
abbrev lvL (i : Nat) : List (Nat × Value) := [(4, .int (nI i)), (3, .ref 120), (2, .ref 100), (1, .ref 0), (0, .ref 5030)]
theorem g_scr {k i n p1 p2 p3 p4 : Nat} {kz : Int} {xs : Nat → Int32} (d0 : decode cc pc = .ok (.aload_n 0, 1)) (d1 : decode cc p1 = .ok (.iload 4, 2)) (d2 : decode cc p2 = .ok (.iconst kz, 1)) (hz : Int32.ofInt kz = nI k) (d3 : decode cc p3 = .ok (.iadd, 1)) (d4 : decode cc p4 = .ok (.iaload, 1)) (hS : gSc X n xs) (hi : i + k < n) (hn : n ≤ 3072) (e1 : pc + 1 = p1) (e2 : p1 + 2 = p2) (e3 : p2 + 1 = p3) (e4 : p3 + 1 = p4) (hp : p4 + 1 = pc') (kk : gW X R Z N y cc nL ret pc' (lvL i) (.int (xs (i + k)) :: st) M bc bs) : gW X R Z N y cc nL ret pc (lvL i) st M bc bs := by
  refine g_aload_n (i := 0) (x := 5030) d0 rfl rfl e1 ?_
  refine g_iload (x := nI i) d1 rfl e2 ?_
  refine g_iconst d2 hz e3 ?_
  refine g_iadd d3 e4 ?_
  rw [nI_add]
  exact g_tald d4 hS (by decide) (nI_toInt (by omega)) hi rfl hp kk
def b0n (x : Int32) : Int32 := if x = 0 then 0 else 1
theorem b0n_or {x : Int32} : b0n x = 0 ∨ b0n x = 1 := by
  unfold b0n
  by_cases h : x = 0
  · rw [if_pos h]; exact Or.inl rfl
  · rw [if_neg h]; exact Or.inr rfl
theorem g_bool {off off2 : Int} {x : Int32} {p1 p2 : Nat} (d0 : decode cc pc = .ok (.ifCond .eq off, 3)) (ht : (pc : Int) + off = (tgt : Int)) (e1 : pc + 3 = p1) (d1 : decode cc p1 = .ok (.iconst 1, 1)) (e2 : p1 + 1 = p2) (ht2 : (p2 : Int) + off2 = (pc' : Int)) (d2 : decode cc p2 = .ok (.goto off2, 3)) (hv : Int32.ofInt 1 = 1) (d3 : decode cc tgt = .ok (.iconst 0, 1)) (hv0 : Int32.ofInt 0 = 0) (e3 : tgt + 1 = pc') (kk : gW X R Z N y cc nL ret pc' lv (.int (b0n x) :: st) M bc bs) : gW X R Z N y cc nL ret pc lv (.int x :: st) M bc bs := by
  refine g_if_eq d0 ht e1 (fun h => ?_) (fun h => ?_)
  · refine g_iconst d3 hv0 e3 ?_
    unfold b0n at kk
    rw [if_pos h] at kk
    exact kk
  · refine g_iconst d1 hv e2 ?_
    refine g_goto d2 ht2 ?_
    unfold b0n at kk
    rw [if_neg h] at kk
    exact kk
def yrL (xs : Nat → Int32) (i : Nat) : Int64 := ((xs (i + 2)).toInt64 <<< ((32 : Int32).toInt64 &&& 63)) ||| ((xs (i + 3)).toInt64 &&& 4294967295)
theorem catv (v : Option Value) : ((v.toList ++ ([] : List Value)).map (fun (u : Value) => u.category)).sum ≤ 8 := by
  rcases v with _ | v
  · decide
  · rcases v <;> exact Nat.le_of_ble_eq_true rfl
theorem lv_no {i : Nat} {S : Nat → Prop} (h : ∀ c, S c → 200 ≤ c ∧ c < 5000) : ∀ q ∈ lvL i, ∀ b, q.2 = .ref b → ¬ S b :=
  anqc ani (anqc (anr (fun z => by have := h _ z; omega)) (anqc (anr (fun z => by have := h _ z; omega)) (anqc (anr (fun z => by have := h _ z; omega)) (anqc (anr (fun z => by have := h _ z; omega)) anq0))))
theorem Inv.lay (h : Inv M) : gLay M := by
  obtain ⟨n, E, EV, N, A, c, w, T, L, hC, hR⟩ := h
  exact hC.1
end K0
section K1
variable {X : gX} {R : Room} {Z : gZt} {M : gM} {bc bs i n : Nat} {xs : Nat → Int32}
def LK (X : gX) (R : Room) (Z : gZt) (i bc bs : Nat) : Prop := ∀ M, Inv M → gW X R Z gNt yL_law cL_law 7 (some .boolean) 1583 (lvL i) [] M bc bs
theorem law_0 (hx : gXok X) (hZ : gSt X) (hW : gNw X) (hS : gSc X n xs) (h6 : i + 6 ≤ n) (hn : n ≤ 3072) (hf : gFit 100 R) (hb : 5 ≤ bc) (hs : 433 ≤ bs) (k : LK X R Z i (bc - 5) (bs - 433)) (hI : Inv M) : gW X R Z gNt yL_law cL_law 7 (some .boolean) 216 (lvL i) [] M bc bs := by
  obtain ⟨N1, mc, ms, Q1, ⟨b1, b2, b3⟩, h1, h2⟩ := (a_feed hx (xs (i + 1)) (xs (i + 2)) (xs (i + 3)) (xs (i + 4)) (xs (i + 5))) M hI
  refine g_aload_n dL_law_216 rfl rfl rfl ?_
  refine g_scr (k := 1) dL_law_217 dL_law_218 dL_law_220 rfl dL_law_221 dL_law_222 hS (by omega) hn rfl rfl rfl rfl rfl ?_
  refine g_scr (k := 2) dL_law_223 dL_law_224 dL_law_226 rfl dL_law_227 dL_law_228 hS (by omega) hn rfl rfl rfl rfl rfl ?_
  refine g_scr (k := 3) dL_law_229 dL_law_230 dL_law_232 rfl dL_law_233 dL_law_234 hS (by omega) hn rfl rfl rfl rfl rfl ?_
  refine g_scr (k := 4) dL_law_235 dL_law_236 dL_law_238 rfl dL_law_239 dL_law_240 hS (by omega) hn rfl rfl rfl rfl rfl ?_
  refine g_scr (k := 5) dL_law_241 dL_law_242 dL_law_244 rfl dL_law_245 dL_law_246 hS (by omega) hn rfl rfl rfl rfl rfl ?_
  refine g_callV (ci := 10) (As := [.int (xs (i + 1)), .int (xs (i + 2)), .int (xs (i + 3)), .int (xs (i + 4)), .int (xs (i + 5))]) dL_law_247 lm_L_19 mv_X10_feed h1 rfl rfl (k0 hI.lay) rfl rfl (Nat.le_of_ble_eq_true rfl) hf (by omega) (by omega) (fun _ _ => trivial) (lv_no b3) an0 rfl (fun v1 M2 hq1 => ?_)
  obtain ⟨hL2, Q2, h3, h4⟩ := h2 v1 M2 hq1
  refine g_aload_n dL_law_250 rfl rfl rfl ?_
  refine g_scr (k := 1) dL_law_251 dL_law_252 dL_law_254 rfl dL_law_255 dL_law_256 hS (by omega) hn rfl rfl rfl rfl rfl ?_
  refine g_scr (k := 2) dL_law_257 dL_law_258 dL_law_260 rfl dL_law_261 dL_law_262 hS (by omega) hn rfl rfl rfl rfl rfl ?_
  refine g_scr (k := 3) dL_law_263 dL_law_264 dL_law_266 rfl dL_law_267 dL_law_268 hS (by omega) hn rfl rfl rfl rfl rfl ?_
  refine g_scr (k := 4) dL_law_269 dL_law_270 dL_law_272 rfl dL_law_273 dL_law_274 hS (by omega) hn rfl rfl rfl rfl rfl ?_
  refine g_scr (k := 5) dL_law_275 dL_law_276 dL_law_278 rfl dL_law_279 dL_law_280 hS (by omega) hn rfl rfl rfl rfl rfl ?_
  refine g_callV (ci := 11) (As := [.int (xs (i + 1)), .int (xs (i + 2)), .int (xs (i + 3)), .int (xs (i + 4)), .int (xs (i + 5))]) dL_law_281 lm_L_23 mv_X11_feed h3 rfl rfl (k100 hL2) rfl rfl (catv v1) hf (Nat.zero_le _) (Nat.zero_le _) (fun _ q => q.elim) (fun _ _ _ _ q => q.elim) (fun _ _ _ _ q => q.elim) rfl (fun v2 M3 hq2 => ?_)
  obtain ⟨hL3, ⟨r, rfl, rfl⟩, hI3⟩ := h4 v2 M3 hq2
  exact g_icmp_eq dL_law_284 rfl rfl (fun _ => g_less (by omega) (by omega) (k M3 hI3)) (fun z => absurd rfl z)
theorem law_1 (hx : gXok X) (hZ : gSt X) (hW : gNw X) (hS : gSc X n xs) (h6 : i + 6 ≤ n) (hn : n ≤ 3072) (hf : gFit 100 R) (hb : 5 ≤ bc) (hs : 433 ≤ bs) (k : LK X R Z i (bc - 5) (bs - 433)) (hI : Inv M) : gW X R Z gNt yL_law cL_law 7 (some .boolean) 289 (lvL i) [] M bc bs := by
  obtain ⟨N1, mc, ms, Q1, ⟨b1, b2, b3⟩, h1, h2⟩ := (a_end hx (xs (i + 1))) M hI
  refine g_aload_n dL_law_289 rfl rfl rfl ?_
  refine g_scr (k := 1) dL_law_290 dL_law_291 dL_law_293 rfl dL_law_294 dL_law_295 hS (by omega) hn rfl rfl rfl rfl rfl ?_
  refine g_callV (ci := 10) (As := [.int (xs (i + 1))]) dL_law_296 lm_L_24 mv_X10_end h1 rfl rfl (k0 hI.lay) rfl rfl (Nat.le_of_ble_eq_true rfl) hf (by omega) (by omega) (fun _ _ => trivial) (lv_no b3) an0 rfl (fun v1 M2 hq1 => ?_)
  obtain ⟨hL2, Q2, h3, h4⟩ := h2 v1 M2 hq1
  refine g_aload_n dL_law_299 rfl rfl rfl ?_
  refine g_scr (k := 1) dL_law_300 dL_law_301 dL_law_303 rfl dL_law_304 dL_law_305 hS (by omega) hn rfl rfl rfl rfl rfl ?_
  refine g_callV (ci := 11) (As := [.int (xs (i + 1))]) dL_law_306 lm_L_28 mv_X11_end h3 rfl rfl (k100 hL2) rfl rfl (catv v1) hf (Nat.zero_le _) (Nat.zero_le _) (fun _ q => q.elim) (fun _ _ _ _ q => q.elim) (fun _ _ _ _ q => q.elim) rfl (fun v2 M3 hq2 => ?_)
  obtain ⟨hL3, ⟨r, rfl, rfl⟩, hI3⟩ := h4 v2 M3 hq2
  exact g_icmp_eq dL_law_309 rfl rfl (fun _ => g_less (by omega) (by omega) (k M3 hI3)) (fun z => absurd rfl z)
theorem law_2 (hx : gXok X) (hZ : gSt X) (hW : gNw X) (hS : gSc X n xs) (h6 : i + 6 ≤ n) (hn : n ≤ 3072) (hf : gFit 100 R) (hb : 5 ≤ bc) (hs : 433 ≤ bs) (k : LK X R Z i (bc - 5) (bs - 433)) (hI : Inv M) : gW X R Z gNt yL_law cL_law 7 (some .boolean) 314 (lvL i) [] M bc bs := by
  obtain ⟨N1, mc, ms, Q1, ⟨b1, b2, b3⟩, h1, h2⟩ := (a_fault hx hZ (xs (i + 1))) M hI
  refine g_aload_n dL_law_314 rfl rfl rfl ?_
  refine g_scr (k := 1) dL_law_315 dL_law_316 dL_law_318 rfl dL_law_319 dL_law_320 hS (by omega) hn rfl rfl rfl rfl rfl ?_
  refine g_callV (ci := 10) (As := [.int (xs (i + 1))]) dL_law_321 lm_L_29 mv_X10_fault h1 rfl rfl (k0 hI.lay) rfl rfl (Nat.le_of_ble_eq_true rfl) hf (by omega) (by omega) (fun _ _ => trivial) (lv_no b3) an0 rfl (fun v1 M2 hq1 => ?_)
  obtain ⟨hL2, Q2, h3, h4⟩ := h2 v1 M2 hq1
  refine g_aload_n dL_law_324 rfl rfl rfl ?_
  refine g_scr (k := 1) dL_law_325 dL_law_326 dL_law_328 rfl dL_law_329 dL_law_330 hS (by omega) hn rfl rfl rfl rfl rfl ?_
  refine g_callV (ci := 11) (As := [.int (xs (i + 1))]) dL_law_331 lm_L_33 mv_X11_fault h3 rfl rfl (k100 hL2) rfl rfl (catv v1) hf (Nat.zero_le _) (Nat.zero_le _) (fun _ q => q.elim) (fun _ _ _ _ q => q.elim) (fun _ _ _ _ q => q.elim) rfl (fun v2 M3 hq2 => ?_)
  obtain ⟨hL3, ⟨r, rfl, rfl⟩, hI3⟩ := h4 v2 M3 hq2
  exact g_icmp_eq dL_law_334 rfl rfl (fun _ => g_less (by omega) (by omega) (k M3 hI3)) (fun z => absurd rfl z)
theorem law_3 (hx : gXok X) (hZ : gSt X) (hW : gNw X) (hS : gSc X n xs) (h6 : i + 6 ≤ n) (hn : n ≤ 3072) (hf : gFit 100 R) (hb : 5 ≤ bc) (hs : 433 ≤ bs) (k : LK X R Z i (bc - 5) (bs - 433)) (hI : Inv M) : gW X R Z gNt yL_law cL_law 7 (some .boolean) 339 (lvL i) [] M bc bs := by
  obtain ⟨N1, mc, ms, Q1, ⟨b1, b2, b3⟩, h1, h2⟩ := (a_text hx hZ hW (xs (i + 1))) M hI
  refine g_aload_n dL_law_339 rfl rfl rfl ?_
  refine g_scr (k := 1) dL_law_340 dL_law_341 dL_law_343 rfl dL_law_344 dL_law_345 hS (by omega) hn rfl rfl rfl rfl rfl ?_
  refine g_callV (ci := 10) (As := [.int (xs (i + 1))]) dL_law_346 lm_L_34 mv_X10_text h1 rfl rfl (k0 hI.lay) rfl rfl (Nat.le_of_ble_eq_true rfl) hf (by omega) (by omega) (fun _ _ => trivial) (lv_no b3) an0 rfl (fun v1 M2 hq1 => ?_)
  obtain ⟨hL2, Q2, h3, h4⟩ := h2 v1 M2 hq1
  refine g_aload_n dL_law_349 rfl rfl rfl ?_
  refine g_scr (k := 1) dL_law_350 dL_law_351 dL_law_353 rfl dL_law_354 dL_law_355 hS (by omega) hn rfl rfl rfl rfl rfl ?_
  refine g_callV (ci := 11) (As := [.int (xs (i + 1))]) dL_law_356 lm_L_37 mv_X11_text h3 rfl rfl (k100 hL2) rfl rfl (catv v1) hf (Nat.zero_le _) (Nat.zero_le _) (fun _ q => q.elim) (fun _ _ _ _ q => q.elim) (fun _ _ _ _ q => q.elim) rfl (fun v2 M3 hq2 => ?_)
  obtain ⟨hL3, ⟨r, rfl, rfl⟩, hI3⟩ := h4 v2 M3 hq2
  exact g_icmp_eq dL_law_359 rfl rfl (fun _ => g_less (by omega) (by omega) (k M3 hI3)) (fun z => absurd rfl z)
theorem law_5 (hx : gXok X) (hZ : gSt X) (hW : gNw X) (hS : gSc X n xs) (h6 : i + 6 ≤ n) (hn : n ≤ 3072) (hf : gFit 100 R) (hb : 5 ≤ bc) (hs : 433 ≤ bs) (k : LK X R Z i (bc - 5) (bs - 433)) (hI : Inv M) : gW X R Z gNt yL_law cL_law 7 (some .boolean) 432 (lvL i) [] M bc bs := by
  obtain ⟨N1, mc, ms, Q1, ⟨b1, b2, b3⟩, h1, h2⟩ := (q_deed hx (xs (i + 1)) (xs (i + 2))) M hI
  refine g_aload_n dL_law_432 rfl rfl rfl ?_
  refine g_scr (k := 1) dL_law_433 dL_law_434 dL_law_436 rfl dL_law_437 dL_law_438 hS (by omega) hn rfl rfl rfl rfl rfl ?_
  refine g_scr (k := 2) dL_law_439 dL_law_440 dL_law_442 rfl dL_law_443 dL_law_444 hS (by omega) hn rfl rfl rfl rfl rfl ?_
  refine g_callV (ci := 10) (As := [.int (xs (i + 1)), .int (xs (i + 2))]) dL_law_445 lm_L_48 mv_X10_deed h1 rfl rfl (k0 hI.lay) rfl rfl (Nat.le_of_ble_eq_true rfl) hf (by omega) (by omega) (fun _ _ => trivial) (lv_no b3) an0 rfl (fun v1 M2 hq1 => ?_)
  obtain ⟨hL2, Q2, h3, h4⟩ := h2 v1 M2 hq1
  refine g_aload_n dL_law_448 rfl rfl rfl ?_
  refine g_scr (k := 1) dL_law_449 dL_law_450 dL_law_452 rfl dL_law_453 dL_law_454 hS (by omega) hn rfl rfl rfl rfl rfl ?_
  refine g_scr (k := 2) dL_law_455 dL_law_456 dL_law_458 rfl dL_law_459 dL_law_460 hS (by omega) hn rfl rfl rfl rfl rfl ?_
  refine g_callV (ci := 11) (As := [.int (xs (i + 1)), .int (xs (i + 2))]) dL_law_461 lm_L_51 mv_X11_deed h3 rfl rfl (k100 hL2) rfl rfl (catv v1) hf (Nat.zero_le _) (Nat.zero_le _) (fun _ q => q.elim) (fun _ _ _ _ q => q.elim) (fun _ _ _ _ q => q.elim) rfl (fun v2 M3 hq2 => ?_)
  obtain ⟨hL3, ⟨r, rfl, rfl⟩, hI3⟩ := h4 v2 M3 hq2
  exact g_icmp_eq dL_law_464 rfl rfl (fun _ => g_less (by omega) (by omega) (k M3 hI3)) (fun z => absurd rfl z)
theorem law_6 (hx : gXok X) (hZ : gSt X) (hW : gNw X) (hS : gSc X n xs) (h6 : i + 6 ≤ n) (hn : n ≤ 3072) (hf : gFit 100 R) (hb : 5 ≤ bc) (hs : 433 ≤ bs) (k : LK X R Z i (bc - 5) (bs - 433)) (hI : Inv M) : gW X R Z gNt yL_law cL_law 7 (some .boolean) 469 (lvL i) [] M bc bs := by
  obtain ⟨N1, mc, ms, Q1, ⟨b1, b2, b3⟩, h1, h2⟩ := (q_left hx (xs (i + 1)) (xs (i + 2))) M hI
  refine g_aload_n dL_law_469 rfl rfl rfl ?_
  refine g_scr (k := 1) dL_law_470 dL_law_471 dL_law_473 rfl dL_law_474 dL_law_475 hS (by omega) hn rfl rfl rfl rfl rfl ?_
  refine g_scr (k := 2) dL_law_476 dL_law_477 dL_law_479 rfl dL_law_480 dL_law_481 hS (by omega) hn rfl rfl rfl rfl rfl ?_
  refine g_callV (ci := 10) (As := [.int (xs (i + 1)), .int (xs (i + 2))]) dL_law_482 lm_L_52 mv_X10_left h1 rfl rfl (k0 hI.lay) rfl rfl (Nat.le_of_ble_eq_true rfl) hf (by omega) (by omega) (fun _ _ => trivial) (lv_no b3) an0 rfl (fun v1 M2 hq1 => ?_)
  obtain ⟨hL2, Q2, h3, h4⟩ := h2 v1 M2 hq1
  refine g_aload_n dL_law_485 rfl rfl rfl ?_
  refine g_scr (k := 1) dL_law_486 dL_law_487 dL_law_489 rfl dL_law_490 dL_law_491 hS (by omega) hn rfl rfl rfl rfl rfl ?_
  refine g_scr (k := 2) dL_law_492 dL_law_493 dL_law_495 rfl dL_law_496 dL_law_497 hS (by omega) hn rfl rfl rfl rfl rfl ?_
  refine g_callV (ci := 11) (As := [.int (xs (i + 1)), .int (xs (i + 2))]) dL_law_498 lm_L_55 mv_X11_left h3 rfl rfl (k100 hL2) rfl rfl (catv v1) hf (Nat.zero_le _) (Nat.zero_le _) (fun _ q => q.elim) (fun _ _ _ _ q => q.elim) (fun _ _ _ _ q => q.elim) rfl (fun v2 M3 hq2 => ?_)
  obtain ⟨hL3, ⟨r, rfl, rfl⟩, hI3⟩ := h4 v2 M3 hq2
  exact g_icmp_eq dL_law_501 rfl rfl (fun _ => g_less (by omega) (by omega) (k M3 hI3)) (fun z => absurd rfl z)
theorem law_7 (hx : gXok X) (hZ : gSt X) (hW : gNw X) (hS : gSc X n xs) (h6 : i + 6 ≤ n) (hn : n ≤ 3072) (hf : gFit 100 R) (hb : 5 ≤ bc) (hs : 433 ≤ bs) (k : LK X R Z i (bc - 5) (bs - 433)) (hI : Inv M) : gW X R Z gNt yL_law cL_law 7 (some .boolean) 506 (lvL i) [] M bc bs := by
  obtain ⟨N1, mc, ms, Q1, ⟨b1, b2, b3⟩, h1, h2⟩ := (a_law hx (xs (i + 1))) M hI
  refine g_aload_n dL_law_506 rfl rfl rfl ?_
  refine g_scr (k := 1) dL_law_507 dL_law_508 dL_law_510 rfl dL_law_511 dL_law_512 hS (by omega) hn rfl rfl rfl rfl rfl ?_
  refine g_callV (ci := 10) (As := [.int (xs (i + 1))]) dL_law_513 lm_L_56 mv_X10_law h1 rfl rfl (k0 hI.lay) rfl rfl (Nat.le_of_ble_eq_true rfl) hf (by omega) (by omega) (fun _ _ => trivial) (lv_no b3) an0 rfl (fun v1 M2 hq1 => ?_)
  obtain ⟨hL2, Q2, h3, h4⟩ := h2 v1 M2 hq1
  refine g_aload_n dL_law_516 rfl rfl rfl ?_
  refine g_scr (k := 1) dL_law_517 dL_law_518 dL_law_520 rfl dL_law_521 dL_law_522 hS (by omega) hn rfl rfl rfl rfl rfl ?_
  refine g_callV (ci := 11) (As := [.int (xs (i + 1))]) dL_law_523 lm_L_59 mv_X11_law h3 rfl rfl (k100 hL2) rfl rfl (catv v1) hf (Nat.zero_le _) (Nat.zero_le _) (fun _ q => q.elim) (fun _ _ _ _ q => q.elim) (fun _ _ _ _ q => q.elim) rfl (fun v2 M3 hq2 => ?_)
  obtain ⟨hL3, ⟨r, rfl, rfl⟩, hI3⟩ := h4 v2 M3 hq2
  exact g_icmp_eq dL_law_526 rfl rfl (fun _ => g_less (by omega) (by omega) (k M3 hI3)) (fun z => absurd rfl z)
theorem law_8 (hx : gXok X) (hZ : gSt X) (hW : gNw X) (hS : gSc X n xs) (h6 : i + 6 ≤ n) (hn : n ≤ 3072) (hf : gFit 100 R) (hb : 5 ≤ bc) (hs : 433 ≤ bs) (k : LK X R Z i (bc - 5) (bs - 433)) (hI : Inv M) : gW X R Z gNt yL_law cL_law 7 (some .boolean) 531 (lvL i) [] M bc bs := by
  obtain ⟨N1, mc, ms, Q1, ⟨b1, b2, b3⟩, h1, h2⟩ := (a_rumour hx (xs (i + 1))) M hI
  refine g_aload_n dL_law_531 rfl rfl rfl ?_
  refine g_scr (k := 1) dL_law_532 dL_law_533 dL_law_535 rfl dL_law_536 dL_law_537 hS (by omega) hn rfl rfl rfl rfl rfl ?_
  refine g_callV (ci := 10) (As := [.int (xs (i + 1))]) dL_law_538 lm_L_60 mv_X10_rumour h1 rfl rfl (k0 hI.lay) rfl rfl (Nat.le_of_ble_eq_true rfl) hf (by omega) (by omega) (fun _ _ => trivial) (lv_no b3) an0 rfl (fun v1 M2 hq1 => ?_)
  obtain ⟨hL2, Q2, h3, h4⟩ := h2 v1 M2 hq1
  refine g_aload_n dL_law_541 rfl rfl rfl ?_
  refine g_scr (k := 1) dL_law_542 dL_law_543 dL_law_545 rfl dL_law_546 dL_law_547 hS (by omega) hn rfl rfl rfl rfl rfl ?_
  refine g_callV (ci := 11) (As := [.int (xs (i + 1))]) dL_law_548 lm_L_63 mv_X11_rumour h3 rfl rfl (k100 hL2) rfl rfl (catv v1) hf (Nat.zero_le _) (Nat.zero_le _) (fun _ q => q.elim) (fun _ _ _ _ q => q.elim) (fun _ _ _ _ q => q.elim) rfl (fun v2 M3 hq2 => ?_)
  obtain ⟨hL3, ⟨r, rfl, rfl⟩, hI3⟩ := h4 v2 M3 hq2
  exact g_icmp_eq dL_law_551 rfl rfl (fun _ => g_less (by omega) (by omega) (k M3 hI3)) (fun z => absurd rfl z)
theorem law_9 (hx : gXok X) (hZ : gSt X) (hW : gNw X) (hS : gSc X n xs) (h6 : i + 6 ≤ n) (hn : n ≤ 3072) (hf : gFit 100 R) (hb : 5 ≤ bc) (hs : 433 ≤ bs) (k : LK X R Z i (bc - 5) (bs - 433)) (hI : Inv M) : gW X R Z gNt yL_law cL_law 7 (some .boolean) 556 (lvL i) [] M bc bs := by
  obtain ⟨N1, mc, ms, Q1, ⟨b1, b2, b3⟩, h1, h2⟩ := (a_commit hx (xs (i + 1)) (xs (i + 2))) M hI
  refine g_aload_n dL_law_556 rfl rfl rfl ?_
  refine g_scr (k := 1) dL_law_557 dL_law_558 dL_law_560 rfl dL_law_561 dL_law_562 hS (by omega) hn rfl rfl rfl rfl rfl ?_
  refine g_scr (k := 2) dL_law_563 dL_law_564 dL_law_566 rfl dL_law_567 dL_law_568 hS (by omega) hn rfl rfl rfl rfl rfl ?_
  refine g_callV (ci := 10) (As := [.int (xs (i + 1)), .int (xs (i + 2))]) dL_law_569 lm_L_64 mv_X10_commit h1 rfl rfl (k0 hI.lay) rfl rfl (Nat.le_of_ble_eq_true rfl) hf (by omega) (by omega) (fun _ _ => trivial) (lv_no b3) an0 rfl (fun v1 M2 hq1 => ?_)
  obtain ⟨hL2, Q2, h3, h4⟩ := h2 v1 M2 hq1
  refine g_aload_n dL_law_572 rfl rfl rfl ?_
  refine g_scr (k := 1) dL_law_573 dL_law_574 dL_law_576 rfl dL_law_577 dL_law_578 hS (by omega) hn rfl rfl rfl rfl rfl ?_
  refine g_scr (k := 2) dL_law_579 dL_law_580 dL_law_582 rfl dL_law_583 dL_law_584 hS (by omega) hn rfl rfl rfl rfl rfl ?_
  refine g_callV (ci := 11) (As := [.int (xs (i + 1)), .int (xs (i + 2))]) dL_law_585 lm_L_67 mv_X11_commit h3 rfl rfl (k100 hL2) rfl rfl (catv v1) hf (Nat.zero_le _) (Nat.zero_le _) (fun _ q => q.elim) (fun _ _ _ _ q => q.elim) (fun _ _ _ _ q => q.elim) rfl (fun v2 M3 hq2 => ?_)
  obtain ⟨hL3, ⟨r, rfl, rfl⟩, hI3⟩ := h4 v2 M3 hq2
  exact g_icmp_eq dL_law_588 rfl rfl (fun _ => g_less (by omega) (by omega) (k M3 hI3)) (fun z => absurd rfl z)
theorem law_10 (hx : gXok X) (hZ : gSt X) (hW : gNw X) (hS : gSc X n xs) (h6 : i + 6 ≤ n) (hn : n ≤ 3072) (hf : gFit 100 R) (hb : 5 ≤ bc) (hs : 433 ≤ bs) (k : LK X R Z i (bc - 5) (bs - 433)) (hI : Inv M) : gW X R Z gNt yL_law cL_law 7 (some .boolean) 593 (lvL i) [] M bc bs := by
  obtain ⟨N1, mc, ms, Q1, ⟨b1, b2, b3⟩, h1, h2⟩ := (a_sell hx (xs (i + 1)) (xs (i + 2)) (xs (i + 3))) M hI
  refine g_aload_n dL_law_593 rfl rfl rfl ?_
  refine g_scr (k := 1) dL_law_594 dL_law_595 dL_law_597 rfl dL_law_598 dL_law_599 hS (by omega) hn rfl rfl rfl rfl rfl ?_
  refine g_scr (k := 2) dL_law_600 dL_law_601 dL_law_603 rfl dL_law_604 dL_law_605 hS (by omega) hn rfl rfl rfl rfl rfl ?_
  refine g_scr (k := 3) dL_law_606 dL_law_607 dL_law_609 rfl dL_law_610 dL_law_611 hS (by omega) hn rfl rfl rfl rfl rfl ?_
  refine g_callV (ci := 10) (As := [.int (xs (i + 1)), .int (xs (i + 2)), .int (xs (i + 3))]) dL_law_612 lm_L_68 mv_X10_sell h1 rfl rfl (k0 hI.lay) rfl rfl (Nat.le_of_ble_eq_true rfl) hf (by omega) (by omega) (fun _ _ => trivial) (lv_no b3) an0 rfl (fun v1 M2 hq1 => ?_)
  obtain ⟨hL2, Q2, h3, h4⟩ := h2 v1 M2 hq1
  refine g_aload_n dL_law_615 rfl rfl rfl ?_
  refine g_scr (k := 1) dL_law_616 dL_law_617 dL_law_619 rfl dL_law_620 dL_law_621 hS (by omega) hn rfl rfl rfl rfl rfl ?_
  refine g_scr (k := 2) dL_law_622 dL_law_623 dL_law_625 rfl dL_law_626 dL_law_627 hS (by omega) hn rfl rfl rfl rfl rfl ?_
  refine g_scr (k := 3) dL_law_628 dL_law_629 dL_law_631 rfl dL_law_632 dL_law_633 hS (by omega) hn rfl rfl rfl rfl rfl ?_
  refine g_callV (ci := 11) (As := [.int (xs (i + 1)), .int (xs (i + 2)), .int (xs (i + 3))]) dL_law_634 lm_L_72 mv_X11_sell h3 rfl rfl (k100 hL2) rfl rfl (catv v1) hf (Nat.zero_le _) (Nat.zero_le _) (fun _ q => q.elim) (fun _ _ _ _ q => q.elim) (fun _ _ _ _ q => q.elim) rfl (fun v2 M3 hq2 => ?_)
  obtain ⟨hL3, ⟨r, rfl, rfl⟩, hI3⟩ := h4 v2 M3 hq2
  exact g_icmp_eq dL_law_637 rfl rfl (fun _ => g_less (by omega) (by omega) (k M3 hI3)) (fun z => absurd rfl z)
theorem law_11 (hx : gXok X) (hZ : gSt X) (hW : gNw X) (hS : gSc X n xs) (h6 : i + 6 ≤ n) (hn : n ≤ 3072) (hf : gFit 100 R) (hb : 5 ≤ bc) (hs : 433 ≤ bs) (k : LK X R Z i (bc - 5) (bs - 433)) (hI : Inv M) : gW X R Z gNt yL_law cL_law 7 (some .boolean) 642 (lvL i) [] M bc bs := by
  obtain ⟨N1, mc, ms, Q1, ⟨b1, b2, b3⟩, h1, h2⟩ := (a_atone hx (xs (i + 1)) (xs (i + 2))) M hI
  refine g_aload_n dL_law_642 rfl rfl rfl ?_
  refine g_scr (k := 1) dL_law_643 dL_law_644 dL_law_646 rfl dL_law_647 dL_law_648 hS (by omega) hn rfl rfl rfl rfl rfl ?_
  refine g_scr (k := 2) dL_law_649 dL_law_650 dL_law_652 rfl dL_law_653 dL_law_654 hS (by omega) hn rfl rfl rfl rfl rfl ?_
  refine g_callV (ci := 10) (As := [.int (xs (i + 1)), .int (xs (i + 2))]) dL_law_655 lm_L_73 mv_X10_atone h1 rfl rfl (k0 hI.lay) rfl rfl (Nat.le_of_ble_eq_true rfl) hf (by omega) (by omega) (fun _ _ => trivial) (lv_no b3) an0 rfl (fun v1 M2 hq1 => ?_)
  obtain ⟨hL2, Q2, h3, h4⟩ := h2 v1 M2 hq1
  refine g_aload_n dL_law_658 rfl rfl rfl ?_
  refine g_scr (k := 1) dL_law_659 dL_law_660 dL_law_662 rfl dL_law_663 dL_law_664 hS (by omega) hn rfl rfl rfl rfl rfl ?_
  refine g_scr (k := 2) dL_law_665 dL_law_666 dL_law_668 rfl dL_law_669 dL_law_670 hS (by omega) hn rfl rfl rfl rfl rfl ?_
  refine g_callV (ci := 11) (As := [.int (xs (i + 1)), .int (xs (i + 2))]) dL_law_671 lm_L_76 mv_X11_atone h3 rfl rfl (k100 hL2) rfl rfl (catv v1) hf (Nat.zero_le _) (Nat.zero_le _) (fun _ q => q.elim) (fun _ _ _ _ q => q.elim) (fun _ _ _ _ q => q.elim) rfl (fun v2 M3 hq2 => ?_)
  obtain ⟨hL3, ⟨r, rfl, rfl⟩, hI3⟩ := h4 v2 M3 hq2
  exact g_icmp_eq dL_law_674 rfl rfl (fun _ => g_less (by omega) (by omega) (k M3 hI3)) (fun z => absurd rfl z)
theorem law_12 (hx : gXok X) (hZ : gSt X) (hW : gNw X) (hS : gSc X n xs) (h6 : i + 6 ≤ n) (hn : n ≤ 3072) (hf : gFit 100 R) (hb : 5 ≤ bc) (hs : 433 ≤ bs) (k : LK X R Z i (bc - 5) (bs - 433)) (hI : Inv M) : gW X R Z gNt yL_law cL_law 7 (some .boolean) 679 (lvL i) [] M bc bs := by
  obtain ⟨N1, mc, ms, Q1, ⟨b1, b2, b3⟩, h1, h2⟩ := (a_shave hx hZ (xs (i + 1))) M hI
  refine g_aload_n dL_law_679 rfl rfl rfl ?_
  refine g_scr (k := 1) dL_law_680 dL_law_681 dL_law_683 rfl dL_law_684 dL_law_685 hS (by omega) hn rfl rfl rfl rfl rfl ?_
  refine g_callV (ci := 10) (As := [.int (xs (i + 1))]) dL_law_686 lm_L_77 mv_X10_shave h1 rfl rfl (k0 hI.lay) rfl rfl (Nat.le_of_ble_eq_true rfl) hf (by omega) (by omega) (fun _ _ => trivial) (lv_no b3) an0 rfl (fun v1 M2 hq1 => ?_)
  obtain ⟨hL2, Q2, h3, h4⟩ := h2 v1 M2 hq1
  refine g_aload_n dL_law_689 rfl rfl rfl ?_
  refine g_scr (k := 1) dL_law_690 dL_law_691 dL_law_693 rfl dL_law_694 dL_law_695 hS (by omega) hn rfl rfl rfl rfl rfl ?_
  refine g_callV (ci := 11) (As := [.int (xs (i + 1))]) dL_law_696 lm_L_80 mv_X11_shave h3 rfl rfl (k100 hL2) rfl rfl (catv v1) hf (Nat.zero_le _) (Nat.zero_le _) (fun _ q => q.elim) (fun _ _ _ _ q => q.elim) (fun _ _ _ _ q => q.elim) rfl (fun v2 M3 hq2 => ?_)
  obtain ⟨hL3, ⟨r, rfl, rfl⟩, hI3⟩ := h4 v2 M3 hq2
  exact g_icmp_eq dL_law_699 rfl rfl (fun _ => g_less (by omega) (by omega) (k M3 hI3)) (fun z => absurd rfl z)
theorem law_13 (hx : gXok X) (hZ : gSt X) (hW : gNw X) (hS : gSc X n xs) (h6 : i + 6 ≤ n) (hn : n ≤ 3072) (hf : gFit 100 R) (hb : 5 ≤ bc) (hs : 433 ≤ bs) (k : LK X R Z i (bc - 5) (bs - 433)) (hI : Inv M) : gW X R Z gNt yL_law cL_law 7 (some .boolean) 704 (lvL i) [] M bc bs := by
  obtain ⟨N1, mc, ms, Q1, ⟨b1, b2, b3⟩, h1, h2⟩ := (a_give hx (xs (i + 1))) M hI
  refine g_aload_n dL_law_704 rfl rfl rfl ?_
  refine g_scr (k := 1) dL_law_705 dL_law_706 dL_law_708 rfl dL_law_709 dL_law_710 hS (by omega) hn rfl rfl rfl rfl rfl ?_
  refine g_callV (ci := 10) (As := [.int (xs (i + 1))]) dL_law_711 lm_L_81 mv_X10_give h1 rfl rfl (k0 hI.lay) rfl rfl (Nat.le_of_ble_eq_true rfl) hf (by omega) (by omega) (fun _ _ => trivial) (lv_no b3) an0 rfl (fun v1 M2 hq1 => ?_)
  obtain ⟨hL2, Q2, h3, h4⟩ := h2 v1 M2 hq1
  refine g_aload_n dL_law_714 rfl rfl rfl ?_
  refine g_scr (k := 1) dL_law_715 dL_law_716 dL_law_718 rfl dL_law_719 dL_law_720 hS (by omega) hn rfl rfl rfl rfl rfl ?_
  refine g_callV (ci := 11) (As := [.int (xs (i + 1))]) dL_law_721 lm_L_84 mv_X11_give h3 rfl rfl (k100 hL2) rfl rfl (catv v1) hf (Nat.zero_le _) (Nat.zero_le _) (fun _ q => q.elim) (fun _ _ _ _ q => q.elim) (fun _ _ _ _ q => q.elim) rfl (fun v2 M3 hq2 => ?_)
  obtain ⟨hL3, ⟨r, rfl, rfl⟩, hI3⟩ := h4 v2 M3 hq2
  exact g_icmp_eq dL_law_724 rfl rfl (fun _ => g_less (by omega) (by omega) (k M3 hI3)) (fun z => absurd rfl z)
theorem law_14 (hx : gXok X) (hZ : gSt X) (hW : gNw X) (hS : gSc X n xs) (h6 : i + 6 ≤ n) (hn : n ≤ 3072) (hf : gFit 100 R) (hb : 5 ≤ bc) (hs : 433 ≤ bs) (k : LK X R Z i (bc - 5) (bs - 433)) (hI : Inv M) : gW X R Z gNt yL_law cL_law 7 (some .boolean) 729 (lvL i) [] M bc bs := by
  obtain ⟨N1, mc, ms, Q1, ⟨b1, b2, b3⟩, h1, h2⟩ := (a_day hx) M hI
  refine g_aload_n dL_law_729 rfl rfl rfl ?_
  refine g_callV (ci := 10) (As := []) dL_law_730 lm_L_85 mv_X10_day h1 rfl rfl (k0 hI.lay) rfl rfl (Nat.le_of_ble_eq_true rfl) hf (by omega) (by omega) (fun _ _ => trivial) (lv_no b3) an0 rfl (fun v1 M2 hq1 => ?_)
  obtain ⟨hL2, Q2, h3, h4⟩ := h2 v1 M2 hq1
  refine g_aload_n dL_law_733 rfl rfl rfl ?_
  refine g_callV (ci := 11) (As := []) dL_law_734 lm_L_88 mv_X11_day h3 rfl rfl (k100 hL2) rfl rfl (catv v1) hf (Nat.zero_le _) (Nat.zero_le _) (fun _ q => q.elim) (fun _ _ _ _ q => q.elim) (fun _ _ _ _ q => q.elim) rfl (fun v2 M3 hq2 => ?_)
  obtain ⟨hL3, ⟨r, rfl, rfl⟩, hI3⟩ := h4 v2 M3 hq2
  exact g_icmp_eq dL_law_737 rfl rfl (fun _ => g_less (by omega) (by omega) (k M3 hI3)) (fun z => absurd rfl z)
theorem law_15 (hx : gXok X) (hZ : gSt X) (hW : gNw X) (hS : gSc X n xs) (h6 : i + 6 ≤ n) (hn : n ≤ 3072) (hf : gFit 100 R) (hb : 5 ≤ bc) (hs : 433 ≤ bs) (k : LK X R Z i (bc - 5) (bs - 433)) (hI : Inv M) : gW X R Z gNt yL_law cL_law 7 (some .boolean) 742 (lvL i) [] M bc bs := by
  obtain ⟨N1, mc, ms, Q1, ⟨b1, b2, b3⟩, h1, h2⟩ := (a_years hx hZ (xs (i + 1)) (yrL xs i)) M hI
  refine g_aload_n dL_law_742 rfl rfl rfl ?_
  refine g_scr (k := 1) dL_law_743 dL_law_744 dL_law_746 rfl dL_law_747 dL_law_748 hS (by omega) hn rfl rfl rfl rfl rfl ?_
  refine g_scr (k := 2) dL_law_749 dL_law_750 dL_law_752 rfl dL_law_753 dL_law_754 hS (by omega) hn rfl rfl rfl rfl rfl ?_
  refine g_i2l dL_law_755 rfl ?_
  refine g_bipush dL_law_756 rfl rfl ?_
  refine g_lshl dL_law_758 rfl ?_
  refine g_scr (k := 3) dL_law_759 dL_law_760 dL_law_762 rfl dL_law_763 dL_law_764 hS (by omega) hn rfl rfl rfl rfl rfl ?_
  refine g_i2l dL_law_765 rfl ?_
  refine g_ldc2 dL_law_766 lq_L_89 rfl ?_
  refine g_land dL_law_769 rfl ?_
  refine g_lor dL_law_770 rfl ?_
  refine g_callV (ci := 10) (As := [.int (xs (i + 1)), .long (yrL xs i)]) dL_law_771 lm_L_91 mv_X10_years h1 rfl rfl (k0 hI.lay) rfl rfl (Nat.le_of_ble_eq_true rfl) hf (by omega) (by omega) (fun _ _ => trivial) (lv_no b3) an0 rfl (fun v1 M2 hq1 => ?_)
  obtain ⟨hL2, Q2, h3, h4⟩ := h2 v1 M2 hq1
  refine g_aload_n dL_law_774 rfl rfl rfl ?_
  refine g_scr (k := 1) dL_law_775 dL_law_776 dL_law_778 rfl dL_law_779 dL_law_780 hS (by omega) hn rfl rfl rfl rfl rfl ?_
  refine g_scr (k := 2) dL_law_781 dL_law_782 dL_law_784 rfl dL_law_785 dL_law_786 hS (by omega) hn rfl rfl rfl rfl rfl ?_
  refine g_i2l dL_law_787 rfl ?_
  refine g_bipush dL_law_788 rfl rfl ?_
  refine g_lshl dL_law_790 rfl ?_
  refine g_scr (k := 3) dL_law_791 dL_law_792 dL_law_794 rfl dL_law_795 dL_law_796 hS (by omega) hn rfl rfl rfl rfl rfl ?_
  refine g_i2l dL_law_797 rfl ?_
  refine g_ldc2 dL_law_798 lq_L_89 rfl ?_
  refine g_land dL_law_801 rfl ?_
  refine g_lor dL_law_802 rfl ?_
  refine g_callV (ci := 11) (As := [.int (xs (i + 1)), .long (yrL xs i)]) dL_law_803 lm_L_95 mv_X11_years h3 rfl rfl (k100 hL2) rfl rfl (catv v1) hf (Nat.zero_le _) (Nat.zero_le _) (fun _ q => q.elim) (fun _ _ _ _ q => q.elim) (fun _ _ _ _ q => q.elim) rfl (fun v2 M3 hq2 => ?_)
  obtain ⟨hL3, ⟨r, rfl, rfl⟩, hI3⟩ := h4 v2 M3 hq2
  exact g_icmp_eq dL_law_806 rfl rfl (fun _ => g_less (by omega) (by omega) (k M3 hI3)) (fun z => absurd rfl z)
theorem law_16 (hx : gXok X) (hZ : gSt X) (hW : gNw X) (hS : gSc X n xs) (h6 : i + 6 ≤ n) (hn : n ≤ 3072) (hf : gFit 100 R) (hb : 5 ≤ bc) (hs : 433 ≤ bs) (k : LK X R Z i (bc - 5) (bs - 433)) (hI : Inv M) : gW X R Z gNt yL_law cL_law 7 (some .boolean) 811 (lvL i) [] M bc bs := by
  obtain ⟨N1, mc, ms, Q1, ⟨b1, b2, b3⟩, h1, h2⟩ := (a_undo hx) M hI
  refine g_aload_n dL_law_811 rfl rfl rfl ?_
  refine g_callV (ci := 10) (As := []) dL_law_812 lm_L_96 mv_X10_undo h1 rfl rfl (k0 hI.lay) rfl rfl (Nat.le_of_ble_eq_true rfl) hf (by omega) (by omega) (fun _ _ => trivial) (lv_no b3) an0 rfl (fun v1 M2 hq1 => ?_)
  obtain ⟨hL2, Q2, h3, h4⟩ := h2 v1 M2 hq1
  refine g_aload_n dL_law_815 rfl rfl rfl ?_
  refine g_callV (ci := 11) (As := []) dL_law_816 lm_L_99 mv_X11_undo h3 rfl rfl (k100 hL2) rfl rfl (catv v1) hf (Nat.zero_le _) (Nat.zero_le _) (fun _ q => q.elim) (fun _ _ _ _ q => q.elim) (fun _ _ _ _ q => q.elim) rfl (fun v2 M3 hq2 => ?_)
  obtain ⟨hL3, ⟨r, rfl, rfl⟩, hI3⟩ := h4 v2 M3 hq2
  exact g_icmp_eq dL_law_819 rfl rfl (fun _ => g_less (by omega) (by omega) (k M3 hI3)) (fun z => absurd rfl z)
theorem law_17 (hx : gXok X) (hZ : gSt X) (hW : gNw X) (hS : gSc X n xs) (h6 : i + 6 ≤ n) (hn : n ≤ 3072) (hf : gFit 100 R) (hb : 5 ≤ bc) (hs : 433 ≤ bs) (k : LK X R Z i (bc - 5) (bs - 433)) (hI : Inv M) : gW X R Z gNt yL_law cL_law 7 (some .boolean) 824 (lvL i) [] M bc bs := by
  obtain ⟨N1, mc, ms, Q1, ⟨b1, b2, b3⟩, h1, h2⟩ := (q_log hx (xs (i + 1)) (xs (i + 2))) M hI
  refine g_aload_n dL_law_824 rfl rfl rfl ?_
  refine g_scr (k := 1) dL_law_825 dL_law_826 dL_law_828 rfl dL_law_829 dL_law_830 hS (by omega) hn rfl rfl rfl rfl rfl ?_
  refine g_scr (k := 2) dL_law_831 dL_law_832 dL_law_834 rfl dL_law_835 dL_law_836 hS (by omega) hn rfl rfl rfl rfl rfl ?_
  refine g_callV (ci := 10) (As := [.int (xs (i + 1)), .int (xs (i + 2))]) dL_law_837 lm_L_100 mv_X10_log h1 rfl rfl (k0 hI.lay) rfl rfl (Nat.le_of_ble_eq_true rfl) hf (by omega) (by omega) (fun _ _ => trivial) (lv_no b3) an0 rfl (fun v1 M2 hq1 => ?_)
  obtain ⟨hL2, Q2, h3, h4⟩ := h2 v1 M2 hq1
  refine g_aload_n dL_law_840 rfl rfl rfl ?_
  refine g_scr (k := 1) dL_law_841 dL_law_842 dL_law_844 rfl dL_law_845 dL_law_846 hS (by omega) hn rfl rfl rfl rfl rfl ?_
  refine g_scr (k := 2) dL_law_847 dL_law_848 dL_law_850 rfl dL_law_851 dL_law_852 hS (by omega) hn rfl rfl rfl rfl rfl ?_
  refine g_callV (ci := 11) (As := [.int (xs (i + 1)), .int (xs (i + 2))]) dL_law_853 lm_L_103 mv_X11_log h3 rfl rfl (k100 hL2) rfl rfl (catv v1) hf (Nat.zero_le _) (Nat.zero_le _) (fun _ q => q.elim) (fun _ _ _ _ q => q.elim) (fun _ _ _ _ q => q.elim) rfl (fun v2 M3 hq2 => ?_)
  obtain ⟨hL3, ⟨r, rfl, rfl⟩, hI3⟩ := h4 v2 M3 hq2
  exact g_icmp_eq dL_law_856 rfl rfl (fun _ => g_less (by omega) (by omega) (k M3 hI3)) (fun z => absurd rfl z)
theorem law_18 (hx : gXok X) (hZ : gSt X) (hW : gNw X) (hS : gSc X n xs) (h6 : i + 6 ≤ n) (hn : n ≤ 3072) (hf : gFit 100 R) (hb : 5 ≤ bc) (hs : 433 ≤ bs) (k : LK X R Z i (bc - 5) (bs - 433)) (hI : Inv M) : gW X R Z gNt yL_law cL_law 7 (some .boolean) 861 (lvL i) [] M bc bs := by
  obtain ⟨N1, mc, ms, Q1, ⟨b1, b2, b3⟩, h1, h2⟩ := (q_step hx (xs (i + 1)) (xs (i + 2)) (xs (i + 3))) M hI
  refine g_aload_n dL_law_861 rfl rfl rfl ?_
  refine g_scr (k := 1) dL_law_862 dL_law_863 dL_law_865 rfl dL_law_866 dL_law_867 hS (by omega) hn rfl rfl rfl rfl rfl ?_
  refine g_scr (k := 2) dL_law_868 dL_law_869 dL_law_871 rfl dL_law_872 dL_law_873 hS (by omega) hn rfl rfl rfl rfl rfl ?_
  refine g_scr (k := 3) dL_law_874 dL_law_875 dL_law_877 rfl dL_law_878 dL_law_879 hS (by omega) hn rfl rfl rfl rfl rfl ?_
  refine g_callV (ci := 10) (As := [.int (xs (i + 1)), .int (xs (i + 2)), .int (xs (i + 3))]) dL_law_880 lm_L_104 mv_X10_step h1 rfl rfl (k0 hI.lay) rfl rfl (Nat.le_of_ble_eq_true rfl) hf (by omega) (by omega) (fun _ _ => trivial) (lv_no b3) an0 rfl (fun v1 M2 hq1 => ?_)
  obtain ⟨hL2, Q2, h3, h4⟩ := h2 v1 M2 hq1
  refine g_aload_n dL_law_883 rfl rfl rfl ?_
  refine g_scr (k := 1) dL_law_884 dL_law_885 dL_law_887 rfl dL_law_888 dL_law_889 hS (by omega) hn rfl rfl rfl rfl rfl ?_
  refine g_scr (k := 2) dL_law_890 dL_law_891 dL_law_893 rfl dL_law_894 dL_law_895 hS (by omega) hn rfl rfl rfl rfl rfl ?_
  refine g_scr (k := 3) dL_law_896 dL_law_897 dL_law_899 rfl dL_law_900 dL_law_901 hS (by omega) hn rfl rfl rfl rfl rfl ?_
  refine g_callV (ci := 11) (As := [.int (xs (i + 1)), .int (xs (i + 2)), .int (xs (i + 3))]) dL_law_902 lm_L_107 mv_X11_step h3 rfl rfl (k100 hL2) rfl rfl (catv v1) hf (Nat.zero_le _) (Nat.zero_le _) (fun _ q => q.elim) (fun _ _ _ _ q => q.elim) (fun _ _ _ _ q => q.elim) rfl (fun v2 M3 hq2 => ?_)
  obtain ⟨hL3, ⟨r, rfl, rfl⟩, hI3⟩ := h4 v2 M3 hq2
  exact g_icmp_eq dL_law_905 rfl rfl (fun _ => g_less (by omega) (by omega) (k M3 hI3)) (fun z => absurd rfl z)
theorem law_19 (hx : gXok X) (hZ : gSt X) (hW : gNw X) (hS : gSc X n xs) (h6 : i + 6 ≤ n) (hn : n ≤ 3072) (hf : gFit 100 R) (hb : 5 ≤ bc) (hs : 433 ≤ bs) (k : LK X R Z i (bc - 5) (bs - 433)) (hI : Inv M) : gW X R Z gNt yL_law cL_law 7 (some .boolean) 910 (lvL i) [] M bc bs := by
  obtain ⟨N1, mc, ms, Q1, ⟨b1, b2, b3⟩, h1, h2⟩ := (q_run hx hZ (xs (i + 1)) (xs (i + 2))) M hI
  refine g_aload_n dL_law_910 rfl rfl rfl ?_
  refine g_scr (k := 1) dL_law_911 dL_law_912 dL_law_914 rfl dL_law_915 dL_law_916 hS (by omega) hn rfl rfl rfl rfl rfl ?_
  refine g_scr (k := 2) dL_law_917 dL_law_918 dL_law_920 rfl dL_law_921 dL_law_922 hS (by omega) hn rfl rfl rfl rfl rfl ?_
  refine g_callV (ci := 10) (As := [.int (xs (i + 1)), .int (xs (i + 2))]) dL_law_923 lm_L_108 mv_X10_run h1 rfl rfl (k0 hI.lay) rfl rfl (Nat.le_of_ble_eq_true rfl) hf (by omega) (by omega) (fun _ _ => trivial) (lv_no b3) an0 rfl (fun v1 M2 hq1 => ?_)
  obtain ⟨hL2, Q2, h3, h4⟩ := h2 v1 M2 hq1
  refine g_aload_n dL_law_926 rfl rfl rfl ?_
  refine g_scr (k := 1) dL_law_927 dL_law_928 dL_law_930 rfl dL_law_931 dL_law_932 hS (by omega) hn rfl rfl rfl rfl rfl ?_
  refine g_scr (k := 2) dL_law_933 dL_law_934 dL_law_936 rfl dL_law_937 dL_law_938 hS (by omega) hn rfl rfl rfl rfl rfl ?_
  refine g_callV (ci := 11) (As := [.int (xs (i + 1)), .int (xs (i + 2))]) dL_law_939 lm_L_111 mv_X11_run h3 rfl rfl (k100 hL2) rfl rfl (catv v1) hf (Nat.zero_le _) (Nat.zero_le _) (fun _ q => q.elim) (fun _ _ _ _ q => q.elim) (fun _ _ _ _ q => q.elim) rfl (fun v2 M3 hq2 => ?_)
  obtain ⟨hL3, ⟨r, rfl, rfl⟩, hI3⟩ := h4 v2 M3 hq2
  exact g_icmp_eq dL_law_942 rfl rfl (fun _ => g_less (by omega) (by omega) (k M3 hI3)) (fun z => absurd rfl z)
theorem law_20 (hx : gXok X) (hZ : gSt X) (hW : gNw X) (hS : gSc X n xs) (h6 : i + 6 ≤ n) (hn : n ≤ 3072) (hf : gFit 100 R) (hb : 5 ≤ bc) (hs : 433 ≤ bs) (k : LK X R Z i (bc - 5) (bs - 433)) (hI : Inv M) : gW X R Z gNt yL_law cL_law 7 (some .boolean) 947 (lvL i) [] M bc bs := by
  obtain ⟨N1, mc, ms, Q1, ⟨b1, b2, b3⟩, h1, h2⟩ := (a_perform hx hZ (xs (i + 1))) M hI
  refine g_aload_n dL_law_947 rfl rfl rfl ?_
  refine g_scr (k := 1) dL_law_948 dL_law_949 dL_law_951 rfl dL_law_952 dL_law_953 hS (by omega) hn rfl rfl rfl rfl rfl ?_
  refine g_callV (ci := 10) (As := [.int (xs (i + 1))]) dL_law_954 lm_L_112 mv_X10_perform h1 rfl rfl (k0 hI.lay) rfl rfl (Nat.le_of_ble_eq_true rfl) hf (by omega) (by omega) (fun _ _ => trivial) (lv_no b3) an0 rfl (fun v1 M2 hq1 => ?_)
  obtain ⟨hL2, Q2, h3, h4⟩ := h2 v1 M2 hq1
  refine g_aload_n dL_law_957 rfl rfl rfl ?_
  refine g_scr (k := 1) dL_law_958 dL_law_959 dL_law_961 rfl dL_law_962 dL_law_963 hS (by omega) hn rfl rfl rfl rfl rfl ?_
  refine g_callV (ci := 11) (As := [.int (xs (i + 1))]) dL_law_964 lm_L_115 mv_X11_perform h3 rfl rfl (k100 hL2) rfl rfl (catv v1) hf (Nat.zero_le _) (Nat.zero_le _) (fun _ q => q.elim) (fun _ _ _ _ q => q.elim) (fun _ _ _ _ q => q.elim) rfl (fun v2 M3 hq2 => ?_)
  obtain ⟨hL3, ⟨r, rfl, rfl⟩, hI3⟩ := h4 v2 M3 hq2
  exact g_icmp_eq dL_law_967 rfl rfl (fun _ => g_less (by omega) (by omega) (k M3 hI3)) (fun z => absurd rfl z)
theorem law_21 (hx : gXok X) (hZ : gSt X) (hW : gNw X) (hS : gSc X n xs) (h6 : i + 6 ≤ n) (hn : n ≤ 3072) (hf : gFit 100 R) (hb : 5 ≤ bc) (hs : 433 ≤ bs) (k : LK X R Z i (bc - 5) (bs - 433)) (hI : Inv M) : gW X R Z gNt yL_law cL_law 7 (some .boolean) 972 (lvL i) [] M bc bs := by
  obtain ⟨N1, mc, ms, Q1, ⟨b1, b2, b3⟩, h1, h2⟩ := (q_skin hx hZ (xs (i + 1)) (xs (i + 2))) M hI
  refine g_aload_n dL_law_972 rfl rfl rfl ?_
  refine g_scr (k := 1) dL_law_973 dL_law_974 dL_law_976 rfl dL_law_977 dL_law_978 hS (by omega) hn rfl rfl rfl rfl rfl ?_
  refine g_scr (k := 2) dL_law_979 dL_law_980 dL_law_982 rfl dL_law_983 dL_law_984 hS (by omega) hn rfl rfl rfl rfl rfl ?_
  refine g_callV (ci := 10) (As := [.int (xs (i + 1)), .int (xs (i + 2))]) dL_law_985 lm_L_116 mv_X10_skin h1 rfl rfl (k0 hI.lay) rfl rfl (Nat.le_of_ble_eq_true rfl) hf (by omega) (by omega) (fun _ _ => trivial) (lv_no b3) an0 rfl (fun v1 M2 hq1 => ?_)
  obtain ⟨hL2, Q2, h3, h4⟩ := h2 v1 M2 hq1
  refine g_aload_n dL_law_988 rfl rfl rfl ?_
  refine g_scr (k := 1) dL_law_989 dL_law_990 dL_law_992 rfl dL_law_993 dL_law_994 hS (by omega) hn rfl rfl rfl rfl rfl ?_
  refine g_scr (k := 2) dL_law_995 dL_law_996 dL_law_998 rfl dL_law_999 dL_law_1000 hS (by omega) hn rfl rfl rfl rfl rfl ?_
  refine g_callV (ci := 11) (As := [.int (xs (i + 1)), .int (xs (i + 2))]) dL_law_1001 lm_L_119 mv_X11_skin h3 rfl rfl (k100 hL2) rfl rfl (catv v1) hf (Nat.zero_le _) (Nat.zero_le _) (fun _ q => q.elim) (fun _ _ _ _ q => q.elim) (fun _ _ _ _ q => q.elim) rfl (fun v2 M3 hq2 => ?_)
  obtain ⟨hL3, ⟨r, rfl, rfl⟩, hI3⟩ := h4 v2 M3 hq2
  exact g_icmp_eq dL_law_1004 rfl rfl (fun _ => g_less (by omega) (by omega) (k M3 hI3)) (fun z => absurd rfl z)
theorem law_22 (hx : gXok X) (hZ : gSt X) (hW : gNw X) (hS : gSc X n xs) (h6 : i + 6 ≤ n) (hn : n ≤ 3072) (hf : gFit 100 R) (hb : 5 ≤ bc) (hs : 433 ≤ bs) (k : LK X R Z i (bc - 5) (bs - 433)) (hI : Inv M) : gW X R Z gNt yL_law cL_law 7 (some .boolean) 1009 (lvL i) [] M bc bs := by
  obtain ⟨N1, mc, ms, Q1, ⟨b1, b2, b3⟩, h1, h2⟩ := (q_least hx hZ (xs (i + 1)) (xs (i + 2))) M hI
  refine g_aload_n dL_law_1009 rfl rfl rfl ?_
  refine g_scr (k := 1) dL_law_1010 dL_law_1011 dL_law_1013 rfl dL_law_1014 dL_law_1015 hS (by omega) hn rfl rfl rfl rfl rfl ?_
  refine g_scr (k := 2) dL_law_1016 dL_law_1017 dL_law_1019 rfl dL_law_1020 dL_law_1021 hS (by omega) hn rfl rfl rfl rfl rfl ?_
  refine g_callV (ci := 10) (As := [.int (xs (i + 1)), .int (xs (i + 2))]) dL_law_1022 lm_L_120 mv_X10_least h1 rfl rfl (k0 hI.lay) rfl rfl (Nat.le_of_ble_eq_true rfl) hf (by omega) (by omega) (fun _ _ => trivial) (lv_no b3) an0 rfl (fun v1 M2 hq1 => ?_)
  obtain ⟨hL2, Q2, h3, h4⟩ := h2 v1 M2 hq1
  refine g_aload_n dL_law_1025 rfl rfl rfl ?_
  refine g_scr (k := 1) dL_law_1026 dL_law_1027 dL_law_1029 rfl dL_law_1030 dL_law_1031 hS (by omega) hn rfl rfl rfl rfl rfl ?_
  refine g_scr (k := 2) dL_law_1032 dL_law_1033 dL_law_1035 rfl dL_law_1036 dL_law_1037 hS (by omega) hn rfl rfl rfl rfl rfl ?_
  refine g_callV (ci := 11) (As := [.int (xs (i + 1)), .int (xs (i + 2))]) dL_law_1038 lm_L_123 mv_X11_least h3 rfl rfl (k100 hL2) rfl rfl (catv v1) hf (Nat.zero_le _) (Nat.zero_le _) (fun _ q => q.elim) (fun _ _ _ _ q => q.elim) (fun _ _ _ _ q => q.elim) rfl (fun v2 M3 hq2 => ?_)
  obtain ⟨hL3, ⟨r, rfl, rfl⟩, hI3⟩ := h4 v2 M3 hq2
  exact g_icmp_eq dL_law_1041 rfl rfl (fun _ => g_less (by omega) (by omega) (k M3 hI3)) (fun z => absurd rfl z)
theorem law_23 (hx : gXok X) (hZ : gSt X) (hW : gNw X) (hS : gSc X n xs) (h6 : i + 6 ≤ n) (hn : n ≤ 3072) (hf : gFit 100 R) (hb : 5 ≤ bc) (hs : 433 ≤ bs) (k : LK X R Z i (bc - 5) (bs - 433)) (hI : Inv M) : gW X R Z gNt yL_law cL_law 7 (some .boolean) 1046 (lvL i) [] M bc bs := by
  obtain ⟨N1, mc, ms, Q1, ⟨b1, b2, b3⟩, h1, h2⟩ := (q_cover hx hZ (xs (i + 1)) (xs (i + 2))) M hI
  refine g_aload_n dL_law_1046 rfl rfl rfl ?_
  refine g_scr (k := 1) dL_law_1047 dL_law_1048 dL_law_1050 rfl dL_law_1051 dL_law_1052 hS (by omega) hn rfl rfl rfl rfl rfl ?_
  refine g_scr (k := 2) dL_law_1053 dL_law_1054 dL_law_1056 rfl dL_law_1057 dL_law_1058 hS (by omega) hn rfl rfl rfl rfl rfl ?_
  refine g_callV (ci := 10) (As := [.int (xs (i + 1)), .int (xs (i + 2))]) dL_law_1059 lm_L_124 mv_X10_cover h1 rfl rfl (k0 hI.lay) rfl rfl (Nat.le_of_ble_eq_true rfl) hf (by omega) (by omega) (fun _ _ => trivial) (lv_no b3) an0 rfl (fun v1 M2 hq1 => ?_)
  obtain ⟨hL2, Q2, h3, h4⟩ := h2 v1 M2 hq1
  refine g_aload_n dL_law_1062 rfl rfl rfl ?_
  refine g_scr (k := 1) dL_law_1063 dL_law_1064 dL_law_1066 rfl dL_law_1067 dL_law_1068 hS (by omega) hn rfl rfl rfl rfl rfl ?_
  refine g_scr (k := 2) dL_law_1069 dL_law_1070 dL_law_1072 rfl dL_law_1073 dL_law_1074 hS (by omega) hn rfl rfl rfl rfl rfl ?_
  refine g_callV (ci := 11) (As := [.int (xs (i + 1)), .int (xs (i + 2))]) dL_law_1075 lm_L_127 mv_X11_cover h3 rfl rfl (k100 hL2) rfl rfl (catv v1) hf (Nat.zero_le _) (Nat.zero_le _) (fun _ q => q.elim) (fun _ _ _ _ q => q.elim) (fun _ _ _ _ q => q.elim) rfl (fun v2 M3 hq2 => ?_)
  obtain ⟨hL3, ⟨r, rfl, rfl⟩, hI3⟩ := h4 v2 M3 hq2
  exact g_icmp_eq dL_law_1078 rfl rfl (fun _ => g_less (by omega) (by omega) (k M3 hI3)) (fun z => absurd rfl z)
theorem law_24 (hx : gXok X) (hZ : gSt X) (hW : gNw X) (hS : gSc X n xs) (h6 : i + 6 ≤ n) (hn : n ≤ 3072) (hf : gFit 100 R) (hb : 5 ≤ bc) (hs : 433 ≤ bs) (k : LK X R Z i (bc - 5) (bs - 433)) (hI : Inv M) : gW X R Z gNt yL_law cL_law 7 (some .boolean) 1083 (lvL i) [] M bc bs := by
  obtain ⟨N1, mc, ms, Q1, ⟨b1, b2, b3⟩, h1, h2⟩ := (q_soon hx hZ (xs (i + 1))) M hI
  refine g_aload_n dL_law_1083 rfl rfl rfl ?_
  refine g_scr (k := 1) dL_law_1084 dL_law_1085 dL_law_1087 rfl dL_law_1088 dL_law_1089 hS (by omega) hn rfl rfl rfl rfl rfl ?_
  refine g_callV (ci := 10) (As := [.int (xs (i + 1))]) dL_law_1090 lm_L_128 mv_X10_soon h1 rfl rfl (k0 hI.lay) rfl rfl (Nat.le_of_ble_eq_true rfl) hf (by omega) (by omega) (fun _ _ => trivial) (lv_no b3) an0 rfl (fun v1 M2 hq1 => ?_)
  obtain ⟨hL2, Q2, h3, h4⟩ := h2 v1 M2 hq1
  refine g_aload_n dL_law_1093 rfl rfl rfl ?_
  refine g_scr (k := 1) dL_law_1094 dL_law_1095 dL_law_1097 rfl dL_law_1098 dL_law_1099 hS (by omega) hn rfl rfl rfl rfl rfl ?_
  refine g_callV (ci := 11) (As := [.int (xs (i + 1))]) dL_law_1100 lm_L_131 mv_X11_soon h3 rfl rfl (k100 hL2) rfl rfl (catv v1) hf (Nat.zero_le _) (Nat.zero_le _) (fun _ q => q.elim) (fun _ _ _ _ q => q.elim) (fun _ _ _ _ q => q.elim) rfl (fun v2 M3 hq2 => ?_)
  obtain ⟨hL3, ⟨r, rfl, rfl⟩, hI3⟩ := h4 v2 M3 hq2
  exact g_icmp_eq dL_law_1103 rfl rfl (fun _ => g_less (by omega) (by omega) (k M3 hI3)) (fun z => absurd rfl z)
theorem law_25 (hx : gXok X) (hZ : gSt X) (hW : gNw X) (hS : gSc X n xs) (h6 : i + 6 ≤ n) (hn : n ≤ 3072) (hf : gFit 100 R) (hb : 5 ≤ bc) (hs : 433 ≤ bs) (k : LK X R Z i (bc - 5) (bs - 433)) (hI : Inv M) : gW X R Z gNt yL_law cL_law 7 (some .boolean) 1108 (lvL i) [] M bc bs := by
  obtain ⟨N1, mc, ms, Q1, ⟨b1, b2, b3⟩, h1, h2⟩ := (q_clean hx) M hI
  refine g_aload_n dL_law_1108 rfl rfl rfl ?_
  refine g_callV (ci := 10) (As := []) dL_law_1109 lm_L_132 mv_X10_clean h1 rfl rfl (k0 hI.lay) rfl rfl (Nat.le_of_ble_eq_true rfl) hf (by omega) (by omega) (fun _ _ => trivial) (lv_no b3) an0 rfl (fun v1 M2 hq1 => ?_)
  obtain ⟨hL2, Q2, h3, h4⟩ := h2 v1 M2 hq1
  refine g_aload_n dL_law_1112 rfl rfl rfl ?_
  refine g_callV (ci := 11) (As := []) dL_law_1113 lm_L_135 mv_X11_clean h3 rfl rfl (k100 hL2) rfl rfl (catv v1) hf (Nat.zero_le _) (Nat.zero_le _) (fun _ q => q.elim) (fun _ _ _ _ q => q.elim) (fun _ _ _ _ q => q.elim) rfl (fun v2 M3 hq2 => ?_)
  obtain ⟨hL3, ⟨r, rfl, rfl⟩, hI3⟩ := h4 v2 M3 hq2
  exact g_icmp_eq dL_law_1116 rfl rfl (fun _ => g_less (by omega) (by omega) (k M3 hI3)) (fun z => absurd rfl z)
theorem law_26 (hx : gXok X) (hZ : gSt X) (hW : gNw X) (hS : gSc X n xs) (h6 : i + 6 ≤ n) (hn : n ≤ 3072) (hf : gFit 100 R) (hb : 5 ≤ bc) (hs : 433 ≤ bs) (k : LK X R Z i (bc - 5) (bs - 433)) (hI : Inv M) : gW X R Z gNt yL_law cL_law 7 (some .boolean) 1121 (lvL i) [] M bc bs := by
  obtain ⟨N1, mc, ms, Q1, ⟨b1, b2, b3⟩, h1, h2⟩ := (q_bargain hx hZ (xs (i + 1)) (xs (i + 2))) M hI
  refine g_aload_n dL_law_1121 rfl rfl rfl ?_
  refine g_scr (k := 1) dL_law_1122 dL_law_1123 dL_law_1125 rfl dL_law_1126 dL_law_1127 hS (by omega) hn rfl rfl rfl rfl rfl ?_
  refine g_scr (k := 2) dL_law_1128 dL_law_1129 dL_law_1131 rfl dL_law_1132 dL_law_1133 hS (by omega) hn rfl rfl rfl rfl rfl ?_
  refine g_callV (ci := 10) (As := [.int (xs (i + 1)), .int (xs (i + 2))]) dL_law_1134 lm_L_136 mv_X10_bargain h1 rfl rfl (k0 hI.lay) rfl rfl (Nat.le_of_ble_eq_true rfl) hf (by omega) (by omega) (fun _ _ => trivial) (lv_no b3) an0 rfl (fun v1 M2 hq1 => ?_)
  obtain ⟨hL2, Q2, h3, h4⟩ := h2 v1 M2 hq1
  refine g_aload_n dL_law_1137 rfl rfl rfl ?_
  refine g_scr (k := 1) dL_law_1138 dL_law_1139 dL_law_1141 rfl dL_law_1142 dL_law_1143 hS (by omega) hn rfl rfl rfl rfl rfl ?_
  refine g_scr (k := 2) dL_law_1144 dL_law_1145 dL_law_1147 rfl dL_law_1148 dL_law_1149 hS (by omega) hn rfl rfl rfl rfl rfl ?_
  refine g_callV (ci := 11) (As := [.int (xs (i + 1)), .int (xs (i + 2))]) dL_law_1150 lm_L_139 mv_X11_bargain h3 rfl rfl (k100 hL2) rfl rfl (catv v1) hf (Nat.zero_le _) (Nat.zero_le _) (fun _ q => q.elim) (fun _ _ _ _ q => q.elim) (fun _ _ _ _ q => q.elim) rfl (fun v2 M3 hq2 => ?_)
  obtain ⟨hL3, ⟨r, rfl, rfl⟩, hI3⟩ := h4 v2 M3 hq2
  exact g_icmp_eq dL_law_1153 rfl rfl (fun _ => g_less (by omega) (by omega) (k M3 hI3)) (fun z => absurd rfl z)
theorem law_27 (hx : gXok X) (hZ : gSt X) (hW : gNw X) (hS : gSc X n xs) (h6 : i + 6 ≤ n) (hn : n ≤ 3072) (hf : gFit 100 R) (hb : 5 ≤ bc) (hs : 433 ≤ bs) (k : LK X R Z i (bc - 5) (bs - 433)) (hI : Inv M) : gW X R Z gNt yL_law cL_law 7 (some .boolean) 1158 (lvL i) [] M bc bs := by
  obtain ⟨N1, mc, ms, Q1, ⟨b1, b2, b3⟩, h1, h2⟩ := (a_seen hx (xs (i + 1)) (xs (i + 2)) (b0n (xs (i + 3))) b0n_or) M hI
  refine g_aload_n dL_law_1158 rfl rfl rfl ?_
  refine g_scr (k := 1) dL_law_1159 dL_law_1160 dL_law_1162 rfl dL_law_1163 dL_law_1164 hS (by omega) hn rfl rfl rfl rfl rfl ?_
  refine g_scr (k := 2) dL_law_1165 dL_law_1166 dL_law_1168 rfl dL_law_1169 dL_law_1170 hS (by omega) hn rfl rfl rfl rfl rfl ?_
  refine g_scr (k := 3) dL_law_1171 dL_law_1172 dL_law_1174 rfl dL_law_1175 dL_law_1176 hS (by omega) hn rfl rfl rfl rfl rfl ?_
  refine g_bool (tgt := 1184) dL_law_1177 rfl rfl dL_law_1180 rfl rfl dL_law_1181 rfl dL_law_1184 rfl rfl ?_
  refine g_callV (ci := 10) (As := [.int (xs (i + 1)), .int (xs (i + 2)), .int (b0n (xs (i + 3)))]) dL_law_1185 lm_L_140 mv_X10_seen h1 rfl rfl (k0 hI.lay) rfl rfl (Nat.le_of_ble_eq_true rfl) hf (by omega) (by omega) (fun _ _ => trivial) (lv_no b3) an0 rfl (fun v1 M2 hq1 => ?_)
  obtain ⟨hL2, Q2, h3, h4⟩ := h2 v1 M2 hq1
  refine g_aload_n dL_law_1188 rfl rfl rfl ?_
  refine g_scr (k := 1) dL_law_1189 dL_law_1190 dL_law_1192 rfl dL_law_1193 dL_law_1194 hS (by omega) hn rfl rfl rfl rfl rfl ?_
  refine g_scr (k := 2) dL_law_1195 dL_law_1196 dL_law_1198 rfl dL_law_1199 dL_law_1200 hS (by omega) hn rfl rfl rfl rfl rfl ?_
  refine g_scr (k := 3) dL_law_1201 dL_law_1202 dL_law_1204 rfl dL_law_1205 dL_law_1206 hS (by omega) hn rfl rfl rfl rfl rfl ?_
  refine g_bool (tgt := 1214) dL_law_1207 rfl rfl dL_law_1210 rfl rfl dL_law_1211 rfl dL_law_1214 rfl rfl ?_
  refine g_callV (ci := 11) (As := [.int (xs (i + 1)), .int (xs (i + 2)), .int (b0n (xs (i + 3)))]) dL_law_1215 lm_L_144 mv_X11_seen h3 rfl rfl (k100 hL2) rfl rfl (catv v1) hf (Nat.zero_le _) (Nat.zero_le _) (fun _ q => q.elim) (fun _ _ _ _ q => q.elim) (fun _ _ _ _ q => q.elim) rfl (fun v2 M3 hq2 => ?_)
  obtain ⟨hL3, ⟨r, rfl, rfl⟩, hI3⟩ := h4 v2 M3 hq2
  exact g_icmp_eq dL_law_1218 rfl rfl (fun _ => g_less (by omega) (by omega) (k M3 hI3)) (fun z => absurd rfl z)
theorem law_28 (hx : gXok X) (hZ : gSt X) (hW : gNw X) (hS : gSc X n xs) (h6 : i + 6 ≤ n) (hn : n ≤ 3072) (hf : gFit 100 R) (hb : 5 ≤ bc) (hs : 433 ≤ bs) (k : LK X R Z i (bc - 5) (bs - 433)) (hI : Inv M) : gW X R Z gNt yL_law cL_law 7 (some .boolean) 1223 (lvL i) [] M bc bs := by
  obtain ⟨N1, mc, ms, Q1, ⟨b1, b2, b3⟩, h1, h2⟩ := (q_sets hx hZ (xs (i + 1)) (xs (i + 2))) M hI
  refine g_aload_n dL_law_1223 rfl rfl rfl ?_
  refine g_scr (k := 1) dL_law_1224 dL_law_1225 dL_law_1227 rfl dL_law_1228 dL_law_1229 hS (by omega) hn rfl rfl rfl rfl rfl ?_
  refine g_scr (k := 2) dL_law_1230 dL_law_1231 dL_law_1233 rfl dL_law_1234 dL_law_1235 hS (by omega) hn rfl rfl rfl rfl rfl ?_
  refine g_callV (ci := 10) (As := [.int (xs (i + 1)), .int (xs (i + 2))]) dL_law_1236 lm_L_145 mv_X10_sets h1 rfl rfl (k0 hI.lay) rfl rfl (Nat.le_of_ble_eq_true rfl) hf (by omega) (by omega) (fun _ _ => trivial) (lv_no b3) an0 rfl (fun v1 M2 hq1 => ?_)
  obtain ⟨hL2, Q2, h3, h4⟩ := h2 v1 M2 hq1
  refine g_aload_n dL_law_1239 rfl rfl rfl ?_
  refine g_scr (k := 1) dL_law_1240 dL_law_1241 dL_law_1243 rfl dL_law_1244 dL_law_1245 hS (by omega) hn rfl rfl rfl rfl rfl ?_
  refine g_scr (k := 2) dL_law_1246 dL_law_1247 dL_law_1249 rfl dL_law_1250 dL_law_1251 hS (by omega) hn rfl rfl rfl rfl rfl ?_
  refine g_callV (ci := 11) (As := [.int (xs (i + 1)), .int (xs (i + 2))]) dL_law_1252 lm_L_148 mv_X11_sets h3 rfl rfl (k100 hL2) rfl rfl (catv v1) hf (Nat.zero_le _) (Nat.zero_le _) (fun _ q => q.elim) (fun _ _ _ _ q => q.elim) (fun _ _ _ _ q => q.elim) rfl (fun v2 M3 hq2 => ?_)
  obtain ⟨hL3, ⟨r, rfl, rfl⟩, hI3⟩ := h4 v2 M3 hq2
  exact g_icmp_eq dL_law_1255 rfl rfl (fun _ => g_less (by omega) (by omega) (k M3 hI3)) (fun z => absurd rfl z)
theorem law_29 (hx : gXok X) (hZ : gSt X) (hW : gNw X) (hS : gSc X n xs) (h6 : i + 6 ≤ n) (hn : n ≤ 3072) (hf : gFit 100 R) (hb : 5 ≤ bc) (hs : 433 ≤ bs) (k : LK X R Z i (bc - 5) (bs - 433)) (hI : Inv M) : gW X R Z gNt yL_law cL_law 7 (some .boolean) 1260 (lvL i) [] M bc bs := by
  obtain ⟨N1, mc, ms, Q1, ⟨b1, b2, b3⟩, h1, h2⟩ := (q_ask hx hZ (xs (i + 1))) M hI
  refine g_aload_n dL_law_1260 rfl rfl rfl ?_
  refine g_scr (k := 1) dL_law_1261 dL_law_1262 dL_law_1264 rfl dL_law_1265 dL_law_1266 hS (by omega) hn rfl rfl rfl rfl rfl ?_
  refine g_callV (ci := 10) (As := [.int (xs (i + 1))]) dL_law_1267 lm_L_149 mv_X10_ask h1 rfl rfl (k0 hI.lay) rfl rfl (Nat.le_of_ble_eq_true rfl) hf (by omega) (by omega) (fun _ _ => trivial) (lv_no b3) an0 rfl (fun v1 M2 hq1 => ?_)
  obtain ⟨hL2, Q2, h3, h4⟩ := h2 v1 M2 hq1
  refine g_aload_n dL_law_1270 rfl rfl rfl ?_
  refine g_scr (k := 1) dL_law_1271 dL_law_1272 dL_law_1274 rfl dL_law_1275 dL_law_1276 hS (by omega) hn rfl rfl rfl rfl rfl ?_
  refine g_callV (ci := 11) (As := [.int (xs (i + 1))]) dL_law_1277 lm_L_152 mv_X11_ask h3 rfl rfl (k100 hL2) rfl rfl (catv v1) hf (Nat.zero_le _) (Nat.zero_le _) (fun _ q => q.elim) (fun _ _ _ _ q => q.elim) (fun _ _ _ _ q => q.elim) rfl (fun v2 M3 hq2 => ?_)
  obtain ⟨hL3, ⟨r, rfl, rfl⟩, hI3⟩ := h4 v2 M3 hq2
  exact g_icmp_eq dL_law_1280 rfl rfl (fun _ => g_less (by omega) (by omega) (k M3 hI3)) (fun z => absurd rfl z)
theorem law_30 (hx : gXok X) (hZ : gSt X) (hW : gNw X) (hS : gSc X n xs) (h6 : i + 6 ≤ n) (hn : n ≤ 3072) (hf : gFit 100 R) (hb : 5 ≤ bc) (hs : 433 ≤ bs) (k : LK X R Z i (bc - 5) (bs - 433)) (hI : Inv M) : gW X R Z gNt yL_law cL_law 7 (some .boolean) 1285 (lvL i) [] M bc bs := by
  obtain ⟨N1, mc, ms, Q1, ⟨b1, b2, b3⟩, h1, h2⟩ := (q_game hx hZ (xs (i + 1)) (xs (i + 2)) (xs (i + 3)) (xs (i + 4))) M hI
  refine g_aload_n dL_law_1285 rfl rfl rfl ?_
  refine g_scr (k := 1) dL_law_1286 dL_law_1287 dL_law_1289 rfl dL_law_1290 dL_law_1291 hS (by omega) hn rfl rfl rfl rfl rfl ?_
  refine g_scr (k := 2) dL_law_1292 dL_law_1293 dL_law_1295 rfl dL_law_1296 dL_law_1297 hS (by omega) hn rfl rfl rfl rfl rfl ?_
  refine g_scr (k := 3) dL_law_1298 dL_law_1299 dL_law_1301 rfl dL_law_1302 dL_law_1303 hS (by omega) hn rfl rfl rfl rfl rfl ?_
  refine g_scr (k := 4) dL_law_1304 dL_law_1305 dL_law_1307 rfl dL_law_1308 dL_law_1309 hS (by omega) hn rfl rfl rfl rfl rfl ?_
  refine g_callV (ci := 10) (As := [.int (xs (i + 1)), .int (xs (i + 2)), .int (xs (i + 3)), .int (xs (i + 4))]) dL_law_1310 lm_L_153 mv_X10_game h1 rfl rfl (k0 hI.lay) rfl rfl (Nat.le_of_ble_eq_true rfl) hf (by omega) (by omega) (fun _ _ => trivial) (lv_no b3) an0 rfl (fun v1 M2 hq1 => ?_)
  obtain ⟨hL2, Q2, h3, h4⟩ := h2 v1 M2 hq1
  refine g_aload_n dL_law_1313 rfl rfl rfl ?_
  refine g_scr (k := 1) dL_law_1314 dL_law_1315 dL_law_1317 rfl dL_law_1318 dL_law_1319 hS (by omega) hn rfl rfl rfl rfl rfl ?_
  refine g_scr (k := 2) dL_law_1320 dL_law_1321 dL_law_1323 rfl dL_law_1324 dL_law_1325 hS (by omega) hn rfl rfl rfl rfl rfl ?_
  refine g_scr (k := 3) dL_law_1326 dL_law_1327 dL_law_1329 rfl dL_law_1330 dL_law_1331 hS (by omega) hn rfl rfl rfl rfl rfl ?_
  refine g_scr (k := 4) dL_law_1332 dL_law_1333 dL_law_1335 rfl dL_law_1336 dL_law_1337 hS (by omega) hn rfl rfl rfl rfl rfl ?_
  refine g_callV (ci := 11) (As := [.int (xs (i + 1)), .int (xs (i + 2)), .int (xs (i + 3)), .int (xs (i + 4))]) dL_law_1338 lm_L_157 mv_X11_game h3 rfl rfl (k100 hL2) rfl rfl (catv v1) hf (Nat.zero_le _) (Nat.zero_le _) (fun _ q => q.elim) (fun _ _ _ _ q => q.elim) (fun _ _ _ _ q => q.elim) rfl (fun v2 M3 hq2 => ?_)
  obtain ⟨hL3, ⟨r, rfl, rfl⟩, hI3⟩ := h4 v2 M3 hq2
  exact g_icmp_eq dL_law_1341 rfl rfl (fun _ => g_less (by omega) (by omega) (k M3 hI3)) (fun z => absurd rfl z)
theorem law_31 (hx : gXok X) (hZ : gSt X) (hW : gNw X) (hS : gSc X n xs) (h6 : i + 6 ≤ n) (hn : n ≤ 3072) (hf : gFit 100 R) (hb : 5 ≤ bc) (hs : 433 ≤ bs) (k : LK X R Z i (bc - 5) (bs - 433)) (hI : Inv M) : gW X R Z gNt yL_law cL_law 7 (some .boolean) 1346 (lvL i) [] M bc bs := by
  obtain ⟨N1, mc, ms, Q1, ⟨b1, b2, b3⟩, h1, h2⟩ := (q_rests hx hZ (xs (i + 1)) (xs (i + 2))) M hI
  refine g_aload_n dL_law_1346 rfl rfl rfl ?_
  refine g_scr (k := 1) dL_law_1347 dL_law_1348 dL_law_1350 rfl dL_law_1351 dL_law_1352 hS (by omega) hn rfl rfl rfl rfl rfl ?_
  refine g_scr (k := 2) dL_law_1353 dL_law_1354 dL_law_1356 rfl dL_law_1357 dL_law_1358 hS (by omega) hn rfl rfl rfl rfl rfl ?_
  refine g_callV (ci := 10) (As := [.int (xs (i + 1)), .int (xs (i + 2))]) dL_law_1359 lm_L_158 mv_X10_rests h1 rfl rfl (k0 hI.lay) rfl rfl (Nat.le_of_ble_eq_true rfl) hf (by omega) (by omega) (fun _ _ => trivial) (lv_no b3) an0 rfl (fun v1 M2 hq1 => ?_)
  obtain ⟨hL2, Q2, h3, h4⟩ := h2 v1 M2 hq1
  refine g_aload_n dL_law_1362 rfl rfl rfl ?_
  refine g_scr (k := 1) dL_law_1363 dL_law_1364 dL_law_1366 rfl dL_law_1367 dL_law_1368 hS (by omega) hn rfl rfl rfl rfl rfl ?_
  refine g_scr (k := 2) dL_law_1369 dL_law_1370 dL_law_1372 rfl dL_law_1373 dL_law_1374 hS (by omega) hn rfl rfl rfl rfl rfl ?_
  refine g_callV (ci := 11) (As := [.int (xs (i + 1)), .int (xs (i + 2))]) dL_law_1375 lm_L_161 mv_X11_rests h3 rfl rfl (k100 hL2) rfl rfl (catv v1) hf (Nat.zero_le _) (Nat.zero_le _) (fun _ q => q.elim) (fun _ _ _ _ q => q.elim) (fun _ _ _ _ q => q.elim) rfl (fun v2 M3 hq2 => ?_)
  obtain ⟨hL3, ⟨r, rfl, rfl⟩, hI3⟩ := h4 v2 M3 hq2
  exact g_icmp_eq dL_law_1378 rfl rfl (fun _ => g_less (by omega) (by omega) (k M3 hI3)) (fun z => absurd rfl z)
theorem law_32 (hx : gXok X) (hZ : gSt X) (hW : gNw X) (hS : gSc X n xs) (h6 : i + 6 ≤ n) (hn : n ≤ 3072) (hf : gFit 100 R) (hb : 5 ≤ bc) (hs : 433 ≤ bs) (k : LK X R Z i (bc - 5) (bs - 433)) (hI : Inv M) : gW X R Z gNt yL_law cL_law 7 (some .boolean) 1383 (lvL i) [] M bc bs := by
  obtain ⟨N1, mc, ms, Q1, ⟨b1, b2, b3⟩, h1, h2⟩ := (q_odds hx hZ (xs (i + 1)) (xs (i + 2))) M hI
  refine g_aload_n dL_law_1383 rfl rfl rfl ?_
  refine g_scr (k := 1) dL_law_1384 dL_law_1385 dL_law_1387 rfl dL_law_1388 dL_law_1389 hS (by omega) hn rfl rfl rfl rfl rfl ?_
  refine g_scr (k := 2) dL_law_1390 dL_law_1391 dL_law_1393 rfl dL_law_1394 dL_law_1395 hS (by omega) hn rfl rfl rfl rfl rfl ?_
  refine g_callV (ci := 10) (As := [.int (xs (i + 1)), .int (xs (i + 2))]) dL_law_1396 lm_L_162 mv_X10_odds h1 rfl rfl (k0 hI.lay) rfl rfl (Nat.le_of_ble_eq_true rfl) hf (by omega) (by omega) (fun _ _ => trivial) (lv_no b3) an0 rfl (fun v1 M2 hq1 => ?_)
  obtain ⟨hL2, Q2, h3, h4⟩ := h2 v1 M2 hq1
  refine g_aload_n dL_law_1399 rfl rfl rfl ?_
  refine g_scr (k := 1) dL_law_1400 dL_law_1401 dL_law_1403 rfl dL_law_1404 dL_law_1405 hS (by omega) hn rfl rfl rfl rfl rfl ?_
  refine g_scr (k := 2) dL_law_1406 dL_law_1407 dL_law_1409 rfl dL_law_1410 dL_law_1411 hS (by omega) hn rfl rfl rfl rfl rfl ?_
  refine g_callV (ci := 11) (As := [.int (xs (i + 1)), .int (xs (i + 2))]) dL_law_1412 lm_L_165 mv_X11_odds h3 rfl rfl (k100 hL2) rfl rfl (catv v1) hf (Nat.zero_le _) (Nat.zero_le _) (fun _ q => q.elim) (fun _ _ _ _ q => q.elim) (fun _ _ _ _ q => q.elim) rfl (fun v2 M3 hq2 => ?_)
  obtain ⟨hL3, ⟨r, rfl, rfl⟩, hI3⟩ := h4 v2 M3 hq2
  exact g_icmp_eq dL_law_1415 rfl rfl (fun _ => g_less (by omega) (by omega) (k M3 hI3)) (fun z => absurd rfl z)
theorem law_33 (hx : gXok X) (hZ : gSt X) (hW : gNw X) (hS : gSc X n xs) (h6 : i + 6 ≤ n) (hn : n ≤ 3072) (hf : gFit 100 R) (hb : 5 ≤ bc) (hs : 433 ≤ bs) (k : LK X R Z i (bc - 5) (bs - 433)) (hI : Inv M) : gW X R Z gNt yL_law cL_law 7 (some .boolean) 1420 (lvL i) [] M bc bs := by
  obtain ⟨N1, mc, ms, Q1, ⟨b1, b2, b3⟩, h1, h2⟩ := (q_shares hx (xs (i + 1)) (xs (i + 2))) M hI
  refine g_aload_n dL_law_1420 rfl rfl rfl ?_
  refine g_scr (k := 1) dL_law_1421 dL_law_1422 dL_law_1424 rfl dL_law_1425 dL_law_1426 hS (by omega) hn rfl rfl rfl rfl rfl ?_
  refine g_scr (k := 2) dL_law_1427 dL_law_1428 dL_law_1430 rfl dL_law_1431 dL_law_1432 hS (by omega) hn rfl rfl rfl rfl rfl ?_
  refine g_callV (ci := 10) (As := [.int (xs (i + 1)), .int (xs (i + 2))]) dL_law_1433 lm_L_166 mv_X10_shares h1 rfl rfl (k0 hI.lay) rfl rfl (Nat.le_of_ble_eq_true rfl) hf (by omega) (by omega) (fun _ _ => trivial) (lv_no b3) an0 rfl (fun v1 M2 hq1 => ?_)
  obtain ⟨hL2, Q2, h3, h4⟩ := h2 v1 M2 hq1
  refine g_aload_n dL_law_1436 rfl rfl rfl ?_
  refine g_scr (k := 1) dL_law_1437 dL_law_1438 dL_law_1440 rfl dL_law_1441 dL_law_1442 hS (by omega) hn rfl rfl rfl rfl rfl ?_
  refine g_scr (k := 2) dL_law_1443 dL_law_1444 dL_law_1446 rfl dL_law_1447 dL_law_1448 hS (by omega) hn rfl rfl rfl rfl rfl ?_
  refine g_callV (ci := 11) (As := [.int (xs (i + 1)), .int (xs (i + 2))]) dL_law_1449 lm_L_169 mv_X11_shares h3 rfl rfl (k100 hL2) rfl rfl (catv v1) hf (Nat.zero_le _) (Nat.zero_le _) (fun _ q => q.elim) (fun _ _ _ _ q => q.elim) (fun _ _ _ _ q => q.elim) rfl (fun v2 M3 hq2 => ?_)
  obtain ⟨hL3, ⟨r, rfl, rfl⟩, hI3⟩ := h4 v2 M3 hq2
  exact g_icmp_eq dL_law_1452 rfl rfl (fun _ => g_less (by omega) (by omega) (k M3 hI3)) (fun z => absurd rfl z)
theorem law_34 (hx : gXok X) (hZ : gSt X) (hW : gNw X) (hS : gSc X n xs) (h6 : i + 6 ≤ n) (hn : n ≤ 3072) (hf : gFit 100 R) (hb : 5 ≤ bc) (hs : 433 ≤ bs) (k : LK X R Z i (bc - 5) (bs - 433)) (hI : Inv M) : gW X R Z gNt yL_law cL_law 7 (some .boolean) 1457 (lvL i) [] M bc bs := by
  obtain ⟨N1, mc, ms, Q1, ⟨b1, b2, b3⟩, h1, h2⟩ := (q_owners hx (xs (i + 1))) M hI
  refine g_aload_n dL_law_1457 rfl rfl rfl ?_
  refine g_scr (k := 1) dL_law_1458 dL_law_1459 dL_law_1461 rfl dL_law_1462 dL_law_1463 hS (by omega) hn rfl rfl rfl rfl rfl ?_
  refine g_callV (ci := 10) (As := [.int (xs (i + 1))]) dL_law_1464 lm_L_170 mv_X10_owners h1 rfl rfl (k0 hI.lay) rfl rfl (Nat.le_of_ble_eq_true rfl) hf (by omega) (by omega) (fun _ _ => trivial) (lv_no b3) an0 rfl (fun v1 M2 hq1 => ?_)
  obtain ⟨hL2, Q2, h3, h4⟩ := h2 v1 M2 hq1
  refine g_aload_n dL_law_1467 rfl rfl rfl ?_
  refine g_scr (k := 1) dL_law_1468 dL_law_1469 dL_law_1471 rfl dL_law_1472 dL_law_1473 hS (by omega) hn rfl rfl rfl rfl rfl ?_
  refine g_callV (ci := 11) (As := [.int (xs (i + 1))]) dL_law_1474 lm_L_173 mv_X11_owners h3 rfl rfl (k100 hL2) rfl rfl (catv v1) hf (Nat.zero_le _) (Nat.zero_le _) (fun _ q => q.elim) (fun _ _ _ _ q => q.elim) (fun _ _ _ _ q => q.elim) rfl (fun v2 M3 hq2 => ?_)
  obtain ⟨hL3, ⟨r, rfl, rfl⟩, hI3⟩ := h4 v2 M3 hq2
  exact g_icmp_eq dL_law_1477 rfl rfl (fun _ => g_less (by omega) (by omega) (k M3 hI3)) (fun z => absurd rfl z)
theorem law_35 (hx : gXok X) (hZ : gSt X) (hW : gNw X) (hS : gSc X n xs) (h6 : i + 6 ≤ n) (hn : n ≤ 3072) (hf : gFit 100 R) (hb : 5 ≤ bc) (hs : 433 ≤ bs) (k : LK X R Z i (bc - 5) (bs - 433)) (hI : Inv M) : gW X R Z gNt yL_law cL_law 7 (some .boolean) 1482 (lvL i) [] M bc bs := by
  obtain ⟨N1, mc, ms, Q1, ⟨b1, b2, b3⟩, h1, h2⟩ := (q_wish hx (xs (i + 1))) M hI
  refine g_aload_n dL_law_1482 rfl rfl rfl ?_
  refine g_scr (k := 1) dL_law_1483 dL_law_1484 dL_law_1486 rfl dL_law_1487 dL_law_1488 hS (by omega) hn rfl rfl rfl rfl rfl ?_
  refine g_callV (ci := 10) (As := [.int (xs (i + 1))]) dL_law_1489 lm_L_174 mv_X10_wish h1 rfl rfl (k0 hI.lay) rfl rfl (Nat.le_of_ble_eq_true rfl) hf (by omega) (by omega) (fun _ _ => trivial) (lv_no b3) an0 rfl (fun v1 M2 hq1 => ?_)
  obtain ⟨hL2, Q2, h3, h4⟩ := h2 v1 M2 hq1
  refine g_aload_n dL_law_1492 rfl rfl rfl ?_
  refine g_scr (k := 1) dL_law_1493 dL_law_1494 dL_law_1496 rfl dL_law_1497 dL_law_1498 hS (by omega) hn rfl rfl rfl rfl rfl ?_
  refine g_callV (ci := 11) (As := [.int (xs (i + 1))]) dL_law_1499 lm_L_177 mv_X11_wish h3 rfl rfl (k100 hL2) rfl rfl (catv v1) hf (Nat.zero_le _) (Nat.zero_le _) (fun _ q => q.elim) (fun _ _ _ _ q => q.elim) (fun _ _ _ _ q => q.elim) rfl (fun v2 M3 hq2 => ?_)
  obtain ⟨hL3, ⟨r, rfl, rfl⟩, hI3⟩ := h4 v2 M3 hq2
  exact g_icmp_eq dL_law_1502 rfl rfl (fun _ => g_less (by omega) (by omega) (k M3 hI3)) (fun z => absurd rfl z)
theorem law_36 (hx : gXok X) (hZ : gSt X) (hW : gNw X) (hS : gSc X n xs) (h6 : i + 6 ≤ n) (hn : n ≤ 3072) (hf : gFit 100 R) (hb : 5 ≤ bc) (hs : 433 ≤ bs) (k : LK X R Z i (bc - 5) (bs - 433)) (hI : Inv M) : gW X R Z gNt yL_law cL_law 7 (some .boolean) 1507 (lvL i) [] M bc bs := by
  obtain ⟨N1, mc, ms, Q1, ⟨b1, b2, b3⟩, h1, h2⟩ := (q_all hx hZ (xs (i + 1))) M hI
  refine g_aload_n dL_law_1507 rfl rfl rfl ?_
  refine g_scr (k := 1) dL_law_1508 dL_law_1509 dL_law_1511 rfl dL_law_1512 dL_law_1513 hS (by omega) hn rfl rfl rfl rfl rfl ?_
  refine g_callV (ci := 10) (As := [.int (xs (i + 1))]) dL_law_1514 lm_L_178 mv_X10_all h1 rfl rfl (k0 hI.lay) rfl rfl (Nat.le_of_ble_eq_true rfl) hf (by omega) (by omega) (fun _ _ => trivial) (lv_no b3) an0 rfl (fun v1 M2 hq1 => ?_)
  obtain ⟨hL2, Q2, h3, h4⟩ := h2 v1 M2 hq1
  refine g_aload_n dL_law_1517 rfl rfl rfl ?_
  refine g_scr (k := 1) dL_law_1518 dL_law_1519 dL_law_1521 rfl dL_law_1522 dL_law_1523 hS (by omega) hn rfl rfl rfl rfl rfl ?_
  refine g_callV (ci := 11) (As := [.int (xs (i + 1))]) dL_law_1524 lm_L_181 mv_X11_all h3 rfl rfl (k100 hL2) rfl rfl (catv v1) hf (Nat.zero_le _) (Nat.zero_le _) (fun _ q => q.elim) (fun _ _ _ _ q => q.elim) (fun _ _ _ _ q => q.elim) rfl (fun v2 M3 hq2 => ?_)
  obtain ⟨hL3, ⟨r, rfl, rfl⟩, hI3⟩ := h4 v2 M3 hq2
  exact g_icmp_eq dL_law_1527 rfl rfl (fun _ => g_less (by omega) (by omega) (k M3 hI3)) (fun z => absurd rfl z)
theorem law_37 (hx : gXok X) (hZ : gSt X) (hW : gNw X) (hS : gSc X n xs) (h6 : i + 6 ≤ n) (hn : n ≤ 3072) (hf : gFit 100 R) (hb : 5 ≤ bc) (hs : 433 ≤ bs) (k : LK X R Z i (bc - 5) (bs - 433)) (hI : Inv M) : gW X R Z gNt yL_law cL_law 7 (some .boolean) 1532 (lvL i) [] M bc bs := by
  obtain ⟨N1, mc, ms, Q1, ⟨b1, b2, b3⟩, h1, h2⟩ := (a_image hx) M hI
  refine g_aload_n dL_law_1532 rfl rfl rfl ?_
  refine g_callV (ci := 10) (As := []) dL_law_1533 lm_L_182 mv_X10_image h1 rfl rfl (k0 hI.lay) rfl rfl (Nat.le_of_ble_eq_true rfl) hf (by omega) (by omega) (fun _ _ => trivial) (lv_no b3) an0 rfl (fun v1 M2 hq1 => ?_)
  obtain ⟨hL2, Q2, h3, h4⟩ := h2 v1 M2 hq1
  refine g_aload_n dL_law_1536 rfl rfl rfl ?_
  refine g_callV (ci := 11) (As := []) dL_law_1537 lm_L_185 mv_X11_image h3 rfl rfl (k100 hL2) rfl rfl (catv v1) hf (Nat.zero_le _) (Nat.zero_le _) (fun _ q => q.elim) (fun _ _ _ _ q => q.elim) (fun _ _ _ _ q => q.elim) rfl (fun v2 M3 hq2 => ?_)
  obtain ⟨hL3, ⟨r, rfl, rfl⟩, hI3⟩ := h4 v2 M3 hq2
  exact g_icmp_eq dL_law_1540 rfl rfl (fun _ => g_less (by omega) (by omega) (k M3 hI3)) (fun z => absurd rfl z)
theorem law_38 (hx : gXok X) (hZ : gSt X) (hW : gNw X) (hS : gSc X n xs) (h6 : i + 6 ≤ n) (hn : n ≤ 3072) (hf : gFit 100 R) (hb : 5 ≤ bc) (hs : 433 ≤ bs) (k : LK X R Z i (bc - 5) (bs - 433)) (hI : Inv M) : gW X R Z gNt yL_law cL_law 7 (some .boolean) 1545 (lvL i) [] M bc bs := by
  obtain ⟨N1, mc, ms, Q1, ⟨b1, b2, b3⟩, h1, h2⟩ := (a_back hx) M hI
  refine g_aload_n dL_law_1545 rfl rfl rfl ?_
  refine g_callV (ci := 10) (As := []) dL_law_1546 lm_L_186 mv_X10_back h1 rfl rfl (k0 hI.lay) rfl rfl (Nat.le_of_ble_eq_true rfl) hf (by omega) (by omega) (fun _ _ => trivial) (lv_no b3) an0 rfl (fun v1 M2 hq1 => ?_)
  obtain ⟨hL2, Q2, h3, h4⟩ := h2 v1 M2 hq1
  refine g_aload_n dL_law_1549 rfl rfl rfl ?_
  refine g_callV (ci := 11) (As := []) dL_law_1550 lm_L_189 mv_X11_back h3 rfl rfl (k100 hL2) rfl rfl (catv v1) hf (Nat.zero_le _) (Nat.zero_le _) (fun _ q => q.elim) (fun _ _ _ _ q => q.elim) (fun _ _ _ _ q => q.elim) rfl (fun v2 M3 hq2 => ?_)
  obtain ⟨hL3, ⟨r, rfl, rfl⟩, hI3⟩ := h4 v2 M3 hq2
  exact g_icmp_eq dL_law_1553 rfl rfl (fun _ => g_less (by omega) (by omega) (k M3 hI3)) (fun z => absurd rfl z)
theorem law_39 (hx : gXok X) (hZ : gSt X) (hW : gNw X) (hS : gSc X n xs) (h6 : i + 6 ≤ n) (hn : n ≤ 3072) (hf : gFit 100 R) (hb : 5 ≤ bc) (hs : 433 ≤ bs) (k : LK X R Z i (bc - 5) (bs - 433)) (hI : Inv M) : gW X R Z gNt yL_law cL_law 7 (some .boolean) 1558 (lvL i) [] M bc bs := by
  obtain ⟨N1, mc, ms, Q1, ⟨b1, b2, b3⟩, h1, h2⟩ := (q_count hx (xs (i + 1))) M hI
  refine g_aload_n dL_law_1558 rfl rfl rfl ?_
  refine g_scr (k := 1) dL_law_1559 dL_law_1560 dL_law_1562 rfl dL_law_1563 dL_law_1564 hS (by omega) hn rfl rfl rfl rfl rfl ?_
  refine g_callV (ci := 10) (As := [.int (xs (i + 1))]) dL_law_1565 lm_L_190 mv_X10_count h1 rfl rfl (k0 hI.lay) rfl rfl (Nat.le_of_ble_eq_true rfl) hf (by omega) (by omega) (fun _ _ => trivial) (lv_no b3) an0 rfl (fun v1 M2 hq1 => ?_)
  obtain ⟨hL2, Q2, h3, h4⟩ := h2 v1 M2 hq1
  refine g_aload_n dL_law_1568 rfl rfl rfl ?_
  refine g_scr (k := 1) dL_law_1569 dL_law_1570 dL_law_1572 rfl dL_law_1573 dL_law_1574 hS (by omega) hn rfl rfl rfl rfl rfl ?_
  refine g_callV (ci := 11) (As := [.int (xs (i + 1))]) dL_law_1575 lm_L_193 mv_X11_count h3 rfl rfl (k100 hL2) rfl rfl (catv v1) hf (Nat.zero_le _) (Nat.zero_le _) (fun _ q => q.elim) (fun _ _ _ _ q => q.elim) (fun _ _ _ _ q => q.elim) rfl (fun v2 M3 hq2 => ?_)
  obtain ⟨hL3, ⟨r, rfl, rfl⟩, hI3⟩ := h4 v2 M3 hq2
  exact g_icmp_eq dL_law_1578 rfl rfl (fun _ => g_less (by omega) (by omega) (k M3 hI3)) (fun z => absurd rfl z)
end K1
