section P3
variable {X : gX} {R : Room} {Z : gZt} {N : Nat → Prop} {y : MethodName} {cc : ByteArray} {nL : Nat} {ret : Option FieldType} {pc pc' tgt : Nat} {lv : List (Nat × Value)} {st : List Value} {M : gM} {bc bs bc2 bs2 : Nat}
theorem g_scr2 {k i n p1 p2 p3 p4 : Nat} {kz : Int} {xs : Nat → Int32} (h0 : gLk lv 0 = some (.ref 5030)) (h4 : gLk lv 4 = some (.int (nI i))) (d0 : decode cc pc = .ok (.aload_n 0, 1)) (d1 : decode cc p1 = .ok (.iload 4, 2)) (d2 : decode cc p2 = .ok (.iconst kz, 1)) (hz : Int32.ofInt kz = nI k) (d3 : decode cc p3 = .ok (.iadd, 1)) (d4 : decode cc p4 = .ok (.iaload, 1)) (hS : gSc X n xs) (hi : i + k < n) (hn : n ≤ 3072) (e1 : pc + 1 = p1) (e2 : p1 + 2 = p2) (e3 : p2 + 1 = p3) (e4 : p3 + 1 = p4) (hp : p4 + 1 = pc') (kk : gW X R Z N y cc nL ret pc' lv (.int (xs (i + k)) :: st) M bc bs) : gW X R Z N y cc nL ret pc lv st M bc bs := by
  refine g_aload_n (i := 0) (x := 5030) d0 rfl h0 e1 ?_
  refine g_iload (x := nI i) d1 h4 e2 ?_
  refine g_iconst d2 hz e3 ?_
  refine g_iadd d3 e4 ?_
  rw [nI_add]
  exact g_tald d4 hS (by decide) (nI_toInt (by omega)) hi rfl hp kk
/-- a static call of a method with handlers that doesn't throw -/
theorem g_callSX {ix d2 mc2 ms2 n : Nat} {y2 : MethodName} {cc2 : ByteArray} {nL2 : Nat} {ret2 : Option FieldType} {hh : List (Nat × Nat × Nat × Nat)} {As rest : List Value} {N2 : Nat → Prop} {Q2 : Option Value → gM → Prop}
    (hd : decode cc pc = .ok (.invokestatic ix, 3)) (hlk : Cond.methodLink y.cls ix y2 ∈ gws) (hcw : Cond.codeWith y2 cc2 nL2 ret2 hh ∈ gws) (w2 : Cond.static y2 ∈ gws) (w4 : Cond.initialized y2.cls ∈ gws) (w5 : gDs y2 n) (w6 : nL2 ≤ 45)
    (hM : ∀ ad, vx_Met X.1 y2 (Cond.codeWith y2 cc2 nL2 ret2 hh :: gws) (gRoom d2 mc2 ms2) (va_Pc (As.map (gT ad)) (fun U => gRep X ad M U.heap ∧ gK X U ∧ ∀ q : Nat, U.heap.size ≤ q → gA X q)) (gQ X ad N2 Q2) (fun _ _ _ => False) mc2 ms2 (gA X))
    (hst : st = As.reverse ++ rest) (hn : As.length = n) (hcat : (rest.map fun v => v.category).sum ≤ 8) (hfit : gFit d2 R) (hb1 : mc2 ≤ bc) (hb2 : ms2 ≤ bs) (hsub : ∀ a, N2 a → N a) (hlv : ∀ q ∈ lv, ∀ b, q.2 = .ref b → ¬ N2 b) (hrest : ∀ v ∈ rest, ∀ b, v = .ref b → ¬ N2 b) (hp : pc + 3 = pc')
    (k : ∀ v M2, Q2 v M2 → gW X R Z N y cc nL ret pc' lv (v.toList ++ rest) M2 (bc - mc2) (bs - ms2)) : gW X R Z N y cc nL ret pc lv st M bc bs := by
  subst hp
  subst hst
  intro ad0 ad p e s m args below meth c H locs cells slots ls hF hR hS hN h1 h2 hl
  have hts := hF.2.2.2.2.1
  have hK := hF.2.2.2.2.2.2.2.2.1
  have hx := hF.2.2.2.2.2.2.2.2.2.2
  rw [g_rev]
  have hG : GoodIn gws (Cond.codeWith y2 cc2 nL2 ret2 hh :: gws) := fun w hw => (List.mem_cons.mp hw).elim (fun e => by rw [e]; exact ⟨hcw, gws_good hcw⟩) (fun h => ⟨h, gws_good h⟩)
  have hr := vx_runSX (p := p) (e := e) (below := below) (meth := meth) (locs := locs) (cells := cells) (slots := slots) (R := R) (As := As.map (gT ad)) (rest := rest.map (gT ad)) (g := F0 m pc ls ((As.map (gT ad)).reverse ++ rest.map (gT ad))) (H := H) ⟨hF.1, hF.2.1, hF.2.2.1, hF.2.2.2.1, hts⟩ (hM ad)
    (show vx_CSW R s args y.cls ix y2 cc2 nL2 ret2 hh (Cond.codeWith y2 cc2 nL2 ret2 hh :: gws) (gRoom d2 mc2 ms2) mc2 ms2 n from ⟨⟨rfl, rfl, hfit.1, by have := hfit.2; show 8 + (nL2 + 11) + 64 * d2 ≤ R.locals; omega, pay_in hts hG, List.mem_cons_self⟩, hts _ hcw, hts _ w4, ⟨w5.1, w5.2.1⟩, fun sig h => (by have h2 := w5.2.2; rw [h] at h2; exact (Option.some.inj h2).symm), hts _ hlk, hts _ w2⟩)
    ⟨gBlind hx, fun U hU hW => ⟨rfl, by rw [hU]; exact hR, hK.moved hx hW hS hU, fun x hx2 => hF.2.2.2.2.2.2.2.2.2.1 x (Nat.le_trans hS.1 (by rw [hU] at hx2; exact hx2))⟩⟩
    rfl (by rw [List.length_map]; exact hn) hl.1 rfl (lv_room (by rw [g_cat]; exact hcat)) hd ⟨by omega, by omega⟩
  refine g_after (rest := rest) (mc2 := mc2) (ms2 := ms2) (aa := (As.map (gT ad)).toArray) (fun T hT Xs => ?_) hF hS hN h1 h2 hl hb1 hb2 hsub hlv hrest k
  rcases hr T hT Xs with h | ⟨q, st₀, t, T', L, E, ce, h0, X', hL', e1, e2, hq, -⟩
  · exact h
  · exact hq.elim
end P3
section P4
variable {X : gX} {R : Room} {Z : gZt} {M M2 : gM} {bc bs i n : Nat} {xs : Nat → Int32}
theorem inv_th {v : Int32} {n A N c w L : Nat} {E : Nat → LE} {EV : EVt} {T : Nat → Nat} (hC : KL M n E w T L) (hm : ZL M M2 n E EV N A c T L) (hkd : ∀ c, gkd M2 c = gkd M c ∧ gln M2 c = gln M c ∧ gmr M2 c = gmr M c ∧ gmi M2 c = gmi M c) : Inv (gwI M2 100 0 v) := by
  have hx3 : xFr (fun c => c = 1000) M2 (gwI M2 100 0 v) := xFr.wf rfl
  have hS : Nt (fun c => c = 1000) := ⟨by decide, by decide, by decide, by decide, by decide, by decide, by decide, by decide, by decide⟩
  have hrq : RQ (gwI M2 100 0 v) n E EV := hm.1.1.1.x hx3 hS rfl (gmi_In _ _ _ (by decide))
  have hQ : QN (fun c => c = 1000) := ⟨fun c a b _ q => by omega, fun j a _ _ _ _ q => by omega⟩
  have hag : AgS scA M (gwI M2 100 0 v) := ⟨fun c _ => ⟨(hkd c).1, (hkd c).2.1, (hkd c).2.2.1⟩, fun c hc _ => by rw [gmi_In _ _ _ (by rcases hc with q | q <;> omega)]; exact (hkd c).2.2.2⟩
  exact ⟨n, E, EV, N, A, c, w, T, L, hC.ag hrq.1 hag, (hm.ref hx3 hQ hrq).cls hag (by rw [gmi_In _ _ _ (by decide), (hkd 75).2.2.2])⟩
theorem gml_at (M : gM) (v : Int64) (u : Int32) : gml (gwI (gwL M 120 0 v) 100 0 u) 120 0 = v := by
  have h : gml (gwI (gwL M 120 0 v) 100 0 u) 120 = va_up (gml M 120) 0 v := va_up_self M.2.2.2.2 120 (va_up (gml M 120) 0 v)
  rw [h, va_up_self]
theorem lcmp_self (x : Int64) : lg_cmp x x = 0 := by
  have h1 := (lg_gt x x).mp
  have h2 := (lg_lt x x).mp
  have h3 : ¬ x < x := Int64.lt_irrefl
  have h4 : ¬ 0 < lg_cmp x x := fun h => h3 (h1 h)
  have h5 : ¬ lg_cmp x x < 0 := fun h => h3 (h2 h)
  exact Int32.le_antisymm (Int32.not_lt.mp h4) (Int32.not_lt.mp h5)
theorem law_4 (hx : gXok X) (hTh : gTh X) (hS : gSc X n xs) (hn : n ≤ 3072) (hf : gFit 100 R) : LPe X R Z n := by
  intro i bc bs M h6 hb hs k hI
  obtain ⟨n', E, EV, N, A, c, w, T, L, hC, hR⟩ := hI
  have hT := hR.1.1.2.1
  refine g_aload_n dL_law_364 rfl rfl rfl ?_
  refine g_scr (k := 1) dL_law_365 dL_law_366 dL_law_368 rfl dL_law_369 dL_law_370 hS (by omega) hn rfl rfl rfl rfl rfl ?_
  refine g_scr (k := 2) dL_law_371 dL_law_372 dL_law_374 rfl dL_law_375 dL_law_376 hS (by omega) hn rfl rfl rfl rfl rfl ?_
  refine g_aload_n (x := 120) dL_law_377 rfl rfl rfl ?_
  refine g_callSX (n := 4) (As := pA (xs (i + 1)) (xs (i + 2))) (rest := []) dL_law_378 lm_L_38 lw_L_person li_L_person ln_L ⟨by decide, by decide, by decide +kernel⟩ (by decide) (fun ad => l_person (d := 88) hx hTh hC.1 hT ad) rfl rfl (Nat.le_of_ble_eq_true rfl) hf (by omega) (by omega) (fun _ q => q.elim) (fun _ _ _ _ q => q.elim) an0 rfl (fun v M2 hq => ?_)
  by_cases hin : inPe M (xs (i + 1)) (xs (i + 2))
  · obtain ⟨rfl, rfl⟩ := hq.1 hin
    have hm := hR.agr (M2 := gwL M 120 0 (persV M (gmi M 25) (xs (i + 1)) (xs (i + 2))).toInt64) (gLay_L hC.1) (fun c a b => ⟨rfl, rfl, rfl, rfl, va_up_ne _ _ (by omega)⟩)
    refine g_istore (x := 0) dL_law_381 (by decide) rfl ?_
    refine g_aload_n (x := 100) dL_law_383 rfl rfl rfl ?_
    refine g_scr2 (k := 1) (i := i) rfl rfl dL_law_384 dL_law_385 dL_law_387 rfl dL_law_388 dL_law_389 hS (by omega) hn rfl rfl rfl rfl rfl ?_
    refine g_scr2 (k := 2) (i := i) rfl rfl dL_law_390 dL_law_391 dL_law_393 rfl dL_law_394 dL_law_395 hS (by omega) hn rfl rfl rfl rfl rfl ?_
    refine g_callVdi (ci := 11) (As := [.int (xs (i + 1)), .int (xs (i + 2))]) dL_law_396 lm_L_43 mv_X11_person (r_person (d := 99) hx hm.1.1 hm.1.2.1.1) rfl rfl (k100 hm.1.1.1.1) rfl rfl (Nat.le_of_ble_eq_true rfl) hf rfl ?_
    rw [if_pos hin, ib_f (fun q => q hin)]
    have hI3 := inv_th (v := 0) hC hm (fun c => ⟨rfl, rfl, rfl, rfl⟩)
    have hL3 := hI3.lay
    refine g_istore dL_law_399 (by decide) rfl ?_
    refine g_aload_n (x := 100) dL_law_401 rfl rfl rfl ?_
    refine g_callVdi (ci := 11) (As := []) dL_law_402 lm_L_44 mv_X11_thrown (r_thrown (d := 100) hx hL3) rfl rfl (k100 hL3) rfl rfl (Nat.le_of_ble_eq_true rfl) hf rfl ?_
    rw [gmi_I, va_up_self]
    refine g_iload (x := 0) dL_law_405 rfl rfl ?_
    refine g_icmp_eq (tgt := 412) dL_law_407 rfl rfl (fun _ => ?_) (fun z => absurd rfl z)
    refine g_iload (x := 0) dL_law_412 rfl rfl ?_
    refine g_if_ne (tgt := 429) dL_law_414 rfl rfl (fun z => absurd rfl z) (fun _ => ?_)
    refine g_aload_n (x := 120) dL_law_417 rfl rfl rfl ?_
    refine g_iconst (v := 0) dL_law_418 (by decide) rfl ?_
    refine g_lald (i := 0) (n := 1) dL_law_419 (hL3.1 120 (by decide)) (hL3.2.1 120 (by decide)) rfl (by decide) rfl ?_
    refine g_iload (x := persV M (gmi M 25) (xs (i + 1)) (xs (i + 2))) dL_law_420 rfl rfl ?_
    refine g_i2l dL_law_422 rfl ?_
    refine g_lcmp dL_law_423 rfl ?_
    have eV : gml (gwI (gwL M 120 0 (persV M (gmi M 25) (xs (i + 1)) (xs (i + 2))).toInt64) 100 0 0) 120 0 = (persV M (gmi M 25) (xs (i + 1)) (xs (i + 2))).toInt64 := gml_at _ _ _
    rw [eV, lcmp_self]
    refine g_if_eq (tgt := 429) dL_law_424 rfl rfl (fun _ => ?_) (fun z => absurd rfl z)
    refine g_goto (tgt := 1583) dL_law_429 rfl ?_
    exact g_lv (lvL i) ⟨rfl, rfl, rfl, rfl, rfl, trivial⟩ (g_less (by omega) (by omega) (k _ hI3))
  · obtain ⟨rfl, rfl⟩ := hq.2 hin
    refine g_istore (x := 1) dL_law_381 (by decide) rfl ?_
    refine g_aload_n (x := 100) dL_law_383 rfl rfl rfl ?_
    refine g_scr2 (k := 1) (i := i) rfl rfl dL_law_384 dL_law_385 dL_law_387 rfl dL_law_388 dL_law_389 hS (by omega) hn rfl rfl rfl rfl rfl ?_
    refine g_scr2 (k := 2) (i := i) rfl rfl dL_law_390 dL_law_391 dL_law_393 rfl dL_law_394 dL_law_395 hS (by omega) hn rfl rfl rfl rfl rfl ?_
    refine g_callVdi (ci := 11) (As := [.int (xs (i + 1)), .int (xs (i + 2))]) dL_law_396 lm_L_43 mv_X11_person (r_person (d := 99) hx hR.1.1 hR.1.2.1.1) rfl rfl (k100 hC.1) rfl rfl (Nat.le_of_ble_eq_true rfl) hf rfl ?_
    rw [if_neg hin, ib_t hin]
    have hI3 := inv_th (v := 1) hC hR (fun c => ⟨rfl, rfl, rfl, rfl⟩)
    have hL3 := hI3.lay
    refine g_istore dL_law_399 (by decide) rfl ?_
    refine g_aload_n (x := 100) dL_law_401 rfl rfl rfl ?_
    refine g_callVdi (ci := 11) (As := []) dL_law_402 lm_L_44 mv_X11_thrown (r_thrown (d := 100) hx hL3) rfl rfl (k100 hL3) rfl rfl (Nat.le_of_ble_eq_true rfl) hf rfl ?_
    rw [gmi_I, va_up_self]
    refine g_iload (x := 1) dL_law_405 rfl rfl ?_
    refine g_icmp_eq (tgt := 412) dL_law_407 rfl rfl (fun _ => ?_) (fun z => absurd rfl z)
    refine g_iload (x := 1) dL_law_412 rfl rfl ?_
    refine g_if_ne (tgt := 429) dL_law_414 rfl rfl (fun _ => ?_) (fun z => absurd z (by decide))
    refine g_goto (tgt := 1583) dL_law_429 rfl ?_
    exact g_lv (lvL i) ⟨rfl, rfl, rfl, rfl, rfl, trivial⟩ (g_less (by omega) (by omega) (k _ hI3))
end P4
