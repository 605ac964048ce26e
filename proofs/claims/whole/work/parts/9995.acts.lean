section I2
variable {X : gX} {Mc M Mn M1 M2 M3 : gM} {d n A N c w L : Nat} {E : Nat → LE} {EV : EVt} {T : Nat → Nat} {S : Nat → Prop} {G F : Nat → Int32}
theorem KL.ag2 (h : KL M n E w T L) (hL : gLay M2) (hs : AgS S M M2) (h1 : ∀ c, c < 21 → ¬ S c) (h2 : ∀ k j, j < 4 → ¬ S (200 + 5 * k + j)) : KL M2 n E w T L := by
  obtain ⟨-, q2, q3, q4, q5, q6, q7⟩ := h
  have e : ∀ c, c < 20 → gmi M2 c = gmi M c := fun c hc => hs.2 c (Or.inl (by omega)) (h1 c (by omega))
  refine ⟨hL, q2.ag hs, q3.ag hs (h1 20 (by decide)) h2, q4.ag hs (h1 0 (by decide)) (fun k _ => by have := h2 (k + 20) 0 (by decide); rwa [show 200 + 5 * (k + 20) + 0 = 300 + 5 * k by omega] at this), q5.eq (fun c a b => e c (by omega)), q6.eq (by rw [e 1 (by decide)]) (e 2 (by decide)), ?_⟩
  unfold tv
  rw [e 3 (by decide)]
  exact q7
/-- the cells of now and of the past -/
def scV : Nat → Prop := fun c => c = 25 ∨ c = 26 ∨ (33 ≤ c ∧ c < 75)
def scVA : Nat → Prop := fun c => scV c ∨ scr0 c
theorem scVA_lo {c : Nat} (h : c < 21) : ¬ scVA c := fun q => q.elim (fun q => by rcases q with q | q | q <;> omega) (scr0_lo (by omega) (by omega))
theorem scVA_hi {k j : Nat} (hj : j < 4) : ¬ scVA (200 + 5 * k + j) := fun q => q.elim (fun q => by rcases q with q | q | q <;> omega) (fun q => by rcases q with q | ⟨i, q⟩ <;> omega)
theorem scVA_r : ∀ c, 100 ≤ c → c < 120 → ¬ scVA c := fun c a b q => q.elim (fun q => by rcases q with q | q | q <;> omega) (scr0_lo (by omega) (by omega))
theorem scVA_o {c : Nat} (h : c < 100) (h1 : ¬ scV c) (h2 : c ≠ 22) : ¬ scVA c := fun q => q.elim h1 (scr0_lo (by omega) h2)
theorem scY_c : ∀ c, ccl c → ¬ scY c := fun c h q => by
  rcases h with h | h <;> rcases q with (q | q | q | q) | q <;> omega
/-- as gFr, but for the draws -/
def wFr (S : Nat → Prop) (M M2 : gM) : Prop := (∀ c, gkd M2 c = gkd M c ∧ gln M2 c = gln M c) ∧ (∀ c, gmr M2 c = gmr M c) ∧ (∀ c, c ≠ 81 → gml M2 c = gml M c) ∧ ∀ c, ¬ S c → gmi M2 c = gmi M c
theorem gFr.wf (h : gFr S M M2) : wFr S M M2 := ⟨h.1, h.2.1, fun c _ => h.2.2.1 c, h.2.2.2⟩
theorem wFr.rf : wFr S M M := gFr.rf.wf
theorem wFr.tr (h : wFr S M M2) (h2 : wFr S M2 M3) : wFr S M M3 := ⟨fun c => ⟨(h2.1 c).1.trans (h.1 c).1, (h2.1 c).2.trans (h.1 c).2⟩, fun c => (h2.2.1 c).trans (h.2.1 c), fun c hc => (h2.2.2.1 c hc).trans (h.2.2.1 c hc), fun c hc => (h2.2.2.2 c hc).trans (h.2.2.2 c hc)⟩
theorem wFr.mono {S2 : Nat → Prop} (h : wFr S M M2) (hs : ∀ c, S c → S2 c) : wFr S2 M M2 := ⟨h.1, h.2.1, h.2.2.1, fun c hc => h.2.2.2 c (fun q => hc (hs c q))⟩
theorem wFr.lay (h : wFr S M M2) (hL : gLay M) : gLay M2 := ⟨fun a ha => (h.1 a).1.trans (hL.1 a ha), fun a ha => (h.1 a).2.trans (hL.2.1 a ha), fun q hq => by rw [h.2.1]; exact hL.2.2 q hq⟩
theorem wFr.ag (h : wFr S M M2) : AgS S M M2 := ⟨fun c _ => ⟨(h.1 c).1, (h.1 c).2, h.2.1 c⟩, fun c _ hs => h.2.2.2 c hs⟩
theorem wFr.agr (h : wFr S M M2) (hs : ∀ c, 100 ≤ c → c < 120 → ¬ S c) : AgR M M2 := fun c a b => ⟨(h.1 c).1, (h.1 c).2, h.2.2.2 c (hs c a b), h.2.1 c, h.2.2.1 c (by omega)⟩
theorem w12 (h1 : wFr scV M Mn) (h2 : gFr scr0 Mn M2) : wFr scVA M M2 := (h1.mono (fun c q => Or.inl q)).tr (h2.wf.mono (fun c q => Or.inr q))
/-- an act: class and reference have changed now and the past alike -/
theorem IV.act {N2 A2 : Nat} (hC : KL M n E w T L) (hR : ZL M M n E EV N A c T L) (h1 : wFr scV M Mn) (h2 : gFr scr0 Mn M2) (h3 : xFr scY M2 M3) (hl : LfR Mn M3 n E EV N2 A2 0) : Inv M3 := by
  have h12 : wFr scVA M M2 := w12 h1 h2
  have ha : AgS scVA M M3 := h12.ag.tr (h3.ag scY_c)
  have hL3 := hl.1.1.1
  have er : ∀ c, 100 < c → c < 120 → c ≠ 104 → c ≠ 116 → c ≠ 113 → c ≠ 117 → gmi M3 c = gmi M c := fun c a b e1 e2 e3 e4 => by
    rw [h3.2.2.2.2.2.1 c (by omega) e1 e2 (fun q => by rcases q with (q | q | q | q) | q <;> omega), h12.2.2.2 c (scVA_r c (by omega) b)]
  have ef : ∀ j, j < 8 ∨ 14 < j → j ≠ 17 → j ≠ 0 → j ≠ 39 → j ≠ 40 → gmi M3 100 j = gmi M 100 j := fun j a b e1 e2 e3 => by
    rw [h3.2.2.2.2.2.2 j a b (fun q => by rcases q with (q | q | q | q) | q <;> omega), h12.2.2.2 100 (scVA_r 100 (by decide) (by decide))]
  have ec : ∀ c, c < 100 → ¬ scV c → c ≠ 22 → gmi M3 c = gmi M c := fun c a b e => ha.2 c (Or.inl a) (scVA_o a b e)
  have en : ∀ c, scV c ∨ (3 ≤ c ∧ c ≤ 9) → gmi M3 c = gmi Mn c := fun c hc => by
    have hlt : c < 100 := by rcases hc with (q | q | q) | q <;> omega
    have hn : c ≠ 22 := by rcases hc with (q | q | q) | q <;> omega
    rw [h3.2.2.2.2.2.1 c (by omega) (by omega) (by omega) (scY_c c (Or.inl hlt)), h2.2.2.2 c (scr0_lo (by omega) hn)]
  obtain ⟨r1, r2, r3, r4, r5, r6⟩ := hR
  have nv : ∀ c, c < 25 ∨ (26 < c ∧ c < 33) ∨ 75 ≤ c → ¬ scV c := fun c hc q => by rcases q with q | q | q <;> omega
  have e0 := ec 0 (by decide) (nv 0 (by decide)) (by decide)
  have hl3 : LfR M3 M3 n E EV N2 A2 0 := hl.sm2 (fun c hc => en c (by unfold scV; omega))
  refine ⟨n, E, EV, N2, A2, c, w, T, L, hC.ag2 hL3 ha (fun c hc => scVA_lo hc) (fun k j hj => scVA_hi hj), hl3, ?_, ?_, ?_, ?_, ?_⟩
  · have q : RWk M3 M := r2.sm2 e0 (fun k j hk hj => ha.2 _ (Or.inr ⟨by omega, by omega⟩) (by have := scVA_hi (k := k + 20) hj; rwa [show 200 + 5 * (k + 20) + j = 300 + 5 * k + j by omega] at this))
    unfold RWk at q ⊢
    rw [ef 30 (by decide) (by decide) (by decide) (by decide) (by decide), er 111 (by decide) (by decide) (by decide) (by decide) (by decide) (by decide), er 112 (by decide) (by decide) (by decide) (by decide) (by decide) (by decide)]
    exact q
  · have q : RSi M3 M c := r3.sm (by rw [ec 75 (by decide) (nv 75 (by decide)) (by decide)]) (fun q hq => ec q (by omega) (nv q (by omega)) (by omega))
    unfold RSi at q ⊢
    rw [ef 44 (by decide) (by decide) (by decide) (by decide) (by decide), er 118 (by decide) (by decide) (by decide) (by decide) (by decide) (by decide)]
    exact q
  · have q : RImg M3 M := r4.sm e0 (ec 31 (by decide) (nv 31 (by decide)) (by decide)) (ec 32 (by decide) (nv 32 (by decide)) (by decide))
    unfold RImg at q ⊢
    rw [ef 46 (by decide) (by decide) (by decide) (by decide) (by decide), er 119 (by decide) (by decide) (by decide) (by decide) (by decide) (by decide)]
    exact q
  · unfold RMs at r5 ⊢
    rw [ef 35 (by decide) (by decide) (by decide) (by decide) (by decide), ef 34 (by decide) (by decide) (by decide) (by decide) (by decide), ef 7 (by decide) (by decide) (by decide) (by decide) (by decide), ef 6 (by decide) (by decide) (by decide) (by decide) (by decide), ef 30 (by decide) (by decide) (by decide) (by decide) (by decide), ef 44 (by decide) (by decide) (by decide) (by decide) (by decide), e0, ec 20 (by decide) (nv 20 (by decide)) (by decide), ec 1 (by decide) (nv 1 (by decide)) (by decide), ec 75 (by decide) (nv 75 (by decide)) (by decide)]
    exact ⟨r5.1, r5.2.1, r5.2.2.1, r5.2.2.2.1, r5.2.2.2.2.1, r5.2.2.2.2.2.1, by rw [hl3.2.2.2.1.1, hl3.2.2.2.1.2.1]⟩
  · unfold TapeR at r6 ⊢
    rw [ef 6 (by decide) (by decide) (by decide) (by decide) (by decide), er 101 (by decide) (by decide) (by decide) (by decide) (by decide) (by decide)]
    exact r6
theorem IV.midA (hC : KL M n E w T L) (hR : ZL M M n E EV N A c T L) (h1 : wFr scV M Mn) (h2 : gFr scr0 Mn M2) : ZL M M2 n E EV N A c T L := by
  have h12 : wFr scVA M M2 := w12 h1 h2
  exact hR.agr (h12.lay hC.1) (h12.agr scVA_r)
theorem keep_V (hn : okv M 33 2 39) : wFr scV M (keepM M) := ((keep_fr hn).mono (fun c q => Or.inr (Or.inr q))).wf
theorem Rem.Y (h : Rem M M2 A) : xFr scY M M2 := h.1.mono (fun c q => Or.inl (q.elim (fun y => Or.inr (Or.inl y)) (fun y => Or.inr (Or.inr (Or.inl y)))))
theorem th_Y : xFr scY M (gwI M 100 0 0) := xFr.wf (Or.inl (Or.inr (Or.inr (Or.inr rfl))))
theorem row_Y (h : xFr (fun q => q = 113) M M2) : xFr scY M M2 := h.mono (fun c q => Or.inl (Or.inl q))
theorem QW.sm {Mc2 : gM} {w : Nat} (h : QW Mc M M2 n E EV w G) (hs : ∀ c, 3 ≤ c → c ≤ 9 → gmi Mc2 c = gmi Mc c) : QW Mc2 M M2 n E EV w G := ⟨h.1, h.2.1.sm hs, h.2.2⟩
/-- kept, and then a new row -/
theorem LfR.kr (h : LfR M M2 n E EV N A 0) (hr : Rem (gwI M2 100 0 0) M1 A) (hq : QW M M1 M3 n E EV 113 G) (hok : RowOK G) (h66 : G 66 = gmi M 25 66) : LfR (gwF (keepM M) 25 G) M3 n E EV ((N + 1) % 40) (rmA A + 1) 0 := by
  have hn := h.2.2.1
  have hk := h.th.keep hr
  exact (hk.row (hq.sm (fun c a b => keep_25 hn.1 hn.2 (by omega))) hok (by rw [h66, keep_25 hn.1 hn.2 (by decide)])).le
/-- an act that may be refused -/
theorem IV.actF {p : Prop} [Decidable p] {r1 r2 : Int32} {y1 y2 : MethodName} {c1 c2 : ByteArray} {n1 n2 : Nat} {ret : Option FieldType} {as : List Value} (hC : KL M n E w T L) (hR : ZL M M n E EV N A c T L) (hc : gMet X 100 y1 c1 n1 ret (.ref 0 :: as) M gN0 0 0 (fun v M2 => v = some (.int (if p then r1 else r2)) ∧ gFr scr0 (if p then gwF (keepM M) 25 G else M) M2)) (hr : ∀ M2, ZL M M2 n E EV N A c T L → gMet X 100 y2 c2 n2 ret (.ref 100 :: as) M2 gN0 0 0 (fun v M3 => v = some (.int (if p then r1 else r2)) ∧ (p → ∃ M1, Rem (gwI M2 100 0 0) M1 A ∧ QW M M1 M3 n E EV 113 G) ∧ (¬ p → M3 = gwI M2 100 0 0))) (hok : p → RowOK G ∧ G 66 = gmi M 25 66) : ∃ N1 mc ms Q1, (mc ≤ 5 ∧ ms ≤ 433 ∧ ∀ c, N1 c → 200 ≤ c ∧ c < 5000) ∧ gMet X 100 y1 c1 n1 ret (.ref 0 :: as) M N1 mc ms Q1 ∧ ∀ v1 M2, Q1 v1 M2 → gLay M2 ∧ ∃ Q2, gMet X 100 y2 c2 n2 ret (.ref 100 :: as) M2 gN0 0 0 Q2 ∧ ∀ v2 M3, Q2 v2 M3 → gLay M3 ∧ (∃ r : Int32, v1 = some (.int r) ∧ v2 = some (.int r)) ∧ Inv M3 := by
  refine ⟨gN0, 0, 0, _, ⟨Nat.zero_le _, Nat.zero_le _, fun c hc => hc.elim⟩, hc, fun v1 M2 hq1 => ?_⟩
  obtain ⟨rfl, hf⟩ := hq1
  have hV : wFr scV M (if p then gwF (keepM M) 25 G else M) := by
    by_cases hp : p
    · rw [if_pos hp]; exact (keep_V hR.1.okN).tr (gFr.wF (Or.inl rfl)).wf
    · rw [if_neg hp]; exact wFr.rf
  have hm := IV.midA hC hR hV hf
  refine ⟨hm.1.1.1.1, _, hr M2 hm, fun v2 M3 hq2 => ?_⟩
  obtain ⟨rfl, ha, hb⟩ := hq2
  by_cases hp : p
  · obtain ⟨M1, h1, h2⟩ := ha hp
    have hl := hm.1.kr h1 h2 (hok hp).1 (hok hp).2
    rw [if_pos hp] at hV hf ⊢
    exact ⟨hl.1.1.1, ⟨r1, rfl, rfl⟩, IV.act hC hR hV hf ((th_Y.tr h1.Y).tr (row_Y h2.1)) hl⟩
  · have e := hb hp
    subst e
    rw [if_neg hp] at hV hf ⊢
    exact ⟨hm.1.th.1.1.1, ⟨r2, rfl, rfl⟩, IV.act hC hR hV hf th_Y hm.1.th⟩
theorem Act.q (h0 : R0 M M2 n E EV) (h : Act M2 M3 A G) : ∃ M1, Rem (gwI M2 100 0 0) M1 A ∧ QW M M1 M3 n E EV 113 G := by
  obtain ⟨M1, h1, h2⟩ := h
  exact ⟨M1, h1, h2.q (h1.r0 h0.th) (Or.inl rfl)⟩
theorem cr0 {v V : Option Value} {Mn : gM} (h : v = V ∧ M2 = Mn) : v = V ∧ gFr scr0 Mn M2 := by rw [h.2]; exact ⟨h.1, gFr.rf⟩
theorem a_commit (hx : gXok X) (x z : Int32) : Sim X yX10_commit cX10_commit 3 yX11_commit cX11_commit 3 (some .int) [.int x, .int z] := by
  rintro M ⟨n, E, EV, N, A, c, w, T, L, hC, hR⟩
  have hT := hR.1.1.2.1
  have h6 := hT.1.2
  have h8 := hT.2.1.2
  refine IV.actF (p := mayTake M 25 x z) (G := takeF (gmi M 25) (12 + tn x * 8 + tn z) (gmi M 9 (tn z)) (gmi M 8 (tn z))) hC hR (gMet.mono (c_commit (d := 96) hx hC.1 hC.2.1 hR.1.okN hT (IV.left hR)) (fun _ _ => cr0)) (fun M2 hm => gMet.mono (r_commit (d := 97) hx hm.1.1 hm.1.2.1.1 hm.1.2.1.2.2.2.1 hm.1.2.2.2.1.2.1 hm.1.2.2.2.1.2.2) (fun v M3 q => ⟨q.1, fun hp => Act.q hm.1.1 (q.2.1 hp), q.2.2⟩)) (fun hp => ?_)
  have lx := inP_row hT hp.1.1
  have lz := inD_row hT hp.1.2
  refine ⟨hR.1.2.1.2.2.take (by omega) (by omega) ⟨_, (hT.2.2.2.2.1 _ lz).1, (hT.2.2.2.2.1 _ lz).2⟩, ?_⟩
  unfold takeF
  rw [va_up_ne _ _ (by decide), va_up_ne _ _ (by omega)]
theorem a_atone (hx : gXok X) (x z : Int32) : Sim X yX10_atone cX10_atone 3 yX11_atone cX11_atone 3 (some .int) [.int x, .int z] := by
  rintro M ⟨n, E, EV, N, A, c, w, T, L, hC, hR⟩
  have hT := hR.1.1.2.1
  refine IV.actF (p := mayAtone M 25 x z) (G := atoneF (gmi M 25) (12 + tn x * 8 + tn z)) hC hR (gMet.mono (c_atone (d := 96) hx hC.1 hC.2.1 hR.1.okN hT (IV.left hR)) (fun _ _ => cr0)) (fun M2 hm => gMet.mono (r_atone (d := 97) hx hm.1.1 hm.1.2.1.1 hm.1.2.1.2.2.2.1 hm.1.2.2.2.1.2.1 hm.1.2.2.2.1.2.2) (fun v M3 q => ⟨q.1, fun hp => Act.q hm.1.1 (q.2.1 hp), q.2.2⟩)) (fun hp => ?_)
  have lx := inP_row hT hp.1.1
  have lz := inD_row hT hp.1.2
  refine ⟨hR.1.2.1.2.2.atone (by omega) (by omega), ?_⟩
  unfold atoneF
  rw [va_up_ne _ _ (by decide), va_up_ne _ _ (by omega)]
theorem a_give (hx : gXok X) (x : Int32) : Sim X yX10_give cX10_give 2 yX11_give cX11_give 2 (some .int) [.int x] := by
  rintro M ⟨n, E, EV, N, A, c, w, T, L, hC, hR⟩
  have hT := hR.1.1.2.1
  exact IV.actF (p := mayGive M x) (G := va_up (gmi M 25) 65 (gmi M 25 65 + x)) hC hR (gMet.mono (c_give (d := 96) hx hC.1 hC.2.1 hR.1.okN) (fun _ _ => cr0)) (fun M2 hm => gMet.mono (r_give (d := 99) hx hm.1.1 hm.1.2.1.1 hm.1.2.2.2.1.2.1 hm.1.2.2.2.1.2.2) (fun v M3 q => ⟨q.1, fun hp => Act.q hm.1.1 (q.2.1 hp), q.2.2⟩)) (fun hp => ⟨hR.1.2.1.2.2.oth (by decide) (by decide) (by decide), va_up_ne _ _ (by decide)⟩)
theorem a_sell (hx : gXok X) (x o z : Int32) : Sim X yX10_sell cX10_sell 4 yX11_sell cX11_sell 4 (some .int) [.int x, .int o, .int z] := by
  rintro M ⟨n, E, EV, N, A, c, w, T, L, hC, hR⟩
  have hT := hR.1.1.2.1
  have h6 := hT.1.2
  refine IV.actF (p := maySell M 25 x o z) (r1 := gmi M 25 (12 + tn x * 8 + tn z)) (G := sellF (gmi M 25) (12 + tn x * 8 + tn z) (12 + tn o * 8 + tn z)) hC hR (gMet.mono (c_sell (d := 96) hx hC.1 hC.2.1 hR.1.okN hT) (fun v M2 q => ?_)) (fun M2 hm => gMet.mono (r_sell (d := 99) hx hm.1.1 hm.1.2.1.1 hm.1.2.1.2.2.2.1 hm.1.2.2.2.1.2.1 hm.1.2.2.2.1.2.2) (fun v M3 q => ⟨q.1, fun hp => Act.q hm.1.1 (q.2.1 hp), q.2.2⟩)) (fun hp => ?_)
  · obtain ⟨q1, q2⟩ := cr0 q
    refine ⟨?_, q2⟩
    rw [q1]
    by_cases hp : maySell M 25 x o z
    · rw [if_pos hp, if_pos hp]
      have lx := inP_row hT hp.1.1
      have lo := inP_row hT hp.2.1
      have lz := inD_row hT hp.1.2
      have hne : tn x ≠ tn o := fun e => hp.2.2.1 (by
        obtain ⟨e1, -⟩ := in_row hT.1.1 (by omega) hp.1.1
        obtain ⟨e2, -⟩ := in_row hT.1.1 (by omega) hp.2.1
        rw [e1, e2, e])
      unfold sellF
      rw [va_up_ne _ _ (by omega), va_up_ne _ _ (by omega), va_up_self]
    · rw [if_neg hp, if_neg hp]
  · have lx := inP_row hT hp.1.1
    have lo := inP_row hT hp.2.1
    have lz := inD_row hT hp.1.2
    refine ⟨hR.1.2.1.2.2.sell (by omega) (by omega) (by omega) (by omega), ?_⟩
    unfold sellF
    rw [va_up_ne _ _ (by decide), va_up_ne _ _ (by omega), va_up_ne _ _ (by omega)]
theorem a_shave (hx : gXok X) (hZ : gSt X) (x : Int32) : Sim X yX10_shave cX10_shave 2 yX11_shave cX11_shave 2 (some .int) [.int x] := by
  rintro M ⟨n, E, EV, N, A, c, w, T, L, hC, hR⟩
  have hT := hR.1.1.2.1
  exact IV.actF (p := mayGo M 25 x) (G := goF (gunF M EV (gmi M 25) (tn x)) (gmi M 25) (tn x) (gmi M 3 9)) hC hR (c_shave (d := 94) hx hC.1 hC.2.1 hR.1.okN hT (IV.left hR) (IV.court hC hR)) (fun M2 hm => r_shave (d := 63) hx hZ hm.1.1 hm.1.2.1.1 hm.1.2.1.2.2.1 hm.1.2.1.2.2.2.1 hm.1.2.2.2.1.2.1 hm.1.2.2.2.1.2.2) (fun hp => ⟨hR.1.2.1.2.2.go (inP_row hT hp.1), goF_66 (inP_row hT hp.1)⟩)
theorem DayW.sm {Mc2 : gM} {w : Nat} (h : DayW Mc M M2 w F c) (h3 : gmi Mc2 3 = gmi Mc 3) (h6 : gmi Mc2 6 = gmi Mc 6) : DayW Mc2 M M2 w F c := by
  unfold DayW dayF wisF tv at *
  rw [h3, h6]
  exact h
theorem a_day (hx : gXok X) : Sim X yX10_day cX10_day 2 yX11_day cX11_day 1 (some .int) [] := by
  rintro M ⟨n, E, EV, N, A, c, w, T, L, hC, hR⟩
  have hT := hR.1.1.2.1
  have hd := IV.day hR
  have hn := hR.1.2.2.1
  have h6 := hT.1.2
  have hd9 := hd.2
  obtain ⟨m, hm9, hm64⟩ := hR.1.2.1.2.2.2.2.1
  have e3 := keep_25 hn.1 hn.2 (show 3 < 33 by decide)
  have e6 := keep_25 hn.1 hn.2 (show 6 < 33 by decide)
  have e25 := keep_25 hn.1 hn.2 (show 25 < 33 by decide)
  have e26 := keep_25 hn.1 hn.2 (show 26 < 33 by decide)
  have edm : gwF (gwF (keepM M) 26 (dayE M 25 26)) 25 (dayR M 25) = dayM (keepM M) := by
    unfold dayM
    rw [dayE_eq e3 e25 e26, dayR_eq e3 e6 e25]
  have hiff : (¬ gmi M 3 7 = 0 ∧ ¬ tv M 25 66 = 999) ↔ mayDay M 25 := by
    unfold mayDay
    rw [hd.1, hT.1.1, show (999 : Int32) = nI 999 from rfl, nI_leI (by decide) (by omega), show (0 : Int32) = nI 0 from rfl, nI_leI (by omega) (by decide), nI_eq (by omega) (by decide)]
    omega
  refine ⟨gN0, 0, 0, _, ⟨Nat.zero_le _, Nat.zero_le _, fun c hc => hc.elim⟩, c_day (d := 96) hx hC.1 hC.2.1 hR.1.okN hT hd, fun v1 M2 hq1 => ?_⟩
  obtain ⟨rfl, hM2⟩ := hq1
  have hV : wFr scV M M2 := by
    rw [hM2]
    by_cases hp : mayDay M 25
    · rw [if_pos hp]; exact ((keep_V hR.1.okN).tr (gFr.wF (Or.inr (Or.inl rfl))).wf).tr (gFr.wF (Or.inl rfl)).wf
    · rw [if_neg hp]; exact wFr.rf
  have hm := IV.midA hC hR hV gFr.rf
  refine ⟨hm.1.1.1.1, _, r_day (d := 97) hx hm.1.1 hm.1.2.1.1 hm64 hm9 hd.1 hd.2 (hm.1.2.1.c67 hd.1 hd.2) (Nat.min_le_left _ _) hm.1.2.2.2.1.2.1 hm.1.2.2.2.1.2.2, fun v2 M3 hq2 => ?_⟩
  obtain ⟨rfl, ha, hb⟩ := hq2
  by_cases hp : mayDay M 25
  · obtain ⟨M1, h1, h2⟩ := ha (hiff.mpr hp)
    rw [if_pos hp, edm] at hM2
    have hk := hm.1.th.keep h1
    have hdw : DayW (keepM M) M1 M3 113 (gmi (keepM M) 25) (min 60 (tv M 25 66)) := by rw [e25]; exact h2.sm e3 e6
    have hl := LfR.day hk (D := tv M 25 66) (by rw [e25]; exact hd.1) (by have := (hiff.mpr hp).2; omega) hdw
    have hxY : xFr scY M2 M3 := (th_Y.tr h1.Y).tr (row_Y ((hdw.q hk.1 (Or.inl rfl)).1))
    rw [if_pos hp, if_pos (hiff.mpr hp)]
    refine ⟨hl.1.1.1, ⟨_, rfl, rfl⟩, ?_⟩
    rw [← hM2] at hl
    exact IV.act hC hR hV gFr.rf hxY hl
  · have e := hb (fun q => hp (hiff.mp q))
    subst e
    rw [if_neg hp] at hM2
    subst hM2
    rw [if_neg hp, if_neg (fun q => hp (hiff.mp q))]
    exact ⟨hm.1.th.1.1.1, ⟨_, rfl, rfl⟩, IV.act hC hR wFr.rf gFr.rf th_Y hm.1.th⟩
theorem day_V : wFr scV M (dayM M) := ((gFr.wF (Or.inr (Or.inl rfl))).tr (gFr.wF (Or.inl rfl))).wf
theorem live_V : wFr scV M (liveM M EV) := by
  refine ⟨fun _ => ⟨rfl, rfl⟩, fun _ => rfl, fun c hc => gml_Ln hc, fun c hc => ?_⟩
  show gmi (gwF (gwL M 81 0 (liveX M (gml M 81 0))) 25 _) c = _
  rw [gmi_Fn _ _ (fun e => hc (Or.inl e))]
  rfl
theorem wFr.ok (h : gmi M2 33 = gmi M 33) (hn : okv M 33 2 39) : okv M2 33 2 39 := okv_eq h hn
theorem yr_V : ∀ (k : Nat) (M : gM), okv M 33 2 39 → wFr scV M (yrSt EV k M)
  | 0, _, _ => wFr.rf
  | k + 1, M, hn => by
    have h1 : wFr scV M (dayM (liveM (keepM M) EV)) := ((keep_V hn).tr live_V).tr day_V
    have e : gmi (dayM (liveM (keepM M) EV)) 33 = gmi (keepM M) 33 := by
      show gmi (gwF (gwF (gwF (gwL (keepM M) 81 0 _) 25 _) 26 _) 25 _) 33 = _
      rw [gmi_Fn _ _ (by decide), gmi_Fn _ _ (by decide), gmi_Fn _ _ (by decide)]
      rfl
    exact h1.tr (yr_V k _ (okv_eq e (keepM_ok hn)))
theorem go_V {a : Nat} : ∀ (k i : Nat) (M : gM), okv M 33 2 39 → wFr scV M (goSt keepM EV 25 26 a k i M).2
  | 0, _, _, _ => wFr.rf
  | k + 1, i, M, hn => by
    unfold goSt
    by_cases hb : stepB M 25 a i = true
    · rw [if_pos hb]
      have hso : gFr (fun c => c = 25 ∨ c = 26) (keepM M) (stepM (keepM M) EV 25 26 a i) := stepM_only (Or.inl rfl) (Or.inr rfl)
      exact ((keep_V hn).tr (hso.mono (fun c q => q.elim Or.inl (fun y => Or.inr (Or.inl y)))).wf).tr (go_V k (i + 1) _ (okv_eq (hso.2.2.2 33 (by decide)) (keepM_ok hn)))
    · rw [if_neg hb]; exact wFr.rf
theorem a_years (hx : gXok X) (hZ : gSt X) (x : Int32) (v : Int64) : Sim X yX10_years cX10_years 5 yX11_years cX11_years 9 (some .int) [.int x, .long v] := by
  rintro M ⟨n, E, EV, N, A, c, w, T, L, hC, hR⟩
  have hT := hR.1.1.2.1
  have hd := IV.day hR
  have hs : Ys M EV (tv M 25 66) := ⟨hC.1, hT, IV.left hR, hd.1, IV.court hC hR, hC.2.1, hR.1.okN⟩
  refine ⟨gN0, 0, 0, _, ⟨Nat.zero_le _, Nat.zero_le _, fun c hc => hc.elim⟩, c_years (d := 93) hx hs hd.2 hC.2.2.2.2.2.2, fun v1 M2 hq1 => ?_⟩
  obtain ⟨rfl, hf⟩ := hq1
  have hV : wFr scV M (if mayYears M x then yrSt EV (tn x) (gwL M 81 0 v) else M) := by
    by_cases hp : mayYears M x
    · rw [if_pos hp]
      have h0 : wFr scV M (gwL M 81 0 v) := ⟨fun _ => ⟨rfl, rfl⟩, fun _ => rfl, fun c hc => gml_Ln hc, fun _ _ => rfl⟩
      exact h0.tr (yr_V _ _ hR.1.okN)
    · rw [if_neg hp]; exact wFr.rf
  have hm := IV.midA hC hR hV hf
  refine ⟨hm.1.1.1.1, _, r_years (d := 62) hx hZ hm.1 hm.2.2.2.2.1.1 hC.2.2.2.2.2.2, fun v2 M3 hq2 => ?_⟩
  obtain ⟨rfl, hxY, N2, A2, hl⟩ := hq2
  exact ⟨hl.1.1.1, ⟨_, rfl, rfl⟩, IV.act hC hR hV hf hxY hl⟩
theorem a_perform (hx : gXok X) (hZ : gSt X) (x : Int32) : Sim X yX10_perform cX10_perform 4 yX11_perform cX11_perform 3 (some .int) [.int x] := by
  rintro M ⟨n, E, EV, N, A, c, w, T, L, hC, hR⟩
  have hT := hR.1.1.2.1
  refine ⟨gN0, 0, 0, _, ⟨Nat.zero_le _, Nat.zero_le _, fun c hc => hc.elim⟩, c_perform (d := 93) hx hC.1 hC.2.1 hR.1.okN hT (IV.left hR) (IV.day hR) hC.2.2.2.1.1 (IV.court hC hR), fun v1 M2 hq1 => ?_⟩
  obtain ⟨rfl, hf⟩ := hq1
  have hV : wFr scV M (if inW M x ∧ ¬ gmi M 3 7 = 0 then (perfSt M EV (tn x)).2 else M) := by
    by_cases hp : inW M x ∧ ¬ gmi M 3 7 = 0
    · rw [if_pos hp]; exact go_V _ _ _ hR.1.okN
    · rw [if_neg hp]; exact wFr.rf
  have hm := IV.midA hC hR hV hf
  refine ⟨hm.1.1.1.1, _, r_perform (d := 62) hx hZ hm.1 hm.2.1, fun v2 M3 hq2 => ?_⟩
  obtain ⟨rfl, hxP, N2, A2, hl⟩ := hq2
  exact ⟨hl.1.1.1, ⟨_, rfl, rfl⟩, IV.act hC hR hV hf (hxP.mono (fun c q => Or.inl q)) hl⟩
end I2
