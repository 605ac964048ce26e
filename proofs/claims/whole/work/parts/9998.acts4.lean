section I5
variable {X : gX} {Mc M Mn M1 M2 M3 : gM} {d n A N c w L L2 : Nat} {E : Nat → LE} {EV : EVt} {T T2 : Nat → Nat} {S Sc Sr : Nat → Prop} {G F : Nat → Int32}
theorem KL.ag4 (h : KL M n E w T L) (hL : gLay M2) (hs : AgS S M M2) (h06 : gmi M2 0 6 = gmi M 0 6) (h20 : gmi M2 20 3 = gmi M 20 3) (hT2 : TapeC M2 T2 L2) (hB : TownB M2 11) (hq : 1 ≤ tv M2 3 7 → 1 ≤ tv M2 3 8) (h2 : ∀ k j, k < n → j < 4 → ¬ S (200 + 5 * k + j)) (hw : ∀ k, k < w → ¬ S (300 + 5 * k)) : KL M2 n E w T2 L2 := by
  obtain ⟨-, q2, ⟨l1, l2, l3, ⟨l4, l5⟩, l6⟩, ⟨⟨w1, w1b⟩, ⟨w2, w3⟩, ⟨w4, w5⟩, w6⟩, -, -, -⟩ := h
  have et : tv M2 0 6 = tv M 0 6 := by unfold tv; rw [h06]
  have ew : tv M 0 6 = w := by unfold tv; rw [w2]; exact nI_clamp (by omega)
  refine ⟨hL, q2.ag hs, ⟨by rw [h20]; exact l1, l2, fun k hk => (l3 k hk).ag (by omega) hs (fun j hj => h2 k j hk hj), ⟨by rw [(hs.1 19 (Or.inl (by decide))).2.2]; exact l4, LawAt_ag (fun c a b => hs.1 c (Or.inr ⟨by omega, by omega⟩)) l5⟩, fun c a b => by rw [(hs.1 c (Or.inr ⟨by omega, by omega⟩)).1]; exact l6 c a b⟩, ⟨⟨⟨by rw [et, h06]; exact w1.1, by rw [et]; exact w1.2⟩, fun k hk => ?_⟩, ⟨by rw [h06]; exact w2, w3⟩, ⟨by rw [(hs.1 0 (Or.inl (by decide))).2.2]; exact w4, WkAt_ag (fun c a b => hs.1 c (Or.inr ⟨by omega, by omega⟩)) w5⟩, fun c a b => by rw [(hs.1 c (Or.inr ⟨by omega, by omega⟩)).1]; exact w6 c a b⟩, hB, hT2, hq⟩
  rw [et] at hk
  obtain ⟨q1, q2, q3⟩ := w1b k hk
  exact ⟨by rw [(hs.1 23 (Or.inl (by decide))).2.2]; exact q1, WkAt_ag (fun c a b => hs.1 c (Or.inr ⟨by omega, by omega⟩)) q2, okv_eq (hs.2 _ (Or.inr ⟨by omega, by omega⟩) (hw k (by omega))) q3⟩
theorem a_seen (hx : gXok X) (x b g : Int32) (hg : g = 0 ∨ g = 1) : Sim X yX10_seen cX10_seen 4 yX11_seen cX11_seen 4 (some .int) [.int x, .int b, .int g] := by
  rintro M ⟨n, E, EV, N, A, c, w, T, L, hC, hR⟩
  have hSi := hR.2.2.1
  have hc10 := hSi.2.2.1
  refine one_gDet (c_seen (d := 99) hx hC.1 hSi.2.1 hc10 hg) (fun v1 M2 hq1 => ?_)
  obtain ⟨rfl, hM2⟩ := hq1
  have hiff : maySee M x b ↔ (inP M x ∧ ¬ b < 0 ∧ ¬ 99 < b ∧ ¬ nI c = 10) := by unfold maySee; rw [hSi.2.1]
  by_cases hp : maySee M x b
  · rw [if_pos hp] at hM2
    have hV : gFr (fun c => c = 75 ∨ c = 76 ∨ c = 77 ∨ c = 78) M M2 := by
      rw [hM2]
      unfold addM
      exact (((gFr.wI (Or.inr (Or.inl rfl))).tr (gFr.wI (Or.inr (Or.inr (Or.inl rfl))))).tr (gFr.wI (Or.inr (Or.inr (Or.inr rfl))))).tr (gFr.wI (Or.inl rfl))
    have hm := hR.agr (hV.lay hC.1) (hV.agr (fun c a b q => by rcases q with q | q | q | q <;> omega))
    refine ⟨hm.1.1.1.1, _, r_seen (d := 99) hx hm.1.1 hm.2.2.1.1 hc10 hg, fun v2 M3 hq2 => ?_⟩
    obtain ⟨rfl, hM3⟩ := hq2
    have hp2 := hiff.mp hp
    have hlt : c < 10 := by
      have h1 := hp2.2.2.2
      rw [show (10 : Int32) = nI 10 from rfl, nI_eq (by omega) (by decide)] at h1
      omega
    rw [if_pos hp2] at hM3
    have hx3 : xFr (fun c => c = 1000 ∨ c = 118 ∨ c = 1044) M2 M3 := by
      rw [hM3]
      exact ((((xFr.wf (Or.inl rfl)).tr (xFr.wI (Or.inr (Or.inl rfl)) (by decide))).tr (xFr.wI (Or.inr (Or.inl rfl)) (by decide))).tr (xFr.wI (Or.inr (Or.inl rfl)) (by decide))).tr (xFr.wf (Or.inr (Or.inr rfl)))
    have hS : Nt (fun c => c = 1000 ∨ c = 118 ∨ c = 1044) := ⟨by decide, by decide, by decide, by decide, by decide, by decide, by decide, by decide, by decide⟩
    have hrq : RQ M3 n E EV := hm.1.1.1.x hx3 hS (by rw [hM3]; rfl) (by rw [hM3, gmi_In _ _ _ (by decide), gmi_In _ _ _ (by decide), gmi_In _ _ _ (by decide), gmi_In _ _ _ (by decide), gmi_In _ _ _ (by decide)])
    obtain ⟨ha, er, ef⟩ := two hV hx3 (fun c a b q => by rcases q with q | q | q | q <;> omega) (fun c hc q => by rcases hc with hc | hc <;> rcases q with q | q | q <;> omega)
    have ec : ∀ q, q < 75 ∨ (78 < q ∧ q < 100) → gmi M3 q = gmi M q := fun q a => ha.2 q (Or.inl (by omega)) (fun z => by rcases z with z | z | z | z <;> omega)
    have m23 : ∀ q, q < 100 → gmi M3 q = gmi M2 q := fun q hq => hx3.2.2.2.2.2.1 q (by omega) (by omega) (by omega) (fun z => by rcases z with z | z | z <;> omega)
    have c75 : gmi M3 75 5 = nI (c + 1) := by rw [m23 75 (by decide), hM2]; unfold addM; rw [gmi_I, va_up_self]
    have c76 : gmi M3 76 = va_up (gmi M 76) c x := by rw [m23 76 (by decide), hM2]; unfold addM; rw [gmi_In _ _ _ (by decide), gmi_In _ _ _ (by decide), gmi_In _ _ _ (by decide), gmi_I]
    have c77 : gmi M3 77 = va_up (gmi M 77) c b := by rw [m23 77 (by decide), hM2]; unfold addM; rw [gmi_In _ _ _ (by decide), gmi_In _ _ _ (by decide), gmi_I, gmi_In _ _ _ (by decide)]
    have c78 : gmi M3 78 = va_up (gmi M 78) c g := by rw [m23 78 (by decide), hM2]; unfold addM; rw [gmi_In _ _ _ (by decide), gmi_I, gmi_In _ _ _ (by decide), gmi_In _ _ _ (by decide)]
    have e44 : gmi M3 100 44 = nI (c + 1) := by rw [hM3, gmi_I, va_up_self]
    have e118 : gmi M3 118 = va_up (va_up (va_up (gmi M 118) (3 * c) x) (3 * c + 1) b) (3 * c + 2) g := by rw [hM3, gmi_In _ _ _ (by decide), gmi_I, gmi_I, gmi_I, gmi_In _ _ _ (by decide), hV.2.2.2 118 (by decide)]
    obtain ⟨eb, lb⟩ := in_row (x := b) (b := 100) (n := 100) rfl (by decide) ⟨Int32.not_lt.mp hp2.2.1, Int32.lt_of_le_of_lt (Int32.not_lt.mp hp2.2.2.1) (by decide)⟩
    obtain ⟨r1, r2, r3, r4, r5, r6⟩ := hR
    have hSi3 : RSi M3 M3 (c + 1) := by
      refine ⟨e44, c75, by omega, fun i hi => ?_⟩
      rw [c76, c77, c78, e118]
      by_cases e : i = c
      · subst e
        rw [va_up_self, va_up_self, va_up_self, va_up_ne _ _ (by omega), va_up_ne _ _ (by omega), va_up_self, va_up_ne _ _ (by omega), va_up_self, va_up_self]
        exact ⟨rfl, rfl, rfl, ⟨_, lb, eb⟩, hg⟩
      · obtain ⟨s1, s2, s3, s4, s5⟩ := r3.2.2.2 i (by omega)
        have u3 : ∀ q, q = 3 * i ∨ q = 3 * i + 1 ∨ q = 3 * i + 2 → va_up (va_up (va_up (gmi M 118) (3 * c) x) (3 * c + 1) b) (3 * c + 2) g q = gmi M 118 q := fun q hq => by rw [va_up_ne _ _ (by omega), va_up_ne _ _ (by omega), va_up_ne _ _ (by omega)]
        rw [va_up_ne _ _ e, va_up_ne _ _ e, va_up_ne _ _ e, u3 _ (Or.inl rfl), u3 _ (Or.inr (Or.inl rfl)), u3 _ (Or.inr (Or.inr rfl))]
        exact ⟨s1, s2, s3, s4, s5⟩
    rw [if_pos hp, if_pos hp2]
    refine ⟨hrq.1, ⟨_, rfl, rfl⟩, n, E, EV, N, A, c + 1, w, T, L, hC.ag3 hrq.1 ha (by rw [ec 0 (by decide)]) (by rw [ec 1 (by decide)]) (by rw [ec 20 (by decide)]) (fun c a b q => by rcases q with q | q | q | q <;> omega) (fun k j hj q => by rcases q with q | q | q | q <;> omega), hm.1.tw (fun c hc => ec c (by omega)) hx3 hS hrq (by decide) (by decide) (by decide), r2.tw (by rw [ec 0 (by decide)]) (fun k j hk hj => ha.2 _ (Or.inr ⟨by omega, by omega⟩) (fun q => by rcases q with q | q | q | q <;> omega)) (ef 30 (by decide) (by decide) (by decide)) (er 111 (by decide) (by decide) (by decide) (by decide) (by decide)) (er 112 (by decide) (by decide) (by decide) (by decide) (by decide)), hSi3, r4.tw (by rw [ec 0 (by decide)]) (ec 31 (by decide)) (ec 32 (by decide)) (ef 46 (by decide) (by decide) (by decide)) (er 119 (by decide) (by decide) (by decide) (by decide) (by decide)), ?_, r6.tw (ef 6 (by decide) (by decide) (by decide)) (er 101 (by decide) (by decide) (by decide) (by decide) (by decide))⟩
    unfold RMs at r5 ⊢
    rw [ef 35 (by decide) (by decide) (by decide), ef 34 (by decide) (by decide) (by decide), ef 7 (by decide) (by decide) (by decide), ef 6 (by decide) (by decide) (by decide), ef 30 (by decide) (by decide) (by decide), ef 39 (by decide) (by decide) (by decide), e44, c75, ec 0 (by decide), ec 20 (by decide), ec 1 (by decide), ec 33 (by decide)]
    exact ⟨r5.1, r5.2.1, r5.2.2.1, r5.2.2.2.1, r5.2.2.2.2.1, rfl, r5.2.2.2.2.2.2⟩
  · rw [if_neg hp] at hM2
    subst hM2
    refine ⟨hC.1, _, r_seen (d := 99) hx hR.1.1 hR.2.2.1.1 hc10 hg, fun v2 M3 hq2 => ?_⟩
    obtain ⟨rfl, hM3⟩ := hq2
    rw [if_neg (fun q => hp (hiff.mpr q))] at hM3
    subst hM3
    rw [if_neg hp, if_neg (fun q => hp (hiff.mpr q))]
    exact ⟨hR.1.th.1.1.1, ⟨_, rfl, rfl⟩, IV.act hC hR wFr.rf gFr.rf th_Y hR.1.th⟩
/-- the tape of class and reference has changed -/
theorem IV.tape (hC : KL M n E w T L) (hR : ZL M M n E EV N A c T L) (hm : ZL M M2 n E EV N A c T L) (h12 : gFr (fun c => c = 1 ∨ c = 2) M M2) (h3 : xFr (fun c => c = 101 ∨ c = 1006 ∨ c = 1000) M2 M3) (e115 : gml M3 115 = gml M2 115) (e116 : gmi M3 116 = gmi M2 116) (hT : TapeC M2 T2 L2) (hT3 : TapeR M3 T2 L2) : gLay M3 ∧ Inv M3 := by
  have hS : Nt (fun c => c = 101 ∨ c = 1006 ∨ c = 1000) := ⟨by decide, by decide, by decide, by decide, by decide, by decide, by decide, by decide, by decide⟩
  have hrq : RQ M3 n E EV := hm.1.1.1.x h3 hS e115 e116
  obtain ⟨ha, er, ef⟩ := two h12 h3 (fun c a b q => by rcases q with q | q <;> omega) (fun c hc q => by rcases hc with hc | hc <;> rcases q with q | q | q <;> omega)
  have ec : ∀ q, 2 < q ∧ q < 100 ∨ q = 0 → gmi M3 q = gmi M q := fun q a => ha.2 q (Or.inl (by omega)) (fun z => by rcases z with z | z <;> omega)
  have m23 : ∀ q, q < 100 → gmi M3 q = gmi M2 q := fun q hq => h3.2.2.2.2.2.1 q (by omega) (by omega) (by omega) (fun z => by rcases z with z | z | z <;> omega)
  have hTC : TapeC M3 T2 L2 := hT.eq (by rw [m23 1 (by decide)]) (m23 2 (by decide))
  have hB : TownB M3 11 := hC.2.2.2.2.1.eq (fun c a b => ec c (by omega))
  obtain ⟨r1, r2, r3, r4, r5, r6⟩ := hR
  refine ⟨hrq.1, n, E, EV, N, A, c, w, T2, L2, hC.ag4 hrq.1 ha (by rw [ec 0 (by decide)]) (by rw [ec 20 (by decide)]) hTC hB (by unfold tv; rw [ec 3 (by decide)]; exact hC.2.2.2.2.2.2) (fun k j hk hj q => by rcases q with q | q <;> omega) (fun k hk q => by rcases q with q | q <;> omega), hm.1.tw (fun c hc => ec c (by omega)) h3 hS hrq (by decide) (by decide) (by decide), r2.tw (by rw [ec 0 (by decide)]) (fun k j hk hj => ha.2 _ (Or.inr ⟨by omega, by omega⟩) (fun q => by rcases q with q | q <;> omega)) (ef 30 (by decide) (by decide) (by decide)) (er 111 (by decide) (by decide) (by decide) (by decide) (by decide)) (er 112 (by decide) (by decide) (by decide) (by decide) (by decide)), r3.tw (by rw [ec 75 (by decide)]) (fun q hq => ec q (by omega)) (ef 44 (by decide) (by decide) (by decide)) (er 118 (by decide) (by decide) (by decide) (by decide) (by decide)), r4.tw (by rw [ec 0 (by decide)]) (ec 31 (by decide)) (ec 32 (by decide)) (ef 46 (by decide) (by decide) (by decide)) (er 119 (by decide) (by decide) (by decide) (by decide) (by decide)), ?_, hT3⟩
  unfold RMs at r5 ⊢
  rw [ef 35 (by decide) (by decide) (by decide), ef 34 (by decide) (by decide) (by decide), ef 7 (by decide) (by decide) (by decide), ef 30 (by decide) (by decide) (by decide), ef 44 (by decide) (by decide) (by decide), ef 39 (by decide) (by decide) (by decide), hT3.1, hTC.1, ec 0 (by decide), ec 20 (by decide), ec 75 (by decide), ec 33 (by decide)]
  exact ⟨r5.1, r5.2.1, r5.2.2.1, rfl, r5.2.2.2.2.1, r5.2.2.2.2.2.1, r5.2.2.2.2.2.2⟩
theorem a_end (hx : gXok X) (x : Int32) : Sim X yX10_end cX10_end 2 yX11_end cX11_end 2 (some .boolean) [.int x] := by
  rintro M ⟨n, E, EV, N, A, c, w, T, L, hC, hR⟩
  have hT := hC.2.2.2.2.2.1
  refine one_gDet (c_end (d := 100) hx hC.1) (fun v1 M2 hq1 => ?_)
  obtain ⟨rfl, hM2⟩ := hq1
  have e6 : gmi M 100 6 = gmi M 1 1 := hR.2.2.2.2.1.2.2.2.1
  by_cases hp : ¬ x < 0 ∧ x ≤ gmi M 1 1
  · rw [if_pos hp] at hM2
    have hV : gFr (fun c => c = 1 ∨ c = 2) M M2 := by rw [hM2]; exact gFr.wI (Or.inl rfl)
    have hm := hR.agr (hV.lay hC.1) (hV.agr (fun c a b q => by rcases q with q | q <;> omega))
    have e6' : gmi M2 100 6 = gmi M 1 1 := hm.2.2.2.2.1.2.2.2.1
    refine ⟨hm.1.1.1.1, _, r_end (d := 100) hx hm.1.1.1.1, fun v2 M3 hq2 => ?_⟩
    obtain ⟨rfl, hM3⟩ := hq2
    rw [e6', if_pos hp] at hM3
    have h240 := hT.2.1
    obtain ⟨ex, lx⟩ := in_row (x := x) (b := nI (L + 1)) (n := L + 1) rfl (by omega) ⟨Int32.not_lt.mp hp.1, Int32.lt_of_le_of_lt hp.2 (by rw [hT.1]; exact nI_lt (by omega) (by omega))⟩
    obtain ⟨hl3, hi3⟩ := IV.tape (L2 := tn x) (T2 := T) (M3 := M3) hC hR hm hV (by rw [hM3]; exact (xFr.wf (Or.inr (Or.inr rfl))).tr (xFr.wf (Or.inr (Or.inl rfl)))) (by rw [hM3]; rfl) (by rw [hM3, gmi_In _ _ _ (by decide), gmi_In _ _ _ (by decide)]) (by
      refine ⟨by rw [hM2, gmi_I, va_up_self]; exact ex, by omega, fun i hi => ?_⟩
      rw [hM2, gmi_In _ _ _ (by decide)]
      exact hT.2.2 i (by omega)) (by
      refine ⟨by rw [hM3, gmi_I, va_up_self]; exact ex, by omega, fun i hi => ?_⟩
      rw [hM3, gmi_In _ _ _ (by decide), gmi_In _ _ _ (by decide)]
      exact hm.2.2.2.2.2.2.2 i (by omega))
    exact ⟨hl3, ⟨_, rfl, by rw [e6']⟩, hi3⟩
  · rw [if_neg hp] at hM2
    subst hM2
    refine ⟨hC.1, _, r_end (d := 100) hx hC.1, fun v2 M3 hq2 => ?_⟩
    obtain ⟨rfl, hM3⟩ := hq2
    rw [e6, if_neg hp] at hM3
    subst hM3
    exact ⟨hR.1.th.1.1.1, ⟨_, rfl, by rw [e6]⟩, IV.act hC hR wFr.rf gFr.rf th_Y hR.1.th⟩
theorem a_feed (hx : gXok X) (a b x e f : Int32) : Sim X yX10_feed cX10_feed 7 yX11_feed cX11_feed 6 (some .int) [.int a, .int b, .int x, .int e, .int f] := by
  rintro M ⟨n, E, EV, N, A, c, w, T, L, hC, hR⟩
  have hT := hC.2.2.2.2.2.1
  refine one_gDet (c_feed (d := 99) hx hC.1 hT) (fun v1 M2 hq1 => ?_)
  obtain ⟨rfl, hM2⟩ := hq1
  by_cases hp : L + feedN a b x e f ≤ 240
  · rw [if_pos hp] at hM2
    have hm := hR.agr (hM2.1.lay hC.1) (hM2.1.agr (fun c a b q => by rcases q with q | q <;> omega))
    refine ⟨hm.1.1.1.1, _, r_feed (d := 99) hx hm.1.1.1.1 hm.2.2.2.2.2, fun v2 M3 hq2 => ?_⟩
    obtain ⟨rfl, hM3⟩ := hq2
    rw [if_pos hp] at hM3
    have hx3 : xFr (fun c => c = 101 ∨ c = 1006 ∨ c = 1000) M2 M3 := by
      obtain ⟨g1, -, g3⟩ := hM3
      exact ⟨g1.1, fun c _ => g1.2.1 c, fun j _ => by rw [g1.2.1], fun c _ _ => g1.2.2.1 c, fun _ => g1.2.2.1 100, fun c a1 _ _ r => g1.2.2.2 c (fun q => q.elim a1 (fun y => r (Or.inl y))), fun j _ _ r => g3 j (fun z => r (Or.inr (Or.inl (by omega)))) (fun z => r (Or.inr (Or.inr (by omega))))⟩
    obtain ⟨hl3, hi3⟩ := IV.tape (M3 := M3) hC hR hm hM2.1 hx3 (hM3.1.2.2.1 115) (hM3.1.2.2.2 116 (by decide)) hM2.2.1 hM3.2.1
    rw [if_pos hp]
    exact ⟨hl3, ⟨_, rfl, rfl⟩, hi3⟩
  · rw [if_neg hp] at hM2
    subst hM2
    refine ⟨hC.1, _, r_feed (d := 99) hx hC.1 hR.2.2.2.2.2, fun v2 M3 hq2 => ?_⟩
    obtain ⟨rfl, hM3⟩ := hq2
    rw [if_neg hp] at hM3
    subst hM3
    rw [if_neg hp]
    exact ⟨hR.1.th.1.1.1, ⟨_, rfl, rfl⟩, IV.act hC hR wFr.rf gFr.rf th_Y hR.1.th⟩
end I5
