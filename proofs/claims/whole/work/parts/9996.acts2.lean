section I3
variable {X : gX} {Mc M Mn M1 M2 M3 : gM} {d n A N c w L : Nat} {E : Nat → LE} {EV : EVt} {T : Nat → Nat} {S Sc Sr : Nat → Prop} {G F : Nat → Int32}
theorem WeeksOK.ag3 (h : WeeksOK M) (hs : AgS S M M2) (h0 : gmi M2 0 6 = gmi M 0 6) (hn : ∀ k, k < 4 → ¬ S (300 + 5 * k)) : WeeksOK M2 := by
  obtain ⟨h1, h2⟩ := h
  have et : tv M2 0 6 = tv M 0 6 := by unfold tv; rw [h0]
  refine ⟨⟨by rw [et, h0]; exact h1.1, by rw [et]; exact h1.2⟩, fun k hk => ?_⟩
  rw [et] at hk
  have h4 := h1.2
  obtain ⟨q1, q2, q3⟩ := h2 k hk
  refine ⟨by rw [(hs.1 23 (Or.inl (by decide))).2.2]; exact q1, WkAt_ag (fun c a b => hs.1 c (Or.inr ⟨by omega, by omega⟩)) q2, okv_eq (hs.2 _ (Or.inr ⟨by omega, by omega⟩) (hn k (by omega))) q3⟩
theorem KL.ag3 (h : KL M n E w T L) (hL : gLay M2) (hs : AgS S M M2) (h06 : gmi M2 0 6 = gmi M 0 6) (h11 : gmi M2 1 1 = gmi M 1 1) (h20 : gmi M2 20 3 = gmi M 20 3) (h1 : ∀ c, 2 ≤ c → c < 20 → ¬ S c) (h2 : ∀ k j, j < 4 → ¬ S (200 + 5 * k + j)) : KL M2 n E w T L := by
  obtain ⟨-, q2, ⟨l1, l2, l3, ⟨l4, l5⟩, l6⟩, ⟨w1, ⟨w2, w3⟩, ⟨w4, w5⟩, w6⟩, q5, q6, q7⟩ := h
  have e : ∀ c, 2 ≤ c → c < 20 → gmi M2 c = gmi M c := fun c a hc => hs.2 c (Or.inl (by omega)) (h1 c a hc)
  have hh : ∀ k, k < 4 → ¬ S (300 + 5 * k) := fun k _ => by have := h2 (k + 20) 0 (by decide); rwa [show 200 + 5 * (k + 20) + 0 = 300 + 5 * k by omega] at this
  refine ⟨hL, q2.ag hs, ⟨by rw [h20]; exact l1, l2, fun k hk => (l3 k hk).ag (by omega) hs (fun j hj => h2 k j hj), ⟨by rw [(hs.1 19 (Or.inl (by decide))).2.2]; exact l4, LawAt_ag (fun c a b => hs.1 c (Or.inr ⟨by omega, by omega⟩)) l5⟩, fun c a b => by rw [(hs.1 c (Or.inr ⟨by omega, by omega⟩)).1]; exact l6 c a b⟩, ⟨w1.ag3 hs h06 hh, ⟨by rw [h06]; exact w2, w3⟩, ⟨by rw [(hs.1 0 (Or.inl (by decide))).2.2]; exact w4, WkAt_ag (fun c a b => hs.1 c (Or.inr ⟨by omega, by omega⟩)) w5⟩, fun c a b => by rw [(hs.1 c (Or.inr ⟨by omega, by omega⟩)).1]; exact w6 c a b⟩, q5.eq (fun c a b => e c (by omega) (by omega)), q6.eq h11 (e 2 (by decide) (by decide)), ?_⟩
  unfold tv
  rw [e 3 (by decide) (by decide)]
  exact q7
/-- class, then reference: what has not changed -/
theorem two (h12 : gFr Sc M M2) (h3 : xFr Sr M2 M3) (hSc : ∀ c, 100 ≤ c → c < 120 → ¬ Sc c) (hSr : ∀ c, ccl c → ¬ Sr c) : AgS Sc M M3 ∧ (∀ c, 100 < c → c < 120 → c ≠ 104 → c ≠ 116 → ¬ Sr c → gmi M3 c = gmi M c) ∧ ∀ j, j < 8 ∨ 14 < j → j ≠ 17 → ¬ Sr (1000 + j) → gmi M3 100 j = gmi M 100 j := by
  refine ⟨h12.ag.tr (h3.ag hSr), fun c a b e1 e2 hs => ?_, fun j a b hs => ?_⟩
  · rw [h3.2.2.2.2.2.1 c (by omega) e1 e2 hs, h12.2.2.2 c (hSc c (by omega) b)]
  · rw [h3.2.2.2.2.2.2 j a b hs, h12.2.2.2 100 (hSc 100 (by decide) (by decide))]
theorem RWk.tw (h : RWk M M) (h06 : gmi M3 0 6 = gmi M 0 6) (h3 : ∀ k j, k < 4 → j < 4 → gmi M3 (300 + 5 * k + j) = gmi M (300 + 5 * k + j)) (e30 : gmi M3 100 30 = gmi M 100 30) (e111 : gmi M3 111 = gmi M 111) (e112 : gmi M3 112 = gmi M 112) : RWk M3 M3 := by
  have h4 := h.2.1.2
  unfold RWk okv tv at *
  rw [h06, e30, e111, e112]
  refine ⟨h.1, h.2.1, fun k hk => ?_⟩
  have e0 := h3 k 0 (by omega) (by decide)
  rw [Nat.add_zero] at e0
  rw [e0, h3 k 1 (by omega) (by decide), h3 k 2 (by omega) (by decide), h3 k 3 (by omega) (by decide)]
  exact h.2.2 k hk
theorem RSi.tw (h : RSi M M c) (h5 : gmi M3 75 5 = gmi M 75 5) (h6 : ∀ q, q = 76 ∨ q = 77 ∨ q = 78 → gmi M3 q = gmi M q) (e44 : gmi M3 100 44 = gmi M 100 44) (e118 : gmi M3 118 = gmi M 118) : RSi M3 M3 c := by
  unfold RSi at *
  rw [h5, h6 76 (by omega), h6 77 (by omega), h6 78 (by omega), e44, e118]
  exact h
theorem RImg.tw (h : RImg M M) (h0 : gmi M3 0 11 = gmi M 0 11) (h1 : gmi M3 31 = gmi M 31) (h2 : gmi M3 32 = gmi M 32) (e46 : gmi M3 100 46 = gmi M 100 46) (e119 : gmi M3 119 = gmi M 119) : RImg M3 M3 := by
  unfold RImg at *
  rw [h0, h1, h2, e46, e119]
  exact h
theorem TapeR.tw (h : TapeR M T L) (e6 : gmi M3 100 6 = gmi M 100 6) (e101 : gmi M3 101 = gmi M 101) : TapeR M3 T L := by
  unfold TapeR at *
  rw [e6, e101]
  exact h
theorem LfR.tw (h : LfR M M2 n E EV N A 0) (hs : ∀ c, (3 ≤ c ∧ c ≤ 9) ∨ c = 25 ∨ c = 26 ∨ (33 ≤ c ∧ c < 75) → gmi M3 c = gmi M c) (hf : xFr Sr M2 M3) (hS : Nt Sr) (hq : RQ M3 n E EV) (h1 : ¬ Sr 113) (h2 : ¬ Sr 117) (h3 : ¬ Sr 1039) : LfR M3 M3 n E EV N A 0 := (h.x hf hS hq h1 h2 h3).sm2 hs
theorem one_gDet {y1 y2 : MethodName} {c1 c2 : ByteArray} {n1 n2 : Nat} {ret : Option FieldType} {as : List Value} {Q1 : Option Value → gM → Prop} (hc : gMet X 100 y1 c1 n1 ret (.ref 0 :: as) M gN0 0 0 Q1) (hr : ∀ v1 M2, Q1 v1 M2 → gLay M2 ∧ ∃ Q2, gMet X 100 y2 c2 n2 ret (.ref 100 :: as) M2 gN0 0 0 Q2 ∧ ∀ v2 M3, Q2 v2 M3 → gLay M3 ∧ (∃ r : Int32, v1 = some (.int r) ∧ v2 = some (.int r)) ∧ Inv M3) : ∃ N1 mc ms Q1, (mc ≤ 5 ∧ ms ≤ 433 ∧ ∀ c, N1 c → 200 ≤ c ∧ c < 5000) ∧ gMet X 100 y1 c1 n1 ret (.ref 0 :: as) M N1 mc ms Q1 ∧ ∀ v1 M2, Q1 v1 M2 → gLay M2 ∧ ∃ Q2, gMet X 100 y2 c2 n2 ret (.ref 100 :: as) M2 gN0 0 0 Q2 ∧ ∀ v2 M3, Q2 v2 M3 → gLay M3 ∧ (∃ r : Int32, v1 = some (.int r) ∧ v2 = some (.int r)) ∧ Inv M3 := ⟨gN0, 0, 0, _, ⟨Nat.zero_le _, Nat.zero_le _, fun c hc => hc.elim⟩, hc, hr⟩
theorem a_undo (hx : gXok X) : Sim X yX10_undo cX10_undo 1 yX11_undo cX11_undo 2 (some .int) [] := by
  rintro M ⟨n, E, EV, N, A, c, w, T, L, hC, hR⟩
  have hn := hR.1.2.2.1
  have hA := hR.1.2.2.2.1
  refine one_gDet (c_undo (d := 98) hx hC.1 hC.2.1 hR.1.okN) (fun v1 M2 hq1 => ?_)
  obtain ⟨rfl, hM2⟩ := hq1
  have eN : tv M 33 2 = N := by unfold tv; rw [hn.1]; exact nI_clamp (by omega)
  rcases Nat.eq_zero_or_pos A with h0 | hpos
  · subst h0
    have e0 : gmi M 33 1 = 0 := hA.1
    rw [if_pos e0] at hM2
    subst hM2
    refine ⟨hC.1, _, r_undo0 (d := 100) hx hC.1 (by rw [hA.2.1]; rfl), fun v2 M3 hq2 => ?_⟩
    obtain ⟨rfl, rfl⟩ := hq2
    rw [if_pos e0]
    exact ⟨hR.1.th.1.1.1, ⟨_, rfl, rfl⟩, IV.act hC hR wFr.rf gFr.rf th_Y hR.1.th⟩
  · obtain ⟨B, rfl⟩ : ∃ B, A = B + 1 := ⟨A - 1, by omega⟩
    have hne : ¬ gmi M 33 1 = 0 := by rw [hA.1]; exact nI_ne0 (by omega) (by omega)
    rw [if_neg hne] at hM2
    have hV : wFr scV M (backM M) := by
      unfold backM
      exact (((gFr.wI (S := scV) (Or.inr (Or.inr ⟨by decide, by decide⟩))).tr (gFr.wF (Or.inl rfl))).tr (gFr.wI (Or.inr (Or.inr ⟨by decide, by decide⟩)))).wf
    subst hM2
    have hm := IV.midA hC hR hV gFr.rf
    refine ⟨hm.1.1.1.1, _, r_undo (d := 100) (A := B) hx hm.1.1.1.1 hm.1.2.2.2.1.2.1 (by have := hA.2.2; omega), fun v2 M3 hq2 => ?_⟩
    obtain ⟨rfl, hf, e115, e116, e39, e113⟩ := hq2
    have b25 : ∀ k, k < 67 → gmi (backM M) 25 k = gmi M (pcell N (B + 1) B) k := fun k hk => by
      unfold backM pcell
      rw [gmi_In _ _ _ (by decide), gmi_F, eN, pk_cpy_in (by omega) (by omega), show 0 + (k - 0) = k by omega, show (N + 40 - (B + 1) + B) % 40 = (N + 39) % 40 by have := hA.2.2; omega]
    have bo : ∀ q, q ≠ 25 → q ≠ 33 → gmi (backM M) q = gmi M q := fun q a b => by
      unfold backM
      rw [gmi_In _ _ _ b, gmi_Fn _ _ a, gmi_In _ _ _ b]
    have b33a : gmi (backM M) 33 2 = nI ((N + 39) % 40) := by
      unfold backM
      rw [gmi_I, va_up_ne _ _ (by decide), gmi_Fn _ _ (by decide), gmi_I, va_up_self, eN]
    have b33b : gmi (backM M) 33 1 = nI B := by
      unfold backM
      rw [gmi_I, va_up_self, hA.1, nI_pred]
    obtain ⟨q1, q2, q3⟩ := hm.1.2.2.2.2.1 B (by omega)
    have hp : ∀ a, a < B → pcell ((N + 39) % 40) B a = pcell N (B + 1) a := fun a ha => by unfold pcell; have := hA.2.2; omega
    have hnc : ∀ a, pcell N (B + 1) a ≠ 25 ∧ pcell N (B + 1) a ≠ 33 := fun a => by have := pcell_lo N (B + 1) a; omega
    have hS : Nt (fun c => c = 113 ∨ c = 1039 ∨ c = 1000) := ⟨by decide, by decide, by decide, by decide, by decide, by decide, by decide, by decide, by decide⟩
    have hl : LfR (backM M) M3 n E EV ((N + 39) % 40) B 0 := by
      refine ⟨(hm.1.1.x hf hS (hm.1.1.1.x hf hS e115 e116)).sm (fun q a b => bo q (by omega) (by omega)), ?_, ⟨b33a, by omega⟩, ⟨b33b, e39, by have := hA.2.2; omega⟩, fun a ha => ?_, fun a b hab hb => ?_⟩
      · show RowL _ _ _
        rw [bo 26 (by decide) (by decide)]
        exact (q1.cg (fun j hj => e113 j hj)).cgF b25
      · obtain ⟨u1, u2, u3⟩ := hm.1.2.2.2.2.1 a (by omega)
        have hch := hm.1.2.2.2.2.2 a B (by omega) (by omega)
        rw [hp a ha, bo _ (hnc a).1 (hnc a).2, bo 26 (by decide) (by decide), b25 66 (by decide), hf.2.2.2.2.2.1 117 (by decide) (by decide) (by decide) (by decide)]
        exact ⟨u1, hch.1, by omega⟩
      · have hch := hm.1.2.2.2.2.2 a b hab (by omega)
        rw [hp a (by omega), hp b hb, bo _ (hnc a).1 (hnc a).2, bo _ (hnc b).1 (hnc b).2]
        exact hch
    rw [if_neg hne]
    refine ⟨hl.1.1.1, ⟨_, rfl, ?_⟩, IV.act hC hR hV gFr.rf (hf.mono (fun c q => Or.inl (by rcases q with q | q | q <;> simp [scP, q]))) hl⟩
    rw [hA.1, nI_pred]
theorem a_back (hx : gXok X) : Sim X yX10_back cX10_back 1 yX11_back cX11_back 2 (some .int) [] := by
  rintro M ⟨n, E, EV, N, A, c, w, T, L, hC, hR⟩
  have hn := hR.1.2.2.1
  have hI := hR.2.2.2.1
  refine one_gDet (c_back (d := 98) hx hC.1) (fun v1 M2 hq1 => ?_)
  obtain ⟨rfl, hM2⟩ := hq1
  by_cases h0 : gmi M 0 11 = 0
  · rw [if_pos h0] at hM2
    subst hM2
    refine ⟨hC.1, _, r_back (d := 100) hx hC.1, fun v2 M3 hq2 => ?_⟩
    obtain ⟨rfl, ha, -⟩ := hq2
    have e46 : gmi M2 100 46 = 0 := hI.1.trans h0
    have e := ha e46
    subst e
    rw [if_pos h0, if_pos e46]
    exact ⟨hR.1.th.1.1.1, ⟨_, rfl, rfl⟩, IV.act hC hR wFr.rf gFr.rf th_Y hR.1.th⟩
  · rw [if_neg h0] at hM2
    have hV : wFr scV M M2 := by
      rw [hM2]
      exact (((gFr.wF (S := scV) (Or.inl rfl)).tr (gFr.wF (Or.inr (Or.inl rfl)))).tr (gFr.wI (Or.inr (Or.inr ⟨by decide, by decide⟩)))).wf
    have hm := IV.midA hC hR hV gFr.rf
    refine ⟨hm.1.1.1.1, _, r_back (d := 100) hx hm.1.1.1.1, fun v2 M3 hq2 => ?_⟩
    obtain ⟨rfl, -, hb⟩ := hq2
    have e46 : ¬ gmi M2 100 46 = 0 := by rw [hm.2.2.2.1.1]; exact h0
    obtain ⟨hf, e115, e116, e39, e113⟩ := hb e46
    have hrow := hm.2.2.2.1.2.2 h0
    have c25 : ∀ k, k < 67 → gmi M2 25 k = gmi M 31 k := fun k hk => by
      rw [hM2, gmi_In _ _ _ (by decide), gmi_Fn _ _ (by decide), gmi_F, pk_cpy_in (by omega) (by omega)]
      congr 1
      omega
    have c26 : ∀ k, k < 384 → gmi M2 26 k = gmi M 32 k := fun k hk => by
      rw [hM2, gmi_In _ _ _ (by decide), gmi_F, pk_cpy_in (by omega) (by omega)]
      congr 1
      omega
    have co : ∀ q, q ≠ 25 → q ≠ 26 → q ≠ 33 → gmi M2 q = gmi M q := fun q a b e => by rw [hM2, gmi_In _ _ _ e, gmi_Fn _ _ b, gmi_Fn _ _ a]
    have hS : Nt (fun c => c = 113 ∨ c = 1039 ∨ c = 1000) := ⟨by decide, by decide, by decide, by decide, by decide, by decide, by decide, by decide, by decide⟩
    have hl : LfR M2 M3 n E EV N 0 0 := by
      refine ⟨(hm.1.1.x hf hS (hm.1.1.1.x hf hS e115 e116)).sm (fun q a b => co q (by omega) (by omega) (by omega)), ?_, ⟨by rw [hM2, gmi_I, va_up_ne _ _ (by decide), gmi_Fn _ _ (by decide), gmi_Fn _ _ (by decide)]; exact hn.1, hn.2⟩, ⟨by rw [hM2, gmi_I, va_up_self]; rfl, e39, by decide⟩, fun a ha => absurd ha (by omega), fun a b _ hb => absurd hb (by omega)⟩
      have h2 := (hrow.cg (R2 := gmi M3 113) (fun j hj => e113 j hj)).cgF (G := gmi M2 25) c25
      exact ⟨h2.1, h2.2.1.e (fun j hj q hq => c26 _ (by omega)), h2.2.2⟩
    rw [if_neg h0, if_neg e46]
    refine ⟨hl.1.1.1, ⟨_, rfl, ?_⟩, IV.act hC hR hV gFr.rf (hf.mono (fun c q => Or.inl (by rcases q with q | q | q <;> simp [scP, q]))) hl⟩
    have e1 := hrow.1 65 (by decide)
    rw [e1, show cix 65 = 66 from rfl, pk_cpy_in (by decide) (by decide)]
end I3
