section J0
variable {X : gX} {M M1 M2 M3 : gM} {d n A N c w L L2 : Nat} {E : Nat → LE} {EV : EVt} {T T2 : Nat → Nat}
theorem a_text (hx : gXok X) (hZ : gSt X) (hW : gNw X) (x : Int32) : Sim X yX10_text cX10_text 2 yX11_text cX11_text 4 (some .int) [.int x] := by
  rintro M ⟨n, E, EV, N, A, c, w, T, L, hC, hR⟩
  have hT := hC.2.2.2.2.2.1
  have hB := hC.2.2.2.2.1
  have hn4 := hC.2.2.1.2.1
  have hw4 := hC.2.2.2.1.2.1.2
  by_cases e0 : x = 0
  · subst e0
    refine one_gDet (c_text0 (d := 91) hx hZ hC.1 hT hB) (fun v1 M2 hq1 => ?_)
    obtain ⟨rfl, M1, ⟨hf, hT2, hD⟩, hok, hno⟩ := hq1
    have h1 : gFr (scF n w) M M1 := scrD_F hf
    have hm1 := hR.agr (h1.lay hC.1) (h1.agr (fun c a b => scF_r a b))
    by_cases ho : townOK T L = true
    · have hF := hok ho
      have hF2 := hF
      have h12 : gFr scBt M1 M2 := by
        obtain ⟨Mb, ⟨hbf, -⟩, hM2⟩ := hF
        rw [hM2]
        exact ((((hbf.mono (fun q z => by unfold scBt; omega)).tr (gFr.wF (by unfold scBt; omega))).tr (gFr.wI (by unfold scBt; omega))).tr (gFr.wI (by unfold scBt; omega))).tr ((gFr.wI (by unfold scBt; omega)).tr (gFr.wI (by unfold scBt; omega)))
      have hm := hm1.agr (h12.lay hm1.1.1.1.1) (h12.agr (fun q a b z => by unfold scBt at z; omega))
      refine ⟨hm.1.1.1.1, _, r_text0 (d := 91) hx hZ hm.1.1.1.1 hm.2.2.2.2.2, fun v2 M3 hq2 => ?_⟩
      obtain ⟨rfl, -, hx3⟩ := hq2
      have h0 : 0 < (townP T L).2.2.2.1 := by
        have := (Bool.and_eq_true_iff.mp (Bool.and_eq_true_iff.mp (Bool.and_eq_true_iff.mp ho).2).2).2
        exact of_decide_eq_true this
      obtain ⟨l, i⟩ := IV.town1 hC hR hf hD h0 hF2 (hx3 ho)
      exact ⟨l, ⟨_, rfl, rfl⟩, i⟩
    · have := hno ho
      subst this
      refine ⟨hm1.1.1.1.1, _, r_text0 (d := 91) hx hZ hm1.1.1.1.1 hm1.2.2.2.2.2, fun v2 M3 hq2 => ?_⟩
      obtain ⟨rfl, hx3, -⟩ := hq2
      have hz := hx3 ho
      obtain ⟨l, i⟩ := IV.flt hC hR h1 hT2 hD.2.1 (scT0_F hz) (hz.wk (by unfold scT0 scT; decide) (by unfold scT0 scT; decide))
      exact ⟨l, ⟨_, rfl, rfl⟩, i⟩
  by_cases e1 : x = 1
  · subst e1
    obtain ⟨l1, -, -, ⟨l4, l5⟩, l6⟩ := hC.2.2.1
    by_cases hn : n < 4
    · refine ⟨_, 5, 433, _, ⟨Nat.le_refl _, Nat.le_refl _, fun c hc => ⟨by have := hc.1; omega, by have := hc.2; omega⟩⟩, c_text1 (d := 27) hx hZ hW hC.1 hT l1 hn l4 l5 (fun c a b => l6 c a (by omega)), fun v1 M2 hq1 => ?_⟩
      obtain ⟨rfl, M1, hp, hok, hno⟩ := hq1
      have h1 : gFr (scF n w) M M1 := scrR_F hp.1
      have hm1 := hR.agr (h1.lay hC.1) (h1.agr (fun c a b => scF_r a b))
      by_cases ho : lawOK T L = true
      · have hA := hok ho
        have hm := hm1.agr (hA.lay hm1.1.1.1.1) hA.agr
        refine ⟨hm.1.1.1.1, _, r_text1 (d := 67) hx hZ hm.1.1.1.1 hm.2.2.2.2.2 hm.1.1.1.2.1.1 hn, fun v2 M3 hq2 => ?_⟩
        obtain ⟨rfl, -, hx3⟩ := hq2
        obtain ⟨l, i⟩ := IV.law1 hC hR hn hp ho hA (hx3 ho)
        exact ⟨l, ⟨_, rfl, rfl⟩, i⟩
      · have := hno ho
        subst this
        refine ⟨hm1.1.1.1.1, _, r_text1 (d := 67) hx hZ hm1.1.1.1.1 hm1.2.2.2.2.2 hm1.1.1.1.2.1.1 hn, fun v2 M3 hq2 => ?_⟩
        obtain ⟨rfl, hx3, -⟩ := hq2
        have hz := hx3 ho
        obtain ⟨l, i⟩ := IV.flt hC hR h1 hp.2.1 (scF_B hp.1 hB (fun c a b q => by unfold scrR at q; omega)) (sc1_F hz) (hz.wk (by decide) (by decide))
        exact ⟨l, ⟨_, rfl, rfl⟩, i⟩
    · have h4 : n = 4 := by omega
      subst h4
      refine one_gDet (c_text14 (d := 27) hx hZ hC.1 hT l1 (by omega) l4 l5) (fun v1 M2 hq1 => ?_)
      obtain ⟨rfl, hp⟩ := hq1
      have h1 : gFr (scF 4 w) M M2 := scrR_F hp.1
      have hm1 := hR.agr (h1.lay hC.1) (h1.agr (fun c a b => scF_r a b))
      refine ⟨hm1.1.1.1.1, _, r_text14 (d := 99) hx hm1.1.1.1.1 hm1.1.1.1.2.1.1, fun v2 M3 hq2 => ?_⟩
      obtain ⟨rfl, rfl⟩ := hq2
      have hz : zFr (fun c => c = 1000) M2 (gwI M2 100 0 0) := zFr.wf rfl
      obtain ⟨l, i⟩ := IV.flt hC hR h1 hp.2.1 (scF_B hp.1 hB (fun c a b q => by unfold scrR at q; omega)) (sc1_F hz) (hz.wk (by decide) (by decide))
      exact ⟨l, ⟨_, rfl, rfl⟩, i⟩
  by_cases e2 : x = 2
  · subst e2
    obtain ⟨-, ⟨l1, -⟩, ⟨l4, l5⟩, l6⟩ := hC.2.2.2.1
    have hw6 := hR.2.2.2.2.1.2.2.2.2.1
    by_cases hn : w < 4
    · refine ⟨_, 4, 52, _, ⟨by decide, by decide, fun c hc => ⟨by have := hc.1; omega, by have := hc.2; omega⟩⟩, c_text2 (d := 92) hx hZ hW hC.1 hT l1 hn l4 l5 (fun c a b => l6 c a (by omega)), fun v1 M2 hq1 => ?_⟩
      obtain ⟨rfl, M1, hp, hok, hno⟩ := hq1
      have h1 : gFr (scF n w) M M1 := scrW_F hp.1
      have hm1 := hR.agr (h1.lay hC.1) (h1.agr (fun c a b => scF_r a b))
      have w1 := hm1.2.1.1.trans l1
      by_cases ho : weekOK T L = true
      · have hA := hok ho
        have hm := hm1.agr (hA.lay hm1.1.1.1.1) hA.agr
        refine ⟨hm.1.1.1.1, _, r_text2 (d := 92) hx hZ hm.1.1.1.1 hm.2.2.2.2.2 (hm.2.1.1.trans l1) hn, fun v2 M3 hq2 => ?_⟩
        obtain ⟨rfl, -, hx3⟩ := hq2
        obtain ⟨l, i⟩ := IV.week1 hC hR hn hp hA (hx3 ho)
        exact ⟨l, ⟨_, rfl, rfl⟩, i⟩
      · have := hno ho
        subst this
        refine ⟨hm1.1.1.1.1, _, r_text2 (d := 92) hx hZ hm1.1.1.1.1 hm1.2.2.2.2.2 w1 hn, fun v2 M3 hq2 => ?_⟩
        obtain ⟨rfl, hx3, -⟩ := hq2
        have hz := hx3 ho
        obtain ⟨l, i⟩ := IV.flt hC hR h1 hp.2.1 (scF_B hp.1 hB (fun c a b q => by unfold scrW at q; omega)) (scQ0_F hz.1) hz.2
        exact ⟨l, ⟨_, rfl, rfl⟩, i⟩
    · have h4 : w = 4 := by omega
      subst h4
      refine one_gDet (c_text24 (d := 92) hx hZ hC.1 hT l1 (by omega) l4 l5) (fun v1 M2 hq1 => ?_)
      obtain ⟨rfl, hp⟩ := hq1
      have h1 : gFr (scF n 4) M M2 := scrW_F hp.1
      have hm1 := hR.agr (h1.lay hC.1) (h1.agr (fun c a b => scF_r a b))
      refine ⟨hm1.1.1.1.1, _, r_text24 (d := 99) hx hm1.1.1.1.1 (hm1.2.1.1.trans l1), fun v2 M3 hq2 => ?_⟩
      obtain ⟨rfl, rfl⟩ := hq2
      have hz : zFr (fun c => c = 1000) M2 (gwI M2 100 0 0) := zFr.wf rfl
      obtain ⟨l, i⟩ := IV.flt hC hR h1 hp.2.1 (scF_B hp.1 hB (fun c a b q => by unfold scrW at q; omega)) (sc1_F hz) (hz.wk (by decide) (by decide))
      exact ⟨l, ⟨_, rfl, rfl⟩, i⟩
  · refine one_gDet (c_textN (d := 99) hx hC.1 e0 e1 e2) (fun v1 M2 hq1 => ?_)
    obtain ⟨rfl, rfl⟩ := hq1
    refine ⟨hC.1, _, r_textN (d := 99) hx hC.1 e0 e1 e2, fun v2 M3 hq2 => ?_⟩
    obtain ⟨rfl, rfl⟩ := hq2
    exact ⟨hR.1.th.1.1.1, ⟨_, rfl, rfl⟩, IV.act hC hR wFr.rf gFr.rf th_Y hR.1.th⟩
end J0
