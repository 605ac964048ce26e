section I6
variable {X : gX} {Mc M Mn M1 M2 M3 : gM} {d n A N c w L L2 : Nat} {E : Nat → LE} {EV : EVt} {T T2 : Nat → Nat} {S Sc Sr : Nat → Prop} {G F : Nat → Int32}
def scF (n w : Nat) : Nat → Prop := fun c => c = 1 ∨ (11 ≤ c ∧ c < 19) ∨ (200 + 5 * n ≤ c ∧ c ≤ 200 + 5 * n + 3) ∨ (300 + 5 * w ≤ c ∧ c ≤ 300 + 5 * w + 3)
def scFr : Nat → Prop := fun c => c = 1000 ∨ (c = 106 ∨ c = 108 ∨ c = 110 ∨ c = 1028 ∨ c = 1029 ∨ c = 1031) ∨ c = 111 ∨ c = 112
theorem RWk.tw2 (h : RWk M M) (h06 : gmi M3 0 6 = gmi M 0 6) (h3 : ∀ k j, k < tv M 0 6 → j < 4 → gmi M3 (300 + 5 * k + j) = gmi M (300 + 5 * k + j)) (e30 : gmi M3 100 30 = gmi M 100 30) (hs : WkS M M3) : RWk M3 M3 := by
  have h4 := h.2.1.2
  obtain ⟨r1, r2, r3⟩ := h
  unfold RWk
  have et : tv M3 0 6 = tv M 0 6 := by unfold tv; rw [h06]
  refine ⟨by rw [e30, h06]; exact r1, ⟨by rw [et, h06]; exact r2.1, by rw [et]; exact h4⟩, fun k hk => ?_⟩
  rw [et] at hk
  have e0 := h3 k 0 hk (by decide)
  rw [Nat.add_zero] at e0
  obtain ⟨q1, q2, q3⟩ := r3 k hk
  have h16 := q1.2
  have e16 : tv M3 (300 + 5 * k) 3 = tv M (300 + 5 * k) 3 := by unfold tv; rw [e0]
  refine ⟨okv_eq e0 q1, by rw [hs.2 k (by omega), e0]; exact q2, fun i hi => ?_⟩
  rw [e16] at hi
  rw [h3 k 1 hk (by decide), h3 k 2 hk (by decide), h3 k 3 hk (by decide), hs.1 _ (by omega), hs.1 _ (by omega), hs.1 _ (by omega)]
  exact q3 i hi
/-- the relation when nothing of the life has changed -/
theorem ZL.mk {n2 : Nat} {E2 : Nat → LE} {EV2 : EVt} (hR : ZL M M n E EV N A c T L) (hrq : RQ M3 n2 E2 EV2) (ec : ∀ q, (3 ≤ q ∧ q ≤ 9) ∨ q = 25 ∨ q = 26 ∨ (31 ≤ q ∧ q < 79) → gmi M3 q = gmi M q) (e011 : gmi M3 0 11 = gmi M 0 11) (e015 : gmi M3 0 15 = gmi M 0 15) (e204 : gmi M3 20 4 = gmi M 20 4) (er : ∀ q, q = 105 ∨ q = 107 ∨ q = 109 ∨ q = 113 ∨ q = 117 ∨ q = 118 ∨ q = 119 → gmi M3 q = gmi M q) (ef : ∀ j, j = 26 ∨ j = 27 ∨ j = 34 ∨ j = 35 ∨ j = 39 ∨ j = 44 ∨ j = 46 → gmi M3 100 j = gmi M 100 j) (hwk : RWk M3 M3) (hT : TapeR M3 T2 L2) (e7 : gmi M3 100 7 = gmi M3 20 3) (e6 : gmi M3 100 6 = gmi M3 1 1) : ZL M3 M3 n2 E2 EV2 N A c T2 L2 := by
  obtain ⟨⟨⟨q1, q2, q3⟩, q4, q5⟩, r2, r3, r4, r5, r6⟩ := hR
  refine ⟨⟨⟨hrq, ?_, ?_⟩, ?_, q5.fr (er 117 (by decide)) (ef 39 (by decide)) (fun q a b => ec q (by omega)) (ec 26 (by decide)) (by rw [ec 25 (by decide)])⟩, hwk, ?_, ?_, ?_, hT⟩
  · obtain ⟨a1, a2, a3, a4, a5, a6, a7, a8⟩ := q2
    exact ⟨okv_eq (ec 3 (by decide)) a1, okv_eq (ec 3 (by decide)) a2, fun k hk => okv_eq (ec 7 (by decide)) (a3 k hk), fun k hk => okv_eq (ec 8 (by decide)) (a4 k hk), fun k hk => okv_eq (ec 9 (by decide)) (a5 k hk), fun k hk => okv_eq (ec 5 (by decide)) (a6 k hk), fun k hk => okv_eq (ec 6 (by decide)) (a7 k hk), okv_eq (ec 3 (by decide)) a8⟩
  · unfold RTn tv at *
    rw [er 105 (by decide), er 107 (by decide), er 109 (by decide), ef 26 (by decide), ef 27 (by decide), ec 3 (by decide), ec 4 (by decide), ec 5 (by decide), ec 6 (by decide), ec 7 (by decide), ec 8 (by decide), ec 9 (by decide)]
    exact q3
  · show RowL _ _ _
    rw [er 113 (by decide), ec 25 (by decide), ec 26 (by decide)]
    exact q4
  · unfold RSi at *
    rw [ef 44 (by decide), er 118 (by decide), ec 75 (by decide), ec 76 (by decide), ec 77 (by decide), ec 78 (by decide)]
    exact r3
  · unfold RImg at *
    rw [ef 46 (by decide), er 119 (by decide), e011, ec 31 (by decide), ec 32 (by decide)]
    exact r4
  · unfold RMs at *
    rw [ef 35 (by decide), ef 34 (by decide), e7, e6, hwk.1, ef 44 (by decide), ef 39 (by decide), e015, e204, ec 75 (by decide), ec 33 (by decide)]
    exact ⟨r5.1, r5.2.1, rfl, rfl, rfl, r5.2.2.2.2.2.1, r5.2.2.2.2.2.2⟩
theorem zFr.wk (h : zFr S M M2) (h1 : ¬ S 111) (h2 : ¬ S 112) : WkS M M2 := ⟨fun q _ => by rw [h.1.2.2.2.2.2.1 111 (by decide) (by decide) (by decide) h1], fun q _ => by rw [h.1.2.2.2.2.2.1 112 (by decide) (by decide) (by decide) h2]⟩
theorem scFr_c {c : Nat} (h : ccl c) : ¬ scFr c := fun q => by
  unfold scFr at q
  rcases h with h | h <;> omega
/-- texts were looked at -/
theorem IV.flt (hC : KL M n E w T L) (hR : ZL M M n E EV N A c T L) (h1 : gFr (scF n w) M M2) (hT : TapeC M2 T L) (hB : TownB M2 11) (h3 : zFr scFr M2 M3) (hw : WkS M2 M3) : gLay M3 ∧ Inv M3 := by
  have hn4 := hC.2.2.1.2.1
  have hw4 := hC.2.2.2.1.2.1.2
  have ew : tv M 0 6 = w := by unfold tv; rw [hC.2.2.2.1.2.1.1]; exact nI_clamp (by omega)
  have hScr : ∀ c, 100 ≤ c → c < 120 → ¬ scF n w c := fun c a b q => by rcases q with q | q | q | q <;> omega
  have hm := hR.agr (h1.lay hC.1) (h1.agr hScr)
  have hS : Nt scFr := by unfold Nt scFr; omega
  have hrq : RQ M3 n E EV := hm.1.1.1.x h3.1 hS h3.2.1 h3.2.2.1
  obtain ⟨ha, er, ef⟩ := two h1 h3.1 hScr (fun c hc => scFr_c hc)
  have ec : ∀ q, q = 0 ∨ (2 ≤ q ∧ q < 11) ∨ (19 ≤ q ∧ q < 100) → gmi M3 q = gmi M q := fun q a => ha.2 q (Or.inl (by omega)) (fun z => by rcases z with z | z | z | z <;> omega)
  have m23 : ∀ q, q < 100 → gmi M3 q = gmi M2 q := fun q hq => h3.1.2.2.2.2.2.1 q (by omega) (by omega) (by omega) (scFr_c (Or.inl hq))
  have hTC : TapeC M3 T L := hT.eq (by rw [m23 1 (by decide)]) (m23 2 (by decide))
  have hTR : TapeR M3 T L := hm.2.2.2.2.2.z h3 (by unfold scFr; decide) (by unfold scFr; decide)
  have ew2 : ∀ k j, k < w → j < 4 → gmi M3 (300 + 5 * k + j) = gmi M (300 + 5 * k + j) := fun k j hk hj => ha.2 _ (Or.inr ⟨by omega, by omega⟩) (fun z => by rcases z with z | z | z | z <;> omega)
  have e111 : gmi M2 111 = gmi M 111 := h1.2.2.2 111 (hScr 111 (by decide) (by decide))
  have e112 : gmi M2 112 = gmi M 112 := h1.2.2.2 112 (hScr 112 (by decide) (by decide))
  refine ⟨hrq.1, n, E, EV, N, A, c, w, T, L, hC.ag4 hrq.1 ha (by rw [ec 0 (by decide)]) (by rw [ec 20 (by decide)]) hTC (hB.eq (fun c a b => m23 c (by omega))) (by unfold tv; rw [ec 3 (by decide)]; exact hC.2.2.2.2.2.2) (fun k j hk hj q => by rcases q with q | q | q | q <;> omega) (fun k hk q => by rcases q with q | q | q | q <;> omega), hR.mk hrq (fun q hq => ec q (by omega)) (by rw [ec 0 (by decide)]) (by rw [ec 0 (by decide)]) (by rw [ec 20 (by decide)]) (fun q hq => er q (by omega) (by omega) (by omega) (by omega) (by unfold scFr; omega)) (fun j hj => ef j (by omega) (by omega) (by unfold scFr; omega)) (hR.2.1.tw2 (by rw [ec 0 (by decide)]) (fun k j hk hj => ew2 k j (by omega) hj) (ef 30 (by decide) (by decide) (by unfold scFr; decide)) ⟨fun q hq => by rw [hw.1 q hq, e111], fun q hq => by rw [hw.2 q hq, e112]⟩) hTR (by rw [ef 7 (by decide) (by decide) (by unfold scFr; decide), ec 20 (by decide)]; exact hR.2.2.2.2.1.2.2.1) (by rw [hTR.1, hTC.1])⟩
theorem scrD_F (h : gFr scrD M M2) : gFr (scF n w) M M2 := h.mono (fun c q => by unfold scrD at q; unfold scF; omega)
theorem scrR_F (h : gFr (scrR (200 + 5 * n)) M M2) : gFr (scF n w) M M2 := h.mono (fun c q => by unfold scrR at q; unfold scF; omega)
theorem scrW_F (h : gFr (scrW (300 + 5 * w)) M M2) : gFr (scF n w) M M2 := h.mono (fun c q => by unfold scrW at q; unfold scF; omega)
theorem scF_r {c : Nat} (a : 100 ≤ c) (b : c < 120) : ¬ scF n w c := fun q => by rcases q with q | q | q | q <;> omega
theorem scF_B (h : gFr S M M2) (hB : TownB M 11) (hs : ∀ c, 11 ≤ c → c ≤ 17 → ¬ S c) : TownB M2 11 := hB.eq (fun c a b => h.2.2.2 c (hs c a b))
theorem scT0_F (h : zFr scT0 M M2) : zFr scFr M M2 := h.mono (fun c q => by unfold scT0 scT at q; unfold scFr; omega)
theorem scQ0_F (h : zFr scQ0 M M2) : zFr scFr M M2 := h.mono (fun c q => by unfold scQ0 scQ at q; unfold scFr; omega)
theorem sc1_F (h : zFr (fun c => c = 1000) M M2) : zFr scFr M M2 := h.mono (fun c q => Or.inl q)
theorem a_fault (hx : gXok X) (hZ : gSt X) (x : Int32) : Sim X yX10_fault cX10_fault 2 yX11_fault cX11_fault 2 (some .int) [.int x] := by
  rintro M ⟨n, E, EV, N, A, c, w, T, L, hC, hR⟩
  have hT := hC.2.2.2.2.2.1
  have hB := hC.2.2.2.2.1
  have hn4 := hC.2.2.1.2.1
  by_cases e0 : x = 0
  · subst e0
    refine one_gDet (c_fault0 (d := 92) hx hZ hC.1 hT hB) (fun v1 M2 hq1 => ?_)
    obtain ⟨rfl, hf, hT2, hD⟩ := hq1
    have h1 : gFr (scF n w) M M2 := scrD_F hf
    have hm := hR.agr (h1.lay hC.1) (h1.agr (fun c a b => scF_r a b))
    refine ⟨hm.1.1.1.1, _, r_fault0 (d := 92) hx hZ hm.1.1.1.1 hm.2.2.2.2.2, fun v2 M3 hq2 => ?_⟩
    obtain ⟨rfl, hz, -⟩ := hq2
    obtain ⟨l, i⟩ := IV.flt hC hR h1 hT2 hD.2.1 (scT0_F hz) (hz.wk (by unfold scT0 scT; decide) (by unfold scT0 scT; decide))
    exact ⟨l, ⟨_, rfl, rfl⟩, i⟩
  by_cases e1 : x = 1
  · subst e1
    obtain ⟨-, -, -, ⟨l4, l5⟩, -⟩ := hC.2.2.1
    refine one_gDet (c_fault1 (d := 28) hx hZ hC.1 hT (by omega) l5 l4) (fun v1 M2 hq1 => ?_)
    obtain ⟨rfl, hf, hT2, hD⟩ := hq1
    have h1 : gFr (scF n w) M M2 := scrR_F hf
    have hm := hR.agr (h1.lay hC.1) (h1.agr (fun c a b => scF_r a b))
    refine ⟨hm.1.1.1.1, _, r_fault1 (d := 68) hx hZ hm.1.1.1.1 hm.2.2.2.2.2, fun v2 M3 hq2 => ?_⟩
    obtain ⟨rfl, hz⟩ := hq2
    obtain ⟨l, i⟩ := IV.flt hC hR h1 hT2 (scF_B hf hB (fun c a b q => by unfold scrR at q; omega)) (sc1_F hz) (hz.wk (by decide) (by decide))
    exact ⟨l, ⟨_, rfl, rfl⟩, i⟩
  by_cases e2 : x = 2
  · subst e2
    obtain ⟨-, -, ⟨l4, l5⟩, -⟩ := hC.2.2.2.1
    refine one_gDet (c_fault2 (d := 93) hx hZ hC.1 hT (by omega) l5 l4) (fun v1 M2 hq1 => ?_)
    obtain ⟨rfl, hf, hT2, hD⟩ := hq1
    have h1 : gFr (scF n w) M M2 := scrW_F hf
    have hm := hR.agr (h1.lay hC.1) (h1.agr (fun c a b => scF_r a b))
    refine ⟨hm.1.1.1.1, _, r_fault2 (d := 93) hx hZ hm.1.1.1.1 hm.2.2.2.2.2, fun v2 M3 hq2 => ?_⟩
    obtain ⟨rfl, hz, hw, -⟩ := hq2
    obtain ⟨l, i⟩ := IV.flt hC hR h1 hT2 (scF_B hf hB (fun c a b q => by unfold scrW at q; omega)) (scQ0_F hz) hw
    exact ⟨l, ⟨_, rfl, rfl⟩, i⟩
  · refine one_gDet (c_faultN (d := 100) hx hC.1 e0 e1 e2) (fun v1 M2 hq1 => ?_)
    obtain ⟨rfl, rfl⟩ := hq1
    refine ⟨hC.1, _, r_faultN (d := 99) hx hC.1 e0 e1 e2, fun v2 M3 hq2 => ?_⟩
    obtain ⟨rfl, rfl⟩ := hq2
    exact ⟨hR.1.th.1.1.1, ⟨_, rfl, rfl⟩, IV.act hC hR wFr.rf gFr.rf th_Y hR.1.th⟩
end I6
