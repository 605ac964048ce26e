section I9
variable {X : gX} {Mc M Mn Mb M1 M2 M3 : gM} {d n A N c w L L2 : Nat} {E : Nat → LE} {EV : EVt} {T T2 : Nat → Nat} {S Sc Sr : Nat → Prop} {G F : Nat → Int32}
theorem RQ.y (h : RQ M n E EV) (hf : xFr S M M2) (a1 : ¬ S 102) (a2 : ¬ S 103) (a3 : ¬ S 1007) (a4 : ¬ S 1034) (h1 : gml M2 115 = gml M 115) (h2 : gmi M2 116 = gmi M 116) : RQ M2 n E EV := by
  refine ⟨hf.lay h.1, ?_, ?_, ?_⟩
  · obtain ⟨b1, b2, b3⟩ := h.2.1
    refine ⟨by rw [hf.2.2.2.2.2.2 7 (by decide) (by decide) a3]; exact b1, b2, fun k hk => ?_⟩
    obtain ⟨T, L, ⟨a, b, c⟩, e, f, g⟩ := b3 k hk
    exact ⟨T, L, ⟨by rw [(hf.1 102).1, (hf.1 102).2]; exact a, b, fun q hq => by rw [hf.2.2.2.2.2.1 102 (by decide) (by decide) (by decide) a1]; exact c q hq⟩, by rw [hf.2.2.2.2.2.1 103 (by decide) (by decide) (by decide) a2]; exact e, f, g⟩
  · have := h.2.2.1
    unfold Memo at this ⊢
    rw [h1, h2]
    exact this
  · have := h.2.2.2
    unfold EVR at this ⊢
    rw [hf.2.2.2.2.2.2 34 (by decide) (by decide) a4]
    exact this
theorem okv_v {M2 : gM} {c i b c2 i2 : Nat} (h : gmi M2 c2 i2 = gmi M c i) (ho : okv M c i b) : okv M2 c2 i2 b := by unfold okv tv at ho ⊢; rw [h]; exact ho
def scBt : Nat → Prop := fun c => c < 2 ∨ (3 ≤ c ∧ c < 19) ∨ c = 25 ∨ c = 33 ∨ c = 75
theorem scN_c {c : Nat} (h : ccl c) : ¬ scN c := fun q => by
  unfold scN scT at q
  rcases h with h | h <;> omega
theorem begF_at (k : Nat) (hk : k < 67) : begF Mb k = if k = 65 then gmi Mb 3 10 else if k < tv Mb 3 7 then gmi Mb 4 k else 0 := by
  unfold begF
  by_cases e : k = 65
  · subst e; rw [va_up_self, if_pos rfl]
  · rw [va_up_ne _ _ e, if_neg e]
    by_cases e2 : k < tv Mb 3 7
    · rw [if_pos e2, if_pos e2]
    · rw [if_neg e2, if_neg e2]
      unfold fillF
      rw [if_pos hk]
set_option maxHeartbeats 1000000 in
theorem IV.town1 {s : TS} (hC : KL M n E w T L) (hR : ZL M M n E EV N A c T L) (hf : gFr scrD M M1) (hD : DrF M1 s) (h0 : 0 < s.2.1) (ha : Fnd M1 M2) (hx : TxT M2 M3 s) : gLay M3 ∧ Inv M3 := by
  have hn4 := hC.2.2.1.2.1
  have hw4 := hC.2.2.2.1.2.1.2
  have hL1 := hf.lay hC.1
  obtain ⟨Mb, ⟨hbf, hb6, hb8, b37, b38, b39, b310⟩, hM2⟩ := ha
  have g12 : gFr scBt M1 M2 := by
    rw [hM2]
    exact ((((hbf.mono (fun q z => by unfold scBt; omega)).tr (gFr.wF (by unfold scBt; omega))).tr (gFr.wI (by unfold scBt; omega))).tr (gFr.wI (by unfold scBt; omega))).tr ((gFr.wI (by unfold scBt; omega)).tr (gFr.wI (by unfold scBt; omega)))
  have g02 : gFr scBt M M2 := (hf.mono (fun q z => by unfold scrD at z; unfold scBt; omega)).tr g12
  have hScr : ∀ q, 100 ≤ q → q < 120 → ¬ scBt q := fun q a b z => by unfold scBt at z; omega
  have hm := hR.agr (g02.lay hC.1) (g02.agr hScr)
  have hrq : RQ M3 n E EV := hm.1.1.1.y hx.1.1 (by unfold scN scT; decide) (by unfold scN scT; decide) (by unfold scN scT; decide) (by unfold scN scT; decide) hx.1.2.1 hx.1.2.2.1
  obtain ⟨hag, er, ef⟩ := two g02 hx.1.1 hScr (fun q hq => scN_c hq)
  have c32 : ∀ q, q < 100 → gmi M3 q = gmi M2 q := fun q hq => hx.1.1.2.2.2.2.2.1 q (by omega) (by omega) (by omega) (scN_c (Or.inl hq))
  have c3 : ∀ q, ccl q → ¬ scBt q → gmi M3 q = gmi M q := fun q hq hn => hag.2 q hq hn
  have cb : ∀ q, 2 ≤ q → q < 100 → q ≠ 25 → q ≠ 33 → q ≠ 75 → gmi M3 q = gmi Mb q := fun q a b h1 h2 h3 => by
    rw [c32 q b, hM2, gmi_In _ _ _ (by omega), gmi_In _ _ _ (by omega), gmi_In _ _ _ h3, gmi_In _ _ _ h2]
    exact va_up_ne _ _ h1
  have c1 : ∀ q, 11 ≤ q → q < 19 → gmi M3 q = gmi M1 q := fun q a b => (cb q (by omega) (by omega) (by omega) (by omega) (by omega)).trans (hbf.2.2.2 q (by omega))
  have hbq : ∀ q, q = 33 ∨ q = 75 ∨ q = 0 → gmi Mb q = gmi M q := fun q hq => (hbf.2.2.2 q (by omega)).trans (hf.2.2.2 q (fun z => by unfold scrD at z; omega))
  have e25 : gmi M3 25 = begF Mb := by
    rw [c32 25 (by decide), hM2, gmi_In _ _ _ (by decide), gmi_In _ _ _ (by decide), gmi_In _ _ _ (by decide), gmi_In _ _ _ (by decide)]
    exact gmi_F _ _ _
  have e33 : gmi M3 33 = va_up (gmi M 33) 1 0 := by
    rw [c32 33 (by decide), hM2, gmi_In _ _ _ (by decide), gmi_In _ _ _ (by decide), gmi_In _ _ _ (by decide), gmi_I, ← hbq 33 (by decide)]
    rfl
  have e75 : gmi M3 75 5 = 0 := by rw [c32 75 (by decide), hM2, gmi_In _ _ _ (by decide), gmi_In _ _ _ (by decide), gmi_I, va_up_self]
  have e0 : gmi M3 0 = va_up (gmi M 0) 11 0 := by
    rw [c32 0 (by decide), hM2, gmi_In _ _ _ (by decide), gmi_I, gmi_In _ _ _ (by decide), gmi_In _ _ _ (by decide), ← hbq 0 (by decide)]
    rfl
  have e1 : gmi M3 1 1 = 0 := by rw [c32 1 (by decide), hM2, gmi_I, va_up_self]
  obtain ⟨⟨t7, t8, t9, t10, tp, te⟩, tb, -, s6, s8⟩ := hD
  have v37 : gmi M3 3 7 = nI s.1 := by rw [cb 3 (by decide) (by decide) (by decide) (by decide) (by decide), b37, t7]
  have v38 : gmi M3 3 8 = nI s.2.1 := by rw [cb 3 (by decide) (by decide) (by decide) (by decide) (by decide), b38, t8]
  have v39 : gmi M3 3 9 = gmi M1 11 9 := by rw [cb 3 (by decide) (by decide) (by decide) (by decide) (by decide), b39]
  have v310 : gmi M3 3 10 = gmi M1 11 10 := by rw [cb 3 (by decide) (by decide) (by decide) (by decide) (by decide), b310]
  have tv7 : tv M3 3 7 = s.1 := by unfold tv; rw [v37]; exact nI_clamp (by omega)
  have tvb : tv Mb 3 7 = s.1 := by unfold tv; rw [b37, t7]; exact nI_clamp (by omega)
  have tv8 : tv M3 3 8 = s.2.1 := by unfold tv; rw [v38]; exact nI_clamp (by omega)
  have vp : ∀ k, k < 6 → gmi M3 4 k = gmi M1 12 k ∧ gmi M3 5 k = gmi M1 13 k ∧ gmi M3 6 k = gmi M1 14 k := fun k hk => by
    rw [cb 4 (by decide) (by decide) (by decide) (by decide) (by decide), cb 5 (by decide) (by decide) (by decide) (by decide) (by decide), cb 6 (by decide) (by decide) (by decide) (by decide) (by decide)]
    exact hb6 k hk
  have ve : ∀ k, k < 8 → gmi M3 7 k = gmi M1 15 k ∧ gmi M3 8 k = gmi M1 16 k ∧ gmi M3 9 k = gmi M1 17 k := fun k hk => by
    rw [cb 7 (by decide) (by decide) (by decide) (by decide) (by decide), cb 8 (by decide) (by decide) (by decide) (by decide) (by decide), cb 9 (by decide) (by decide) (by decide) (by decide) (by decide)]
    exact hb8 k hk
  have hTC : TapeC M3 T 0 := ⟨e1, by decide, fun i hi => absurd hi (by omega)⟩
  obtain ⟨hz, ⟨x26, x27, x6, x44, x39, x46⟩, ⟨x105, x105b⟩, x107, x109, x113⟩ := hx
  have hTR : TapeR M3 T 0 := ⟨x6, by decide, fun i hi => absurd hi (by omega)⟩
  have e20 : gmi M3 20 = gmi M 20 := c3 20 (Or.inl (by decide)) (by unfold scBt; omega)
  obtain ⟨⟨⟨p1, p2, p3⟩, p4, p5⟩, r2, r3, r4, r5, r6⟩ := hR
  have hwk : RWk M3 M3 := r2.tw2 (by rw [e0, va_up_ne _ _ (by decide)]) (fun k j hk hj => by
    have := r2.2.1.2
    exact c3 _ (Or.inr ⟨by omega, by omega⟩) (by unfold scBt; omega)) (ef 30 (by decide) (by decide) (by unfold scN scT; decide)) ⟨fun q _ => by rw [er 111 (by decide) (by decide) (by decide) (by decide) (by unfold scN scT; decide)], fun q _ => by rw [er 112 (by decide) (by decide) (by decide) (by decide) (by unfold scN scT; decide)]⟩
  have hF : ∀ k, k < 67 → gmi M3 25 k = if k = 65 then gmi M1 11 10 else if k < s.1 then gmi M1 12 k else 0 := fun k hk => by
    rw [e25, begF_at k hk, tvb, b310]
    by_cases e : k = 65
    · rw [if_pos e, if_pos e]
    · rw [if_neg e, if_neg e]
      by_cases e2 : k < s.1
      · rw [if_pos e2, if_pos e2]; exact (hb6 k (by omega)).1
      · rw [if_neg e2, if_neg e2]
  have hFz : ∀ k, k < 67 → 6 ≤ k → k ≠ 65 → gmi M3 25 k = 0 := fun k h1 h2 h3 => by rw [hF k h1, if_neg h3, if_neg (by omega)]
  refine ⟨hrq.1, n, E, EV, N, 0, 0, w, T, 0, hC.ag4 hrq.1 hag (by rw [e0, va_up_ne _ _ (by decide)]) (by rw [e20]) hTC (tb.eq (fun q a b => c1 q (by omega) (by omega))) (fun _ => by rw [tv8]; exact h0) (fun k j hk hj q => by unfold scBt at q; omega) (fun k hk q => by unfold scBt at q; omega), ⟨⟨hrq, ⟨⟨by rw [tv7]; exact v37, by rw [tv7]; exact s6⟩, ⟨by rw [tv8]; exact v38, by rw [tv8]; exact s8⟩, fun k hk => okv_v (ve k hk).1 (tb.2.2.2 k hk).1, fun k hk => okv_v (ve k hk).2.1 (tb.2.2.2 k hk).2.1, fun k hk => okv_v (ve k hk).2.2 (tb.2.2.2 k hk).2.2, fun k hk => okv_v (vp k hk).2.1 (tb.2.2.1 k hk).2.1, fun k hk => okv_v (vp k hk).2.2 (tb.2.2.1 k hk).2.2, okv_v v39 tb.1⟩, ⟨by rw [x26, v37], by rw [x27, v38], fun p hp => ?_, fun p hp => ?_, by rw [x105, v39, t9], by rw [x105b, v310, t10]⟩⟩, ⟨fun k hk => ?_, ?_, ?_⟩, ⟨by rw [e33, va_up_ne _ _ (by decide)]; exact p5.1.1, p5.1.2⟩, ⟨by rw [e33, va_up_self]; rfl, x39, by decide⟩, fun a ha => absurd ha (by omega), fun a b _ hb => absurd hb (by omega)⟩, hwk, ⟨x44, e75, by decide, fun i hi => absurd hi (by omega)⟩, ⟨by rw [x46, e0, va_up_self], Or.inl (by rw [e0, va_up_self]), fun q => absurd (by rw [e0, va_up_self]) q⟩, ⟨?_, ?_, ?_, by rw [x6, e1], hwk.1, by rw [x44, e75], by rw [x39, e33, va_up_self]⟩, hTR⟩
  · rw [tv7] at hp
    obtain ⟨a1, a2, a3⟩ := vp p (by omega)
    obtain ⟨y1, y2, y3⟩ := tp p hp
    rw [a1, a2, a3, x107 _ (by omega), x107 _ (by omega), x107 _ (by omega)]
    exact ⟨y1.symm, y2.symm, y3.symm⟩
  · rw [tv8] at hp
    obtain ⟨a1, a2, a3⟩ := ve p (by omega)
    obtain ⟨y1, y2, y3⟩ := te p hp
    rw [a1, a2, a3, x109 _ (by omega), x109 _ (by omega), x109 _ (by omega)]
    exact ⟨y1.symm, y2.symm, y3.symm⟩
  · rw [x113 k (by omega)]
    unfold nowI
    by_cases h1 : k < 60 ∧ k % 10 = 0
    · have ek : cix k = k / 10 := by unfold cix; rw [if_pos h1.1, if_pos h1.2]
      rw [ek, hF _ (by omega), if_neg (show ¬ k / 10 = 65 by omega)]
      by_cases h2 : k / 10 < s.1
      · rw [if_pos ⟨h1.1, h1.2, h2⟩, if_pos h2]
        exact (tp _ h2).1.symm
      · rw [if_neg (fun z => h2 z.2.2), if_neg (by omega), if_neg h2]
    · rw [if_neg (fun z => h1 ⟨z.1, z.2.1⟩)]
      by_cases h2 : k = 64
      · subst h2
        rw [if_pos rfl, show cix 64 = 65 from rfl, hF 65 (by decide), if_pos rfl, t10]
      · rw [if_neg h2]
        have hc : 6 ≤ cix k ∧ cix k < 67 ∧ cix k ≠ 65 := by
          unfold cix
          repeat' split
          all_goals omega
        exact (hFz _ hc.2.1 hc.1 hc.2.2).symm
  · have z66 := hFz 66 (by decide) (by decide) (by decide)
    rw [z66]
    exact ⟨x113 67 (by decide), fun j hj => absurd hj (by show ¬ j < 0; omega)⟩
  · refine ⟨⟨fun p hp => ?_, fun p hp => ⟨0, by decide, hFz _ (by omega) (by omega) (by omega)⟩, ⟨0, by decide, hFz 66 (by decide) (by decide) (by decide)⟩⟩, fun i h1 h2 => ⟨0, hFz i (by omega) (by omega) (by omega), by decide⟩, ⟨0, by decide, hFz 64 (by decide) (by decide) (by decide)⟩, ⟨0, by decide, hFz 66 (by decide) (by decide) (by decide)⟩⟩
    rw [hF p (by omega), if_neg (by omega)]
    by_cases h2 : p < s.1
    · rw [if_pos h2]
      have ho := (tb.2.2.1 p hp).1
      exact ⟨_, ho.2, ho.1⟩
    · rw [if_neg h2]
      exact ⟨0, by decide, rfl⟩
  · rw [ef 35 (by decide) (by decide) (by unfold scN scT; decide), e0, va_up_ne _ _ (by decide)]; exact r5.1
  · rw [ef 34 (by decide) (by decide) (by unfold scN scT; decide), e20]; exact r5.2.1
  · rw [ef 7 (by decide) (by decide) (by unfold scN scT; decide), e20]; exact r5.2.2.1
end I9
