section I8
variable {X : gX} {Mc M Mn M1 M2 M3 : gM} {d n A N c w L L2 : Nat} {E : Nat → LE} {EV : EVt} {T T2 : Nat → Nat} {S Sc Sr : Nat → Prop} {G F : Nat → Int32}
theorem scW2_c {c : Nat} (h : ccl c) : ¬ scW2 c := fun q => by
  unfold scW2 at q
  rcases h with h | h <;> omega
set_option maxHeartbeats 1000000 in
theorem IV.week1 (hC : KL M n E w T L) (hR : ZL M M n E EV N A c T L) (hn : w < 4) (hp : PF2 M M1 (300 + 5 * w) T L) (ha : AddW M1 M2 w) (hx : TxW M2 M3 w (weekP T L).2.2.1 (weekP T L).2.2.2) : gLay M3 ∧ Inv M3 := by
  obtain ⟨hf, hT1, hD⟩ := hp
  have hn4 := hC.2.2.1.2.1
  have hL1 := hf.lay hC.1
  have hL2 := ha.lay hL1
  have hL3 := hx.1.1.lay hL2
  have hm := (hR.agr hL1 (hf.agr (fun c a b q => by unfold scrW at q; omega))).agr hL2 ha.agr
  have hS : Nt scW2 := by unfold Nt scW2; omega
  have hrq : RQ M3 n E EV := hm.1.1.1.x hx.1.1 hS hx.1.2.1 hx.1.2.2.1
  have k3 : ∀ q, q < 300 + 5 * (w + 1) ∨ 300 + 5 * (w + 1) + 4 < q → gkd M3 q = gkd M q ∧ gln M3 q = gln M q := fun q hq => ⟨((hx.1.1.1 q).1.trans (ha.1 q hq).1).trans (hf.1 q).1, ((hx.1.1.1 q).2.trans (ha.1 q hq).2.1).trans (hf.1 q).2⟩
  have r3 : ∀ q, q < 300 + 5 * (w + 1) ∨ 300 + 5 * (w + 1) + 4 < q → q ≠ 0 → q ≠ 23 → q ≠ 100 → gmr M3 q = gmr M q := fun q hq h1 h2 h3 => ((hx.1.1.2.1 q h3).trans (ha.2.2.1 q hq h1 h2)).trans (hf.2.1 q)
  have c32 : ∀ q, ccl q → gmi M3 q = gmi M2 q := fun q hq => hx.1.1.2.2.2.2.2.1 q (by rcases hq with a | a <;> omega) (by rcases hq with a | a <;> omega) (by rcases hq with a | a <;> omega) (scW2_c hq)
  have c31 : ∀ q, ccl q → q < 300 + 5 * (w + 1) ∨ 300 + 5 * (w + 1) + 4 < q → q ≠ 1 → q ≠ 0 → gmi M3 q = gmi M1 q := fun q hq h1 h2 h3 => (c32 q hq).trans (ha.2.1 q h1 h2 h3)
  have c3 : ∀ q, ccl q → q < 300 + 5 * w ∨ 300 + 5 * (w + 1) + 4 < q → q ≠ 1 → q ≠ 0 → gmi M3 q = gmi M q := fun q hq h1 h2 h3 => (c31 q hq (by omega) h2 h3).trans (hf.2.2.2 q (fun z => by unfold scrW at z; omega))
  have l3 : ∀ q, q < 100 → q ≠ 1 → q ≠ 0 → gmi M3 q = gmi M q := fun q hq h2 h3 => c3 q (Or.inl hq) (by omega) h2 h3
  have e1 : gmi M3 1 1 = 0 := by rw [c32 1 (Or.inl (by decide)), ha.2.2.2.1, va_up_self]
  have f0 : gmi M1 0 = gmi M 0 := hf.2.2.2 0 (fun z => by unfold scrW at z; omega)
  have e0 : gmi M3 0 = va_up (gmi M 0) 6 (nI (w + 1)) := by rw [c32 0 (Or.inl (by decide)), ha.2.2.2.2.1, f0]
  have e06 : gmi M3 0 6 = nI (w + 1) := by rw [e0, va_up_self]
  have e07 : gmr M3 0 7 = some (300 + 5 * (w + 1)) := by rw [hx.1.1.2.1 0 (by decide), ha.2.2.2.2.2.1, va_up_self]
  have e23 : gmr M3 23 = va_up (gmr M 23) w (some (300 + 5 * w)) := by rw [hx.1.1.2.1 23 (by decide), ha.2.2.2.2.2.2.1, hf.2.1]
  have er : ∀ q, 100 < q → q < 120 → q ≠ 104 → q ≠ 116 → q ≠ 111 → q ≠ 112 → gmi M3 q = gmi M q := fun q a b h1 h2 h3 h4 => ((hx.1.1.2.2.2.2.2.1 q (by omega) h1 h2 (fun z => by unfold scW2 at z; omega)).trans (ha.2.1 q (Or.inl (by omega)) (by omega) (by omega))).trans (hf.2.2.2 q (fun z => by unfold scrW at z; omega))
  have ef : ∀ j, j < 1000 → j < 8 ∨ 14 < j → j ≠ 17 → j ≠ 6 → j ≠ 30 → j ≠ 0 → gmi M3 100 j = gmi M 100 j := fun j h0 a b h1 h2 h3 => ((hx.1.1.2.2.2.2.2.2 j a b (fun z => by unfold scW2 at z; omega)).trans (by rw [ha.2.1 100 (Or.inl (by omega)) (by omega) (by omega)])).trans (by rw [hf.2.2.2 100 (fun z => by unfold scrW at z; omega)])
  have m21 : ∀ q, q = 111 ∨ q = 112 → gmi M2 q = gmi M q := fun q hq => (ha.2.1 q (by omega) (by omega) (by omega)).trans (hf.2.2.2 q (fun z => by unfold scrW at z; omega))
  obtain ⟨-, q2, ⟨l1, l2, lk, ⟨l4, l5⟩, l6⟩, ⟨⟨w1, w1b⟩, ⟨w2, w3⟩, ⟨w4, w5⟩, w6⟩, hB, -, hq⟩ := hC
  have ew : tv M 0 6 = w := by unfold tv; rw [w2]; exact nI_clamp (by omega)
  have et : tv M3 0 6 = w + 1 := by unfold tv; rw [e06]; exact nI_clamp (by omega)
  have ow : okv M3 0 6 4 := ⟨by rw [et]; exact e06, by omega⟩
  have hTC : TapeC M3 T 0 := ⟨e1, by decide, fun i hi => absurd hi (by omega)⟩
  have hTR : TapeR M3 T 0 := ⟨hx.2.1, by decide, fun i hi => absurd hi (by omega)⟩
  have e20 := l3 20 (by decide) (by decide) (by decide)
  have hz := r3 0
  have d1 : ∀ j, j < 4 → gmi M3 (300 + 5 * w + j) = gmi M1 (300 + 5 * w + j) := fun j hj => c31 _ (Or.inr ⟨by omega, by omega⟩) (by omega) (by omega) (by omega)
  have d0 := d1 0 (by decide)
  rw [Nat.add_zero] at d0
  have ed : tv M3 (300 + 5 * w) 3 = (weekP T L).2.2.1 := by unfold tv; rw [d0, hD.1]; exact nI_clamp (by have := hD.2.1; omega)
  have od : okv M3 (300 + 5 * w) 3 16 := ⟨by rw [ed, d0]; exact hD.1, by rw [ed]; exact hD.2.1⟩
  have hwk : RWk M3 M3 := by
    refine ⟨by rw [hx.2.2.1, e06], ow, fun k hk => ?_⟩
    rw [et] at hk
    by_cases e : k = w
    · subst e
      refine ⟨od, by rw [hx.2.2.2.1, d0, hD.1], fun i hi => ?_⟩
      rw [ed] at hi
      rw [d1 1 (by decide), d1 2 (by decide), d1 3 (by decide), (hx.2.2.2.2.2.2.1 i hi).1, (hx.2.2.2.2.2.2.1 i hi).2.1, (hx.2.2.2.2.2.2.1 i hi).2.2, (hD.2.2 i hi).1, (hD.2.2 i hi).2.1, (hD.2.2 i hi).2.2]
      exact ⟨rfl, rfl, rfl⟩
    · have hk2 : k < w := by omega
      obtain ⟨b1, b2, b3⟩ := hR.2.1.2.2 k (by omega)
      have g : ∀ j, j < 4 → gmi M3 (300 + 5 * k + j) = gmi M (300 + 5 * k + j) := fun j hj => c3 _ (Or.inr ⟨by omega, by omega⟩) (by omega) (by omega) (by omega)
      have g0 := g 0 (by decide)
      rw [Nat.add_zero] at g0
      have eg : tv M3 (300 + 5 * k) 3 = tv M (300 + 5 * k) 3 := by unfold tv; rw [g0]
      have h16 := b1.2
      refine ⟨okv_eq g0 b1, by rw [hx.2.2.2.2.2.1 k hk2, m21 112 (by decide), g0]; exact b2, fun i hi => ?_⟩
      rw [eg] at hi
      rw [g 1 (by decide), g 2 (by decide), g 3 (by decide), hx.2.2.2.2.2.2.2 _ (by omega), hx.2.2.2.2.2.2.2 _ (by omega), hx.2.2.2.2.2.2.2 _ (by omega), m21 111 (by decide)]
      exact b3 i hi
  refine ⟨hL3, n, E, EV, N, A, c, w + 1, T, 0, ⟨hL3, fun i hi => by rw [r3 34 (by omega) (by decide) (by decide) (by decide)]; exact q2 i hi, ⟨by rw [e20]; exact l1, l2, fun k hk => ?_, ⟨by rw [r3 19 (by omega) (by decide) (by decide) (by decide)]; exact l4, LawAt_ag (fun q a b => ⟨(k3 q (by omega)).1, (k3 q (by omega)).2, r3 q (by omega) (by omega) (by omega) (by omega)⟩) l5⟩, fun q a b => by rw [(k3 q (by omega)).1]; exact l6 q a b⟩, ⟨⟨ow, fun k hk => ?_⟩, ⟨e06, hn⟩, ⟨e07, WkAt_ag (fun q a b => ⟨(hx.1.1.1 q).1, (hx.1.1.1 q).2, hx.1.1.2.1 q (by omega)⟩) ha.2.2.2.2.2.2.2.1⟩, fun q a b => by rw [(k3 q (by omega)).1]; exact w6 q (by omega) b⟩, hB.eq (fun q a b => l3 q (by omega) (by omega) (by omega)), hTC, by unfold tv; rw [l3 3 (by decide) (by decide) (by decide)]; exact hq⟩, hR.mk hrq (fun q hq => l3 q (by omega) (by omega) (by omega)) (by rw [e0, va_up_ne _ _ (by decide)]) (by rw [e0, va_up_ne _ _ (by decide)]) (by rw [e20]) (fun q hq => er q (by omega) (by omega) (by omega) (by omega) (by omega) (by omega)) (fun j hj => ef j (by omega) (by omega) (by omega) (by omega) (by omega) (by omega)) hwk hTR (by rw [ef 7 (by decide) (by decide) (by decide) (by decide) (by decide) (by decide), e20]; exact hR.2.2.2.2.1.2.2.1) (by rw [hx.2.1, e1])⟩
  · obtain ⟨h1, ⟨cl, len, co, su, sg, s1, s2⟩, h4, h5⟩ := lk k hk
    exact ⟨by rw [r3 21 (by omega) (by decide) (by decide) (by decide)]; exact h1, ⟨cl, len, co, su, sg, LawCode_ag (fun q a b => ⟨(k3 q (by omega)).1, (k3 q (by omega)).2, r3 q (by omega) (by omega) (by omega) (by omega)⟩) (fun q a b => c3 q (Or.inr ⟨by omega, by omega⟩) (by omega) (by omega) (by omega)) s1, s2⟩, h4, by rw [c3 _ (Or.inr ⟨by omega, by omega⟩) (by omega) (by omega) (by omega)]; exact h5⟩
  · rw [et] at hk
    by_cases e : k = w
    · subst e
      exact ⟨by rw [e23, va_up_self], WkAt_ag (fun q a b => ⟨(k3 q (by omega)).1, (k3 q (by omega)).2, r3 q (by omega) (by omega) (by omega) (by omega)⟩) w5, od⟩
    · obtain ⟨b1, b2, b3⟩ := w1b k (by omega)
      exact ⟨by rw [e23, va_up_ne _ _ e]; exact b1, WkAt_ag (fun q a b => ⟨(k3 q (by omega)).1, (k3 q (by omega)).2, r3 q (by omega) (by omega) (by omega) (by omega)⟩) b2, okv_eq (c3 _ (Or.inr ⟨by omega, by omega⟩) (by omega) (by omega) (by omega)) b3⟩
end I8
