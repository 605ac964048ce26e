section I7
variable {X : gX} {Mc M Mn M1 M2 M3 : gM} {d n A N c w L L2 : Nat} {E : Nat → LE} {EV : EVt} {T T2 : Nat → Nat} {S Sc Sr : Nat → Prop} {G F : Nat → Int32}
theorem lwP_len : ∀ (k i : Nat), i ≤ L → (lwP T L k i).1 = true → i + (clG (lwP T L k i).2.2).length ≤ (lwP T L k i).2.1
  | 0, i, _, _ => Nat.le_refl _
  | k + 1, i, hi, h => by
    unfold lwP at h ⊢
    have hy := yP_san (T := T) hi
    by_cases h1 : (yP T L i).1 = true
    · rw [if_pos h1] at h ⊢
      have h3 := (hy.2 h1).2
      by_cases h2 : isS T L (yP T L i).2.1 59 = true
      · rw [if_pos h2] at h ⊢
        have hn := nxt_ge (T := T) (L := L) (i := (yP T L i).2.1)
        have := lwP_len k (nxt T L (yP T L i).2.1 + 1) (isS_in h2).1 h
        show i + (((yP T L i).2.2.1 ++ (yP T L i).2.2.2.1) ++ clG (lwP T L k (nxt T L (yP T L i).2.1 + 1)).2.2).length ≤ _
        rw [List.length_append, List.length_append]
        unfold clN at h3
        show _ ≤ (lwP T L k (nxt T L (yP T L i).2.1 + 1)).2.1
        omega
      · rw [if_neg h2]
        have hn := nxt_ge (T := T) (L := L) (i := (yP T L i).2.1)
        show i + (((yP T L i).2.2.1 ++ (yP T L i).2.2.2.1) ++ []).length ≤ nxt T L (yP T L i).2.1
        rw [List.append_nil, List.length_append]
        unfold clN at h3
        omega
    · rw [if_neg h1] at h
      exact absurd h Bool.false_ne_true
theorem gLay.ag (h : gLay M) (h1 : ∀ c, c < 121 → gkd M2 c = gkd M c ∧ gln M2 c = gln M c) (h2 : ∀ q ∈ grt, gmr M2 q.1 q.2.1 = gmr M q.1 q.2.1) : gLay M2 := ⟨fun a ha => (h1 a ha).1.trans (h.1 a ha), fun a ha => (h1 a ha).2.trans (h.2.1 a ha), fun q hq => (h2 q hq).trans (h.2.2 q hq)⟩
theorem grt_1 : ∀ q ∈ grt, q.1 ≠ 21 ∧ (q.1 = 19 → q.2.1 = 0) ∧ q.1 ≠ 23 ∧ (q.1 = 0 → q.2.1 ≠ 7) ∧ q.1 < 121 := by decide
theorem AddL.lay (h : AddL M M2 n) (hL : gLay M) : gLay M2 := by
  obtain ⟨a1, a2, a3, a4, a5, a6, a7, a8⟩ := h
  refine hL.ag (fun c hc => ⟨(a1 c (Or.inl (by omega))).1, (a1 c (Or.inl (by omega))).2.1⟩) (fun q hq => ?_)
  obtain ⟨g1, g2, g3, g4, g5⟩ := grt_1 q hq
  by_cases e : q.1 = 19
  · rw [e, g2 e, a6, va_up_ne _ _ (by decide)]
  · rw [a3 _ (Or.inl (by omega)) e g1]
theorem AddW.lay (h : AddW M M2 n) (hL : gLay M) : gLay M2 := by
  obtain ⟨a1, a2, a3, a4, a5, a6, a7, a8⟩ := h
  refine hL.ag (fun c hc => ⟨(a1 c (Or.inl (by omega))).1, (a1 c (Or.inl (by omega))).2.1⟩) (fun q hq => ?_)
  obtain ⟨g1, g2, g3, g4, g5⟩ := grt_1 q hq
  by_cases e : q.1 = 0
  · rw [e, a6, va_up_ne _ _ (g4 e)]
  · rw [a3 _ (Or.inl (by omega)) e g3]
theorem AddL.agr (h : AddL M M2 n) : AgR M M2 := fun c a b => ⟨(h.1 c (Or.inl (by omega))).1, (h.1 c (Or.inl (by omega))).2.1, h.2.1 c (Or.inl (by omega)) (by omega) (by omega), h.2.2.1 c (Or.inl (by omega)) (by omega) (by omega), (h.1 c (Or.inl (by omega))).2.2⟩
theorem AddW.agr (h : AddW M M2 n) : AgR M M2 := fun c a b => ⟨(h.1 c (Or.inl (by omega))).1, (h.1 c (Or.inl (by omega))).2.1, h.2.1 c (Or.inl (by omega)) (by omega) (by omega), h.2.2.1 c (Or.inl (by omega)) (by omega) (by omega), (h.1 c (Or.inl (by omega))).2.2⟩
def adE (E : Nat → LE) (n : Nat) (e : LE) : Nat → LE := fun k => if k = n then e else E k
theorem adE_s {e : LE} : adE E n e n = e := if_pos rfl
theorem adE_n {e : LE} {k : Nat} (h : k < n) : adE E n e k = E k := if_neg (by omega)
theorem enc_lt {a b : Nat} (h : a ≤ b) : enc a 0 0 0 0 0 0 ≤ enc b 0 0 0 0 0 0 := by unfold enc; omega
theorem enc_ge {k g s b m w t : Nat} : enc k 0 0 0 0 0 0 ≤ enc k g s b m w t := by unfold enc; omega
/-- a law more -/
theorem RQ.add (h : RQ M n E EV) (hn : n < 4) (hL : gLay M2) (hx : TxL M M2 n L) (hT : TapeR M T L) (ho : lawOK T L = true) : RQ M2 (n + 1) (adE E n (clE (lwP T L 61 0).2.2)) EV := by
  obtain ⟨-, h2, h3, h4⟩ := h
  obtain ⟨z, x1, x2, x3, x4, x5, x6⟩ := hx
  refine ⟨hL, ⟨x2, hn, fun k hk => ?_⟩, ⟨?_, ?_⟩, ?_⟩
  · by_cases e : k = n
    · subst e
      refine ⟨T, L, ⟨⟨hL.1 102 (by decide), hL.2.1 102 (by decide)⟩, ⟨by have := hT.2.1; omega, by decide, hT.2.1, by decide⟩, fun j hj => ?_⟩, x3, ho, adE_s⟩
      rw [x5 j hj]
      exact hT.2.2 j hj
    · obtain ⟨T2, L2, ⟨b1, b2, b3⟩, b4, b5, b6⟩ := h2.2.2 k (by omega)
      refine ⟨T2, L2, ⟨⟨hL.1 102 (by decide), hL.2.1 102 (by decide)⟩, b2, fun j hj => ?_⟩, by rw [x4 k e]; exact b4, b5, by rw [adE_n (by omega)]; exact b6⟩
      rw [x6 _ (by omega)]
      exact b3 j hj
  · intro q hq k g s b m w t hk hg hs hb hm hw ht he
    rw [z.2.2.1]
    rw [z.2.1] at he
    by_cases e : k = n
    · subst e
      obtain ⟨K, hK, hK2⟩ := h3.2 q hq
      rw [hK2] at he
      have h5 : enc k g s b m w t < 2 ^ 63 := by unfold enc; omega
      have h6 := enc_ge (k := k) (g := g) (s := s) (b := b) (m := m) (w := w) (t := t)
      have := (fb_lN_inj (by omega) h5).mp he
      omega
    · rw [adE_n (by omega)]
      exact h3.1 q hq k g s b m w t (by omega) hg hs hb hm hw ht he
  · intro q hq
    obtain ⟨K, hK, hK2⟩ := h3.2 q hq
    exact ⟨K, Nat.lt_of_lt_of_le hK (enc_lt (Nat.le_succ n)), by rw [z.2.1]; exact hK2⟩
  · unfold EVR at *
    rw [z.1.2.2.2.2.2.2 34 (by decide) (by decide) (by unfold scL; decide)]
    rcases h4 with h4 | ⟨k, hk, h5, h6⟩
    · exact Or.inl h4
    · exact Or.inr ⟨k, by omega, by rw [adE_n hk]; exact h5, h6⟩
theorem scL_c {c : Nat} (h : ccl c) : ¬ scL c := fun q => by
  unfold scL at q
  rcases h with h | h <;> omega
set_option maxHeartbeats 1000000 in
theorem IV.law1 (hC : KL M n E w T L) (hR : ZL M M n E EV N A c T L) (hn : n < 4) (hp : PF1 M M1 (200 + 5 * n) T L) (ho : lawOK T L = true) (ha : AddL M1 M2 n) (hx : TxL M2 M3 n L) : gLay M3 ∧ Inv M3 := by
  obtain ⟨hf, hT1, hD⟩ := hp
  have hD := hD ho
  have hw4 := hC.2.2.2.1.2.1.2
  have hL1 := hf.lay hC.1
  have hL2 := ha.lay hL1
  have hL3 := hx.1.1.lay hL2
  have ho1 : (lwP T L 61 0).1 = true := by unfold lawOK at ho; exact (Bool.and_eq_true_iff.mp ho).1
  have hok := lwP_ok 61 0 ho1
  have h240 : (clG (lwP T L 61 0).2.2).length ≤ 240 := by
    have h1 := lwP_len (T := T) (L := L) 61 0 (Nat.zero_le _) ho1
    have h2 := lwP_le (T := T) (L := L) 61 0 (Nat.zero_le _)
    have h3 := hT1.2.1
    omega
  have hsem := DrC_sem hD h240 hok
  have hm := (hR.agr hL1 (hf.agr (fun c a b q => by unfold scrR at q; omega))).agr hL2 ha.agr
  have hrq : RQ M3 (n + 1) (adE E n (clE (lwP T L 61 0).2.2)) EV := hm.1.1.1.add hn hL3 hx hm.2.2.2.2.2 ho
  have k3 : ∀ q, q < 200 + 5 * (n + 1) ∨ 200 + 5 * (n + 1) + 4 < q → gkd M3 q = gkd M q ∧ gln M3 q = gln M q := fun q hq => ⟨((hx.1.1.1 q).1.trans (ha.1 q hq).1).trans (hf.1 q).1, ((hx.1.1.1 q).2.trans (ha.1 q hq).2.1).trans (hf.1 q).2⟩
  have r3 : ∀ q, q < 200 + 5 * (n + 1) ∨ 200 + 5 * (n + 1) + 4 < q → q ≠ 19 → q ≠ 21 → q ≠ 100 → gmr M3 q = gmr M q := fun q hq h1 h2 h3 => ((hx.1.1.2.1 q h3).trans (ha.2.2.1 q hq h1 h2)).trans (hf.2.1 q)
  have c32 : ∀ q, ccl q → gmi M3 q = gmi M2 q := fun q hq => hx.1.1.2.2.2.2.2.1 q (by rcases hq with a | a <;> omega) (by rcases hq with a | a <;> omega) (by rcases hq with a | a <;> omega) (scL_c hq)
  have c31 : ∀ q, ccl q → q < 200 + 5 * (n + 1) ∨ 200 + 5 * (n + 1) + 4 < q → q ≠ 1 → q ≠ 20 → gmi M3 q = gmi M1 q := fun q hq h1 h2 h3 => (c32 q hq).trans (ha.2.1 q h1 h2 h3)
  have c3 : ∀ q, ccl q → q < 200 + 5 * n ∨ 200 + 5 * (n + 1) + 4 < q → q ≠ 1 → q ≠ 20 → gmi M3 q = gmi M q := fun q hq h1 h2 h3 => (c31 q hq (by omega) h2 h3).trans (hf.2.2.2 q (fun z => by unfold scrR at z; omega))
  have l3 : ∀ q, q < 100 → q ≠ 1 → q ≠ 20 → gmi M3 q = gmi M q := fun q hq h2 h3 => c3 q (Or.inl hq) (by omega) h2 h3
  have e1 : gmi M3 1 1 = 0 := by rw [c32 1 (Or.inl (by decide)), ha.2.2.2.1, va_up_self]
  have f20 : gmi M1 20 = gmi M 20 := hf.2.2.2 20 (fun z => by unfold scrR at z; omega)
  have e203 : gmi M3 20 3 = nI (n + 1) := by rw [c32 20 (Or.inl (by decide)), ha.2.2.2.2.1, va_up_self]
  have e204 : gmi M3 20 4 = gmi M 20 4 := by rw [c32 20 (Or.inl (by decide)), ha.2.2.2.2.1, va_up_ne _ _ (by decide), f20]
  have e19 : gmr M3 19 1 = some (200 + 5 * (n + 1)) := by rw [hx.1.1.2.1 19 (by decide), ha.2.2.2.2.2.1, va_up_self]
  have e21 : gmr M3 21 = va_up (gmr M 21) n (some (200 + 5 * n)) := by rw [hx.1.1.2.1 21 (by decide), ha.2.2.2.2.2.2.1, hf.2.1]
  have er : ∀ q, 100 < q → q < 120 → q ≠ 104 → q ≠ 116 → q ≠ 102 → q ≠ 103 → gmi M3 q = gmi M q := fun q a b h1 h2 h3 h4 => ((hx.1.1.2.2.2.2.2.1 q (by omega) h1 h2 (fun z => by unfold scL at z; omega)).trans (ha.2.1 q (Or.inl (by omega)) (by omega) (by omega))).trans (hf.2.2.2 q (fun z => by unfold scrR at z; omega))
  have ef : ∀ j, j < 1000 → j < 8 ∨ 14 < j → j ≠ 17 → j ≠ 6 → j ≠ 7 → j ≠ 0 → gmi M3 100 j = gmi M 100 j := fun j h0 a b h1 h2 h3 => ((hx.1.1.2.2.2.2.2.2 j a b (fun z => by unfold scL at z; omega)).trans (by rw [ha.2.1 100 (Or.inl (by omega)) (by omega) (by omega)])).trans (by rw [hf.2.2.2 100 (fun z => by unfold scrR at z; omega)])
  obtain ⟨-, q2, ⟨l1, l2, lk, ⟨l4, l5⟩, l6⟩, ⟨⟨w1, w1b⟩, ⟨w2, w3⟩, ⟨w4, w5⟩, w6⟩, hB, -, hq⟩ := hC
  have e0 := l3 0 (by decide) (by decide) (by decide)
  have ew : tv M 0 6 = w := by unfold tv; rw [w2]; exact nI_clamp (by omega)
  have et : tv M3 0 6 = tv M 0 6 := by unfold tv; rw [e0]
  have hTC : TapeC M3 T 0 := ⟨e1, by decide, fun i hi => absurd hi (by omega)⟩
  have hTR : TapeR M3 T 0 := ⟨hx.2.1, by decide, fun i hi => absurd hi (by omega)⟩
  refine ⟨hL3, n + 1, _, EV, N, A, c, w, T, 0, ⟨hL3, fun i hi => by rw [r3 34 (by omega) (by decide) (by decide) (by decide)]; exact q2 i hi, ⟨e203, hn, fun k hk => ?_, ⟨e19, ?_⟩, fun q a b => by rw [(k3 q (by omega)).1]; exact l6 q (by omega) b⟩, ⟨⟨okv_eq e0 w1, fun k hk => ?_⟩, ⟨by rw [e0]; exact w2, w3⟩, ⟨by rw [r3 0 (by omega) (by decide) (by decide) (by decide)]; exact w4, WkAt_ag (fun q a b => ⟨(k3 q (by omega)).1, (k3 q (by omega)).2, r3 q (by omega) (by omega) (by omega) (by omega)⟩) w5⟩, fun q a b => by rw [(k3 q (by omega)).1]; exact w6 q a b⟩, hB.eq (fun q a b => l3 q (by omega) (by omega) (by omega)), hTC, by unfold tv; rw [l3 3 (by decide) (by decide) (by decide)]; exact hq⟩, hR.mk hrq (fun q hq => l3 q (by omega) (by omega) (by omega)) (by rw [e0]) (by rw [e0]) e204 (fun q hq => er q (by omega) (by omega) (by omega) (by omega) (by omega) (by omega)) (fun j hj => ef j (by omega) (by omega) (by omega) (by omega) (by omega) (by omega)) (hR.2.1.tw2 (by rw [e0]) (fun k j hk hj => c3 _ (Or.inr ⟨by omega, by omega⟩) (by omega) (by omega) (by omega)) (ef 30 (by decide) (by decide) (by decide) (by decide) (by decide) (by decide)) ⟨fun q _ => by rw [er 111 (by decide) (by decide) (by decide) (by decide) (by decide) (by decide)], fun q _ => by rw [er 112 (by decide) (by decide) (by decide) (by decide) (by decide) (by decide)]⟩) hTR (by rw [hx.2.2.1, e203]) (by rw [hx.2.1, e1])⟩
  · by_cases e : k = n
    · subst e
      rw [adE_s]
      have g6 : gmi M1 (200 + 5 * k) 6 = ib (2 ∈ clG (lwP T L 61 0).2.2) := hD.1.2.2.2.2.2
      obtain ⟨cl, len, co, su, sg, s1, s2⟩ := hsem
      refine ⟨by rw [e21, va_up_self], ⟨cl, len, co, su, sg, LawCode_ag (fun q a b => ⟨((hx.1.1.1 q).1.trans (ha.1 q (by omega)).1), ((hx.1.1.1 q).2.trans (ha.1 q (by omega)).2.1), ((hx.1.1.2.1 q (by omega)).trans (ha.2.2.1 q (by omega) (by omega) (by omega)))⟩) (fun q a b => c31 q (Or.inr ⟨by omega, by omega⟩) (by omega) (by omega) (by omega)) s1, s2⟩, fun lt lt2 h => clE_congr hok (fun s _ hs => h s hs), fun hz lt lt2 h => clE_congr hok (fun s hm2 hs => h s hs (fun e2 => ?_))⟩
      rw [c31 _ (Or.inr ⟨by omega, by omega⟩) (by omega) (by omega) (by omega), g6, ib_t (by rw [← e2]; exact hm2)] at hz
      exact absurd hz (by decide)
    · have hk2 : k < n := by omega
      rw [adE_n hk2]
      obtain ⟨h1, ⟨cl, len, co, su, sg, s1, s2⟩, h4, h5⟩ := lk k hk2
      exact ⟨by rw [e21, va_up_ne _ _ e]; exact h1, ⟨cl, len, co, su, sg, LawCode_ag (fun q a b => ⟨(k3 q (by omega)).1, (k3 q (by omega)).2, r3 q (by omega) (by omega) (by omega) (by omega)⟩) (fun q a b => c3 q (Or.inr ⟨by omega, by omega⟩) (by omega) (by omega) (by omega)) s1, s2⟩, h4, by rw [c3 _ (Or.inr ⟨by omega, by omega⟩) (by omega) (by omega) (by omega)]; exact h5⟩
  · exact LawAt_ag (fun q a b => ⟨(hx.1.1.1 q).1, (hx.1.1.1 q).2, hx.1.1.2.1 q (by omega)⟩) ha.2.2.2.2.2.2.2
  · rw [et] at hk
    obtain ⟨b1, b2, b3⟩ := w1b k hk
    exact ⟨by rw [r3 23 (by omega) (by decide) (by decide) (by decide)]; exact b1, WkAt_ag (fun q a b => ⟨(k3 q (by omega)).1, (k3 q (by omega)).2, r3 q (by omega) (by omega) (by omega) (by omega)⟩) b2, okv_eq (c3 _ (Or.inr ⟨by omega, by omega⟩) (by omega) (by omega) (by omega)) b3⟩
end I7
