section I0
variable {X : gX} {Mc M Mc2 M2 M3 : gM} {d n A N c w L : Nat} {E : Nat → LE} {EV : EVt} {T : Nat → Nat} {S : Nat → Prop}
/-- a cell of the class -/
def ccl (c : Nat) : Prop := c < 100 ∨ (200 ≤ c ∧ c < 400)
def AgS (S : Nat → Prop) (M M2 : gM) : Prop := (∀ c, ccl c → gkd M2 c = gkd M c ∧ gln M2 c = gln M c ∧ gmr M2 c = gmr M c) ∧ ∀ c, ccl c → ¬ S c → gmi M2 c = gmi M c
theorem AgS.tr (h : AgS S M M2) (h2 : AgS S M2 M3) : AgS S M M3 := ⟨fun c hc => ⟨(h2.1 c hc).1.trans (h.1 c hc).1, (h2.1 c hc).2.1.trans (h.1 c hc).2.1, (h2.1 c hc).2.2.trans (h.1 c hc).2.2⟩, fun c hc hs => (h2.2 c hc hs).trans (h.2 c hc hs)⟩
theorem AgS.mono {S2 : Nat → Prop} (h : AgS S M M2) (hs : ∀ c, S c → S2 c) : AgS S2 M M2 := ⟨h.1, fun c hc hn => h.2 c hc (fun q => hn (hs c q))⟩
theorem gFr.ag (h : gFr S M M2) : AgS S M M2 := ⟨fun c _ => ⟨(h.1 c).1, (h.1 c).2, h.2.1 c⟩, fun c _ hs => h.2.2.2 c hs⟩
/-- what the reference's calls change is no cell of the class -/
theorem xFr.ag {S2 : Nat → Prop} (h : xFr S M M2) (hs : ∀ c, ccl c → ¬ S c) : AgS S2 M M2 := ⟨fun c hc => ⟨(h.1 c).1, (h.1 c).2, h.2.1 c (by rcases hc with q | q <;> omega)⟩, fun c hc _ => h.2.2.2.2.2.1 c (by rcases hc with q | q <;> omega) (by rcases hc with q | q <;> omega) (by rcases hc with q | q <;> omega) (hs c hc)⟩
theorem LawCode_ag {a cl len : Nat} {co su sg : Nat → Nat} (h1 : ∀ c, a ≤ c → c ≤ a + 4 → gkd M2 c = gkd M c ∧ gln M2 c = gln M c ∧ gmr M2 c = gmr M c) (h2 : ∀ c, a ≤ c → c ≤ a + 3 → gmi M2 c = gmi M c) (hc : LawCode M a cl len co su sg) : LawCode M2 a cl len co su sg := by
  obtain ⟨q1, q2, q3, q4, q5⟩ := hc
  refine ⟨?_, ?_, ?_, ?_, ?_⟩
  · unfold LawAt at q1 ⊢
    rw [(h1 a (by omega) (by omega)).1, (h1 (a + 1) (by omega) (by omega)).1, (h1 (a + 1) (by omega) (by omega)).2.1, (h1 (a + 2) (by omega) (by omega)).1, (h1 (a + 2) (by omega) (by omega)).2.1, (h1 (a + 3) (by omega) (by omega)).1, (h1 (a + 3) (by omega) (by omega)).2.1, (h1 (a + 4) (by omega) (by omega)).1, (h1 (a + 4) (by omega) (by omega)).2.1, (h1 a (by omega) (by omega)).2.2]
    exact q1
  · rw [h2 a (by omega) (by omega)]; exact q2
  · rw [h2 a (by omega) (by omega)]; exact q3
  · rw [h2 (a + 2) (by omega) (by omega), h2 (a + 3) (by omega) (by omega)]; exact q4
  · rw [h2 (a + 1) (by omega) (by omega)]; exact q5
theorem LawAt_ag {a : Nat} (h1 : ∀ c, a ≤ c → c ≤ a + 4 → gkd M2 c = gkd M c ∧ gln M2 c = gln M c ∧ gmr M2 c = gmr M c) (hc : LawAt M a) : LawAt M2 a := by
  unfold LawAt at hc ⊢
  rw [(h1 a (by omega) (by omega)).1, (h1 (a + 1) (by omega) (by omega)).1, (h1 (a + 1) (by omega) (by omega)).2.1, (h1 (a + 2) (by omega) (by omega)).1, (h1 (a + 2) (by omega) (by omega)).2.1, (h1 (a + 3) (by omega) (by omega)).1, (h1 (a + 3) (by omega) (by omega)).2.1, (h1 (a + 4) (by omega) (by omega)).1, (h1 (a + 4) (by omega) (by omega)).2.1, (h1 a (by omega) (by omega)).2.2]
  exact hc
theorem WkAt_ag {a : Nat} (h1 : ∀ c, a ≤ c → c ≤ a + 3 → gkd M2 c = gkd M c ∧ gln M2 c = gln M c ∧ gmr M2 c = gmr M c) (hc : WkAt M a) : WkAt M2 a := by
  unfold WkAt at hc ⊢
  rw [(h1 a (by omega) (by omega)).1, (h1 (a + 1) (by omega) (by omega)).1, (h1 (a + 1) (by omega) (by omega)).2.1, (h1 (a + 2) (by omega) (by omega)).1, (h1 (a + 2) (by omega) (by omega)).2.1, (h1 (a + 3) (by omega) (by omega)).1, (h1 (a + 3) (by omega) (by omega)).2.1, (h1 a (by omega) (by omega)).2.2]
  exact hc
/-- one law of the class -/
def LwO (M : gM) (k : Nat) (E : LE) : Prop := gmr M 21 k = some (200 + 5 * k) ∧ LawSem M (200 + 5 * k) E ∧ (∀ lt lt2 : Nat → Int32, (∀ i, i < 6 → lt i = lt2 i) → E lt = E lt2) ∧ (gmi M (200 + 5 * k) 6 = 0 → ∀ lt lt2 : Nat → Int32, (∀ i, i < 6 → i ≠ 2 → lt i = lt2 i) → E lt = E lt2)
def LwOK (M : gM) (n : Nat) (E : Nat → LE) : Prop := gmi M 20 3 = nI n ∧ n ≤ 4 ∧ (∀ k, k < n → LwO M k (E k)) ∧ (gmr M 19 1 = some (200 + 5 * n) ∧ LawAt M (200 + 5 * n)) ∧ ∀ c, 200 + 5 * (n + 1) ≤ c → c < 300 → gkd M c = 0
def WwOK (M : gM) (w : Nat) : Prop := WeeksOK M ∧ (gmi M 0 6 = nI w ∧ w ≤ 4) ∧ (gmr M 0 7 = some (300 + 5 * w) ∧ WkAt M (300 + 5 * w)) ∧ ∀ c, 300 + 5 * (w + 1) ≤ c → c < 400 → gkd M c = 0
/-- the class by itself -/
def KL (M : gM) (n : Nat) (E : Nat → LE) (w : Nat) (T : Nat → Nat) (L : Nat) : Prop := gLay M ∧ PLay M ∧ LwOK M n E ∧ WwOK M w ∧ TownB M 11 ∧ TapeC M T L ∧ (1 ≤ tv M 3 7 → 1 ≤ tv M 3 8)
/-- class and reference -/
def ZL (Mc M : gM) (n : Nat) (E : Nat → LE) (EV : EVt) (N A c : Nat) (T : Nat → Nat) (L : Nat) : Prop := LfR Mc M n E EV N A 0 ∧ RWk Mc M ∧ RSi Mc M c ∧ RImg Mc M ∧ RMs Mc M ∧ TapeR M T L
def Inv (M : gM) : Prop := ∃ n E EV N A c w T L, KL M n E w T L ∧ ZL M M n E EV N A c T L
theorem LwO.ag {k : Nat} {E : LE} (hk : k < 4) (h : LwO M k E) (hs : AgS S M M2) (hn : ∀ j, j < 4 → ¬ S (200 + 5 * k + j)) : LwO M2 k E := by
  obtain ⟨h1, ⟨cl, len, co, su, sg, h2, h3⟩, h4, h5⟩ := h
  have hcc : ∀ c, 200 + 5 * k ≤ c → c ≤ 200 + 5 * k + 4 → ccl c := fun c a b => Or.inr ⟨by omega, by omega⟩
  refine ⟨?_, ⟨cl, len, co, su, sg, LawCode_ag (fun c a b => hs.1 c (hcc c a b)) (fun c a b => hs.2 c (hcc c a (by omega)) ?_) h2, h3⟩, h4, ?_⟩
  · rw [(hs.1 21 (Or.inl (by decide))).2.2]; exact h1
  · have := hn (c - (200 + 5 * k)) (by omega)
    rwa [show 200 + 5 * k + (c - (200 + 5 * k)) = c by omega] at this
  · rw [hs.2 (200 + 5 * k) (hcc _ (by omega) (by omega)) (hn 0 (by decide))]; exact h5
def scA : Nat → Prop := fun c => scr0 c ∨ c = 28 ∨ c = 29 ∨ c = 75 ∨ c = 79 ∨ c = 80
theorem scA_no {c : Nat} (h : c < 200) (h1 : c ≠ 22) (h2 : c ≠ 28) (h3 : c ≠ 29) (h4 : c ≠ 75) (h5 : c ≠ 79) (h6 : c ≠ 80) : ¬ scA c := fun q => by
  rcases q with q | q | q | q | q | q
  · exact scr0_lo h h1 q
  all_goals omega
theorem scA_hi {k j : Nat} (hj : j < 4) : ¬ scA (200 + 5 * k + j) := fun q => by
  rcases q with q | q | q | q | q | q
  · rcases q with q | ⟨i, q⟩ <;> omega
  all_goals omega
theorem LwOK.ag (h : LwOK M n E) (hs : AgS S M M2) (h20 : ¬ S 20) (hn : ∀ k j, j < 4 → ¬ S (200 + 5 * k + j)) : LwOK M2 n E := by
  obtain ⟨h1, h2, h3, ⟨h4, h5⟩, h6⟩ := h
  refine ⟨?_, h2, fun k hk => (h3 k hk).ag (by omega) hs (fun j hj => hn k j hj), ⟨?_, LawAt_ag (fun c a b => hs.1 c (Or.inr ⟨by omega, by omega⟩)) h5⟩, fun c a b => ?_⟩
  · rw [hs.2 20 (Or.inl (by decide)) h20]; exact h1
  · rw [(hs.1 19 (Or.inl (by decide))).2.2]; exact h4
  · rw [(hs.1 c (Or.inr ⟨by omega, by omega⟩)).1]; exact h6 c a b
theorem WeeksOK.ag (h : WeeksOK M) (hs : AgS S M M2) (h0 : ¬ S 0) (hn : ∀ k, k < 4 → ¬ S (300 + 5 * k)) : WeeksOK M2 := by
  obtain ⟨h1, h2⟩ := h
  have e0 : gmi M2 0 = gmi M 0 := hs.2 0 (Or.inl (by decide)) h0
  have et : tv M2 0 6 = tv M 0 6 := by unfold tv; rw [e0]
  refine ⟨okv_eq e0 h1, fun k hk => ?_⟩
  rw [et] at hk
  have h4 := h1.2
  obtain ⟨q1, q2, q3⟩ := h2 k hk
  refine ⟨by rw [(hs.1 23 (Or.inl (by decide))).2.2]; exact q1, WkAt_ag (fun c a b => hs.1 c (Or.inr ⟨by omega, by omega⟩)) q2, okv_eq (hs.2 _ (Or.inr ⟨by omega, by omega⟩) (hn k (by omega))) q3⟩
theorem WwOK.ag (h : WwOK M w) (hs : AgS S M M2) (h0 : ¬ S 0) (hn : ∀ k, k < 4 → ¬ S (300 + 5 * k)) : WwOK M2 w := by
  obtain ⟨h1, ⟨h2, h3⟩, ⟨h4, h5⟩, h6⟩ := h
  refine ⟨h1.ag hs h0 hn, ⟨by rw [hs.2 0 (Or.inl (by decide)) h0]; exact h2, h3⟩, ⟨by rw [(hs.1 0 (Or.inl (by decide))).2.2]; exact h4, WkAt_ag (fun c a b => hs.1 c (Or.inr ⟨by omega, by omega⟩)) h5⟩, fun c a b => ?_⟩
  rw [(hs.1 c (Or.inr ⟨by omega, by omega⟩)).1]; exact h6 c a b
theorem TownB.eq {b : Nat} (h : TownB M b) (he : ∀ c, b ≤ c → c ≤ b + 6 → gmi M2 c = gmi M c) : TownB M2 b := by
  obtain ⟨h1, h2, h3, h4⟩ := h
  exact ⟨okv_eq (he b (by omega) (by omega)) h1, okv_eq (he b (by omega) (by omega)) h2, fun k hk => ⟨okv_eq (he _ (by omega) (by omega)) (h3 k hk).1, okv_eq (he _ (by omega) (by omega)) (h3 k hk).2.1, okv_eq (he _ (by omega) (by omega)) (h3 k hk).2.2⟩, fun k hk => ⟨okv_eq (he _ (by omega) (by omega)) (h4 k hk).1, okv_eq (he _ (by omega) (by omega)) (h4 k hk).2.1, okv_eq (he _ (by omega) (by omega)) (h4 k hk).2.2⟩⟩
theorem PLay.ag (h : PLay M) (hs : AgS S M M2) : PLay M2 := fun i hi => by rw [(hs.1 34 (Or.inl (by decide))).2.2]; exact h i hi
theorem TapeC.eq (h : TapeC M T L) (h1 : gmi M2 1 1 = gmi M 1 1) (h2 : gmi M2 2 = gmi M 2) : TapeC M2 T L := ⟨by rw [h1]; exact h.1, h.2.1, fun i hi => by rw [h2]; exact h.2.2 i hi⟩
theorem KL.ag (h : KL M n E w T L) (hL : gLay M2) (hs : AgS scA M M2) : KL M2 n E w T L := by
  obtain ⟨-, h2, h3, h4, h5, h6, h7⟩ := h
  have e : ∀ c, c < 20 → gmi M2 c = gmi M c := fun c hc => hs.2 c (Or.inl (by omega)) (scA_no (by omega) (by omega) (by omega) (by omega) (by omega) (by omega) (by omega))
  refine ⟨hL, h2.ag hs, h3.ag hs (scA_no (by decide) (by decide) (by decide) (by decide) (by decide) (by decide) (by decide)) (fun k j hj => scA_hi hj), h4.ag hs (scA_no (by decide) (by decide) (by decide) (by decide) (by decide) (by decide) (by decide)) (fun k _ => by have := scA_hi (k := k + 20) (j := 0) (by decide); rwa [show 200 + 5 * (k + 20) + 0 = 300 + 5 * k by omega] at this), h5.eq (fun c a b => e c (by omega)), h6.eq (by rw [e 1 (by decide)]) (e 2 (by decide)), ?_⟩
  unfold tv
  rw [e 3 (by decide)]
  exact h7
theorem LfR.sm2 {j : Nat} (h : LfR Mc M n E EV N A j) (hs : ∀ c, (3 ≤ c ∧ c ≤ 9) ∨ c = 25 ∨ c = 26 ∨ (33 ≤ c ∧ c < 75) → gmi Mc2 c = gmi Mc c) : LfR Mc2 M n E EV N A j := by
  refine ⟨h.1.sm (fun c a b => hs c (Or.inl ⟨a, b⟩)), ?_, h.2.2.fr rfl rfl (fun c a b => hs c (Or.inr (Or.inr (Or.inr ⟨a, b⟩)))) (hs 26 (by omega)) (by rw [hs 25 (by omega)])⟩
  show RowL _ _ _
  rw [hs 25 (by omega), hs 26 (by omega)]
  exact h.2.1
theorem RWk.sm2 (h : RWk Mc M) (h0 : gmi Mc2 0 = gmi Mc 0) (h3 : ∀ k j, k < 4 → j < 4 → gmi Mc2 (300 + 5 * k + j) = gmi Mc (300 + 5 * k + j)) : RWk Mc2 M := by
  have h4 := h.2.1.2
  unfold RWk okv tv at *
  rw [h0]
  refine ⟨h.1, h.2.1, fun k hk => ?_⟩
  have e0 := h3 k 0 (by omega) (by decide)
  rw [Nat.add_zero] at e0
  rw [e0, h3 k 1 (by omega) (by decide), h3 k 2 (by omega) (by decide), h3 k 3 (by omega) (by decide)]
  exact h.2.2 k hk
theorem RSi.sm (h : RSi Mc M c) (h5 : gmi Mc2 75 5 = gmi Mc 75 5) (h6 : ∀ q, q = 76 ∨ q = 77 ∨ q = 78 → gmi Mc2 q = gmi Mc q) : RSi Mc2 M c := by
  unfold RSi at *
  rw [h5, h6 76 (by omega), h6 77 (by omega), h6 78 (by omega)]
  exact h
theorem RImg.sm (h : RImg Mc M) (h0 : gmi Mc2 0 = gmi Mc 0) (h1 : gmi Mc2 31 = gmi Mc 31) (h2 : gmi Mc2 32 = gmi Mc 32) : RImg Mc2 M := by
  unfold RImg at *
  rw [h0, h1, h2]
  exact h
theorem RMs.sm (h : RMs Mc M) (h0 : gmi Mc2 0 = gmi Mc 0) (h20 : gmi Mc2 20 = gmi Mc 20) (h1 : gmi Mc2 1 1 = gmi Mc 1 1) (h5 : gmi Mc2 75 5 = gmi Mc 75 5) (h33 : gmi Mc2 33 1 = gmi Mc 33 1) : RMs Mc2 M := by
  unfold RMs at *
  rw [h0, h20, h1, h5, h33]
  exact h
theorem ZL.cls (h : ZL Mc M n E EV N A c T L) (hs : AgS scA Mc Mc2) (h5 : gmi Mc2 75 5 = gmi Mc 75 5) : ZL Mc2 M n E EV N A c T L := by
  obtain ⟨r1, r2, r3, r4, r5, r6⟩ := h
  have e : ∀ q, q < 100 → q ≠ 22 → q ≠ 28 → q ≠ 29 → q ≠ 75 → q ≠ 79 → q ≠ 80 → gmi Mc2 q = gmi Mc q := fun q a b1 b2 b3 b4 b5 b6 => hs.2 q (Or.inl a) (scA_no (by omega) b1 b2 b3 b4 b5 b6)
  exact ⟨r1.sm2 (fun q hq => e q (by omega) (by omega) (by omega) (by omega) (by omega) (by omega) (by omega)), r2.sm2 (e 0 (by decide) (by decide) (by decide) (by decide) (by decide) (by decide) (by decide)) (fun k j hk hj => hs.2 _ (Or.inr ⟨by omega, by omega⟩) (by have := scA_hi (k := k + 20) hj; rwa [show 200 + 5 * (k + 20) + j = 300 + 5 * k + j by omega] at this)), r3.sm h5 (fun q hq => e q (by omega) (by omega) (by omega) (by omega) (by omega) (by omega) (by omega)), r4.sm (e 0 (by decide) (by decide) (by decide) (by decide) (by decide) (by decide) (by decide)) (e 31 (by decide) (by decide) (by decide) (by decide) (by decide) (by decide) (by decide)) (e 32 (by decide) (by decide) (by decide) (by decide) (by decide) (by decide) (by decide)), r5.sm (e 0 (by decide) (by decide) (by decide) (by decide) (by decide) (by decide) (by decide)) (e 20 (by decide) (by decide) (by decide) (by decide) (by decide) (by decide) (by decide)) (by rw [e 1 (by decide) (by decide) (by decide) (by decide) (by decide) (by decide) (by decide)]) h5 (by rw [e 33 (by decide) (by decide) (by decide) (by decide) (by decide) (by decide) (by decide)]), r6⟩
/-- what questions of the reference change -/
def scQQ : Nat → Prop := fun c => c = 114 ∨ c = 1000 ∨ c = 1041 ∨ c = 1042 ∨ c = 1040
def QN (S : Nat → Prop) : Prop := (∀ c, 101 ≤ c → c < 120 → c ≠ 114 → ¬ S c) ∧ ∀ j, j ≠ 0 → j ≠ 40 → j ≠ 41 → j ≠ 42 → j < 47 → ¬ S (1000 + j)
theorem ZL.ref (h : ZL Mc M n E EV N A c T L) (hf : xFr S M M2) (hS : QN S) (hq : RQ M2 n E EV) : ZL Mc M2 n E EV N A c T L := by
  obtain ⟨r1, r2, r3, r4, r5, r6⟩ := h
  have k1 : ∀ q, 101 ≤ q → q < 120 → q ≠ 114 → ¬ S q := hS.1
  have k2 := hS.2
  have f : ∀ j, j ≠ 0 → j ≠ 40 → j ≠ 41 → j ≠ 42 → j < 8 ∨ 14 < j → j ≠ 17 → j < 47 → gmi M2 100 j = gmi M 100 j := fun j a b c e g i l => hf.2.2.2.2.2.2 j g i (k2 j a b c e l)
  refine ⟨r1.x hf ⟨k1 102 (by decide) (by decide) (by decide), k1 103 (by decide) (by decide) (by decide), k1 105 (by decide) (by decide) (by decide), k1 107 (by decide) (by decide) (by decide), k1 109 (by decide) (by decide) (by decide), k2 7 (by decide) (by decide) (by decide) (by decide) (by decide), k2 26 (by decide) (by decide) (by decide) (by decide) (by decide), k2 27 (by decide) (by decide) (by decide) (by decide) (by decide), k2 34 (by decide) (by decide) (by decide) (by decide) (by decide)⟩ hq (k1 113 (by decide) (by decide) (by decide)) (k1 117 (by decide) (by decide) (by decide)) (k2 39 (by decide) (by decide) (by decide) (by decide) (by decide)), r2.x hf (k1 111 (by decide) (by decide) (by decide)) (k1 112 (by decide) (by decide) (by decide)) (k2 30 (by decide) (by decide) (by decide) (by decide) (by decide)), r3.x hf (k1 118 (by decide) (by decide) (by decide)) (k2 44 (by decide) (by decide) (by decide) (by decide) (by decide)), ?_, ?_, ?_⟩
  · unfold RImg at *
    rw [f 46 (by decide) (by decide) (by decide) (by decide) (by decide) (by decide) (by decide), hf.2.2.2.2.2.1 119 (by decide) (by decide) (by decide) (k1 119 (by decide) (by decide) (by decide))]
    exact r4
  · unfold RMs at *
    rw [f 35 (by decide) (by decide) (by decide) (by decide) (by decide) (by decide) (by decide), f 34 (by decide) (by decide) (by decide) (by decide) (by decide) (by decide) (by decide), f 7 (by decide) (by decide) (by decide) (by decide) (by decide) (by decide) (by decide), f 6 (by decide) (by decide) (by decide) (by decide) (by decide) (by decide) (by decide), f 30 (by decide) (by decide) (by decide) (by decide) (by decide) (by decide) (by decide), f 44 (by decide) (by decide) (by decide) (by decide) (by decide) (by decide) (by decide), f 39 (by decide) (by decide) (by decide) (by decide) (by decide) (by decide) (by decide)]
    exact r5
  · unfold TapeR at *
    rw [f 6 (by decide) (by decide) (by decide) (by decide) (by decide) (by decide) (by decide), hf.2.2.2.2.2.1 101 (by decide) (by decide) (by decide) (k1 101 (by decide) (by decide) (by decide))]
    exact r6
/-- no cell of the reference has changed -/
def AgR (M M2 : gM) : Prop := ∀ c, 100 ≤ c → c < 120 → gSm M M2 c
theorem gFr.agr (h : gFr S M M2) (hs : ∀ c, 100 ≤ c → c < 120 → ¬ S c) : AgR M M2 := fun c a b => ⟨(h.1 c).1, (h.1 c).2, h.2.2.2 c (hs c a b), h.2.1 c, h.2.2.1 c⟩
theorem RQ.agr (h : RQ M n E EV) (hL : gLay M2) (hs : AgR M M2) : RQ M2 n E EV := by
  obtain ⟨-, h2, h3, h4⟩ := h
  have e : ∀ c, 100 ≤ c → c < 120 → gmi M2 c = gmi M c := fun c a b => (hs c a b).2.2.1
  refine ⟨hL, ?_, ?_, ?_⟩
  · unfold RLaw at *
    rw [e 100 (by decide) (by decide), e 103 (by decide) (by decide)]
    refine ⟨h2.1, h2.2.1, fun k hk => ?_⟩
    obtain ⟨T, L, hT, q⟩ := h2.2.2 k hk
    exact ⟨T, L, ⟨by rw [(hs 102 (by decide) (by decide)).1, (hs 102 (by decide) (by decide)).2.1]; exact hT.1, hT.2.1, fun z hz => by rw [e 102 (by decide) (by decide)]; exact hT.2.2 z hz⟩, q⟩
  · unfold Memo at *
    rw [e 116 (by decide) (by decide), (hs 115 (by decide) (by decide)).2.2.2.2]
    exact h3
  · unfold EVR at *
    rw [e 100 (by decide) (by decide)]
    exact h4
theorem ZL.agr (h : ZL Mc M n E EV N A c T L) (hL : gLay M2) (hs : AgR M M2) : ZL Mc M2 n E EV N A c T L := by
  obtain ⟨⟨⟨q1, q2, q3⟩, q4, q5⟩, r2, r3, r4, r5, r6⟩ := h
  have e : ∀ c, 100 ≤ c → c < 120 → gmi M2 c = gmi M c := fun c a b => (hs c a b).2.2.1
  refine ⟨⟨⟨q1.agr hL hs, q2, ?_⟩, ?_, q5.fr (e 117 (by decide) (by decide)) (by rw [e 100 (by decide) (by decide)]) (fun _ _ _ => rfl) rfl rfl⟩, ?_, ?_, ?_, ?_, ?_⟩
  · unfold RTn at *
    rw [e 100 (by decide) (by decide), e 105 (by decide) (by decide), e 107 (by decide) (by decide), e 109 (by decide) (by decide)]
    exact q3
  · show RowL _ _ _
    rw [e 113 (by decide) (by decide)]
    exact q4
  · unfold RWk at *
    rw [e 100 (by decide) (by decide), e 111 (by decide) (by decide), e 112 (by decide) (by decide)]
    exact r2
  · unfold RSi at *
    rw [e 100 (by decide) (by decide), e 118 (by decide) (by decide)]
    exact r3
  · unfold RImg at *
    rw [e 100 (by decide) (by decide), e 119 (by decide) (by decide)]
    exact r4
  · unfold RMs at *
    rw [e 100 (by decide) (by decide)]
    exact r5
  · unfold TapeR at *
    rw [e 100 (by decide) (by decide), e 101 (by decide) (by decide)]
    exact r6
theorem scA_r : ∀ c, 100 ≤ c → c < 120 → ¬ scA c := fun c a b => scA_no (by omega) (by omega) (by omega) (by omega) (by omega) (by omega) (by omega)
/-- a question: the class's part -/
theorem IV.mid (hC : KL M n E w T L) (hR : ZL M M n E EV N A c T L) (h1 : gFr scA M M2) : ZL M M2 n E EV N A c T L := hR.agr (h1.lay hC.1) (h1.agr scA_r)
/-- .. and the reference's -/
theorem IV.ques (hC : KL M n E w T L) (hR : ZL M M2 n E EV N A c T L) (h1 : gFr scA M M2) (h5 : gmi M2 75 5 = gmi M 75 5) (hS : QN S) (hS2 : ∀ c, ccl c → ¬ S c) (h2 : xFr S M2 M3) (h3 : RQ M3 n E EV) : Inv M3 := by
  have ha : AgS scA M M3 := h1.ag.tr (h2.ag hS2)
  have e75 : gmi M3 75 = gmi M2 75 := h2.2.2.2.2.2.1 75 (by decide) (by decide) (by decide) (hS2 75 (Or.inl (by decide)))
  exact ⟨n, E, EV, N, A, c, w, T, L, hC.ag h3.1 ha, (hR.ref h2 hS h3).cls ha (by rw [e75]; exact h5)⟩
/-- the law that holds, in class and reference -/
theorem IV.court (hC : KL M n E w T L) (hR : ZL M M n E EV N A c T L) : CourtSem M EV := by
  have hev := hR.1.1.1.2.2.2
  have hm := hR.2.2.2.2.1.2.1
  obtain ⟨l1, l2, l3, -⟩ := hC.2.2.1
  rcases hev with ⟨rfl, e⟩ | ⟨k, hk, rfl, e⟩
  · show gmi M 20 4 < 0
    rw [← hm, e]; decide
  · obtain ⟨q1, q2, q3, -⟩ := l3 k hk
    exact ⟨k, n, by rw [← hm]; exact e, l1, hk, l2, q1, q2, q3⟩
theorem IV.beard (hC : KL M n E w T L) (hR : ZL M M n E EV N A c T L) : BeardOK M EV := by
  have hev := hR.1.1.1.2.2.2
  have hm := hR.2.2.2.2.1.2.1
  obtain ⟨l1, l2, l3, -⟩ := hC.2.2.1
  rcases hev with ⟨rfl, e⟩ | ⟨k, hk, rfl, e⟩
  · exact fun _ _ _ _ _ _ _ _ => rfl
  · intro hh g s b b2 m w' t
    have e2 : gmi M 20 4 = nI k := by rw [← hm]; exact e
    unfold heedP at hh
    rw [e2, tn_nI (by omega)] at hh
    have hz : gmi M (200 + 5 * k) 6 = 0 := Decidable.not_not.mp (of_decide_eq_false hh)
    have hq := (l3 k hk).2.2.2 hz (mkL g s b m (w' - w' / 7 * 7) t) (mkL g s b2 m (w' - w' / 7 * 7) t) (fun i hi h2 => by
      unfold mkL
      rcases (show i = 0 ∨ i = 1 ∨ i = 3 ∨ i = 4 ∨ i = 5 by omega) with rfl | rfl | rfl | rfl | rfl <;> rfl)
    unfold rd rdw
    simp only [hq]
theorem IV.left (hR : ZL M M n E EV N A c T L) : LeftOK M 25 := LeftOK_of hR.1.2.1.2.2.2.1
theorem IV.day (hR : ZL M M n E EV N A c T L) : okv M 25 66 999 := by
  obtain ⟨D, h9, hD⟩ := hR.1.2.1.2.2.2.2.2
  have e : tv M 25 66 = D := by unfold tv; rw [hD]; exact nI_clamp (by omega)
  exact ⟨by rw [e]; exact hD, by rw [e]; exact h9⟩
/-- one call in class and reference: alike, and the relation holds on -/
def Sim (X : gX) (y1 : MethodName) (c1 : ByteArray) (n1 : Nat) (y2 : MethodName) (c2 : ByteArray) (n2 : Nat) (ret : Option FieldType) (as : List Value) : Prop :=
  ∀ M, Inv M → ∃ N1 mc ms Q1, (mc ≤ 5 ∧ ms ≤ 433 ∧ ∀ c, N1 c → 200 ≤ c ∧ c < 5000) ∧ gMet X 100 y1 c1 n1 ret (.ref 0 :: as) M N1 mc ms Q1 ∧ ∀ v1 M2, Q1 v1 M2 → gLay M2 ∧ ∃ Q2, gMet X 100 y2 c2 n2 ret (.ref 100 :: as) M2 gN0 0 0 Q2 ∧ ∀ v2 M3, Q2 v2 M3 → gLay M3 ∧ (∃ r : Int32, v1 = some (.int r) ∧ v2 = some (.int r)) ∧ Inv M3
end I0
