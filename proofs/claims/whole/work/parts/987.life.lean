section H18
variable {X : gX} {Mc M : gM} {d n A N c : Nat} {E : Nat → LE} {EV : EVt} {F G : Nat → Int32}
theorem TownOK.sm {Mc2 : gM} (h : TownOK Mc) (hs : ∀ c, 3 ≤ c → c ≤ 9 → gmi Mc2 c = gmi Mc c) : TownOK Mc2 := by
  unfold TownOK okv tv at *
  rw [hs 3 (by decide) (by decide), hs 5 (by decide) (by decide), hs 6 (by decide) (by decide), hs 7 (by decide) (by decide), hs 8 (by decide) (by decide), hs 9 (by decide) (by decide)]
  exact h
theorem R0.sm {Mc2 : gM} (h : R0 Mc M n E EV) (hs : ∀ c, 3 ≤ c → c ≤ 9 → gmi Mc2 c = gmi Mc c) : R0 Mc2 M n E EV := by
  refine ⟨h.1, h.2.1.sm hs, ?_⟩
  have h2 := h.2.2
  unfold RTn tv at *
  rw [hs 3 (by decide) (by decide), hs 4 (by decide) (by decide), hs 5 (by decide) (by decide), hs 6 (by decide) (by decide), hs 7 (by decide) (by decide), hs 8 (by decide) (by decide), hs 9 (by decide) (by decide)]
  exact h2
/-- the past, with so many days to spare -/
def RPs (Mc M : gM) (N A j : Nat) : Prop := (gmi Mc 33 2 = nI N ∧ N < 40) ∧ (gmi Mc 33 1 = nI A ∧ gmi M 100 39 = nI A ∧ A ≤ 40) ∧ (∀ a, a < A → RowL (fun q => gmi M 117 (248 * a + q)) (gmi Mc (pcell N A a)) (gmi Mc 26) ∧ tn (gmi Mc (pcell N A a) 66) ≤ tn (gmi Mc 25 66) ∧ tn (gmi Mc 25 66) + j ≤ tn (gmi Mc (pcell N A a) 66) + (A - a)) ∧ ∀ a b, a ≤ b → b < A → tn (gmi Mc (pcell N A a) 66) ≤ tn (gmi Mc (pcell N A b) 66) ∧ tn (gmi Mc (pcell N A b) 66) ≤ tn (gmi Mc (pcell N A a) 66) + (b - a)
theorem RPs.le {j : Nat} (h : RPs Mc M N A j) : RPs Mc M N A 0 := ⟨h.1, h.2.1, fun a ha => ⟨(h.2.2.1 a ha).1, (h.2.2.1 a ha).2.1, by have := (h.2.2.1 a ha).2.2; omega⟩, h.2.2.2⟩
/-- now and the past, in class and reference -/
def LfR (Mc M : gM) (n : Nat) (E : Nat → LE) (EV : EVt) (N A j : Nat) : Prop := R0 Mc M n E EV ∧ RNow Mc M ∧ RPs Mc M N A j
theorem LfR.le {j : Nat} (h : LfR Mc M n E EV N A j) : LfR Mc M n E EV N A 0 := ⟨h.1, h.2.1, h.2.2.le⟩
theorem pcell_lo (N A a : Nat) : 35 ≤ pcell N A a ∧ pcell N A a < 75 := by unfold pcell; omega
theorem pcell_new {N A : Nat} (hN : N < 40) (hA : A ≤ 40) : pcell ((N + 1) % 40) (rmA A + 1) (rmA A) = 35 + N := by
  unfold pcell
  have : rmA A ≤ 39 := by unfold rmA; split <;> omega
  omega
theorem pcell_old {N A a : Nat} (hN : N < 40) (hA : A ≤ 40) (ha : a < rmA A) : pcell ((N + 1) % 40) (rmA A + 1) a = pcell N A (a + rmS A) ∧ pcell N A (a + rmS A) ≠ 35 + N ∧ a + rmS A < A ∧ A - (a + rmS A) + 1 = rmA A + 1 - a := by
  unfold pcell
  unfold rmA rmS at *
  by_cases h : A = 40
  · rw [if_pos h] at *
    rw [if_pos h] at *
    omega
  · rw [if_neg h] at *
    rw [if_neg h] at *
    omega
theorem imin40 {A : Nat} (hA : A ≤ 40) : imin 40 (nI A + 1) = nI (rmA A + 1) := by
  rw [nI_1, show (40 : Int32) = nI 40 from rfl, iminN (by decide) (by omega)]
  unfold rmA
  congr 1
  split <;> omega
theorem keep_25 (hN : gmi Mc 33 2 = nI N) (h40 : N < 40) {c : Nat} (hc : c < 33) : gmi (keepM Mc) c = gmi Mc c := by
  have e : tv Mc 33 2 = N := by unfold tv; rw [hN]; exact nI_clamp (by omega)
  unfold keepM
  rw [gmi_In _ _ _ (by omega), gmi_In _ _ _ (by omega), gmi_Fn _ _ (by omega)]
theorem keep_old (hN : gmi Mc 33 2 = nI N) (h40 : N < 40) {c : Nat} (hc : c ≠ 33) (h2 : c ≠ 35 + N) : gmi (keepM Mc) c = gmi Mc c := by
  have e : tv Mc 33 2 = N := by unfold tv; rw [hN]; exact nI_clamp (by omega)
  unfold keepM
  rw [gmi_In _ _ _ hc, gmi_In _ _ _ hc, gmi_Fn _ _ (by omega)]
theorem keep_new (hN : gmi Mc 33 2 = nI N) (h40 : N < 40) {k : Nat} (hk : k < 67) : gmi (keepM Mc) (35 + N) k = gmi Mc 25 k := by
  have e : tv Mc 33 2 = N := by unfold tv; rw [hN]; exact nI_clamp (by omega)
  unfold keepM
  rw [e, gmi_In _ _ _ (by omega), gmi_In _ _ _ (by omega), gmi_F, pk_cpy_in (by omega) (by omega)]
  congr 1
  omega
theorem LfR.keep {M2 : gM} (h : LfR Mc M n E EV N A 0) (hr : Rem M M2 A) : LfR (keepM Mc) M2 n E EV ((N + 1) % 40) (rmA A + 1) 1 := by
  obtain ⟨h0, hN, ⟨hn, hn40⟩, ⟨ha, ha2, ha40⟩, hp, hch⟩ := h
  obtain ⟨f1, -, -, f4, f5, f6⟩ := id hr
  have eN : tv Mc 33 2 = N := by unfold tv; rw [hn]; exact nI_clamp (by omega)
  have e113 : gmi M2 113 = gmi M 113 := f1.2.2.2.2.2.1 113 (by decide) (by decide) (by decide) (by decide)
  have e25 := keep_25 hn hn40 (show 25 < 33 by decide)
  have e26 := keep_25 hn hn40 (show 26 < 33 by decide)
  refine ⟨(hr.r0 h0).sm (fun c _ h9 => keep_25 hn hn40 (by omega)), ?_, ⟨?_, by omega⟩, ⟨?_, f4, ?_⟩, fun a hlt => ?_, fun a b hab hb => ?_⟩
  · show RowL _ _ _
    rw [e113, e25, e26]; exact hN
  · unfold keepM
    rw [gmi_I, va_up_ne _ _ (by decide), gmi_I, va_up_self, eN]
  · unfold keepM
    rw [gmi_I, va_up_self, ha, imin40 ha40]
  · unfold rmA; split <;> omega
  · rw [e25, e26]
    by_cases hnew : a = rmA A
    · subst hnew
      rw [pcell_new hn40 ha40]
      have e66 := keep_new (Mc := Mc) hn hn40 (show 66 < 67 by decide)
      refine ⟨(hN.cg (fun j hj => ?_)).cgF (fun k hk => keep_new hn hn40 hk), ?_, ?_⟩
      · exact f6 j hj
      · rw [e66]; exact Nat.le_refl _
      · rw [e66]; omega
    · obtain ⟨p1, p2, p3, p4⟩ := pcell_old hn40 ha40 (show a < rmA A by omega)
      obtain ⟨q1, q2, q3⟩ := hp _ p3
      rw [p1, keep_old hn hn40 (by have := pcell_lo N A (a + rmS A); omega) p2]
      refine ⟨q1.cg (fun j hj => ?_), q2, by omega⟩
      exact f5 a (by omega) j hj
  · by_cases hnew : b = rmA A
    · subst hnew
      rw [pcell_new hn40 ha40, keep_new (Mc := Mc) hn hn40 (show 66 < 67 by decide)]
      by_cases e : a = rmA A
      · subst e
        rw [pcell_new hn40 ha40, keep_new (Mc := Mc) hn hn40 (show 66 < 67 by decide)]
        omega
      · obtain ⟨p1, p2, p3, p4⟩ := pcell_old hn40 ha40 (show a < rmA A by omega)
        obtain ⟨q1, q2, q3⟩ := hp _ p3
        rw [p1, keep_old hn hn40 (by have := pcell_lo N A (a + rmS A); omega) p2]
        omega
    · obtain ⟨p1, p2, p3, p4⟩ := pcell_old hn40 ha40 (show a < rmA A by omega)
      obtain ⟨u1, u2, u3, u4⟩ := pcell_old hn40 ha40 (show b < rmA A by omega)
      rw [p1, u1, keep_old hn hn40 (by have := pcell_lo N A (a + rmS A); omega) p2, keep_old hn hn40 (by have := pcell_lo N A (b + rmS A); omega) u2]
      have := hch (a + rmS A) (b + rmS A) (by omega) u3
      omega
theorem LogR.hi {R R2 e : Nat → Int32} {D : Nat} (h : LogR R D e) (hr : ∀ j, 67 ≤ j → R2 j = R j) : LogR R2 D e := ⟨by rw [hr 67 (by decide)]; exact h.1, fun j hj q hq => by rw [hr _ (by omega)]; exact h.2 j hj q hq⟩
theorem RPs.fr {M2 Mc2 : gM} {j : Nat} (h : RPs Mc M N A j) (h117 : gmi M2 117 = gmi M 117) (h39 : gmi M2 100 39 = gmi M 100 39) (hc : ∀ c, 33 ≤ c → c < 75 → gmi Mc2 c = gmi Mc c) (h26 : gmi Mc2 26 = gmi Mc 26) (h66 : gmi Mc2 25 66 = gmi Mc 25 66) : RPs Mc2 M2 N A j := by
  obtain ⟨h1, h2, h3, h4⟩ := h
  refine ⟨by rw [hc 33 (by decide) (by decide)]; exact h1, by rw [hc 33 (by decide) (by decide), h39]; exact h2, fun a ha => ?_, fun a b hab hb => ?_⟩
  · have hl := pcell_lo N A a
    rw [h117, h26, h66, hc (pcell N A a) (by omega) (by omega)]
    exact h3 a ha
  · have hl := pcell_lo N A a
    have hl2 := pcell_lo N A b
    rw [hc (pcell N A a) (by omega) (by omega), hc (pcell N A b) (by omega) (by omega)]
    exact h4 a b hab hb
theorem LfR.row {M2 : gM} {j : Nat} (h : LfR Mc M n E EV N A j) (hq : QW Mc M M2 n E EV 113 G) (hG : RowOK G) (h66 : G 66 = gmi Mc 25 66) : LfR (gwF Mc 25 G) M2 n E EV N A j := by
  obtain ⟨h0, hN, hp⟩ := h
  obtain ⟨f1, f2, f3, f4⟩ := hq
  refine ⟨f2.sm (fun c _ h9 => gmi_Fn _ _ (by omega)), ?_, hp.fr (f1.2.2.2.2.2.1 117 (by decide) (by decide) (by decide) (by decide)) (f1.2.2.2.2.2.2 39 (by decide) (by decide) (by decide)) (fun c h1 h2 => gmi_Fn _ _ (by omega)) (gmi_Fn _ _ (by decide)) (by rw [gmi_F]; exact h66)⟩
  show RowL _ _ _
  rw [gmi_F, gmi_Fn _ _ (by decide)]
  refine ⟨f3, ?_, hG⟩
  rw [h66]
  exact hN.2.1.hi f4
theorem RngF.up {i : Nat} {v : Int32} (h : RngF F) (h1 : 12 ≤ i) (h2 : i ≠ 66) : RngF (va_up F i v) := ⟨fun p hp => by rw [va_up_ne _ _ (by omega)]; exact h.1 p hp, fun p hp => by rw [va_up_ne _ _ (by omega)]; exact h.2.1 p hp, by rw [va_up_ne _ _ (by omega)]; exact h.2.2⟩
theorem RowOK.oth {i : Nat} {v : Int32} (h : RowOK F) (h1 : 60 ≤ i) (h2 : i ≠ 66) (h3 : i ≠ 64) : RowOK (va_up F i v) := ⟨h.1.up (by omega) h2, h.2.1.oth (Or.inr h1), by rw [va_up_ne _ _ (by omega)]; exact h.2.2.1, by rw [va_up_ne _ _ (by omega)]; exact h.2.2.2⟩
theorem RowOK.lf {i m : Nat} (h : RowOK F) (h1 : 12 ≤ i) (h2 : i < 60) (hm : m ≤ 9) : RowOK (va_up F i (nI m)) := ⟨h.1.up h1 (by omega), h.2.1.up hm, by rw [va_up_ne _ _ (by omega)]; exact h.2.2.1, by rw [va_up_ne _ _ (by omega)]; exact h.2.2.2⟩
theorem RowOK.take {i : Nat} {v w : Int32} (h : RowOK F) (h1 : 12 ≤ i) (h2 : i < 60) (hv : ∃ m, v = nI m ∧ m ≤ 9) : RowOK (takeF F i v w) := by
  obtain ⟨m, rfl, hm⟩ := hv
  exact (h.lf h1 h2 hm).oth (by decide) (by decide) (by decide)
theorem RowOK.atone {i : Nat} (h : RowOK F) (h1 : 12 ≤ i) (h2 : i < 60) : RowOK (atoneF F i) := (h.lf (m := 0) h1 h2 (by decide)).oth (by decide) (by decide) (by decide)
theorem RowOK.sell {i j : Nat} (h : RowOK F) (h1 : 12 ≤ i) (h2 : i < 60) (h3 : 12 ≤ j) (h4 : j < 60) : RowOK (sellF F i j) := by
  obtain ⟨m, e, hm⟩ := h.2.1 i h1 h2
  unfold sellF
  rw [e]
  exact ((h.lf h3 h4 hm).lf (m := 0) h1 h2 (by decide)).oth (by decide) (by decide) (by decide)
theorem RowOK.be {p m : Nat} (h : RowOK F) (hp : p < 6) (hm : m ≤ 99) : RowOK (va_up F p (nI m)) := ⟨⟨fun q hq => by
    by_cases e : q = p
    · exact ⟨m, hm, by rw [e, va_up_self]⟩
    · rw [va_up_ne _ _ e]; exact h.1.1 q hq, fun q hq => by rw [va_up_ne _ _ (by omega)]; exact h.1.2.1 q hq, by rw [va_up_ne _ _ (by omega)]; exact h.1.2.2⟩, h.2.1.oth (Or.inl (by omega)), by rw [va_up_ne _ _ (by omega)]; exact h.2.2.1, by rw [va_up_ne _ _ (by omega)]; exact h.2.2.2⟩
theorem RowOK.sh {p m : Nat} (h : RowOK F) (hp : p < 6) (hm : m ≤ 999) : RowOK (va_up F (6 + p) (nI m)) := ⟨⟨fun q hq => by rw [va_up_ne _ _ (by omega)]; exact h.1.1 q hq, fun q hq => by
    by_cases e : q = p
    · exact ⟨m, hm, by rw [e, va_up_self]⟩
    · rw [va_up_ne _ _ (by omega)]; exact h.1.2.1 q hq, by rw [va_up_ne _ _ (by omega)]; exact h.1.2.2⟩, h.2.1.oth (Or.inl (by omega)), by rw [va_up_ne _ _ (by omega)]; exact h.2.2.1, by rw [va_up_ne _ _ (by omega)]; exact h.2.2.2⟩
theorem RowOK.go {p : Nat} {g : Bool} {nick : Int32} (h : RowOK F) (hp : p < 6) : RowOK (goF g F p nick) := by
  cases g
  · exact ((h.oth (i := 60) (by decide) (by decide) (by decide)).oth (i := 63) (by decide) (by decide) (by decide)).oth (i := 65) (by decide) (by decide) (by decide)
  · obtain ⟨m, hm, e⟩ := h.1.2.1 p hp
    have h1 := (h.oth (i := 60) (v := F 60 ||| ((1 : Int32) <<< (nI p &&& 31))) (by decide) (by decide) (by decide)).be (m := 0) hp (by decide)
    have e2 : imin 999 (va_up (va_up F 60 (F 60 ||| ((1 : Int32) <<< (nI p &&& 31)))) p 0 (6 + p) + 1) = nI (min 999 (m + 1)) := by
      rw [va_up_ne _ _ (by omega), va_up_ne _ _ (by omega), e, nI_1, show (999 : Int32) = nI 999 from rfl, iminN (by decide) (by omega)]
    have h2 := h1.sh (m := min 999 (m + 1)) hp (Nat.min_le_left _ _)
    rw [← e2] at h2
    exact h2.oth (i := 61) (by decide) (by decide) (by decide)
theorem RowOK.day {D : Nat} (hT : TownOK Mc) (h : RowOK F) (hD : F 66 = nI D) (h9 : D < 999) : RowOK (dayF Mc F) := by
  obtain ⟨hr, hl, ⟨m, hm, em⟩, -⟩ := h
  have h6 := hT.1.2
  have hc := fb_ct_le (wisF Mc F) (tv Mc 3 7)
  have e64 : imin 9999 (F 64 + nI (fb_ct (wisF Mc F) (tv Mc 3 7))) = nI (min 9999 (m + fb_ct (wisF Mc F) (tv Mc 3 7))) := by
    rw [em, nI_add, show (9999 : Int32) = nI 9999 from rfl, iminN (by decide) (by omega)]
  unfold dayF
  rw [e64]
  have h66 : va_up F 64 (nI (min 9999 (m + fb_ct (wisF Mc F) (tv Mc 3 7)))) 66 = nI D := by rw [va_up_ne _ _ (by decide)]; exact hD
  refine ⟨RngF_age (hr.up (by decide) (by decide)) h6 (fun q hq h2 => ?_), LeftF_age (hl.oth (Or.inr (by decide))) h6, ⟨min 9999 (m + fb_ct (wisF Mc F) (tv Mc 3 7)), Nat.min_le_left _ _, by rw [age_64 h6, va_up_self]⟩, D + 1, by omega, by rw [age_66 h6, h66, nI_1]⟩
  rw [h66] at hq
  have := (nI_eq (by omega) (by omega)).mp hq
  omega
theorem day_66 (hT : TownOK Mc) {D : Nat} (hD : F 66 = nI D) : dayF Mc F 66 = nI (D + 1) := by
  unfold dayF
  rw [age_66 hT.1.2, va_up_ne _ _ (by decide), hD, nI_1]
theorem DayW.q {M2 : gM} {w : Nat} (h : DayW Mc M M2 w F c) (h0 : R0 Mc M n E EV) (hw : w = 113 ∨ w = 114) : xFr (fun q => q = w) M M2 ∧ R0 Mc M2 n E EV := by
  have hx := h.1.x (show ¬ 100 = w by omega)
  have hS : Nt (fun q => q = w) := ⟨by omega, by omega, by omega, by omega, by omega, by omega, by omega, by omega, by omega⟩
  exact ⟨hx, h0.x hx hS (h0.1.x hx hS (h.1.2.2.1 115) (h.1.2.2.2 116 (by omega)))⟩
theorem LfR.day {M2 : gM} {D : Nat} (h : LfR Mc M n E EV N A 1) (hD : gmi Mc 25 66 = nI D) (h9 : D < 999) (hd : DayW Mc M M2 113 (gmi Mc 25) (min 60 D)) : LfR (dayM Mc) M2 n E EV N A 0 := by
  obtain ⟨h0, hN, hp⟩ := h
  have hT := h0.2.1
  obtain ⟨hx, h02⟩ := hd.q h0 (Or.inl rfl)
  have etD : tn (gmi Mc 25 66) = D := by rw [hD]; exact tn_nI (by omega)
  have e25 : gmi (dayM Mc) 25 = dayF Mc (gmi Mc 25) := by unfold dayM; rw [gmi_F, dayR_F]
  have e26 : gmi (dayM Mc) 26 = entF (gmi Mc 26) D (nI (smo Mc 25)) (gmi Mc 25 61) (gmi Mc 25 62) := by
    unfold dayM
    rw [gmi_Fn _ _ (by decide), gmi_F, dayE_ent]
    unfold tv
    rw [show (gmi Mc 25 66).toNatClampNeg = D from etD]
  have eo : ∀ c, c ≠ 25 → c ≠ 26 → gmi (dayM Mc) c = gmi Mc c := fun c a b => by unfold dayM; rw [gmi_Fn _ _ a, gmi_Fn _ _ b]
  have e66 := day_66 hT hD
  have et2 : tn (dayF Mc (gmi Mc 25) 66) = D + 1 := by rw [e66]; exact tn_nI (by omega)
  obtain ⟨d1, d2, d3, d4, d5, d6, d7⟩ := hd
  refine ⟨h02.sm (fun c h3 h9 => eo c (by omega) (by omega)), ?_, ?_⟩
  · show RowL _ _ _
    rw [e25, e26]
    refine ⟨d2, ?_, hN.2.2.day hT hD h9⟩
    rw [et2]
    have hl := hN.2.1
    rw [etD] at hl
    exact hl.day d3 d4 d5 d6 d7
  · obtain ⟨p1, p2, p3, p4⟩ := hp
    refine ⟨by rw [eo 33 (by decide) (by decide)]; exact p1, by rw [eo 33 (by decide) (by decide), d1.2.2.2 100 (by decide)]; exact p2, fun a ha => ?_, fun a b hab hb => by
      have hl := pcell_lo N A a
      have hl2 := pcell_lo N A b
      rw [eo (pcell N A a) (by omega) (by omega), eo (pcell N A b) (by omega) (by omega)]
      exact p4 a b hab hb⟩
    obtain ⟨q1, q2, q3⟩ := p3 a ha
    have hl := pcell_lo N A a
    have hA := p2.2.2
    rw [e25, e26, eo (pcell N A a) (by omega) (by omega), et2, d1.2.2.2 117 (by decide)]
    rw [etD] at q2 q3
    exact ⟨⟨q1.1, q1.2.1.kept q2 (by omega), q1.2.2⟩, by omega, by omega⟩
end H18
