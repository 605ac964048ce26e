section I4
variable {X : gX} {Mc M Mn M1 M2 M3 : gM} {d n A N c w L : Nat} {E : Nat → LE} {EV : EVt} {T : Nat → Nat} {S Sc Sr : Nat → Prop} {G F : Nat → Int32}
theorem a_image (hx : gXok X) : Sim X yX10_image cX10_image 1 yX11_image cX11_image 2 (some .int) [] := by
  rintro M ⟨n, E, EV, N, A, c, w, T, L, hC, hR⟩
  refine one_gDet (c_image (d := 98) hx hC.1) (fun v1 M2 hq1 => ?_)
  obtain ⟨rfl, hM2⟩ := hq1
  by_cases h0 : gmi M 3 7 = 0
  · rw [if_pos h0] at hM2
    subst hM2
    refine ⟨hC.1, _, r_image (d := 100) hx hR.1.1, fun v2 M3 hq2 => ?_⟩
    obtain ⟨rfl, ha, -⟩ := hq2
    have e := ha h0
    subst e
    rw [if_pos h0, if_pos h0]
    exact ⟨hR.1.th.1.1.1, ⟨_, rfl, rfl⟩, IV.act hC hR wFr.rf gFr.rf th_Y hR.1.th⟩
  · rw [if_neg h0] at hM2
    have hV : gFr (fun c => c = 0 ∨ c = 31 ∨ c = 32) M M2 := by
      rw [hM2]
      exact ((gFr.wF (Or.inr (Or.inl rfl))).tr (gFr.wF (Or.inr (Or.inr rfl)))).tr (gFr.wI (Or.inl rfl))
    have hm := hR.agr (hV.lay hC.1) (hV.agr (fun c a b q => by rcases q with q | q | q <;> omega))
    refine ⟨hm.1.1.1.1, _, r_image (d := 100) hx hm.1.1, fun v2 M3 hq2 => ?_⟩
    obtain ⟨rfl, -, hb⟩ := hq2
    obtain ⟨hf, e115, e116, e46, e119⟩ := hb h0
    have hS : Nt (fun c => c = 119 ∨ c = 1046 ∨ c = 1000) := ⟨by decide, by decide, by decide, by decide, by decide, by decide, by decide, by decide, by decide⟩
    have hrq := hm.1.1.1.x hf hS e115 e116
    obtain ⟨ha, er, ef⟩ := two hV hf (fun c a b q => by rcases q with q | q | q <;> omega) (fun c hc q => by rcases hc with hc | hc <;> rcases q with q | q | q <;> omega)
    have c0 : ∀ k, k ≠ 11 → gmi M3 0 k = gmi M 0 k := fun k hk => by rw [hf.2.2.2.2.2.1 0 (by decide) (by decide) (by decide) (by decide), hM2, gmi_I, va_up_ne _ _ hk, gmi_Fn _ _ (by decide), gmi_Fn _ _ (by decide)]
    have c011 : gmi M3 0 11 = 1 := by rw [hf.2.2.2.2.2.1 0 (by decide) (by decide) (by decide) (by decide), hM2, gmi_I, va_up_self]
    have c31 : ∀ k, k < 67 → gmi M3 31 k = gmi M 25 k := fun k hk => by
      rw [hf.2.2.2.2.2.1 31 (by decide) (by decide) (by decide) (by decide), hM2, gmi_In _ _ _ (by decide), gmi_Fn _ _ (by decide), gmi_F, pk_cpy_in (by omega) (by omega), show 0 + (k - 0) = k by omega]
    have c32 : ∀ k, k < 384 → gmi M3 32 k = gmi M 26 k := fun k hk => by
      rw [hf.2.2.2.2.2.1 32 (by decide) (by decide) (by decide) (by decide), hM2, gmi_In _ _ _ (by decide), gmi_F, pk_cpy_in (by omega) (by omega), show 0 + (k - 0) = k by omega]
    have ec : ∀ q, q < 100 → q ≠ 0 → q ≠ 31 → q ≠ 32 → gmi M3 q = gmi M q := fun q a b1 b2 b3 => ha.2 q (Or.inl a) (fun z => by rcases z with z | z | z <;> omega)
    obtain ⟨r1, r2, r3, r4, r5, r6⟩ := hR
    rw [if_neg h0, if_neg h0]
    refine ⟨hrq.1, ⟨_, rfl, ?_⟩, n, E, EV, N, A, c, w, T, L, hC.ag3 hrq.1 ha (c0 6 (by decide)) (by rw [ec 1 (by decide) (by decide) (by decide) (by decide)]) (by rw [ec 20 (by decide) (by decide) (by decide) (by decide)]) (fun c a b q => by rcases q with q | q | q <;> omega) (fun k j hj q => by rcases q with q | q | q <;> omega), hm.1.tw (fun c hc => ec c (by omega) (by omega) (by omega) (by omega)) hf hS hrq (by decide) (by decide) (by decide), r2.tw (c0 6 (by decide)) (fun k j hk hj => ha.2 _ (Or.inr ⟨by omega, by omega⟩) (fun q => by rcases q with q | q | q <;> omega)) (ef 30 (by decide) (by decide) (by decide)) (er 111 (by decide) (by decide) (by decide) (by decide) (by decide)) (er 112 (by decide) (by decide) (by decide) (by decide) (by decide)), r3.tw (by rw [ec 75 (by decide) (by decide) (by decide) (by decide)]) (fun q hq => ec q (by omega) (by omega) (by omega) (by omega)) (ef 44 (by decide) (by decide) (by decide)) (er 118 (by decide) (by decide) (by decide) (by decide) (by decide)), ⟨by rw [e46, c011], Or.inr c011, fun _ => ?_⟩, ?_, r6.tw (ef 6 (by decide) (by decide) (by decide)) (er 101 (by decide) (by decide) (by decide) (by decide) (by decide))⟩
    · have e1 := hm.1.2.1.1 65 (by decide)
      rw [e1]
      rfl
    · have h2 := (hm.1.2.1.cg (R2 := gmi M3 119) (fun j hj => e119 j hj)).cgF (G := gmi M3 31) c31
      exact ⟨h2.1, h2.2.1.e (fun j hj q hq => c32 _ (by omega)), h2.2.2⟩
    · unfold RMs at r5 ⊢
      rw [ef 35 (by decide) (by decide) (by decide), ef 34 (by decide) (by decide) (by decide), ef 7 (by decide) (by decide) (by decide), ef 6 (by decide) (by decide) (by decide), ef 30 (by decide) (by decide) (by decide), ef 44 (by decide) (by decide) (by decide), ef 39 (by decide) (by decide) (by decide), c0 15 (by decide), c0 6 (by decide), ec 20 (by decide) (by decide) (by decide) (by decide), ec 1 (by decide) (by decide) (by decide) (by decide), ec 75 (by decide) (by decide) (by decide) (by decide), ec 33 (by decide) (by decide) (by decide) (by decide)]
      exact r5
/-- a small number of class and reference has changed -/
theorem IV.small {EV2 : EVt} (hC : KL M n E w T L) (hR : ZL M M2 n E EV N A c T L) (h12 : gFr Sc M M2) (h3 : xFr Sr M2 M3) (hSc : ∀ q, Sc q → q = 0 ∨ q = 20) (hSr : ∀ q, Sr q → q = 1000 ∨ q = 1034 ∨ q = 1035) (h06 : gmi M3 0 6 = gmi M 0 6) (h011 : gmi M3 0 11 = gmi M 0 11) (h203 : gmi M3 20 3 = gmi M 20 3) (hrq : RQ M3 n E EV2) (h35 : gmi M3 100 35 = gmi M3 0 15) (h34 : gmi M3 100 34 = gmi M3 20 4) : Inv M3 := by
  obtain ⟨ha, er, ef⟩ := two h12 h3 (fun c a b q => by rcases hSc c q with q | q <;> omega) (fun c hc q => by rcases hc with hc | hc <;> rcases hSr c q with q | q | q <;> omega)
  have nr : ∀ q, q < 1000 → ¬ Sr q := fun q a z => by rcases hSr q z with z | z | z <;> omega
  have nf : ∀ j, j ≠ 0 → j ≠ 34 → j ≠ 35 → ¬ Sr (1000 + j) := fun j a b e z => by rcases hSr _ z with z | z | z <;> omega
  have ec : ∀ q, q < 100 → q ≠ 0 → q ≠ 20 → gmi M3 q = gmi M q := fun q a b1 b2 => ha.2 q (Or.inl a) (fun z => by rcases hSc q z with z | z <;> omega)
  have er2 : ∀ q, 100 < q → q < 120 → q ≠ 104 → q ≠ 116 → gmi M3 q = gmi M2 q := fun q a b e1 e2 => h3.2.2.2.2.2.1 q (by omega) e1 e2 (nr q (by omega))
  have ef2 : ∀ j, j < 8 ∨ 14 < j → j ≠ 17 → j ≠ 0 → j ≠ 34 → j ≠ 35 → gmi M3 100 j = gmi M2 100 j := fun j a b e1 e2 e3 => h3.2.2.2.2.2.2 j a b (nf j e1 e2 e3)
  obtain ⟨⟨⟨q1, q2, q3⟩, q4, q5⟩, r2, r3, r4, r5, r6⟩ := hR
  have hl : LfR M M3 n E EV2 N A 0 := by
    refine ⟨⟨hrq, q2, ?_⟩, ?_, q5.fr (er2 117 (by decide) (by decide) (by decide) (by decide)) (ef2 39 (by decide) (by decide) (by decide) (by decide) (by decide)) (fun _ _ _ => rfl) rfl rfl⟩
    · unfold RTn at *
      rw [ef2 26 (by decide) (by decide) (by decide) (by decide) (by decide), ef2 27 (by decide) (by decide) (by decide) (by decide) (by decide), er2 105 (by decide) (by decide) (by decide) (by decide), er2 107 (by decide) (by decide) (by decide) (by decide), er2 109 (by decide) (by decide) (by decide) (by decide)]
      exact q3
    · show RowL _ _ _
      rw [er2 113 (by decide) (by decide) (by decide) (by decide)]
      exact q4
  refine ⟨n, E, EV2, N, A, c, w, T, L, hC.ag3 hrq.1 ha h06 (by rw [ec 1 (by decide) (by decide) (by decide)]) h203 (fun c a b q => by rcases hSc c q with q | q <;> omega) (fun k j hj q => by rcases hSc _ q with q | q <;> omega), hl.sm2 (fun c hc => ec c (by omega) (by omega) (by omega)), ?_, ?_, ?_, ?_, ?_⟩
  · have z : RWk M3 M2 := by
      have h4 := r2.2.1.2
      unfold RWk okv tv at r2 ⊢
      unfold tv at h4
      rw [h06]
      refine ⟨r2.1, r2.2.1, fun k hk => ?_⟩
      have e : ∀ j, j < 4 → gmi M3 (300 + 5 * k + j) = gmi M (300 + 5 * k + j) := fun j hj => ha.2 _ (Or.inr ⟨by omega, by omega⟩) (fun q => by rcases hSc _ q with q | q <;> omega)
      have e0 := e 0 (by decide)
      rw [Nat.add_zero] at e0
      rw [e0, e 1 (by decide), e 2 (by decide), e 3 (by decide)]
      exact r2.2.2 k hk
    unfold RWk at z ⊢
    rw [ef2 30 (by decide) (by decide) (by decide) (by decide) (by decide), er2 111 (by decide) (by decide) (by decide) (by decide), er2 112 (by decide) (by decide) (by decide) (by decide)]
    exact z
  · have z : RSi M3 M2 c := r3.sm (by rw [ec 75 (by decide) (by decide) (by decide)]) (fun q hq => ec q (by omega) (by omega) (by omega))
    unfold RSi at z ⊢
    rw [ef2 44 (by decide) (by decide) (by decide) (by decide) (by decide), er2 118 (by decide) (by decide) (by decide) (by decide)]
    exact z
  · unfold RImg at r4 ⊢
    rw [h011, ec 31 (by decide) (by decide) (by decide), ec 32 (by decide) (by decide) (by decide), ef2 46 (by decide) (by decide) (by decide) (by decide) (by decide), er2 119 (by decide) (by decide) (by decide) (by decide)]
    exact r4
  · unfold RMs at r5 ⊢
    rw [ef2 7 (by decide) (by decide) (by decide) (by decide) (by decide), ef2 6 (by decide) (by decide) (by decide) (by decide) (by decide), ef2 30 (by decide) (by decide) (by decide) (by decide) (by decide), ef2 44 (by decide) (by decide) (by decide) (by decide) (by decide), ef2 39 (by decide) (by decide) (by decide) (by decide) (by decide), h06, h203, ec 1 (by decide) (by decide) (by decide), ec 75 (by decide) (by decide) (by decide), ec 33 (by decide) (by decide) (by decide)]
    exact ⟨h35, h34, r5.2.2.1, r5.2.2.2.1, r5.2.2.2.2.1, r5.2.2.2.2.2.1, r5.2.2.2.2.2.2⟩
  · unfold TapeR at r6 ⊢
    rw [ef2 6 (by decide) (by decide) (by decide) (by decide) (by decide), er2 101 (by decide) (by decide) (by decide) (by decide)]
    exact r6
theorem a_rumour (hx : gXok X) (x : Int32) : Sim X yX10_rumour cX10_rumour 2 yX11_rumour cX11_rumour 2 (some .boolean) [.int x] := by
  rintro M ⟨n, E, EV, N, A, c, w, T, L, hC, hR⟩
  refine one_gDet (c_rumour (d := 100) hx hC.1) (fun v1 M2 hq1 => ?_)
  obtain ⟨rfl, hM2⟩ := hq1
  have e35 : gmi M 100 35 = gmi M 0 15 := hR.2.2.2.2.1.1
  by_cases hp : ¬ x < 0 ∧ ¬ 9 < x ∧ ¬ x = gmi M 0 15
  · rw [if_pos hp] at hM2
    have hV : gFr (fun c => c = 0) M M2 := by rw [hM2]; exact gFr.wI rfl
    have hm := hR.agr (hV.lay hC.1) (hV.agr (fun c a b q => by omega))
    have e35' : gmi M2 100 35 = gmi M 0 15 := hm.2.2.2.2.1.1
    refine ⟨hm.1.1.1.1, _, r_rumour (d := 99) hx hm.1.1.1.1, fun v2 M3 hq2 => ?_⟩
    obtain ⟨rfl, hM3⟩ := hq2
    rw [e35', if_pos hp] at hM3
    have hx3 : xFr (fun c => c = 1000 ∨ c = 1035) M2 M3 := by rw [hM3]; exact (xFr.wf (Or.inl rfl)).tr (xFr.wf (Or.inr rfl))
    have hrq : RQ M3 n E EV := by rw [hM3]; exact (hm.1.1.th.wf (j := 35) (by decide) (by decide) (by decide) (by decide)).1
    have z0 : gmi M3 0 = va_up (gmi M 0) 15 x := by rw [hM3, gmi_In _ _ _ (by decide), gmi_In _ _ _ (by decide), hM2, gmi_I]
    refine ⟨hrq.1, ⟨_, rfl, by rw [e35']⟩, IV.small hC hm hV hx3 (fun q z => Or.inl z) (fun q z => z.elim Or.inl (fun y => Or.inr (Or.inr y))) (by rw [z0, va_up_ne _ _ (by decide)]) (by rw [z0, va_up_ne _ _ (by decide)]) ?_ hrq ?_ ?_⟩
    · rw [hM3, gmi_In _ _ _ (by decide), gmi_In _ _ _ (by decide), hM2, gmi_In _ _ _ (by decide)]
    · rw [z0, va_up_self, hM3, gmi_I, va_up_self]
    · rw [hM3, gmi_I, va_up_ne _ _ (by decide), gmi_I, va_up_ne _ _ (by decide), gmi_In _ _ _ (by decide), gmi_In _ _ _ (by decide), hm.2.2.2.2.1.2.1, hM2, gmi_In _ _ _ (by decide)]
  · rw [if_neg hp] at hM2
    subst hM2
    refine ⟨hC.1, _, r_rumour (d := 99) hx hC.1, fun v2 M3 hq2 => ?_⟩
    obtain ⟨rfl, hM3⟩ := hq2
    rw [e35, if_neg hp] at hM3
    subst hM3
    exact ⟨hR.1.th.1.1.1, ⟨_, rfl, by rw [e35]⟩, IV.act hC hR wFr.rf gFr.rf th_Y hR.1.th⟩
theorem a_law (hx : gXok X) (x : Int32) : Sim X yX10_law cX10_law 2 yX11_law cX11_law 2 (some .boolean) [.int x] := by
  rintro M ⟨n, E, EV, N, A, c, w, T, L, hC, hR⟩
  have e20 : gmi M 20 3 = nI n := hC.2.2.1.1
  have hn4 := hC.2.2.1.2.1
  refine one_gDet (c_law (d := 99) hx hC.1) (fun v1 M2 hq1 => ?_)
  obtain ⟨rfl, hM2⟩ := hq1
  rw [e20] at hM2 ⊢
  by_cases hp : ¬ x < -1 ∧ x < nI n
  · rw [if_pos hp] at hM2
    have hV : gFr (fun c => c = 20) M M2 := by rw [hM2]; exact gFr.wI rfl
    have hm := hR.agr (hV.lay hC.1) (hV.agr (fun c a b q => by omega))
    refine ⟨hm.1.1.1.1, _, r_law (d := 99) hx hm.1.1, fun v2 M3 hq2 => ?_⟩
    obtain ⟨rfl, hM3⟩ := hq2
    rw [if_pos hp] at hM3
    have hx3 : xFr (fun c => c = 1000 ∨ c = 1034) M2 M3 := by rw [hM3]; exact (xFr.wf (Or.inl rfl)).tr (xFr.wf (Or.inr rfl))
    have e34 : gmi M3 100 34 = x := by rw [hM3, gmi_I, va_up_self]
    have hth := hm.1.1.th (v := 0)
    have hrq : ∃ EV2, RQ M3 n E EV2 := by
      obtain ⟨l1, l2, l3, l4⟩ := hth.1
      have hev : ∃ EV2, EVR M3 n E EV2 := by
        by_cases hx0 : x = -1
        · exact ⟨none, Or.inl ⟨rfl, by rw [e34]; exact hx0⟩⟩
        · have h0 : 0 ≤ x := by
            have h1 := Int32.not_lt.mp hp.1
            rw [Int32.le_iff_toInt_le] at h1 ⊢
            have h2 : x.toInt ≠ (-1 : Int32).toInt := fun z => hx0 (Int32.toInt_inj.mp z)
            have a1 : (-1 : Int32).toInt = -1 := rfl
            have a2 : (0 : Int32).toInt = 0 := rfl
            omega
          obtain ⟨ex, lx⟩ := in_row (n := n) rfl (by omega) ⟨h0, hp.2⟩
          exact ⟨some (E (tn x)), Or.inr ⟨tn x, lx, rfl, by rw [e34]; exact ex⟩⟩
      obtain ⟨EV2, hev⟩ := hev
      refine ⟨EV2, by rw [hM3]; exact gLay_I l1, ?_, ?_, hev⟩
      · unfold RLaw TxB at l2 ⊢
        rw [hM3, gmi_I, va_up_ne _ _ (show (7 : Nat) ≠ 34 by decide), gmi_In _ _ _ (show (102 : Nat) ≠ 100 by decide), gmi_In _ _ _ (show (103 : Nat) ≠ 100 by decide)]
        exact l2
      · unfold Memo at l3 ⊢
        rw [hM3, gmi_In _ _ _ (by decide)]
        exact l3
    obtain ⟨EV2, hrq⟩ := hrq
    have z20 : gmi M3 20 = va_up (gmi M 20) 4 x := by rw [hM3, gmi_In _ _ _ (by decide), gmi_In _ _ _ (by decide), hM2, gmi_I]
    refine ⟨hrq.1, ⟨_, rfl, rfl⟩, IV.small hC hm hV hx3 (fun q z => Or.inr z) (fun q z => z.elim Or.inl (fun y => Or.inr (Or.inl y))) ?_ ?_ (by rw [z20, va_up_ne _ _ (by decide)]) hrq ?_ ?_⟩
    · rw [hM3, gmi_In _ _ _ (by decide), gmi_In _ _ _ (by decide), hM2, gmi_In _ _ _ (by decide)]
    · rw [hM3, gmi_In _ _ _ (by decide), gmi_In _ _ _ (by decide), hM2, gmi_In _ _ _ (by decide)]
    · rw [hM3, gmi_I, va_up_ne _ _ (by decide), gmi_I, va_up_ne _ _ (by decide), gmi_In _ _ _ (by decide), gmi_In _ _ _ (by decide), hm.2.2.2.2.1.1, hM2, gmi_In _ _ _ (by decide)]
    · rw [z20, va_up_self, e34]
  · rw [if_neg hp] at hM2
    subst hM2
    refine ⟨hC.1, _, r_law (d := 99) hx hR.1.1, fun v2 M3 hq2 => ?_⟩
    obtain ⟨rfl, hM3⟩ := hq2
    rw [if_neg hp] at hM3
    subst hM3
    exact ⟨hR.1.th.1.1.1, ⟨_, rfl, rfl⟩, IV.act hC hR wFr.rf gFr.rf th_Y hR.1.th⟩
end I4
