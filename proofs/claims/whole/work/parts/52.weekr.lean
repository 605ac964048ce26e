section R4
variable {X : gX} {M : gM} {d : Nat} {T : Nat → Nat} {L i : Nat}
/-- which step a sign begins; 4 for none -/
def wkJ (t : Nat) : Nat := if sC 3 0 = t then 0 else if sC 3 1 = t then 1 else if sC 3 2 = t then 2 else if sC 3 3 = t then 3 else 4
theorem wkJ_ix (t : Nat) : sIx 3 t = if wkJ t < 4 then nI (wkJ t) else -1 := by
  unfold sIx wkJ
  show sfrom (fun j => decide (sC 3 j ≠ t)) 4 0 = _
  unfold sfrom sfrom sfrom sfrom sfrom
  by_cases h0 : sC 3 0 = t
  · rw [if_neg (by rw [decide_eq_true_iff]; exact fun q => q h0), if_pos h0]; rfl
  · rw [if_pos (decide_eq_true h0), if_neg h0]
    by_cases h1 : sC 3 1 = t
    · rw [if_neg (by rw [decide_eq_true_iff]; exact fun q => q h1), if_pos h1]; rfl
    · rw [if_pos (decide_eq_true h1), if_neg h1]
      by_cases h2 : sC 3 2 = t
      · rw [if_neg (by rw [decide_eq_true_iff]; exact fun q => q h2), if_pos h2]; rfl
      · rw [if_pos (decide_eq_true h2), if_neg h2]
        by_cases h3 : sC 3 3 = t
        · rw [if_neg (by rw [decide_eq_true_iff]; exact fun q => q h3), if_pos h3]; rfl
        · rw [if_pos (decide_eq_true h3), if_neg h3]; rfl
theorem wkJ_le (t : Nat) : wkJ t ≤ 4 := by
  unfold wkJ
  repeat' split
  all_goals omega
abbrev SD : Type := Nat × Int32 × Int32
/-- a step: whether it stands there, the place behind it or of its fault, what it is -/
def stepP (T : Nat → Nat) (L i : Nat) : Bool × Nat × SD :=
  if L ≤ nxt T L i ∨ wkJ (T (nxt T L i)) = 4 then (false, nxt T L i, 0, 0, 0)
  else if wkJ (T (nxt T L i)) = 3 then (true, nxt T L i + 1, 3, -1, -1)
  else if (digP T L (nxt T L i + 1)).1 = true then
    (if wkJ (T (nxt T L i)) = 1 then (true, (digP T L (nxt T L i + 1)).2.1, 1, nI (digP T L (nxt T L i + 1)).2.2, -1)
     else if (digP T L (digP T L (nxt T L i + 1)).2.1).1 = true then (true, (digP T L (digP T L (nxt T L i + 1)).2.1).2.1, wkJ (T (nxt T L i)), nI (digP T L (nxt T L i + 1)).2.2, nI (digP T L (digP T L (nxt T L i + 1)).2.1).2.2)
     else (false, (digP T L (digP T L (nxt T L i + 1)).2.1).2.1, 0, 0, 0))
  else (false, (digP T L (nxt T L i + 1)).2.1, 0, 0, 0)
def scrW (a : Nat) : Nat → Prop := fun c => c = 1 ∨ c = a ∨ c = a + 1 ∨ c = a + 2 ∨ c = a + 3
def scrV (a : Nat) : Nat → Prop := fun c => c = 1 ∨ c = a + 1 ∨ c = a + 2 ∨ c = a + 3
set_option maxRecDepth 20000 in
set_option maxHeartbeats 2000000 in
theorem c_readsStep (hx : gXok X) (hZ : gSt X) (h : TC M T L i) {a k : Nat} (ha : 300 ≤ a) (hw : WkAt M a) (hk : k < 16) : gPos X (d + 4) yX9_readsStep cX9_readsStep 5 (some .boolean) [.ref a, .ref 1, .int (nI k)] M (fun v M2 => v = some (.int (ib ((stepP T L i).1 = true))) ∧ gFr (scrV a) M M2 ∧ TC M2 T L (stepP T L i).2.1 ∧ (∀ j, j ≠ k → gmi M2 (a + 1) j = gmi M (a + 1) j ∧ gmi M2 (a + 2) j = gmi M (a + 2) j ∧ gmi M2 (a + 3) j = gmi M (a + 3) j) ∧ ((stepP T L i).1 = true → gmi M2 (a + 1) k = nI (stepP T L i).2.2.1 ∧ gmi M2 (a + 2) k = (stepP T L i).2.2.2.1 ∧ gmi M2 (a + 3) k = (stepP T L i).2.2.2.2)) := by
  have hL := h.1
  have h240 := h.2.1.2.1
  have hnl := nxt_le (T := T) h.2.2.2
  refine gMet.of hx (by decide) (Nat.le_of_ble_eq_true rfl) ?_
  generalize hRes : stepP T L i = Res
  unfold stepP at hRes
  have hf0 : ∀ {M2 : gM} {p : Nat}, Tp M M2 T L p → ∀ j, j ≠ k → gmi M2 (a + 1) j = gmi M (a + 1) j ∧ gmi M2 (a + 2) j = gmi M (a + 2) j ∧ gmi M2 (a + 3) j = gmi M (a + 3) j := fun h2 j _ => by
    rw [h2.1.2.2.2 (a + 1) (by omega), h2.1.2.2.2 (a + 2) (by omega), h2.1.2.2.2 (a + 3) (by omega)]
    exact ⟨rfl, rfl, rfl⟩
  refine g_aload_n dX9_readsStep_0 rfl rfl rfl ?_
  refine g_callVq (ci := 7) dX9_readsStep_1 lm_X9_34 mv_X7_next (c_next (d := d) hx h) rfl rfl (k1 hL) rfl rfl (Nat.le_of_ble_eq_true rfl) (gFit_room (by omega)) rfl (fun v M2 hQ => ?_)
  obtain ⟨rfl, hf⟩ := hQ
  have hn1 := hf
  have hno := hf0 hn1
  generalize hp : nxt T L i = p at *
  have bad : (L ≤ p ∨ wkJ (T p) = 4) → gW X (gRoom (d + 4) 0 0) (gZ X gN0 0 0 (fun v M2 => v = some (.int (ib (Res.1 = true))) ∧ gFr (scrV a) M M2 ∧ TC M2 T L Res.2.1 ∧ (∀ j, j ≠ k → gmi M2 (a + 1) j = gmi M (a + 1) j ∧ gmi M2 (a + 2) j = gmi M (a + 2) j ∧ gmi M2 (a + 3) j = gmi M (a + 3) j) ∧ (Res.1 = true → gmi M2 (a + 1) k = nI Res.2.2.1 ∧ gmi M2 (a + 2) k = Res.2.2.2.1 ∧ gmi M2 (a + 3) k = Res.2.2.2.2))) gN0 yX9_readsStep cX9_readsStep 5 (some .boolean) 21 [(0, .ref a), (1, .ref 1), (2, .int (nI k)), (3, .int (sgn T L p))] [.int (-1)] M2 0 0 := by
    intro hb
    rw [if_pos hb] at hRes
    subst hRes
    refine g_istore dX9_readsStep_21 (by decide) rfl ?_
    refine g_iload dX9_readsStep_23 rfl rfl ?_
    refine g_if_ge (tgt := 30) dX9_readsStep_25 (by decide) rfl (fun h_ => absurd h_ (by decide)) (fun _ => ?_)
    refine g_iconst (v := 0) dX9_readsStep_28 (by decide) rfl ?_
    exact g_iret dX9_readsStep_29 rfl (by first | rfl | exact b01) (⟨rfl, hn1.fr (Or.inl rfl), hn1.2, hno, fun q => absurd q Bool.false_ne_true⟩)
  by_cases hpL : p < L
  · have hsg : sgn T L p = nI (T p) := if_pos hpL
    have htp := h.2.1.2.2 p hpL
    have hwl := wkJ_le (T p)
    have hix := wkJ_ix (T p)
    rw [hsg] at bad ⊢
    generalize hjj : wkJ (T p) = j at *
    refine g_istore_n dX9_readsStep_4 rfl (by decide) rfl ?_
    refine g_iload_n dX9_readsStep_5 rfl rfl rfl ?_
    refine g_iconst (v := -1) dX9_readsStep_6 (by decide) rfl ?_
    refine g_icmp_ne (tgt := 14) dX9_readsStep_7 (by decide) rfl (fun _ => ?_) (fun h_ => absurd h_ (fun q => absurd (show nI (T p) < 0 by rw [q]; decide) (nI_pos (by omega))))
    refine g_ldcS (i := 3) dX9_readsStep_14 hZ (List.mem_of_getElem? (i := 3) rfl) rfl ?_
    refine g_iload_n dX9_readsStep_16 rfl rfl rfl ?_
    refine g_i2c dX9_readsStep_17 rfl ?_
    rw [ch_ok _ htp.2.2]
    refine g_callU (i := 3) dX9_readsStep_18 lm_X9_48 mv_J0_indexOf_0f7a4 (c_indexOf (d := d) hx hZ (by decide) htp.2.2) hZ (by decide) rfl rfl rfl (Nat.le_of_ble_eq_true rfl) (gFit_room (by omega)) rfl ?_
    rw [hix]
    by_cases hj4 : j = 4
    · rw [if_neg (show ¬ j < 4 by omega)]
      exact g_go (bad (Or.inr hj4)) ⟨rfl, rfl, rfl, rfl, trivial⟩
    · rw [if_pos (show j < 4 by omega)]
      rw [if_neg (show ¬ (L ≤ p ∨ j = 4) from fun q => q.elim (fun q => absurd hpL (Nat.not_lt.mpr q)) hj4)] at hRes
      clear bad
      refine g_istore dX9_readsStep_21 (by decide) rfl ?_
      refine g_iload dX9_readsStep_23 rfl rfl ?_
      refine g_if_ge (tgt := 30) dX9_readsStep_25 (by decide) rfl (fun _ => ?_) (fun h_ => absurd (nI_nn (by omega)) h_)
      refine g_aload_n dX9_readsStep_30 rfl rfl rfl ?_
      refine g_callVq (ci := 7) dX9_readsStep_31 lm_X9_54 mv_X7_pass (c_pass (d := d) hx hn1.2 hpL) rfl rfl (k1 hn1.2.1) rfl rfl (Nat.le_of_ble_eq_true rfl) (gFit_room (by omega)) rfl (fun v M2 hQ => ?_)
      obtain ⟨rfl, hf⟩ := hQ
      have hp1 := hf
      have hw2 := WkAt_fr hp1.1 (WkAt_fr hn1.1 hw)
      obtain ⟨k_a, ⟨k_a1, l_a1⟩, ⟨k_a2, l_a2⟩, ⟨k_a3, l_a3⟩, r_a_0, r_a_1, r_a_2⟩ := hw2
      have hno2 : ∀ q, gmi M2 (a + 1) q = gmi M (a + 1) q ∧ gmi M2 (a + 2) q = gmi M (a + 2) q ∧ gmi M2 (a + 3) q = gmi M (a + 3) q := fun q => by
        rw [hp1.1.2.2.2 (a + 1) (by omega), hp1.1.2.2.2 (a + 2) (by omega), hp1.1.2.2.2 (a + 3) (by omega), hn1.1.2.2.2 (a + 1) (by omega), hn1.1.2.2.2 (a + 2) (by omega), hn1.1.2.2.2 (a + 3) (by omega)]
        exact ⟨rfl, rfl, rfl⟩
      have hfp : gFr (scrV a) M M2 := (hn1.fr (Or.inl rfl)).tr (hp1.fr (Or.inl rfl))
      refine g_aload_n dX9_readsStep_34 rfl rfl rfl ?_
      refine g_getR dX9_readsStep_35 ff_X9_9 rfl (k_a) (r_a_0) rfl ?_
      refine g_iload_n dX9_readsStep_38 rfl rfl rfl ?_
      refine g_iload dX9_readsStep_39 rfl rfl ?_
      refine g_iast (i := k) dX9_readsStep_41 (k_a1) (l_a1) (by (try simp only [nI_lit, pk_mul, nI_add, Nat.zero_add]); exact nI_toInt (by omega)) (by omega) rfl ?_
      refine g_aload_n dX9_readsStep_42 rfl rfl rfl ?_
      refine g_getR dX9_readsStep_43 ff_X9_15 rfl (k_a) (r_a_1) rfl ?_
      refine g_iload_n dX9_readsStep_46 rfl rfl rfl ?_
      refine g_iconst (v := -1) dX9_readsStep_47 (by decide) rfl ?_
      refine g_iast (i := k) dX9_readsStep_48 (k_a2) (l_a2) (by (try simp only [nI_lit, pk_mul, nI_add, Nat.zero_add]); exact nI_toInt (by omega)) (by omega) rfl ?_
      refine g_aload_n dX9_readsStep_49 rfl rfl rfl ?_
      refine g_getR dX9_readsStep_50 ff_X9_18 rfl (k_a) (r_a_2) rfl ?_
      refine g_iload_n dX9_readsStep_53 rfl rfl rfl ?_
      refine g_iconst (v := -1) dX9_readsStep_54 (by decide) rfl ?_
      refine g_iast (i := k) dX9_readsStep_55 (k_a3) (l_a3) (by (try simp only [nI_lit, pk_mul, nI_add, Nat.zero_add]); exact nI_toInt (by omega)) (by omega) rfl ?_
      generalize hM3 : gwI (gwI (gwI M2 (a + 1) k (nI j)) (a + 2) k (-1)) (a + 3) k (-1) = M3
      have hC3 : TC M3 T L (p + 1) := by rw [← hM3]; exact ((hp1.2.w ⟨by omega, by omega⟩).w ⟨by omega, by omega⟩).w ⟨by omega, by omega⟩
      have hf3 : gFr (scrV a) M M3 := by rw [← hM3]; exact ((hfp.tr (gFr.wI (Or.inr (Or.inl rfl)))).tr (gFr.wI (Or.inr (Or.inr (Or.inl rfl))))).tr (gFr.wI (Or.inr (Or.inr (Or.inr rfl))))
      have hk3 : gmi M3 (a + 1) k = nI j ∧ gmi M3 (a + 2) k = -1 ∧ gmi M3 (a + 3) k = -1 := by rw [← hM3]; refine ⟨?_, ?_, ?_⟩; (rw [gmi_In _ _ _ (by omega), gmi_In _ _ _ (by omega), gmi_I, va_up_self]); (rw [gmi_In _ _ _ (by omega), gmi_I, va_up_self]); (rw [gmi_I, va_up_self])
      have ho3 : ∀ q, q ≠ k → gmi M3 (a + 1) q = gmi M (a + 1) q ∧ gmi M3 (a + 2) q = gmi M (a + 2) q ∧ gmi M3 (a + 3) q = gmi M (a + 3) q := fun q hq => by rw [← hM3, gmi_In _ _ _ (show a + 1 ≠ a + 3 by omega), gmi_In _ _ _ (show a + 1 ≠ a + 2 by omega), gmi_I, va_up_ne _ _ hq, gmi_In _ _ _ (show a + 2 ≠ a + 3 by omega), gmi_I, va_up_ne _ _ hq, gmi_I, va_up_ne _ _ hq, gmi_In _ _ _ (show a + 2 ≠ a + 1 by omega), gmi_In _ _ _ (show a + 3 ≠ a + 2 by omega), gmi_In _ _ _ (show a + 3 ≠ a + 1 by omega)]; exact hno2 q
      have hw3 : WkAt M3 a := WkAt_fr hf3 hw
      obtain ⟨k_a, ⟨k_a1, l_a1⟩, ⟨k_a2, l_a2⟩, ⟨k_a3, l_a3⟩, r_a_0, r_a_1, r_a_2⟩ := hw3
      refine g_iload dX9_readsStep_56 rfl rfl ?_
      refine g_iconst (v := 3) dX9_readsStep_58 (by decide) rfl ?_
      refine g_icmp_ne (tgt := 64) dX9_readsStep_59 (by decide) rfl (fun h59 => ?_) (fun h59 => ?_)
      · rw [if_neg (fun q => h59 (by rw [q]; rfl))] at hRes
        refine g_aload_n dX9_readsStep_64 rfl rfl rfl ?_
        refine g_callVq (ci := 7) dX9_readsStep_65 lm_X9_57 mv_X7_readsDigit (c_readsDigit (d := d) hx hC3) rfl rfl (k1 hC3.1) rfl rfl (Nat.le_of_ble_eq_true rfl) (gFit_room (by omega)) rfl (fun v M2 hQ => ?_)
        obtain ⟨rfl, hf⟩ := hQ
        generalize hd1 : digP T L (p + 1) = D1 at *
        have hpd := hf.1
        have hvd := hf.2
        have hf4 := hf3.tr (hpd.fr (S := scrV a) (Or.inl rfl))
        have e4 : gmi M2 (a + 1) = gmi M3 (a + 1) ∧ gmi M2 (a + 2) = gmi M3 (a + 2) ∧ gmi M2 (a + 3) = gmi M3 (a + 3) := ⟨hpd.1.2.2.2 _ (by omega), hpd.1.2.2.2 _ (by omega), hpd.1.2.2.2 _ (by omega)⟩
        refine g_ine (tgt := 73) dX9_readsStep_68 (by decide) rfl (fun h68 => ?_) (fun h68 => ?_)
        · rw [if_pos h68] at hRes
          obtain ⟨k_a, ⟨k_a1, l_a1⟩, ⟨k_a2, l_a2⟩, ⟨k_a3, l_a3⟩, r_a_0, r_a_1, r_a_2⟩ := WkAt_fr hf4 hw
          refine g_aload_n dX9_readsStep_73 rfl rfl rfl ?_
          refine g_getR dX9_readsStep_74 ff_X9_15 rfl (k_a) (r_a_1) rfl ?_
          refine g_iload_n dX9_readsStep_77 rfl rfl rfl ?_
          refine g_aload_n dX9_readsStep_78 rfl rfl rfl ?_
          refine g_getI dX9_readsStep_79 ff_X9_61 rfl (k1 hpd.2.1) rfl ?_
          rw [hvd h68]
          refine g_iast (i := k) dX9_readsStep_82 (k_a2) (l_a2) (by (try simp only [nI_lit, pk_mul, nI_add, Nat.zero_add]); exact nI_toInt (by omega)) (by omega) rfl ?_
          generalize hM5 : gwI M2 (a + 2) k (nI D1.2.2) = M5
          have hC5 : TC M5 T L D1.2.1 := by rw [← hM5]; exact hpd.2.w ⟨by omega, by omega⟩
          have hf5 : gFr (scrV a) M M5 := by rw [← hM5]; exact hf4.tr (gFr.wI (Or.inr (Or.inr (Or.inl rfl))))
          have hk5 : gmi M5 (a + 1) k = nI j ∧ gmi M5 (a + 2) k = nI D1.2.2 ∧ gmi M5 (a + 3) k = -1 := by rw [← hM5, gmi_In _ _ _ (show a + 1 ≠ a + 2 by omega), gmi_In _ _ _ (show a + 3 ≠ a + 2 by omega), gmi_I, va_up_self, e4.1, e4.2.2]; exact ⟨hk3.1, rfl, hk3.2.2⟩
          have ho5 : ∀ q, q ≠ k → gmi M5 (a + 1) q = gmi M (a + 1) q ∧ gmi M5 (a + 2) q = gmi M (a + 2) q ∧ gmi M5 (a + 3) q = gmi M (a + 3) q := fun q hq => by rw [← hM5, gmi_In _ _ _ (show a + 1 ≠ a + 2 by omega), gmi_In _ _ _ (show a + 3 ≠ a + 2 by omega), gmi_I, va_up_ne _ _ hq, e4.1, e4.2.1, e4.2.2]; exact ho3 q hq
          obtain ⟨k_a, ⟨k_a1, l_a1⟩, ⟨k_a2, l_a2⟩, ⟨k_a3, l_a3⟩, r_a_0, r_a_1, r_a_2⟩ := WkAt_fr hf5 hw
          refine g_iload dX9_readsStep_83 rfl rfl ?_
          refine g_iconst (v := 1) dX9_readsStep_85 (by decide) rfl ?_
          refine g_icmp_ne (tgt := 91) dX9_readsStep_86 (by decide) rfl (fun h86 => ?_) (fun h86 => ?_)
          · rw [if_neg (fun q => h86 (by rw [q]; rfl))] at hRes
            refine g_aload_n dX9_readsStep_91 rfl rfl rfl ?_
            refine g_callVq (ci := 7) dX9_readsStep_92 lm_X9_57 mv_X7_readsDigit (c_readsDigit (d := d) hx hC5) rfl rfl (k1 hC5.1) rfl rfl (Nat.le_of_ble_eq_true rfl) (gFit_room (by omega)) rfl (fun v M2 hQ => ?_)
            obtain ⟨rfl, hf⟩ := hQ
            generalize hd2 : digP T L D1.2.1 = D2 at *
            have hpe := hf.1
            have hve := hf.2
            have hf6 := hf5.tr (hpe.fr (S := scrV a) (Or.inl rfl))
            have e6 : gmi M2 (a + 1) = gmi M5 (a + 1) ∧ gmi M2 (a + 2) = gmi M5 (a + 2) ∧ gmi M2 (a + 3) = gmi M5 (a + 3) := ⟨hpe.1.2.2.2 _ (by omega), hpe.1.2.2.2 _ (by omega), hpe.1.2.2.2 _ (by omega)⟩
            refine g_ine (tgt := 100) dX9_readsStep_95 (by decide) rfl (fun h95 => ?_) (fun h95 => ?_)
            · rw [if_pos h95] at hRes
              subst hRes
              obtain ⟨k_a, ⟨k_a1, l_a1⟩, ⟨k_a2, l_a2⟩, ⟨k_a3, l_a3⟩, r_a_0, r_a_1, r_a_2⟩ := WkAt_fr hf6 hw
              refine g_aload_n dX9_readsStep_100 rfl rfl rfl ?_
              refine g_getR dX9_readsStep_101 ff_X9_18 rfl (k_a) (r_a_2) rfl ?_
              refine g_iload_n dX9_readsStep_104 rfl rfl rfl ?_
              refine g_aload_n dX9_readsStep_105 rfl rfl rfl ?_
              refine g_getI dX9_readsStep_106 ff_X9_61 rfl (k1 hpe.2.1) rfl ?_
              rw [hve h95]
              refine g_iast (i := k) dX9_readsStep_109 (k_a3) (l_a3) (by (try simp only [nI_lit, pk_mul, nI_add, Nat.zero_add]); exact nI_toInt (by omega)) (by omega) rfl ?_
              refine g_iconst (v := 1) dX9_readsStep_110 (by decide) rfl ?_
              exact g_iret dX9_readsStep_111 rfl (by first | rfl | exact b01) (⟨rfl, hf6.tr (gFr.wI (Or.inr (Or.inr (Or.inr rfl)))), hpe.2.w ⟨by omega, by omega⟩, fun q hq => by rw [gmi_In _ _ _ (show a + 1 ≠ a + 3 by omega), gmi_In _ _ _ (show a + 2 ≠ a + 3 by omega), gmi_I, va_up_ne _ _ hq, e6.1, e6.2.1, e6.2.2]; exact ho5 q hq, fun _ => ⟨by rw [gmi_In _ _ _ (show a + 1 ≠ a + 3 by omega), e6.1]; exact hk5.1, by rw [gmi_In _ _ _ (show a + 2 ≠ a + 3 by omega), e6.2.1]; exact hk5.2.1, by rw [gmi_I, va_up_self]⟩⟩)
            · rw [if_neg h95] at hRes
              subst hRes
              refine g_iconst (v := 0) dX9_readsStep_98 (by decide) rfl ?_
              exact g_iret dX9_readsStep_99 rfl (by first | rfl | exact b01) (⟨rfl, hf6, hpe.2, fun q hq => by rw [e6.1, e6.2.1, e6.2.2]; exact ho5 q hq, fun q => absurd q Bool.false_ne_true⟩)
          · rw [if_pos ((qeq j 1 rfl rfl (by omega) (by decide)).mp h86)] at hRes
            subst hRes
            refine g_iconst (v := 1) dX9_readsStep_89 (by decide) rfl ?_
            exact g_iret dX9_readsStep_90 rfl (by first | rfl | exact b01) (⟨rfl, hf5, hC5, ho5, fun _ => ⟨by rw [hk5.1, (qeq j 1 rfl rfl (by omega) (by decide)).mp h86], hk5.2⟩⟩)
        · rw [if_neg h68] at hRes
          subst hRes
          refine g_iconst (v := 0) dX9_readsStep_71 (by decide) rfl ?_
          exact g_iret dX9_readsStep_72 rfl (by first | rfl | exact b01) (⟨rfl, hf4, hpd.2, fun q hq => by rw [e4.1, e4.2.1, e4.2.2]; exact ho3 q hq, fun q => absurd q Bool.false_ne_true⟩)
      · rw [if_pos ((qeq j 3 rfl rfl (by omega) (by decide)).mp h59)] at hRes
        subst hRes
        refine g_iconst (v := 1) dX9_readsStep_62 (by decide) rfl ?_
        exact g_iret dX9_readsStep_63 rfl (by first | rfl | exact b01) (⟨rfl, hf3, hC3, ho3, fun _ => ⟨by rw [hk3.1, (qeq j 3 rfl rfl (by omega) (by decide)).mp h59], hk3.2⟩⟩)
  · have hsg : sgn T L p = -1 := if_neg hpL
    rw [hsg] at bad ⊢
    refine g_istore_n dX9_readsStep_4 rfl (by decide) rfl ?_
    refine g_iload_n dX9_readsStep_5 rfl rfl rfl ?_
    refine g_iconst (v := -1) dX9_readsStep_6 (by decide) rfl ?_
    refine g_icmp_ne (tgt := 14) dX9_readsStep_7 (by decide) rfl (fun h_ => absurd (rfl) h_) (fun _ => ?_)
    refine g_iconst (v := -1) dX9_readsStep_10 (by decide) rfl ?_
    refine g_goto (tgt := 21) dX9_readsStep_11 (by decide) ?_
    exact g_go (bad (Or.inl (Nat.le_of_not_lt hpL))) ⟨rfl, rfl, rfl, rfl, trivial⟩
/-- the steps of a week -/
def stsP (T : Nat → Nat) (L : Nat) : Nat → Nat → Nat → (Nat → SD) → Bool × Nat × Nat × (Nat → SD)
  | 0, c, i, dt => (true, i, c, dt)
  | n + 1, c, i, dt =>
    if c = 0 ∨ isS T L i 59 = true then
      (if (stepP T L (if c = 0 then i else nxt T L i + 1)).1 = true then stsP T L n (c + 1) (stepP T L (if c = 0 then i else nxt T L i + 1)).2.1 (va_up dt c (stepP T L (if c = 0 then i else nxt T L i + 1)).2.2)
       else (false, (stepP T L (if c = 0 then i else nxt T L i + 1)).2.1, c, dt))
    else (true, nxt T L i, c, dt)
def WkIs (M : gM) (a n : Nat) (dt : Nat → SD) : Prop := gmi M a 3 = nI n ∧ n ≤ 16 ∧ ∀ i, i < n → gmi M (a + 1) i = nI (dt i).1 ∧ gmi M (a + 2) i = (dt i).2.1 ∧ gmi M (a + 3) i = (dt i).2.2
theorem scrVW {a c : Nat} (h : scrV a c) : scrW a c := h.elim Or.inl (fun q => Or.inr (Or.inr q))
set_option maxRecDepth 20000 in
set_option maxHeartbeats 2000000 in
theorem c_readsSteps (hx : gXok X) (hZ : gSt X) (h : TC M T L i) {a : Nat} (ha : 300 ≤ a) (hw : WkAt M a) {dt0 : Nat → SD} (hD : WkIs M a 0 dt0) : gPos X (d + 5) yX9_readsSteps cX9_readsSteps 3 (some .boolean) [.ref a, .ref 1] M (fun v M2 => v = some (.int (ib ((stsP T L 16 0 i dt0).1 = true))) ∧ gFr (scrW a) M M2 ∧ TC M2 T L (stsP T L 16 0 i dt0).2.1 ∧ WkIs M2 a (stsP T L 16 0 i dt0).2.2.1 (stsP T L 16 0 i dt0).2.2.2) := by
  have h240 := h.2.1.2.1
  generalize hRes : stsP T L 16 0 i dt0 = Res
  have main : ∀ (n c i : Nat) (dt : Nat → SD) (M1 : gM), n + c = 16 → gFr (scrW a) M M1 → TC M1 T L i → WkIs M1 a c dt → stsP T L n c i dt = Res → gW X (gRoom (d + 5) 0 0) (gZ X gN0 0 0 (fun v M2 => v = some (.int (ib (Res.1 = true))) ∧ gFr (scrW a) M M2 ∧ TC M2 T L Res.2.1 ∧ WkIs M2 a Res.2.2.1 Res.2.2.2)) gN0 yX9_readsSteps cX9_readsSteps 3 (some .boolean) 2 [(0, .ref a), (1, .ref 1), (2, .int (nI c))] [] M1 0 0 := by
    intro n
    induction n with
    | zero =>
      intro c i dt M1 hn hf hC hD1 hr
      have hr2 : (true, i, c, dt) = Res := hr
      subst hr2
      have hc16 : c = 16 := by omega
      subst hc16
      refine g_iload_n dX9_readsSteps_2 rfl rfl rfl ?_
      refine g_bipush (v := 16) dX9_readsSteps_3 (by decide) rfl ?_
      refine g_icmp_ge (tgt := 50) dX9_readsSteps_5 (by decide) rfl (fun _ => ?_) (fun h_ => absurd (by decide) h_)
      refine g_iconst (v := 1) dX9_readsSteps_50 (by decide) rfl ?_
      exact g_iret dX9_readsSteps_51 rfl (by first | rfl | exact b01) (⟨rfl, hf, hC, hD1⟩)
    | succ n ih =>
      intro c i dt M1 hn hf hC hD1 hr
      unfold stsP at hr
      have k_a : gkd M1 a = 10 := (WkAt_fr hf hw).1
      have go : ∀ (i0 : Nat) (M2 : gM), gFr (scrW a) M M2 → TC M2 T L i0 → WkIs M2 a c dt → (if c = 0 then i else nxt T L i + 1) = i0 → (c = 0 ∨ isS T L i 59 = true) → gW X (gRoom (d + 5) 0 0) (gZ X gN0 0 0 (fun v M2 => v = some (.int (ib (Res.1 = true))) ∧ gFr (scrW a) M M2 ∧ TC M2 T L Res.2.1 ∧ WkIs M2 a Res.2.2.1 Res.2.2.2)) gN0 yX9_readsSteps cX9_readsSteps 3 (some .boolean) 23 [(0, .ref a), (1, .ref 1), (2, .int (nI c))] [] M2 0 0 := by
        intro i0 M2 hf2 hC2 hD2 hi0 hsemi
        rw [if_pos hsemi, hi0] at hr
        have k_a : gkd M2 a = 10 := (WkAt_fr hf2 hw).1
        have hst := c_readsStep (X := X) (d := d) hx hZ hC2 ha (WkAt_fr hf2 hw) (show c < 16 by omega)
        generalize hS : stepP T L i0 = S at *
        refine g_aload_n dX9_readsSteps_23 rfl rfl rfl ?_
        refine g_aload_n dX9_readsSteps_24 rfl rfl rfl ?_
        refine g_iload_n dX9_readsSteps_25 rfl rfl rfl ?_
        refine g_callVq (ci := 9) dX9_readsSteps_26 lm_X9_42 mv_X9_readsStep (hst) rfl rfl (k_a) rfl rfl (Nat.le_of_ble_eq_true rfl) (gFit_room (by omega)) rfl (fun v M2 hQ => ?_)
        obtain ⟨rfl, hf⟩ := hQ
        have hs := hf
        have hf3 := hf2.tr (hs.1.mono (fun c q => scrVW q))
        refine g_ine (tgt := 34) dX9_readsSteps_29 (by decide) rfl (fun h29 => ?_) (fun h29 => ?_)
        · rw [if_pos h29] at hr
          have k_a : gkd M2 a = 10 := (WkAt_fr hf3 hw).1
          refine g_aload_n dX9_readsSteps_34 rfl rfl rfl ?_
          refine g_dup dX9_readsSteps_35 rfl rfl ?_
          refine g_getI dX9_readsSteps_36 ff_X9_27 rfl (k_a) rfl ?_
          refine g_iconst (v := 1) dX9_readsSteps_39 (by decide) rfl ?_
          refine g_iadd dX9_readsSteps_40 rfl ?_
          rw [hs.1.2.2.2 a (fun q => by unfold scrV at q; omega), hD2.1, nI_1]
          refine g_putI dX9_readsSteps_41 fp_X9_27 rfl rfl rfl (k_a) rfl ?_
          refine g_iincV (c := 1) dX9_readsSteps_44 rfl (by decide) (by decide) rfl ?_
          refine g_goto (tgt := 2) dX9_readsSteps_47 (by decide) ?_
          refine g_go (ih (c + 1) _ _ _ (by omega) (hf3.tr (gFr.wI (Or.inr (Or.inl rfl)))) (hs.2.1.w ⟨by omega, by omega⟩) ⟨by rw [gmi_I, va_up_self], by omega, fun j hj => ?_⟩ hr) ⟨rfl, rfl, by rw [← nI_1 c]; rfl, trivial⟩
          rw [gmi_In _ _ _ (show a + 1 ≠ a by omega), gmi_In _ _ _ (show a + 2 ≠ a by omega), gmi_In _ _ _ (show a + 3 ≠ a by omega)]
          by_cases e : j = c
          · subst e
            rw [va_up_self]
            exact hs.2.2.2 h29
          · rw [va_up_ne _ _ e, (hs.2.2.1 j e).1, (hs.2.2.1 j e).2.1, (hs.2.2.1 j e).2.2]
            exact hD2.2.2 j (by omega)
        · refine g_iconst (v := 0) dX9_readsSteps_32 (by decide) rfl ?_
          have hD5 : WkIs M2 a c dt := ⟨by rw [hs.1.2.2.2 a (fun q => by unfold scrV at q; omega)]; exact hD2.1, hD2.2.1, fun j hj => by rw [(hs.2.2.1 j (by omega)).1, (hs.2.2.1 j (by omega)).2.1, (hs.2.2.1 j (by omega)).2.2]; exact hD2.2.2 j hj⟩
          rw [if_neg h29] at hr
          subst hr
          exact g_iret dX9_readsSteps_33 rfl (by first | rfl | exact b01) ⟨rfl, hf3, hs.2.1, hD5⟩
      by_cases hc0 : c = 0
      · refine g_iload_n dX9_readsSteps_2 rfl rfl rfl ?_
        refine g_bipush (v := 16) dX9_readsSteps_3 (by decide) rfl ?_
        refine g_icmp_ge (tgt := 50) dX9_readsSteps_5 (by decide) rfl (fun h_ => absurd h_ (nI_ge (b := 16) (show c < 16 by omega) (by decide))) (fun _ => ?_)
        refine g_iload_n dX9_readsSteps_8 rfl rfl rfl ?_
        refine g_if_le (tgt := 23) dX9_readsSteps_9 (by decide) rfl (fun _ => ?_) (fun h_ => absurd (by rw [hc0]; decide) h_)
        exact g_go (go i M1 hf hC hD1 (by rw [if_pos hc0]) (Or.inl hc0)) ⟨rfl, rfl, rfl, trivial⟩
      · refine g_iload_n dX9_readsSteps_2 rfl rfl rfl ?_
        refine g_bipush (v := 16) dX9_readsSteps_3 (by decide) rfl ?_
        refine g_icmp_ge (tgt := 50) dX9_readsSteps_5 (by decide) rfl (fun h_ => absurd h_ (nI_ge (b := 16) (show c < 16 by omega) (by decide))) (fun _ => ?_)
        refine g_iload_n dX9_readsSteps_8 rfl rfl rfl ?_
        refine g_if_le (tgt := 23) dX9_readsSteps_9 (by decide) rfl (fun h_ => absurd h_ (nI_nle (by omega) (by omega))) (fun _ => ?_)
        refine g_aload_n dX9_readsSteps_12 rfl rfl rfl ?_
        refine g_bipush (v := 59) dX9_readsSteps_13 (by decide) rfl ?_
        refine g_callVq (ci := 7) dX9_readsSteps_15 lm_X9_38 mv_X7_passed (c_passed (d := d) (c := 59) hx hC (by decide)) rfl rfl (k1 hC.1) rfl rfl (Nat.le_of_ble_eq_true rfl) (gFit_room (by omega)) rfl (fun v M2 hQ => ?_)
        obtain ⟨rfl, hf⟩ := hQ
        have hp := hf
        have hf := ‹gFr (scrW a) M M1›
        have hD3 : WkIs M2 a c dt := ⟨by rw [hp.1.2.2.2 a (by omega)]; exact hD1.1, hD1.2.1, fun j hj => by rw [hp.1.2.2.2 (a + 1) (by omega), hp.1.2.2.2 (a + 2) (by omega), hp.1.2.2.2 (a + 3) (by omega)]; exact hD1.2.2 j hj⟩
        refine g_ine (tgt := 23) dX9_readsSteps_18 (by decide) rfl (fun h18 => ?_) (fun h18 => ?_)
        · rw [if_pos h18] at hp
          exact g_go (go _ M2 (hf.tr (hp.fr (Or.inl rfl))) hp.2 hD3 (by rw [if_neg hc0]) (Or.inr h18)) ⟨rfl, rfl, rfl, trivial⟩
        · rw [if_neg (fun q => q.elim hc0 h18)] at hr
          subst hr
          rw [if_neg h18] at hp
          refine g_iconst (v := 1) dX9_readsSteps_21 (by decide) rfl ?_
          exact g_iret dX9_readsSteps_22 rfl (by first | rfl | exact b01) (⟨rfl, hf.tr (hp.fr (Or.inl rfl)), hp.2, hD3⟩)
  have hL := h.1
  refine gMet.of hx (by decide) (Nat.le_of_ble_eq_true rfl) ?_
  refine g_iconst (v := 0) dX9_readsSteps_0 (by decide) rfl ?_
  refine g_istore_n dX9_readsSteps_1 rfl (by decide) rfl ?_
  exact g_go (main 16 0 i dt0 M rfl gFr.rf h hD hRes) ⟨rfl, rfl, rfl, trivial⟩
def weekP (T : Nat → Nat) (L : Nat) : Bool × Nat × Nat × (Nat → SD) := stsP T L 16 0 0 (fun _ => (0, 0, 0))
def weekOK (T : Nat → Nat) (L : Nat) : Bool := (weekP T L).1 && decide (L ≤ nxt T L (weekP T L).2.1)
def weekAt (T : Nat → Nat) (L : Nat) : Nat := if (weekP T L).1 then nxt T L (weekP T L).2.1 else (weekP T L).2.1
set_option maxRecDepth 20000 in
set_option maxHeartbeats 1000000 in
theorem c_faultW (hx : gXok X) (hZ : gSt X) (hL : gLay M) (hTC : TapeC M T L) {a : Nat} (ha : 300 ≤ a) (hw : WkAt M a) : gPos X (d + 6) yX9_faultIn cX9_faultIn 2 (some .int) [.ref a, .ref 1] M (fun v M2 => v = some (.int (if weekOK T L then -1 else nI (weekAt T L))) ∧ gFr (scrW a) M M2 ∧ TapeC M2 T L ∧ WkIs M2 a (weekP T L).2.2.1 (weekP T L).2.2.2) := by
  refine gMet.of hx (by decide) (Nat.le_of_ble_eq_true rfl) ?_
  have h240 := hTC.2.1
  have k_a := hw.1
  refine g_aload_n dX9_faultIn_0 rfl rfl rfl ?_
  refine g_iconst (v := 0) dX9_faultIn_1 (by decide) rfl ?_
  refine g_putI dX9_faultIn_2 fp_X9_21 rfl rfl rfl (k1 hL) rfl ?_
  refine g_aload_n dX9_faultIn_5 rfl rfl rfl ?_
  refine g_iconst (v := 0) dX9_faultIn_6 (by decide) rfl ?_
  refine g_putI dX9_faultIn_7 fp_X9_27 rfl rfl rfl (k_a) rfl ?_
  generalize hM1 : gwI (gwI M 1 2 0) a 3 0 = M1
  have hf1 : gFr (scrW a) M M1 := by rw [← hM1]; exact (gFr.wI (Or.inl rfl)).tr (gFr.wI (Or.inr (Or.inl rfl)))
  have hC1 : TC M1 T L 0 := by
    rw [← hM1]
    refine ⟨gLay_I (gLay_I hL), ⟨?_, hTC.2.1, fun j hj => ?_⟩, ?_, Nat.zero_le _⟩
    · rw [gmi_In _ _ _ (show (1 : Nat) ≠ a by omega), gmi_I, va_up_ne _ _ (by decide)]; exact hTC.1
    · rw [gmi_In _ _ _ (show (2 : Nat) ≠ a by omega), gmi_In _ _ _ (by decide)]; exact hTC.2.2 j hj
    · rw [gmi_In _ _ _ (show (1 : Nat) ≠ a by omega), gmi_I, va_up_self]; rfl
  have hD1 : WkIs M1 a 0 (fun _ => (0, 0, 0)) := ⟨by rw [← hM1, gmi_I, va_up_self]; rfl, by decide, fun j hj => absurd hj (by omega)⟩
  have hst := c_readsSteps (X := X) (d := d) hx hZ hC1 ha (WkAt_fr hf1 hw) hD1
  rw [show stsP T L 16 0 0 (fun _ => (0, 0, 0)) = weekP T L from rfl] at hst
  have hOK : weekOK T L = ((weekP T L).1 && decide (L ≤ nxt T L (weekP T L).2.1)) := rfl
  have hAt : weekAt T L = if (weekP T L).1 then nxt T L (weekP T L).2.1 else (weekP T L).2.1 := rfl
  generalize hR : weekP T L = Rs at *
  have k_a := (WkAt_fr hf1 hw).1
  refine g_aload_n dX9_faultIn_10 rfl rfl rfl ?_
  refine g_aload_n dX9_faultIn_11 rfl rfl rfl ?_
  refine g_callVq (ci := 9) dX9_faultIn_12 lm_X9_30 mv_X9_readsSteps (hst) rfl rfl (k_a) rfl rfl (Nat.le_of_ble_eq_true rfl) (gFit_room (by omega)) rfl (fun v M2 hQ => ?_)
  obtain ⟨rfl, hf⟩ := hQ
  have hs := hf
  have hf2 := hf1.tr hs.1
  refine g_ieq (tgt := 30) dX9_faultIn_15 (by decide) rfl (fun h15 => ?_) (fun h15 => ?_)
  · rw [show weekOK T L = false from by rw [hOK, Bool.eq_false_iff.mpr h15]; rfl, hAt, if_neg h15]
    refine g_aload_n dX9_faultIn_30 rfl rfl rfl ?_
    refine g_getI dX9_faultIn_31 ff_X9_21 rfl (k1 hs.2.1.1) rfl ?_
    exact g_iret dX9_faultIn_34 rfl (by first | rfl | exact b01) (⟨by rw [hs.2.1.2.2.1]; rfl, hf2, hs.2.1.2.1, hs.2.2⟩)
  · refine g_aload_n dX9_faultIn_18 rfl rfl rfl ?_
    refine g_callVq (ci := 7) dX9_faultIn_19 lm_X9_34 mv_X7_next (c_next (d := d) hx hs.2.1) rfl rfl (k1 hs.2.1.1) rfl rfl (Nat.le_of_ble_eq_true rfl) (gFit_room (by omega)) rfl (fun v M2 hQ => ?_)
    obtain ⟨rfl, hf⟩ := hQ
    have hn := hf
    have hf3 := hf2.tr (hn.fr (S := scrW a) (Or.inl rfl))
    have hW3 : WkIs M2 a Rs.2.2.1 Rs.2.2.2 := ⟨by rw [hn.1.2.2.2 a (by omega)]; exact hs.2.2.1, hs.2.2.2.1, fun j hj => by rw [hn.1.2.2.2 (a + 1) (by omega), hn.1.2.2.2 (a + 2) (by omega), hn.1.2.2.2 (a + 3) (by omega)]; exact hs.2.2.2.2 j hj⟩
    rw [hOK, h15, Bool.true_and, hAt, if_pos h15]
    by_cases hpL : nxt T L Rs.2.1 < L
    · rw [decide_eq_false (Nat.not_le.mpr hpL), show sgn T L (nxt T L Rs.2.1) = nI (T (nxt T L Rs.2.1)) from if_pos hpL]
      refine g_iconst (v := -1) dX9_faultIn_22 (by decide) rfl ?_
      refine g_icmp_ne (tgt := 30) dX9_faultIn_23 (by decide) rfl (fun _ => ?_) (fun h_ => absurd h_ (fun q => absurd (show nI (T (nxt T L Rs.2.1)) < 0 by rw [q]; decide) (nI_pos (by have := (hTC.2.2 _ hpL).2.2; omega))))
      refine g_aload_n dX9_faultIn_30 rfl rfl rfl ?_
      refine g_getI dX9_faultIn_31 ff_X9_21 rfl (k1 hn.2.1) rfl ?_
      exact g_iret dX9_faultIn_34 rfl (by first | rfl | exact b01) (⟨by rw [hn.2.2.2.1]; rfl, hf3, hn.2.2.1, hW3⟩)
    · rw [decide_eq_true (Nat.le_of_not_lt hpL), show sgn T L (nxt T L Rs.2.1) = -1 from if_neg hpL]
      refine g_iconst (v := -1) dX9_faultIn_22 (by decide) rfl ?_
      refine g_icmp_ne (tgt := 30) dX9_faultIn_23 (by decide) rfl (fun h_ => absurd (rfl) h_) (fun _ => ?_)
      refine g_iconst (v := -1) dX9_faultIn_26 (by decide) rfl ?_
      refine g_goto (tgt := 34) dX9_faultIn_27 (by decide) ?_
      exact g_iret dX9_faultIn_34 rfl (by first | rfl | exact b01) (⟨rfl, hf3, hn.2.2.1, hW3⟩)
end R4
