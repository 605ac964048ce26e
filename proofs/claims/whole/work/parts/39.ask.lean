section K0
variable {X : gX} {M : gM} {d : Nat}
/-- how many deeds a set has -/
def pcn (b : Nat) : Nat := (ibc (nI b)).toNatClampNeg
theorem pcn_eq {b : Nat} (h : b < 256) : ibc (nI b) = nI (pcn b) := (ibc_le b h).1
theorem pcn_le {b : Nat} (h : b < 256) : pcn b ≤ 8 := (ibc_le b h).2
/-- the case of a set -/
def keyN (M : gM) (b : Nat) : Nat := heft M b * 9 + pcn b
theorem key_lt (hT : TownOK M) {b : Nat} (h : b < 256) : keyN M b < 657 := by
  have := heft_le hT b
  have := pcn_le h
  unfold keyN
  omega
theorem key_div {b : Nat} (h : b < 256) : keyN M b / 9 = heft M b ∧ keyN M b % 9 = pcn b := by
  have := pcn_le h
  unfold keyN
  omega
def caseN (M : gM) (j t : Nat) : Nat := fb_ct (fun s => decide (keyN M s = t)) j
def csF (M : gM) (j : Nat) : Nat → Int32 := fun i => if i < 657 then nI (caseN M j i) else gmi M 79 i
theorem csF_0 : csF M 0 = fillF (gmi M 79) 0 657 := rfl
theorem csF_s (hT : TownOK M) {j : Nat} (h : j < 256) : va_up (csF M j) (keyN M j) (csF M j (keyN M j) + 1) = csF M (j + 1) := by
  have hk := key_lt hT h
  funext i
  by_cases e : i = keyN M j
  · subst e
    rw [va_up_self]
    unfold csF caseN
    rw [if_pos hk, if_pos hk, fb_ct_succ, if_pos (decide_eq_true rfl), nI_1]
  · rw [va_up_ne _ _ e]
    unfold csF caseN
    rw [fb_ct_succ, if_neg (show ¬ decide (keyN M j = i) = true by rw [decide_eq_false (fun q => e q.symm)]; decide)]
    rfl
/-- the cases that fit -/
def caseQ (M : gM) (EV : EVt) (p c N t : Nat) : Bool := decide (0 < caseN M N t) && fitB M EV p (nI (t / 9)) (nI (t % 9)) c
theorem heft_top (hD : tv M 3 8 ≤ 8) {b : Nat} : heft M b ≤ heft M (2 ^ tv M 3 8 - 1) := by
  unfold heft
  refine ssum_mono (fun k hk _ => ?_)
  rw [Nat.testBit_two_pow_sub_one]
  exact decide_eq_true hk
def scrS : Nat → Prop := fun c => scr0 c ∨ c = 75 ∨ c = 79 ∨ c = 80
/-- the cases, gathered up to i -/
def Gath (M : gM) (EV : EVt) (p c i : Nat) (M1 : gM) : Prop := gFr scrS M M1 ∧ gmi M1 79 = csF M (2 ^ tv M 3 8) ∧ (∀ k, k ≠ 8 → gmi M1 75 k = gmi M 75 k) ∧ gmi M1 75 8 = nI (fb_ct (caseQ M EV p c (2 ^ tv M 3 8)) i) ∧ ∀ t, t < i → caseQ M EV p c (2 ^ tv M 3 8) t = true → gmi M1 80 (fb_ct (caseQ M EV p c (2 ^ tv M 3 8)) t) = nI t
theorem fitB_S {M1 : gM} {EV : EVt} {p : Nat} {g n : Int32} (h : gFr scrS M M1) : ∀ c, fitB M1 EV p g n c = fitB M EV p g n c
  | 0 => rfl
  | c + 1 => by
    have e : ∀ k, k < 200 → k ≠ 22 → k ≠ 75 → k ≠ 79 → k ≠ 80 → gmi M1 k = gmi M k := fun k a b f g i => h.2.2.2 k (fun q => q.elim (scr0_lo a b) (by omega))
    unfold fitB rdS
    rw [fitB_S h c, e 76 (by decide) (by decide) (by decide) (by decide) (by decide), e 77 (by decide) (by decide) (by decide) (by decide) (by decide), e 78 (by decide) (by decide) (by decide) (by decide) (by decide), e 5 (by decide) (by decide) (by decide) (by decide) (by decide)]
theorem scrS_court : ¬ scrS 20 ∧ ∀ k, ¬ scrS (200 + 5 * k) ∧ ¬ scrS (200 + 5 * k + 1) ∧ ¬ scrS (200 + 5 * k + 2) ∧ ¬ scrS (200 + 5 * k + 3) :=
  ⟨fun q => q.elim scr0_court.1 (by omega), fun k => ⟨fun q => q.elim (scr0_court.2 k).1 (by omega), fun q => q.elim (scr0_court.2 k).2.1 (by omega), fun q => q.elim (scr0_court.2 k).2.2.1 (by omega), fun q => q.elim (scr0_court.2 k).2.2.2 (by omega)⟩⟩
theorem Gath_fr {EV : EVt} {p c i : Nat} {M1 M2 : gM} (h : Gath M EV p c i M1) (hf : gFr scr0 M1 M2) : Gath M EV p c i M2 := by
  obtain ⟨h1, h2, h3, h4, h5⟩ := h
  have e : ∀ k, k < 200 → k ≠ 22 → gmi M2 k = gmi M1 k := fun k a b => hf.2.2.2 k (scr0_lo a b)
  exact ⟨h1.tr (hf.mono (fun c q => Or.inl q)), by rw [e 79 (by decide) (by decide)]; exact h2, by rw [e 75 (by decide) (by decide)]; exact h3, by rw [e 75 (by decide) (by decide)]; exact h4, by rw [e 80 (by decide) (by decide)]; exact h5⟩
theorem case_ct (hT : TownOK M) {EV : EVt} {p c i : Nat} (hi : i ≤ (heft M (2 ^ tv M 3 8 - 1) + 1) * 9) : fb_ct (caseQ M EV p c (2 ^ tv M 3 8)) i ≤ qsum (caseQ M EV p c (2 ^ tv M 3 8)) (caseN M (2 ^ tv M 3 8)) i ∧ qsum (caseQ M EV p c (2 ^ tv M 3 8)) (caseN M (2 ^ tv M 3 8)) i ≤ fb_ct (setB M EV p c) (2 ^ tv M 3 8) := by
  have h8 := hT.2.1.2
  have h256 : 2 ^ tv M 3 8 ≤ 256 := Nat.le_trans (bt_pow h8) (by decide)
  refine ⟨ct_le_qsum (fun t _ hq => ?_), ?_⟩
  · unfold caseQ at hq
    rw [Bool.and_eq_true] at hq
    have := of_decide_eq_true hq.1
    omega
  · refine Nat.le_trans (qsum_mono hi) ?_
    rw [qsum_cong (R := fun t => fitB M EV p (nI (t / 9)) (nI (t % 9)) c) (k := caseN M (2 ^ tv M 3 8)) (fun t _ => ?_)]
    · unfold caseN
      rw [qsum_ct (fun s hs => ?_)]
      · refine Nat.le_of_eq (fb_ct_cong (fun s hs => ?_))
        rw [(key_div (M := M) (by omega)).1, (key_div (M := M) (by omega)).2, ← pcn_eq (by omega)]
        rfl
      · have := heft_top (M := M) h8 (b := s)
        have := pcn_le (b := s) (by omega)
        unfold keyN
        omega
    · unfold caseQ
      by_cases h0 : 0 < caseN M (2 ^ tv M 3 8) t
      · rw [decide_eq_true h0, Bool.true_and]
      · rw [decide_eq_false h0, Bool.false_and, show caseN M (2 ^ tv M 3 8) t = 0 by omega]
        cases fitB M EV p (nI (t / 9)) (nI (t % 9)) c <;> rfl
theorem case_sum (hT : TownOK M) {EV : EVt} {p c : Nat} (G : Nat → Bool) : qsum (caseQ M EV p c (2 ^ tv M 3 8)) (fun t => if G t then caseN M (2 ^ tv M 3 8) t else 0) ((heft M (2 ^ tv M 3 8 - 1) + 1) * 9) = fb_ct (fun s => setB M EV p c s && G (keyN M s)) (2 ^ tv M 3 8) := by
  have h8 := hT.2.1.2
  have h256 : 2 ^ tv M 3 8 ≤ 256 := Nat.le_trans (bt_pow h8) (by decide)
  rw [qsum_cong (R := fun t => fitB M EV p (nI (t / 9)) (nI (t % 9)) c && G t) (k := caseN M (2 ^ tv M 3 8)) (fun t _ => ?_)]
  · unfold caseN
    rw [qsum_ct (fun s hs => ?_)]
    · refine fb_ct_cong (fun s hs => ?_)
      rw [(key_div (M := M) (by omega)).1, (key_div (M := M) (by omega)).2, ← pcn_eq (by omega)]
      rfl
    · have := heft_top (M := M) h8 (b := s)
      have := pcn_le (b := s) (by omega)
      unfold keyN
      omega
  · unfold caseQ
    by_cases h0 : 0 < caseN M (2 ^ tv M 3 8) t
    · rw [decide_eq_true h0, Bool.true_and]
      cases fitB M EV p (nI (t / 9)) (nI (t % 9)) c <;> cases G t <;> rfl
    · rw [decide_eq_false h0, Bool.false_and, show caseN M (2 ^ tv M 3 8) t = 0 by omega]
      cases fitB M EV p (nI (t / 9)) (nI (t % 9)) c <;> cases G t <;> rfl
set_option maxRecDepth 20000 in
set_option maxHeartbeats 2000000 in
theorem c_gather (hx : gXok X) (hL : gLay M) (hT : TownOK M) {EV : EVt} (hC : CourtSem M EV) {c : Nat} (hc : gmi M 75 5 = nI c) (h10 : c ≤ 10) {p : Nat} (hp : p < 6) :
    gPos X (d + 5) yX6_gatherCases cX6_gatherCases 6 (some .int) [.ref 75, .int (nI p)] M (fun v M2 => v = some (.int (nI (fb_ct (setB M EV p c) (2 ^ tv M 3 8)))) ∧ Gath M EV p c ((heft M (2 ^ tv M 3 8 - 1) + 1) * 9) M2) := by
  have hL0 := hL
  have h8 := hT.2.1.2
  have h256 : 2 ^ tv M 3 8 ≤ 256 := Nat.le_trans (bt_pow h8) (by decide)
  have h1p : 1 ≤ 2 ^ tv M 3 8 := Nat.one_le_two_pow
  have hB := heft_le hT (2 ^ tv M 3 8 - 1)
  refine gMet.of hx (by decide) (Nat.le_of_ble_eq_true rfl) ?_
  have hall := case_sum hT (EV := EV) (p := p) (c := c) (fun _ => true)
  rw [show (fun t => if (fun _ => true) t = true then caseN M (2 ^ tv M 3 8) t else 0) = caseN M (2 ^ tv M 3 8) from by funext t; rfl, show (fun s => setB M EV p c s && (fun _ => true) (keyN M s)) = setB M EV p c from by funext s; exact Bool.and_true _] at hall
  generalize hBe : (heft M (2 ^ tv M 3 8 - 1) + 1) * 9 = B at *
  have hB657 : B ≤ 657 := by omega
  refine g_iconst (v := 1) dX6_gatherCases_0 (by decide) rfl ?_
  refine g_aload_n dX6_gatherCases_1 rfl rfl rfl ?_
  refine g_getR dX6_gatherCases_2 ff_X6_28 rfl (k75 hL) (r75_0 hL) rfl ?_
  refine g_getI dX6_gatherCases_5 ff_X6_46 rfl (k3 hL) rfl ?_
  refine g_ishl dX6_gatherCases_8 rfl ?_
  rw [hT.2.1.1, bt_one _ (by omega)]
  refine g_istore_n dX6_gatherCases_9 rfl (by decide) rfl ?_
  refine g_aload_n dX6_gatherCases_10 rfl rfl rfl ?_
  refine g_getR dX6_gatherCases_11 ff_X6_28 rfl (k75 hL) (r75_0 hL) rfl ?_
  refine g_iload_n dX6_gatherCases_14 rfl rfl rfl ?_
  refine g_iconst (v := 1) dX6_gatherCases_15 (by decide) rfl ?_
  refine g_isub dX6_gatherCases_16 rfl ?_
  rw [show (1 : Int32) = nI 1 from rfl, pk_sub h1p]
  refine g_callVdi (ci := 8) dX6_gatherCases_17 lm_X6_51 mv_X8_weightOf (c_weightOf (d := d) (b := 2 ^ tv M 3 8 - 1) hx hL (by omega) hT.2.1 hT.2.2.1) rfl rfl (k3 hL) rfl rfl (Nat.le_of_ble_eq_true rfl) (gFit_room (by omega)) rfl ?_
  refine g_iconst (v := 1) dX6_gatherCases_20 (by decide) rfl ?_
  refine g_iadd dX6_gatherCases_21 rfl ?_
  refine g_bipush (v := 9) dX6_gatherCases_22 (by decide) rfl ?_
  refine g_imul dX6_gatherCases_24 rfl ?_
  rw [show nI (ssum (2 ^ tv M 3 8 - 1) (tv M 7) (tv M 3 8)) = nI (heft M (2 ^ tv M 3 8 - 1)) from rfl, show (1 : Int32) = nI 1 from rfl, show (9 : Int32) = nI 9 from rfl, nI_add, pk_mul, hBe]
  refine g_istore_n dX6_gatherCases_25 rfl (by decide) rfl ?_
  refine g_aload_n dX6_gatherCases_26 rfl rfl rfl ?_
  refine g_getR dX6_gatherCases_27 ff_X6_22 rfl (k75 hL) (r75_6 hL) rfl ?_
  refine g_iconst (v := 0) dX6_gatherCases_30 (by decide) rfl ?_
  refine g_callSdv dX6_gatherCases_31 lm_X6_80 mv_J7_fill_53178 (c_fill (d := d) (n := 657) hx (k79 hL) (l79 hL) (by decide)) rfl rfl (Nat.le_of_ble_eq_true rfl) (gFit_room (by omega)) rfl ?_
  rw [← csF_0]
  refine g_iconst (v := 0) dX6_gatherCases_34 (by decide) rfl ?_
  refine g_istore dX6_gatherCases_35 (by decide) rfl ?_
  refine g_loop (fun i => [(0, .ref 75), (1, .int (nI p)), (2, .int (nI (2 ^ tv M 3 8))), (3, .int (nI B)), (4, .int (nI i))]) (fun i => gwF M 79 (csF M i)) (2 ^ tv M 3 8) 0 (Nat.zero_le _) ⟨rfl, rfl, rfl, rfl, rfl, trivial⟩ rfl ?_ (fun i _ hi ih => ?_)
  · refine g_iload dX6_gatherCases_37 rfl rfl ?_
    refine g_iload_n dX6_gatherCases_39 rfl rfl rfl ?_
    refine g_icmp_ge (tgt := 76) dX6_gatherCases_40 (by decide) rfl (fun _ => ?_) (fun h_ => absurd (nI_le (Nat.le_refl _) (by omega)) h_)
    refine g_iconst (v := 0) dX6_gatherCases_76 (by decide) rfl ?_
    refine g_istore dX6_gatherCases_77 (by decide) rfl ?_
    refine g_aload_n dX6_gatherCases_79 rfl rfl rfl ?_
    refine g_iconst (v := 0) dX6_gatherCases_80 (by decide) rfl ?_
    refine g_putI dX6_gatherCases_81 fp_X6_86 rfl rfl rfl (k75 (gLay_F hL)) rfl ?_
    refine g_iconst (v := 0) dX6_gatherCases_84 (by decide) rfl ?_
    refine g_istore dX6_gatherCases_85 (by decide) rfl ?_
    refine g_loopM (fun i => [(0, .ref 75), (1, .int (nI p)), (3, .int (nI B)), (4, .int (nI (qsum (caseQ M EV p c (2 ^ tv M 3 8)) (caseN M (2 ^ tv M 3 8)) i))), (5, .int (nI i))]) (fun i M1 => Gath M EV p c i M1) B 0 (Nat.zero_le _) ⟨rfl, rfl, rfl, rfl, rfl, trivial⟩ ⟨(gFr.wF (Or.inr (Or.inr (Or.inl rfl)))).tr (gFr.wI (Or.inr (Or.inl rfl))), by rw [gmi_In _ _ _ (by decide), gmi_F], fun k hk => by rw [gmi_I, va_up_ne _ _ hk, gmi_Fn _ _ (by decide)], by rw [gmi_I, va_up_self]; rfl, fun t ht => absurd ht (by omega)⟩ (fun M1 hI => ?_) (fun i M1 _ hi hI ih => ?_)
    · refine g_iload dX6_gatherCases_87 rfl rfl ?_
      refine g_iload_n dX6_gatherCases_89 rfl rfl rfl ?_
      refine g_icmp_ge (tgt := 160) dX6_gatherCases_90 (by decide) rfl (fun _ => ?_) (fun h_ => absurd (nI_le (Nat.le_refl _) (by omega)) h_)
      refine g_iload dX6_gatherCases_160 rfl rfl ?_
      exact g_iret dX6_gatherCases_162 rfl (by first | rfl | exact b01) (⟨by rw [hall], hI⟩)
    · have hct := (case_ct hT (EV := EV) (p := p) (c := c) (i := i) (by omega)).1
      have hct2 := (case_ct hT (EV := EV) (p := p) (c := c) (i := i) (by omega)).2
      have hle := fb_ct_le (setB M EV p c) (2 ^ tv M 3 8)
      have hct3 := (case_ct hT (EV := EV) (p := p) (c := c) (i := i + 1) (by omega)).1
      have hct4 := (case_ct hT (EV := EV) (p := p) (c := c) (i := i + 1) (by omega)).2
      have h79 : gmi M1 79 i = nI (caseN M (2 ^ tv M 3 8) i) := by rw [hI.2.1]; exact if_pos (by omega)
      have hcn : caseN M (2 ^ tv M 3 8) i ≤ 256 := Nat.le_trans (fb_ct_le _ _) h256
      have hcase : caseQ M EV p c (2 ^ tv M 3 8) i = (decide (0 < caseN M (2 ^ tv M 3 8) i) && fitB M EV p (nI (i / 9)) (nI (i % 9)) c) := rfl
      have e75 : gmi M1 75 5 = nI c := by rw [hI.2.2.1 5 (by decide)]; exact hc
      have hfits := c_fits (X := X) (d := d) hx (hI.1.lay hL0) (CourtSem_fr scrS_court hI.1 hC) e75 h10 gFr.rf hp (g := nI (i / 9)) (n := nI (i % 9))
      rw [fitB_S hI.1] at hfits
      have hno : caseQ M EV p c (2 ^ tv M 3 8) i = false → ∀ M2, Gath M EV p c i M2 → gW X (gRoom (d + 5) 0 0) (gZ X gN0 0 0 (fun v M2 => v = some (.int (nI (fb_ct (setB M EV p c) (2 ^ tv M 3 8)))) ∧ Gath M EV p c B M2)) gN0 yX6_gatherCases cX6_gatherCases 6 (some .int) 154 [(0, .ref 75), (1, .int (nI p)), (3, .int (nI B)), (4, .int (nI (qsum (caseQ M EV p c (2 ^ tv M 3 8)) (caseN M (2 ^ tv M 3 8)) i))), (5, .int (nI i))] [] M2 0 0 := by
        intro hq M2 hG
        have eq1 : qsum (caseQ M EV p c (2 ^ tv M 3 8)) (caseN M (2 ^ tv M 3 8)) (i + 1) = qsum (caseQ M EV p c (2 ^ tv M 3 8)) (caseN M (2 ^ tv M 3 8)) i := by
          show _ + (if caseQ M EV p c (2 ^ tv M 3 8) i = true then _ else 0) = _
          rw [if_neg (by rw [hq]; decide)]
          rfl
        have eq2 : fb_ct (caseQ M EV p c (2 ^ tv M 3 8)) (i + 1) = fb_ct (caseQ M EV p c (2 ^ tv M 3 8)) i := by rw [fb_ct_succ, if_neg (by rw [hq]; decide)]; rfl
        refine g_iincV (c := 1) dX6_gatherCases_154 rfl (by decide) (by decide) rfl ?_
        refine g_goto (tgt := 87) dX6_gatherCases_157 (by decide) ?_
        exact g_go (ih M2 ⟨hG.1, hG.2.1, hG.2.2.1, by rw [eq2]; exact hG.2.2.2.1, fun t ht hqt => hG.2.2.2.2 t (Nat.lt_of_le_of_ne (by omega) (fun e => by rw [e, hq] at hqt; exact absurd hqt (by decide))) hqt⟩) ⟨rfl, rfl, rfl, by rw [eq1]; rfl, by rw [← nI_1 i]; rfl, trivial⟩
      refine g_iload dX6_gatherCases_87 rfl rfl ?_
      refine g_iload_n dX6_gatherCases_89 rfl rfl rfl ?_
      refine g_icmp_ge (tgt := 160) dX6_gatherCases_90 (by decide) rfl (fun h_ => absurd h_ (nI_ge hi (by omega))) (fun _ => ?_)
      refine g_aload_n dX6_gatherCases_93 rfl rfl rfl ?_
      refine g_getR dX6_gatherCases_94 ff_X6_22 rfl (k75 (hI.1.lay hL0)) (r75_6 (hI.1.lay hL0)) rfl ?_
      refine g_iload dX6_gatherCases_97 rfl rfl ?_
      refine g_iald (i := i) dX6_gatherCases_99 (k79 (hI.1.lay hL0)) (l79 (hI.1.lay hL0)) (by (try simp only [nI_lit, pk_mul, nI_add, Nat.zero_add]); exact nI_toInt (by omega)) (by omega) rfl ?_
      rw [h79]
      refine g_if_le (tgt := 154) dX6_gatherCases_100 (by decide) rfl (fun h100 => ?_) (fun h100 => ?_)
      · first | exact g_go (hno (by rw [hcase, decide_eq_false (fun q => nI_nle q (by omega) h100)]; rfl) M1 hI) ⟨rfl, rfl, rfl, rfl, rfl, trivial⟩ | exact g_go (hno (by rw [hcase, Bool.eq_false_iff.mpr h118, Bool.and_false]) M2 (Gath_fr hI hf)) ⟨rfl, rfl, rfl, rfl, rfl, trivial⟩
      · refine g_aload_n dX6_gatherCases_103 rfl rfl rfl ?_
        refine g_iload_n dX6_gatherCases_104 rfl rfl rfl ?_
        refine g_iload dX6_gatherCases_105 rfl rfl ?_
        refine g_bipush (v := 9) dX6_gatherCases_107 (by decide) rfl ?_
        refine g_idiv dX6_gatherCases_109 (by decide) rfl ?_
        rw [show (9 : Int32) = nI 9 from rfl, pk_div (by omega) (by omega) (by omega)]
        refine g_iload dX6_gatherCases_110 rfl rfl ?_
        refine g_bipush (v := 9) dX6_gatherCases_112 (by decide) rfl ?_
        refine g_irem dX6_gatherCases_114 (by decide) rfl ?_
        rw [show (9 : Int32) = nI 9 from rfl, pk_rem (by omega) (by omega) (by omega)]
        refine g_callVq (ci := 6) dX6_gatherCases_115 lm_X6_60 mv_X6_fits (hfits) rfl rfl (k75 (hI.1.lay hL0)) rfl rfl (Nat.le_of_ble_eq_true rfl) (gFit_room (by omega)) rfl (fun v M2 hQ => ?_)
        obtain ⟨rfl, hf⟩ := hQ
        refine g_ieq (tgt := 154) dX6_gatherCases_118 (by decide) rfl (fun h118 => ?_) (fun h118 => ?_)
        · first | exact g_go (hno (by rw [hcase, decide_eq_false (fun q => nI_nle q (by omega) h100)]; rfl) M1 hI) ⟨rfl, rfl, rfl, rfl, rfl, trivial⟩ | exact g_go (hno (by rw [hcase, Bool.eq_false_iff.mpr h118, Bool.and_false]) M2 (Gath_fr hI hf)) ⟨rfl, rfl, rfl, rfl, rfl, trivial⟩
        · have hG := Gath_fr hI hf
          have hq : caseQ M EV p c (2 ^ tv M 3 8) i = true := by
            rw [hcase, h118, Bool.and_true]
            refine decide_eq_true ?_
            have : caseN M (2 ^ tv M 3 8) i ≠ 0 := fun e => h100 (by rw [e]; decide)
            omega
          have eq1 : qsum (caseQ M EV p c (2 ^ tv M 3 8)) (caseN M (2 ^ tv M 3 8)) (i + 1) = qsum (caseQ M EV p c (2 ^ tv M 3 8)) (caseN M (2 ^ tv M 3 8)) i + caseN M (2 ^ tv M 3 8) i := by
            show _ + (if caseQ M EV p c (2 ^ tv M 3 8) i = true then _ else 0) = _
            rw [if_pos hq]
          have eq2 : fb_ct (caseQ M EV p c (2 ^ tv M 3 8)) (i + 1) = fb_ct (caseQ M EV p c (2 ^ tv M 3 8)) i + 1 := by rw [fb_ct_succ, if_pos hq]
          generalize hj : fb_ct (caseQ M EV p c (2 ^ tv M 3 8)) i = j at *
          have hj256 : j < 256 := by omega
          have hG4 : gmi M2 75 8 = nI j := by rw [← hj]; exact hG.2.2.2.1
          refine g_aload_n dX6_gatherCases_121 rfl rfl rfl ?_
          refine g_getR dX6_gatherCases_122 ff_X6_25 rfl (k75 (hG.1.lay hL0)) (r75_7 (hG.1.lay hL0)) rfl ?_
          refine g_aload_n dX6_gatherCases_125 rfl rfl rfl ?_
          refine g_getI dX6_gatherCases_126 ff_X6_86 rfl (k75 (hG.1.lay hL0)) rfl ?_
          refine g_iload dX6_gatherCases_129 rfl rfl ?_
          rw [hG4]
          refine g_iast (i := j) dX6_gatherCases_131 (k80 (hG.1.lay hL0)) (l80 (hG.1.lay hL0)) (by (try simp only [nI_lit, pk_mul, nI_add, Nat.zero_add]); exact nI_toInt (by omega)) (by omega) rfl ?_
          refine g_aload_n dX6_gatherCases_132 rfl rfl rfl ?_
          refine g_dup dX6_gatherCases_133 rfl rfl ?_
          refine g_getI dX6_gatherCases_134 ff_X6_86 rfl (k75 (gLay_I (hG.1.lay hL0))) rfl ?_
          refine g_iconst (v := 1) dX6_gatherCases_137 (by decide) rfl ?_
          refine g_iadd dX6_gatherCases_138 rfl ?_
          rw [gmi_In _ _ _ (show (75 : Nat) ≠ 80 by decide), hG4, nI_1]
          refine g_putI dX6_gatherCases_139 fp_X6_86 rfl rfl rfl (k75 (gLay_I (hG.1.lay hL0))) rfl ?_
          refine g_iload dX6_gatherCases_142 rfl rfl ?_
          refine g_aload_n dX6_gatherCases_144 rfl rfl rfl ?_
          refine g_getR dX6_gatherCases_145 ff_X6_22 rfl (k75 (gLay_I (gLay_I (hG.1.lay hL0)))) (r75_6 (gLay_I (gLay_I (hG.1.lay hL0)))) rfl ?_
          refine g_iload dX6_gatherCases_148 rfl rfl ?_
          refine g_iald (i := i) dX6_gatherCases_150 (k79 (gLay_I (gLay_I (hG.1.lay hL0)))) (l79 (gLay_I (gLay_I (hG.1.lay hL0)))) (by (try simp only [nI_lit, pk_mul, nI_add, Nat.zero_add]); exact nI_toInt (by omega)) (by omega) rfl ?_
          rw [gmi_In _ _ _ (show (79 : Nat) ≠ 75 by decide), gmi_In _ _ _ (show (79 : Nat) ≠ 80 by decide), hG.2.1, show csF M (2 ^ tv M 3 8) i = nI (caseN M (2 ^ tv M 3 8) i) from if_pos (by omega)]
          refine g_iadd dX6_gatherCases_151 rfl ?_
          refine g_istore dX6_gatherCases_152 (by decide) rfl ?_
          refine g_iincV (c := 1) dX6_gatherCases_154 rfl (by decide) (by decide) rfl ?_
          refine g_goto (tgt := 87) dX6_gatherCases_157 (by decide) ?_
          refine g_go (ih _ ⟨(hG.1.tr (gFr.wI (Or.inr (Or.inr (Or.inr rfl))))).tr (gFr.wI (Or.inr (Or.inl rfl))), by rw [gmi_In _ _ _ (by decide), gmi_In _ _ _ (by decide)]; exact hG.2.1, fun k hk => by rw [gmi_I, va_up_ne _ _ hk, gmi_In _ _ _ (by decide)]; exact hG.2.2.1 k hk, by rw [gmi_I, va_up_self, eq2], fun t ht hqt => ?_⟩) ⟨rfl, rfl, rfl, by rw [eq1, ← nI_add]; rfl, by rw [← nI_1 i]; rfl, trivial⟩
          rw [gmi_In _ _ _ (by decide), gmi_I]
          by_cases e : t = i
          · subst e
            rw [hj, va_up_self]
          · have hlt : fb_ct (caseQ M EV p c (2 ^ tv M 3 8)) t < j := by
              have := fb_ct_mono (caseQ M EV p c (2 ^ tv M 3 8)) (show t + 1 ≤ i by omega)
              rw [fb_ct_succ, if_pos hqt] at this
              omega
            rw [va_up_ne _ _ (by omega)]
            exact hG.2.2.2.2 t (by omega) hqt
  · have hw := c_weightOf (X := X) (d := d) (M := gwF M 79 (csF M i)) hx (gLay_F hL) (show i < 256 by omega) hT.2.1 hT.2.2.1
    rw [show ssum i (tv (gwF M 79 (csF M i)) 7) (tv (gwF M 79 (csF M i)) 3 8) = heft M i from heft_fr (gmi_Fn _ _ (by decide)) (gmi_Fn _ _ (by decide))] at hw
    have hkl := key_lt hT (show i < 256 by omega)
    refine g_iload dX6_gatherCases_37 rfl rfl ?_
    refine g_iload_n dX6_gatherCases_39 rfl rfl rfl ?_
    refine g_icmp_ge (tgt := 76) dX6_gatherCases_40 (by decide) rfl (fun h_ => absurd h_ (nI_ge hi (by omega))) (fun _ => ?_)
    refine g_aload_n dX6_gatherCases_43 rfl rfl rfl ?_
    refine g_getR dX6_gatherCases_44 ff_X6_22 rfl (k75 (gLay_F hL)) (r75_6 (gLay_F hL)) rfl ?_
    refine g_aload_n dX6_gatherCases_47 rfl rfl rfl ?_
    refine g_getR dX6_gatherCases_48 ff_X6_28 rfl (k75 (gLay_F hL)) (r75_0 (gLay_F hL)) rfl ?_
    refine g_iload dX6_gatherCases_51 rfl rfl ?_
    refine g_callVdi (ci := 8) dX6_gatherCases_53 lm_X6_51 mv_X8_weightOf (hw) rfl rfl (k3 (gLay_F hL)) rfl rfl (Nat.le_of_ble_eq_true rfl) (gFit_room (by omega)) rfl ?_
    refine g_bipush (v := 9) dX6_gatherCases_56 (by decide) rfl ?_
    refine g_imul dX6_gatherCases_58 rfl ?_
    refine g_iload dX6_gatherCases_59 rfl rfl ?_
    refine g_callSdi dX6_gatherCases_61 lm_X6_55 mv_J6_bitCount_0f7a4 (c_bitCount (d := d) hx) rfl rfl (Nat.le_of_ble_eq_true rfl) (gFit_room (by omega)) rfl ?_
    refine g_iadd dX6_gatherCases_64 rfl ?_
    rw [pcn_eq (show i < 256 by omega), show (9 : Int32) = nI 9 from rfl, pk_mul, nI_add, show heft M i * 9 + pcn i = keyN M i from rfl]
    generalize hkk : keyN M i = kk at *
    refine g_dup2 dX6_gatherCases_65 rfl rfl rfl ?_
    refine g_iald (i := kk) dX6_gatherCases_66 (k79 (gLay_F hL)) (l79 (gLay_F hL)) (by (try simp only [nI_lit, pk_mul, nI_add, Nat.zero_add]); exact nI_toInt (by omega)) (by omega) rfl ?_
    refine g_iconst (v := 1) dX6_gatherCases_67 (by decide) rfl ?_
    refine g_iadd dX6_gatherCases_68 rfl ?_
    rw [gmi_F]
    refine g_iast (i := kk) dX6_gatherCases_69 (k79 (gLay_F hL)) (l79 (gLay_F hL)) (by (try simp only [nI_lit, pk_mul, nI_add, Nat.zero_add]); exact nI_toInt (by omega)) (by omega) rfl ?_
    rw [gwI_F, ← hkk, csF_s hT (by omega)]
    refine g_iincV (c := 1) dX6_gatherCases_70 rfl (by decide) (by decide) rfl ?_
    refine g_goto (tgt := 37) dX6_gatherCases_73 (by decide) ?_
    exact g_go ih ⟨rfl, rfl, rfl, rfl, by rw [← nI_1 i]; rfl, trivial⟩
/-- guilty by a case, at a beard -/
def caseG (M : gM) (EV : EVt) (p b t : Nat) : Bool := rdS M EV p (nI (t / 9)) (nI (t % 9)) (nI b)
/-- how many of the sets that fit would be guilty at the beard b -/
def gltN (M : gM) (EV : EVt) (p c b : Nat) : Nat := fb_ct (fun s => setB M EV p c s && rdS M EV p (nI (heft M s)) (ibc (nI s)) (nI b)) (2 ^ tv M 3 8)
theorem glt_case (hT : TownOK M) {EV : EVt} {p c b : Nat} : qsum (caseQ M EV p c (2 ^ tv M 3 8)) (fun t => if caseG M EV p b t then caseN M (2 ^ tv M 3 8) t else 0) ((heft M (2 ^ tv M 3 8 - 1) + 1) * 9) = gltN M EV p c b := by
  have h8 := hT.2.1.2
  have h256 : 2 ^ tv M 3 8 ≤ 256 := Nat.le_trans (bt_pow h8) (by decide)
  rw [case_sum hT (caseG M EV p b)]
  unfold gltN
  refine fb_ct_cong (fun s hs => ?_)
  unfold caseG
  rw [(key_div (M := M) (by omega)).1, (key_div (M := M) (by omega)).2, ← pcn_eq (by omega)]
theorem qsum_le {Q R : Nat → Bool} {h k : Nat → Nat} : ∀ {n : Nat}, (∀ t, t < n → (if Q t then h t else 0) ≤ (if R t then k t else 0)) → qsum Q h n ≤ qsum R k n
  | 0, _ => Nat.le_refl _
  | n + 1, e => by
    have := qsum_le (n := n) (fun t ht => e t (by omega))
    have := e n (by omega)
    show qsum Q h n + _ ≤ qsum R k n + _
    omega
set_option maxRecDepth 20000 in
set_option maxHeartbeats 2000000 in
theorem c_guiltyAt (hx : gXok X) (hL : gLay M) (hT : TownOK M) {EV : EVt} (hC : CourtSem M EV) {c p b : Nat} (hp : p < 6) {M0 : gM} (hG : Gath M EV p c ((heft M (2 ^ tv M 3 8 - 1) + 1) * 9) M0) :
    gPos X (d + 4) yX6_guiltyAt cX6_guiltyAt 6 (some .int) [.ref 75, .int (nI p), .int (nI b)] M0 (fun v M2 => v = some (.int (nI (gltN M EV p c b))) ∧ gFr scr0 M0 M2) := by
  have h8 := hT.2.1.2
  have h256 : 2 ^ tv M 3 8 ≤ 256 := Nat.le_trans (bt_pow h8) (by decide)
  have hB := heft_le hT (2 ^ tv M 3 8 - 1)
  have hsum := glt_case hT (EV := EV) (p := p) (c := c) (b := b)
  have hct := case_ct hT (EV := EV) (p := p) (c := c) (Nat.le_refl _)
  have hle := fb_ct_le (setB M EV p c) (2 ^ tv M 3 8)
  generalize hBe : (heft M (2 ^ tv M 3 8 - 1) + 1) * 9 = B at *
  generalize hQ : caseQ M EV p c (2 ^ tv M 3 8) = Q at *
  have hn := qsum_nth (Q := Q) (h := fun t => if caseG M EV p b t then caseN M (2 ^ tv M 3 8) t else 0) (Nat.le_refl B)
  rw [hsum] at hn
  have hG4 : gmi M0 75 8 = nI (fb_ct Q B) := by rw [← hQ]; exact hG.2.2.2.1
  have hG5 : ∀ t, t < B → Q t = true → gmi M0 80 (fb_ct Q t) = nI t := by rw [← hQ]; exact hG.2.2.2.2
  generalize hnn : fb_ct Q B = n at *
  refine gMet.of hx (by decide) (Nat.le_of_ble_eq_true rfl) ?_
  refine g_iconst (v := 0) dX6_guiltyAt_0 (by decide) rfl ?_
  refine g_istore_n dX6_guiltyAt_1 rfl (by decide) rfl ?_
  refine g_iconst (v := 0) dX6_guiltyAt_2 (by decide) rfl ?_
  refine g_istore dX6_guiltyAt_3 (by decide) rfl ?_
  refine g_loopM (fun i => [(0, .ref 75), (1, .int (nI p)), (2, .int (nI b)), (3, .int (nI (qsum (fun _ => true) (fun j => (fun t => if caseG M EV p b t then caseN M (2 ^ tv M 3 8) t else 0) (nthQ Q B j)) i))), (4, .int (nI i))]) (fun i M1 => gFr scr0 M0 M1) n 0 (Nat.zero_le _) ⟨rfl, rfl, rfl, rfl, rfl, trivial⟩ gFr.rf (fun M1 hI => ?_) (fun i M1 _ hi hI ih => ?_)
  · have e75 : gmi M1 75 = gmi M0 75 := hI.2.2.2 75 (scr0_lo (by decide) (by decide))
    refine g_iload dX6_guiltyAt_5 rfl rfl ?_
    refine g_aload_n dX6_guiltyAt_7 rfl rfl rfl ?_
    refine g_getI dX6_guiltyAt_8 ff_X6_86 rfl (k75 (hI.lay (hG.1.lay hL))) rfl ?_
    rw [e75, hG4]
    refine g_icmp_ge (tgt := 63) dX6_guiltyAt_11 (by decide) rfl (fun _ => ?_) (fun h_ => absurd (nI_le (Nat.le_refl _) (by omega)) h_)
    refine g_iload_n dX6_guiltyAt_63 rfl rfl rfl ?_
    exact g_iret dX6_guiltyAt_64 rfl (by first | rfl | exact b01) (⟨by rw [← hn], hI⟩)
  · have e75 : gmi M1 75 = gmi M0 75 := hI.2.2.2 75 (scr0_lo (by decide) (by decide))
    have e80 : gmi M1 80 = gmi M0 80 := hI.2.2.2 80 (scr0_lo (by decide) (by decide))
    obtain ⟨n1, n2, n3⟩ := nthQ_ok (Q := Q) (B := B) (j := i) (by omega)
    have e80i : gmi M1 80 i = nI (nthQ Q B i) := by rw [e80, ← n3, nthQ_at n1 n2, n3]; have := hG5 _ n2 n1; rw [n3] at this; exact this
    have hstep : ∀ z, z = (if caseG M EV p b (nthQ Q B i) then caseN M (2 ^ tv M 3 8) (nthQ Q B i) else 0) → nI (qsum (fun _ => true) (fun j => (fun t => if caseG M EV p b t then caseN M (2 ^ tv M 3 8) t else 0) (nthQ Q B j)) i + z) = nI (qsum (fun _ => true) (fun j => (fun t => if caseG M EV p b t then caseN M (2 ^ tv M 3 8) t else 0) (nthQ Q B j)) (i + 1)) := by
      intro z hz
      rw [hz]
      rfl
    generalize hst : qsum (fun _ => true) (fun j => (fun t => if caseG M EV p b t then caseN M (2 ^ tv M 3 8) t else 0) (nthQ Q B j)) i = acc at *
    generalize htt : nthQ Q B i = t at *
    refine g_iload dX6_guiltyAt_5 rfl rfl ?_
    refine g_aload_n dX6_guiltyAt_7 rfl rfl rfl ?_
    refine g_getI dX6_guiltyAt_8 ff_X6_86 rfl (k75 (hI.lay (hG.1.lay hL))) rfl ?_
    rw [e75, hG4]
    refine g_icmp_ge (tgt := 63) dX6_guiltyAt_11 (by decide) rfl (fun h_ => absurd h_ (nI_ge hi (by omega))) (fun _ => ?_)
    refine g_aload_n dX6_guiltyAt_14 rfl rfl rfl ?_
    refine g_getR dX6_guiltyAt_15 ff_X6_25 rfl (k75 (hI.lay (hG.1.lay hL))) (r75_7 (hI.lay (hG.1.lay hL))) rfl ?_
    refine g_iload dX6_guiltyAt_18 rfl rfl ?_
    refine g_iald (i := i) dX6_guiltyAt_20 (k80 (hI.lay (hG.1.lay hL))) (l80 (hI.lay (hG.1.lay hL))) (by (try simp only [nI_lit, pk_mul, nI_add, Nat.zero_add]); exact nI_toInt (by omega)) (by omega) rfl ?_
    rw [e80i]
    refine g_istore dX6_guiltyAt_21 (by decide) rfl ?_
    refine g_aload_n dX6_guiltyAt_23 rfl rfl rfl ?_
    refine g_getR dX6_guiltyAt_24 ff_X6_32 rfl (k75 (hI.lay (hG.1.lay hL))) (r75_1 (hI.lay (hG.1.lay hL))) rfl ?_
    refine g_iload_n dX6_guiltyAt_27 rfl rfl rfl ?_
    refine g_iload dX6_guiltyAt_28 rfl rfl ?_
    refine g_bipush (v := 9) dX6_guiltyAt_30 (by decide) rfl ?_
    refine g_idiv dX6_guiltyAt_32 (by decide) rfl ?_
    rw [show (9 : Int32) = nI 9 from rfl, pk_div (by omega) (by omega) (by omega)]
    refine g_iload dX6_guiltyAt_33 rfl rfl ?_
    refine g_bipush (v := 9) dX6_guiltyAt_35 (by decide) rfl ?_
    refine g_irem dX6_guiltyAt_37 (by decide) rfl ?_
    rw [show (9 : Int32) = nI 9 from rfl, pk_rem (by omega) (by omega) (by omega)]
    refine g_iload_n dX6_guiltyAt_38 rfl rfl rfl ?_
    refine g_iconst (v := 0) dX6_guiltyAt_39 (by decide) rfl ?_
    refine g_iconst (v := 0) dX6_guiltyAt_40 (by decide) rfl ?_
    have hrd := c_readS (X := X) (d := d) hx (hG.1.lay hL) (CourtSem_fr scrS_court hG.1 hC) hI hp (g := nI (t / 9)) (n := nI (t % 9)) (b := nI b)
    rw [hG.1.2.2.2 5 (fun q => q.elim (scr0_lo (by decide) (by decide)) (by omega))] at hrd
    refine g_callVq (ci := 0) dX6_guiltyAt_41 lm_X6_40 mv_X0_read (hrd) rfl rfl (k20 (hI.lay (hG.1.lay hL))) rfl rfl (Nat.le_of_ble_eq_true rfl) (gFit_room (by omega)) rfl (fun v M2 hQ => ?_)
    obtain ⟨rfl, hf⟩ := hQ
    have e79 : gmi M2 79 = csF M (2 ^ tv M 3 8) := by rw [hf.2.2.2 79 (scr0_lo (by decide) (by decide))]; exact hG.2.1
    refine g_if_le (tgt := 57) dX6_guiltyAt_44 (by decide) rfl (fun h44 => ?_) (fun h44 => ?_)
    · have hz := hstep 0 (by rw [if_neg (show ¬ caseG M EV p b t = true from fun q => absurd (of_decide_eq_true q) (Int32.not_lt.mpr h44))])
      refine g_iincV (c := 1) dX6_guiltyAt_57 rfl (by decide) (by decide) rfl ?_
      refine g_goto (tgt := 5) dX6_guiltyAt_60 (by decide) ?_
      exact g_go (ih M2 hf) ⟨rfl, rfl, rfl, by rw [← hz]; rfl, by rw [← nI_1 i]; rfl, trivial⟩
    · have hz := hstep (caseN M (2 ^ tv M 3 8) t) (by rw [if_pos (show caseG M EV p b t = true from decide_eq_true (Int32.not_le.mp h44))])
      refine g_iload_n dX6_guiltyAt_47 rfl rfl rfl ?_
      refine g_aload_n dX6_guiltyAt_48 rfl rfl rfl ?_
      refine g_getR dX6_guiltyAt_49 ff_X6_22 rfl (k75 (hf.lay (hG.1.lay hL))) (r75_6 (hf.lay (hG.1.lay hL))) rfl ?_
      refine g_iload dX6_guiltyAt_52 rfl rfl ?_
      refine g_iald (i := t) dX6_guiltyAt_54 (k79 (hf.lay (hG.1.lay hL))) (l79 (hf.lay (hG.1.lay hL))) (by (try simp only [nI_lit, pk_mul, nI_add, Nat.zero_add]); exact nI_toInt (by omega)) (by omega) rfl ?_
      rw [e79, show csF M (2 ^ tv M 3 8) t = nI (caseN M (2 ^ tv M 3 8) t) from if_pos (by omega)]
      refine g_iadd dX6_guiltyAt_55 rfl ?_
      refine g_istore_n dX6_guiltyAt_56 rfl (by decide) rfl ?_
      refine g_iincV (c := 1) dX6_guiltyAt_57 rfl (by decide) (by decide) rfl ?_
      refine g_goto (tgt := 5) dX6_guiltyAt_60 (by decide) ?_
      exact g_go (ih M2 hf) ⟨rfl, rfl, rfl, by rw [← hz, ← nI_add]; rfl, by rw [← nI_1 i]; rfl, trivial⟩
end K0
