section H28
variable {X : gX} {M : gM} {d : Nat} {T : Nat → Nat} {L i w p : Nat} {S : Nat → Prop}
theorem sp_wk : ∀ t, t < 256 → spV 3 (nI t) = if wkJ t < 4 then nI (wkJ t) else -1 := by decide +kernel
theorem sp_wn : spV 3 (-1) = -1 := by decide +kernel
/-- what reading a step leaves -/
def StO (M0 M2 : gM) (T : Nat → Nat) (L w row : Nat) (R : Bool × Nat × SD) : Prop := kFr (fun q => q = 111) M0 M2 ∧ (∀ q, q < row ∨ row + 3 ≤ q → gmi M2 111 q = gmi M0 111 q) ∧ (R.1 = true → PT M2 T L R.2.1 (-1) w ∧ gmi M2 111 row = nI R.2.2.1 ∧ gmi M2 111 (row + 1) = R.2.2.2.1 ∧ gmi M2 111 (row + 2) = R.2.2.2.2) ∧ (¬ R.1 = true → gmi M2 100 11 = nI R.2.1 ∧ ¬ gmi M2 100 11 = -1)
set_option maxRecDepth 20000 in
set_option maxHeartbeats 1000000 in
theorem r_readStep (hx : gXok X) (hZ : gSt X) {row : Nat} (h : PT M T L i (-1) w) (hrow : row + 3 ≤ 240) : gPos X (d + 5) yX11_readStep cX11_readStep 3 none [.ref 100, .int (nI row)] M (fun v M2 => v = none ∧ StO M M2 T L w row (stepP T L i)) := by
  have h240 := h.1.2.2.2.2.2.1.2.2.1
  refine gMet.of hx (by decide) (Nat.le_of_ble_eq_true rfl) ?_
  unfold stepP
  refine g_ldcwS (i := 3) dX11_readStep_0 hZ (List.mem_of_getElem? (i := 9) rfl) rfl ?_
  refine g_aload_n dX11_readStep_3 rfl rfl rfl ?_
  refine g_callVq (ci := 11) dX11_readStep_4 lm_X11_132 mv_X11_look (r_look (d := d + 4) hx h) rfl rfl (k100 h.1.1) rfl rfl (Nat.le_of_ble_eq_true rfl) (gFit_room (by omega)) rfl (fun v M1 hQ => ?_)
  obtain ⟨rfl, hf1, h1⟩ := hQ
  refine g_callSdi dX11_readStep_7 lm_X11_219 mv_X11_spotOf (r_spotOf (d := d) (k := 3) hx hZ (by decide)) rfl rfl (Nat.le_of_ble_eq_true rfl) (gFit_room (by omega)) rfl ?_
  have hpL := h1.2.2.1
  generalize nxt T L i = p at *
  by_cases hend : L ≤ p ∨ wkJ (T p) = 4
  · rw [if_pos hend]
    have hwh : spV 3 (sgn T L p) = -1 := by
      unfold sgn
      by_cases hpl : p < L
      · have htp := (h1.1.2.2.2.2.2.2 p hpl).2.2
        rw [if_pos hpl, sp_wk _ htp, hend.resolve_left (by omega)]; rfl
      · rw [if_neg hpl, sp_wn]
    rw [hwh]
    refine g_istore_n dX11_readStep_10 rfl (by decide) rfl ?_
    refine g_iload_n dX11_readStep_11 rfl rfl rfl ?_
    refine g_iconst (v := -1) dX11_readStep_12 (by decide) rfl ?_
    refine g_icmp_ne (tgt := 22) dX11_readStep_13 (by decide) rfl (fun h_ => absurd (rfl) h_) (fun _ => ?_)
    refine g_aload_n dX11_readStep_16 rfl rfl rfl ?_
    refine g_callVq (ci := 11) dX11_readStep_17 lm_X11_128 mv_X11_fails (r_fails0 (d := d + 4) hx h1) rfl rfl (k100 h1.1.1) rfl rfl (Nat.le_of_ble_eq_true rfl) (gFit_room (by omega)) rfl (fun v M2 hQ => ?_)
    obtain ⟨rfl, hf⟩ := hQ
    refine g_pop dX11_readStep_20 rfl rfl ?_
    exact g_vret dX11_readStep_21 rfl (⟨rfl, (hf1.tr hf.1).k, fun q _ => by rw [hf.1.1.2.2.2 111 (by decide), hf1.1.2.2.2 111 (by decide)], fun z => absurd z Bool.false_ne_true, fun _ => hf.2.ft (show p < 2 ^ 31 by omega)⟩)
  · rw [if_neg hend]
    have hpl : p < L := by omega
    have htp := (h1.1.2.2.2.2.2.2 p hpl).2.2
    have hsg : sgn T L p = nI (T p) := if_pos hpl
    have hle := wkJ_le (T p)
    rw [hsg, sp_wk _ htp, if_pos (show wkJ (T p) < 4 by omega)]
    generalize hj : wkJ (T p) = j at *
    have h2 := h1.at (j := p + 1) (show p + 1 ≤ L by omega)
    have h3 := ((h2.wc (c := 111) (k := row) (v := nI j) (by decide) (by decide)).wc (c := 111) (k := row + 1) (v := -1) (by decide) (by decide)).wc (c := 111) (k := row + 2) (v := -1) (by decide) (by decide)
    have hf3 : kFr (fun q => q = 111) M (gwI (gwI (gwI (gwI M1 100 10 (nI (p + 1))) 111 row (nI j)) 111 (row + 1) (-1)) 111 (row + 2) (-1)) := (((hf1.tr (iFr.put (Or.inl rfl))).k.tr (kFr.wc (S := fun q => q = 111) (c := 111) rfl (by decide))).tr (kFr.wc (S := fun q => q = 111) (c := 111) rfl (by decide))).tr (kFr.wc (S := fun q => q = 111) (c := 111) rfl (by decide))
    have g0 : gmi (gwI (gwI (gwI (gwI M1 100 10 (nI (p + 1))) 111 row (nI j)) 111 (row + 1) (-1)) 111 (row + 2) (-1)) 111 row = nI j := by rw [gmi_I, va_up_ne _ _ (by omega), gmi_I, va_up_ne _ _ (by omega), gmi_I, va_up_self]
    have g1 : gmi (gwI (gwI (gwI (gwI M1 100 10 (nI (p + 1))) 111 row (nI j)) 111 (row + 1) (-1)) 111 (row + 2) (-1)) 111 (row + 1) = -1 := by rw [gmi_I, va_up_ne _ _ (by omega), gmi_I, va_up_self]
    have g2 : gmi (gwI (gwI (gwI (gwI M1 100 10 (nI (p + 1))) 111 row (nI j)) 111 (row + 1) (-1)) 111 (row + 2) (-1)) 111 (row + 2) = -1 := by rw [gmi_I, va_up_self]
    have go : ∀ q, q < row ∨ row + 3 ≤ q → gmi (gwI (gwI (gwI (gwI M1 100 10 (nI (p + 1))) 111 row (nI j)) 111 (row + 1) (-1)) 111 (row + 2) (-1)) 111 q = gmi M 111 q := fun q hq => by rw [gmi_I, va_up_ne _ _ (by omega), gmi_I, va_up_ne _ _ (by omega), gmi_I, va_up_ne _ _ (by omega), gmi_In _ _ _ (by decide), hf1.1.2.2.2 111 (by decide)]
    refine g_istore_n dX11_readStep_10 rfl (by decide) rfl ?_
    refine g_iload_n dX11_readStep_11 rfl rfl rfl ?_
    refine g_iconst (v := -1) dX11_readStep_12 (by decide) rfl ?_
    refine g_icmp_ne (tgt := 22) dX11_readStep_13 (by decide) rfl (fun _ => ?_) (fun h_ => absurd h_ (neg1 (by omega)))
    refine g_aload_n dX11_readStep_22 rfl rfl rfl ?_
    refine g_dup dX11_readStep_23 rfl rfl ?_
    refine g_getI dX11_readStep_24 ff_X11_113 rfl (k100 h1.1.1) rfl ?_
    refine g_iconst (v := 1) dX11_readStep_27 (by decide) rfl ?_
    refine g_iadd dX11_readStep_28 rfl ?_
    rw [h1.2.1, nI_1]
    refine g_putI dX11_readStep_29 fp_X11_113 rfl rfl rfl (k100 h1.1.1) rfl ?_
    refine g_aload_n dX11_readStep_32 rfl rfl rfl ?_
    refine g_getR dX11_readStep_33 ff_X11_55 rfl (k100 (gLay_I h1.1.1)) (r100_24 (gLay_I h1.1.1)) rfl ?_
    refine g_iload_n dX11_readStep_36 rfl rfl rfl ?_
    refine g_iload_n dX11_readStep_37 rfl rfl rfl ?_
    refine g_iast (i := row) dX11_readStep_38 (k111 (gLay_I h1.1.1)) (l111 (gLay_I h1.1.1)) (nI_toInt (by omega)) (by omega) rfl ?_
    refine g_aload_n dX11_readStep_39 rfl rfl rfl ?_
    refine g_getR dX11_readStep_40 ff_X11_55 rfl (k100 (gLay_I (gLay_I h1.1.1))) (r100_24 (gLay_I (gLay_I h1.1.1))) rfl ?_
    refine g_iload_n dX11_readStep_43 rfl rfl rfl ?_
    refine g_iconst (v := 1) dX11_readStep_44 (by decide) rfl ?_
    refine g_iadd dX11_readStep_45 rfl ?_
    rw [nI_1]
    refine g_iconst (v := -1) dX11_readStep_46 (by decide) rfl ?_
    refine g_iast (i := (row + 1)) dX11_readStep_47 (k111 (gLay_I (gLay_I h1.1.1))) (l111 (gLay_I (gLay_I h1.1.1))) (nI_toInt (by omega)) (by omega) rfl ?_
    refine g_aload_n dX11_readStep_48 rfl rfl rfl ?_
    refine g_getR dX11_readStep_49 ff_X11_55 rfl (k100 (gLay_I (gLay_I (gLay_I h1.1.1)))) (r100_24 (gLay_I (gLay_I (gLay_I h1.1.1)))) rfl ?_
    refine g_iload_n dX11_readStep_52 rfl rfl rfl ?_
    refine g_iconst (v := 2) dX11_readStep_53 (by decide) rfl ?_
    refine g_iadd dX11_readStep_54 rfl ?_
    rw [show (2 : Int32) = nI 2 from rfl, nI_add]
    refine g_iconst (v := -1) dX11_readStep_55 (by decide) rfl ?_
    refine g_iast (i := (row + 2)) dX11_readStep_56 (k111 (gLay_I (gLay_I (gLay_I h1.1.1)))) (l111 (gLay_I (gLay_I (gLay_I h1.1.1)))) (nI_toInt (by omega)) (by omega) rfl ?_
    generalize gwI (gwI (gwI (gwI M1 100 10 (nI (p + 1))) 111 row (nI j)) 111 (row + 1) (-1)) 111 (row + 2) (-1) = M2 at *
    by_cases j3 : j = 3
    · rw [if_pos j3]
      subst j3
      refine g_iload_n dX11_readStep_57 rfl rfl rfl ?_
      refine g_iconst (v := 3) dX11_readStep_58 (by decide) rfl ?_
      refine g_icmp_ne (tgt := 63) dX11_readStep_59 (by decide) rfl (fun h_ => absurd (rfl) h_) (fun _ => ?_)
      exact g_vret dX11_readStep_62 rfl (⟨rfl, hf3, go, fun _ => ⟨h3, g0, g1, g2⟩, fun z => absurd rfl z⟩)
    · rw [if_neg j3]
      have hdg := r_digit (d := d + 3) hx h3
      have hdle := digP_le (T := T) (L := L) (i := p + 1) (by omega)
      generalize digP T L (p + 1) = D at *
      refine g_iload_n dX11_readStep_57 rfl rfl rfl ?_
      refine g_iconst (v := 3) dX11_readStep_58 (by decide) rfl ?_
      refine g_icmp_ne (tgt := 63) dX11_readStep_59 (by decide) rfl (fun _ => ?_) (fun h_ => absurd h_ (fun z => absurd ((nI_eq (a := j) (b := 3) (by omega) (by decide)).mp z) j3))
      refine g_aload_n dX11_readStep_63 rfl rfl rfl ?_
      refine g_getR dX11_readStep_64 ff_X11_55 rfl (k100 h3.1.1) (r100_24 h3.1.1) rfl ?_
      refine g_iload_n dX11_readStep_67 rfl rfl rfl ?_
      refine g_iconst (v := 1) dX11_readStep_68 (by decide) rfl ?_
      refine g_iadd dX11_readStep_69 rfl ?_
      rw [nI_1]
      refine g_aload_n dX11_readStep_70 rfl rfl rfl ?_
      refine g_callVq (ci := 11) dX11_readStep_71 lm_X11_260 mv_X11_digit (hdg) rfl rfl (k100 h3.1.1) rfl rfl (Nat.le_of_ble_eq_true rfl) (gFit_room (by omega)) rfl (fun v M4 hQ => ?_)
      obtain ⟨x, rfl, hf4, hok, hno⟩ := hQ
      have hL4 := hf4.1.lay h3.1.1
      have e4 : gmi M4 111 = gmi M2 111 := hf4.1.2.2.2 111 (by decide)
      refine g_iast (i := (row + 1)) dX11_readStep_74 (k111 hL4) (l111 hL4) (nI_toInt (by omega)) (by omega) rfl ?_
      have hf5 : kFr (fun q => q = 111) M (gwI M4 111 (row + 1) x) := (hf3.tr hf4.k).tr (kFr.wc rfl (by decide))
      have go5 : ∀ q, q < row ∨ row + 3 ≤ q → gmi (gwI M4 111 (row + 1) x) 111 q = gmi M 111 q := fun q hq => by rw [gmi_I, va_up_ne _ _ (by omega), e4]; exact go q hq
      have g50 : gmi (gwI M4 111 (row + 1) x) 111 row = nI j := by rw [gmi_I, va_up_ne _ _ (by omega), e4]; exact g0
      have g51 : gmi (gwI M4 111 (row + 1) x) 111 (row + 1) = x := by rw [gmi_I, va_up_self]
      have g52 : gmi (gwI M4 111 (row + 1) x) 111 (row + 2) = -1 := by rw [gmi_I, va_up_ne _ _ (by omega), e4]; exact g2
      have h11 : gmi (gwI M4 111 (row + 1) x) 100 11 = gmi M4 100 11 := by rw [gmi_In _ _ _ (by decide)]
      by_cases hd1 : D.1 = true
      · rw [if_pos hd1]
        obtain ⟨h5a, rfl⟩ := hok hd1
        have h5 := h5a.wc (c := 111) (k := row + 1) (v := nI D.2.2) (by decide) (by decide)
        by_cases j1 : j = 1
        · rw [if_pos j1]
          subst j1
          refine g_aload_n dX11_readStep_75 rfl rfl rfl ?_
          refine g_getI dX11_readStep_76 ff_X11_122 rfl (k100 h5.1.1) rfl ?_
          refine g_iconst (v := -1) dX11_readStep_79 (by decide) rfl ?_
          rw [h5.2.2.2.1]
          refine g_icmp_ne (tgt := 100) dX11_readStep_80 (by decide) rfl (fun h_ => absurd (rfl) h_) (fun _ => ?_)
          refine g_iload_n dX11_readStep_83 rfl rfl rfl ?_
          refine g_iconst (v := 1) dX11_readStep_84 (by decide) rfl ?_
          refine g_icmp_eq (tgt := 100) dX11_readStep_85 (by decide) rfl (fun _ => ?_) (fun h_ => absurd (rfl) h_)
          exact g_vret dX11_readStep_100 rfl (⟨rfl, hf5, go5, fun _ => ⟨h5, g50, g51, g52⟩, fun z => absurd rfl z⟩)
        · rw [if_neg j1]
          have hdg2 := r_digit (d := d + 3) hx h5
          have hdle2 := digP_le (T := T) (L := L) (i := D.2.1) hdle
          generalize digP T L D.2.1 = D2 at *
          generalize gwI M4 111 (row + 1) (nI D.2.2) = M5 at *
          refine g_aload_n dX11_readStep_75 rfl rfl rfl ?_
          refine g_getI dX11_readStep_76 ff_X11_122 rfl (k100 h5.1.1) rfl ?_
          refine g_iconst (v := -1) dX11_readStep_79 (by decide) rfl ?_
          rw [h5.2.2.2.1]
          refine g_icmp_ne (tgt := 100) dX11_readStep_80 (by decide) rfl (fun h_ => absurd (rfl) h_) (fun _ => ?_)
          refine g_iload_n dX11_readStep_83 rfl rfl rfl ?_
          refine g_iconst (v := 1) dX11_readStep_84 (by decide) rfl ?_
          refine g_icmp_eq (tgt := 100) dX11_readStep_85 (by decide) rfl (fun h_ => absurd h_ (fun z => absurd ((nI_eq (a := j) (b := 1) (by omega) (by decide)).mp z) j1)) (fun _ => ?_)
          refine g_aload_n dX11_readStep_88 rfl rfl rfl ?_
          refine g_getR dX11_readStep_89 ff_X11_55 rfl (k100 h5.1.1) (r100_24 h5.1.1) rfl ?_
          refine g_iload_n dX11_readStep_92 rfl rfl rfl ?_
          refine g_iconst (v := 2) dX11_readStep_93 (by decide) rfl ?_
          refine g_iadd dX11_readStep_94 rfl ?_
          rw [show (2 : Int32) = nI 2 from rfl, nI_add]
          refine g_aload_n dX11_readStep_95 rfl rfl rfl ?_
          refine g_callVq (ci := 11) dX11_readStep_96 lm_X11_260 mv_X11_digit (hdg2) rfl rfl (k100 h5.1.1) rfl rfl (Nat.le_of_ble_eq_true rfl) (gFit_room (by omega)) rfl (fun v M6 hQ => ?_)
          obtain ⟨x2, rfl, hf6, hok2, hno2⟩ := hQ
          have hL6 := hf6.1.lay h5.1.1
          have e6 : gmi M6 111 = gmi M5 111 := hf6.1.2.2.2 111 (by decide)
          refine g_iast (i := (row + 2)) dX11_readStep_99 (k111 hL6) (l111 hL6) (nI_toInt (by omega)) (by omega) rfl ?_
          have hf7 : kFr (fun q => q = 111) M (gwI M6 111 (row + 2) x2) := (hf5.tr hf6.k).tr (kFr.wc rfl (by decide))
          have go7 : ∀ q, q < row ∨ row + 3 ≤ q → gmi (gwI M6 111 (row + 2) x2) 111 q = gmi M 111 q := fun q hq => by rw [gmi_I, va_up_ne _ _ (by omega), e6]; exact go5 q hq
          by_cases hd2 : D2.1 = true
          · rw [if_pos hd2]
            obtain ⟨h7a, rfl⟩ := hok2 hd2
            have h7 := h7a.wc (c := 111) (k := row + 2) (v := nI D2.2.2) (by decide) (by decide)
            exact g_vret dX11_readStep_100 rfl ⟨rfl, hf7, go7, fun _ => ⟨h7, by rw [gmi_I, va_up_ne _ _ (by omega), e6]; exact g50, by rw [gmi_I, va_up_ne _ _ (by omega), e6]; exact g51, by rw [gmi_I, va_up_self]⟩, fun z => absurd rfl z⟩
          · rw [if_neg hd2]
            exact g_vret dX11_readStep_100 rfl ⟨rfl, hf7, go7, fun z => absurd z Bool.false_ne_true, fun _ => by rw [gmi_In _ _ _ (by decide)]; exact hno2 hd2⟩
      · rw [if_neg hd1]
        have h4 := hno hd1
        have hL5 : gLay (gwI M4 111 (row + 1) x) := gLay_I hL4
        refine g_aload_n dX11_readStep_75 rfl rfl rfl ?_
        refine g_getI dX11_readStep_76 ff_X11_122 rfl (k100 hL5) rfl ?_
        refine g_iconst (v := -1) dX11_readStep_79 (by decide) rfl ?_
        rw [h11]
        refine g_icmp_ne (tgt := 100) dX11_readStep_80 (by decide) rfl (fun _ => ?_) (fun h_ => absurd h_ (h4.2))
        exact g_vret dX11_readStep_100 rfl (⟨rfl, hf5, go5, fun z => absurd z Bool.false_ne_true, fun _ => by rw [h11]; exact h4⟩)
def scQ : Nat → Prop := fun c => c = 111 ∨ c = 112
theorem scQ6 : ¬ scQ 116 := by unfold scQ; decide
theorem scQ4 : ¬ scQ 104 := by unfold scQ; decide
/-- the week that was read -/
def WkR (M : gM) (n : Nat) (dt : Nat → SD) : Prop := gmi M 112 4 = nI n ∧ n ≤ 16 ∧ ∀ i, i < n → gmi M 111 (3 * (64 + i)) = nI (dt i).1 ∧ gmi M 111 (3 * (64 + i) + 1) = (dt i).2.1 ∧ gmi M 111 (3 * (64 + i) + 2) = (dt i).2.2
/-- the weeks told stay -/
def WkS (M M2 : gM) : Prop := (∀ q, q < 192 → gmi M2 111 q = gmi M 111 q) ∧ ∀ q, q < 4 → gmi M2 112 q = gmi M 112 q
theorem stsP_R (n c : Nat) (dt : Nat → SD) (hb : c = 0 ∨ isS T L i 59 = true) : stsP T L (n + 1) c i dt = if (stepP T L (if c = 0 then i else nxt T L i + 1)).1 = true then stsP T L n (c + 1) (stepP T L (if c = 0 then i else nxt T L i + 1)).2.1 (va_up dt c (stepP T L (if c = 0 then i else nxt T L i + 1)).2.2) else (false, (stepP T L (if c = 0 then i else nxt T L i + 1)).2.1, c, dt) := by
  show (if c = 0 ∨ isS T L i 59 = true then _ else _) = _
  rw [if_pos hb]
set_option maxRecDepth 20000 in
set_option maxHeartbeats 1000000 in
theorem r_readPlan (hx : gXok X) (hZ : gSt X) (hL : gLay M) (hT : TapeR M T L) : gPos X (d + 6) yX11_readPlan cX11_readPlan 3 none [.ref 100] M (fun v M2 => v = none ∧ zFr scQ M M2 ∧ WkS M M2 ∧ gmi M2 100 11 = fl2 T L ∧ (weekOK T L = true → WkR M2 (weekP T L).2.2.1 (weekP T L).2.2.2)) := by
  have h240 := hT.2.1
  have hP0 : (if (stepP T L 0).1 = true then stsP T L 15 1 (stepP T L 0).2.1 (va_up (fun _ => (0, 0, 0)) 0 (stepP T L 0).2.2) else (false, (stepP T L 0).2.1, 0, fun _ => (0, 0, 0))) = weekP T L := (stsP_R (i := 0) 15 0 (fun _ => (0, 0, 0)) (Or.inl rfl)).symm
  obtain ⟨w, hw12⟩ : ∃ w, gmi M 100 12 = nI w := ⟨_, (nI_bv _).symm⟩
  refine gMet.of hx (by decide) (Nat.le_of_ble_eq_true rfl) ?_
  unfold fl2 weekOK weekAt
  generalize hP : weekP T L = P at *
  -- the end behind steps: the row 91
  have end91 : ∀ (M1 : gM) (q c : Nat) (dt : Nat → SD) (x : Int32), PT M1 T L q (-1) w → nxt T L P.2.1 = q → nxt T L q = q → P.1 = true → P.2.2 = (c, dt) → c ≤ 16 → zFr scQ M M1 → WkS M M1 → (∀ i, i < c → gmi M1 111 (3 * (64 + i)) = nI (dt i).1 ∧ gmi M1 111 (3 * (64 + i) + 1) = (dt i).2.1 ∧ gmi M1 111 (3 * (64 + i) + 2) = (dt i).2.2) → gW X (gRoom (d + 6) 0 0) (gZ X gN0 0 0 (fun v M2 => v = none ∧ zFr scQ M M2 ∧ WkS M M2 ∧ gmi M2 100 11 = (if (P.1 && decide (L ≤ nxt T L P.2.1)) = true then -1 else nI (if P.1 = true then nxt T L P.2.1 else P.2.1)) ∧ ((P.1 && decide (L ≤ nxt T L P.2.1)) = true → WkR M2 P.2.2.1 P.2.2.2))) gN0 yX11_readPlan cX11_readPlan 3 none 91 [(0, .ref 100), (1, .int (nI c)), (2, .int x)] [] M1 0 0 := by
    intro M1 q c dt x h1 hq1 hq2 hp1 hp2 hc16 hz1 hs1 hw1
    rw [hp1, Bool.true_and, if_pos rfl, hq1, hp2]
    have hqL := h1.2.2.1
    have h2 := h1.wc (c := 112) (k := 4) (v := nI c) (by decide) (by decide)
    have hz2 : zFr scQ M (gwI M1 112 4 (nI c)) := hz1.tr ((kFr.wc (Or.inr rfl) (by decide)).z scQ6 scQ4)
    have hs2 : WkS M (gwI M1 112 4 (nI c)) := ⟨fun q hq => by rw [gmi_In _ _ _ (by decide)]; exact hs1.1 q hq, fun q hq => by rw [gmi_I, va_up_ne _ _ (by omega)]; exact hs1.2 q hq⟩
    have hr2 : WkR (gwI M1 112 4 (nI c)) c dt := ⟨by rw [gmi_I, va_up_self], hc16, fun i hi => by rw [gmi_In _ _ _ (by decide)]; exact hw1 i hi⟩
    have hlk := r_look (d := d + 5) hx h2
    rw [hq2] at hlk
    refine g_aload_n dX11_readPlan_91 rfl rfl rfl ?_
    refine g_getR dX11_readPlan_92 ff_X11_58 rfl (k100 h1.1.1) (r100_25 h1.1.1) rfl ?_
    refine g_iconst (v := 4) dX11_readPlan_95 (by decide) rfl ?_
    refine g_iload_n dX11_readPlan_96 rfl rfl rfl ?_
    refine g_iast (i := 4) dX11_readPlan_97 (k112 h1.1.1) (l112 h1.1.1) rfl (by decide) rfl ?_
    refine g_aload_n dX11_readPlan_98 rfl rfl rfl ?_
    refine g_callVq (ci := 11) dX11_readPlan_99 lm_X11_132 mv_X11_look (hlk) rfl rfl (k100 h2.1.1) rfl rfl (Nat.le_of_ble_eq_true rfl) (gFit_room (by omega)) rfl (fun v M4 hQ => ?_)
    obtain ⟨rfl, hf4, h4⟩ := hQ
    have hz4 := hz2.tr (hf4.k.z scQ6 scQ4)
    have hs4 : WkS M M4 := ⟨fun q hq => by rw [hf4.1.2.2.2 111 (by decide)]; exact hs2.1 q hq, fun q hq => by rw [hf4.1.2.2.2 112 (by decide)]; exact hs2.2 q hq⟩
    by_cases hlq : L ≤ q
    · rw [decide_eq_true hlq, if_pos rfl, show sgn T L q = -1 from if_neg (by omega)]
      refine g_iconst (v := -1) dX11_readPlan_102 (by decide) rfl ?_
      refine g_icmp_eq (tgt := 111) dX11_readPlan_103 (by decide) rfl (fun _ => ?_) (fun h_ => absurd (rfl) h_)
      exact g_vret dX11_readPlan_111 rfl (⟨rfl, hz4, hs4, h4.2.2.2.1, fun _ => by unfold WkR; rw [hf4.1.2.2.2 111 (by decide), hf4.1.2.2.2 112 (by decide)]; exact hr2⟩)
    · have htp := (h4.1.2.2.2.2.2.2 q (by omega)).2.2
      rw [decide_eq_false hlq, if_neg Bool.false_ne_true, show sgn T L q = nI (T q) from if_pos (by omega)]
      refine g_iconst (v := -1) dX11_readPlan_102 (by decide) rfl ?_
      refine g_icmp_eq (tgt := 111) dX11_readPlan_103 (by decide) rfl (fun h_ => absurd h_ (neg1 (by omega))) (fun _ => ?_)
      refine g_aload_n dX11_readPlan_106 rfl rfl rfl ?_
      refine g_callVq (ci := 11) dX11_readPlan_107 lm_X11_128 mv_X11_fails (r_fails0 (d := d + 5) hx h4) rfl rfl (k100 h4.1.1) rfl rfl (Nat.le_of_ble_eq_true rfl) (gFit_room (by omega)) rfl (fun v M2 hQ => ?_)
      obtain ⟨rfl, hf⟩ := hQ
      refine g_pop dX11_readPlan_110 rfl rfl ?_
      exact g_vret dX11_readPlan_111 rfl (⟨rfl, hz4.tr (hf.1.k.z scQ6 scQ4), ⟨fun q hq => by rw [hf.1.1.2.2.2 111 (by decide)]; exact hs4.1 q hq, fun q hq => by rw [hf.1.1.2.2.2 112 (by decide)]; exact hs4.2 q hq⟩, hf.2.2.2.2.1, fun z => absurd z Bool.false_ne_true⟩)
  have main : ∀ (n c i : Nat) (dt : Nat → SD) (M1 : gM), c + (n + 1) = 16 → PT M1 T L i (-1) w → zFr scQ M M1 → WkS M M1 → (∀ i, i < c → gmi M1 111 (3 * (64 + i)) = nI (dt i).1 ∧ gmi M1 111 (3 * (64 + i) + 1) = (dt i).2.1 ∧ gmi M1 111 (3 * (64 + i) + 2) = (dt i).2.2) → (if (stepP T L i).1 = true then stsP T L n (c + 1) (stepP T L i).2.1 (va_up dt c (stepP T L i).2.2) else (false, (stepP T L i).2.1, c, dt)) = P → gW X (gRoom (d + 6) 0 0) (gZ X gN0 0 0 (fun v M2 => v = none ∧ zFr scQ M M2 ∧ WkS M M2 ∧ gmi M2 100 11 = (if (P.1 && decide (L ≤ nxt T L P.2.1)) = true then -1 else nI (if P.1 = true then nxt T L P.2.1 else P.2.1)) ∧ ((P.1 && decide (L ≤ nxt T L P.2.1)) = true → WkR M2 P.2.2.1 P.2.2.2))) gN0 yX11_readPlan cX11_readPlan 3 none 17 [(0, .ref 100), (1, .int (nI c)), (2, .int 1)] [] M1 0 0 := by
    intro n
    induction n with
    | zero =>
      intro c i dt M1 hcn h1 hz1 hs1 hw1 hPe
      have hc15 : c = 15 := by omega
      subst hc15
      have hst := r_readStep (d := d) (row := 3 * (64 + 15)) hx hZ h1 (by decide)
      refine g_iload_n dX11_readPlan_17 rfl rfl rfl ?_
      refine g_if_eq (tgt := 91) dX11_readPlan_18 (by decide) rfl (fun h_ => absurd h_ (by decide)) (fun _ => ?_)
      refine g_aload_n dX11_readPlan_21 rfl rfl rfl ?_
      refine g_iconst (v := 3) dX11_readPlan_22 (by decide) rfl ?_
      refine g_bipush (v := 64) dX11_readPlan_23 (by decide) rfl ?_
      refine g_iload_n dX11_readPlan_25 rfl rfl rfl ?_
      refine g_iadd dX11_readPlan_26 rfl ?_
      refine g_imul dX11_readPlan_27 rfl ?_
      rw [show (3 : Int32) * (64 + nI 15) = nI (3 * (64 + 15)) from rfl]
      refine g_callVq (ci := 11) dX11_readPlan_28 lm_X11_263 mv_X11_readStep (hst) rfl rfl (k100 h1.1.1) rfl rfl (Nat.le_of_ble_eq_true rfl) (gFit_room (by omega)) rfl (fun v M3 hQ => ?_)
      obtain ⟨rfl, hf3, ho3, hy3, hn3⟩ := hQ
      have hz3 := hz1.tr ((hf3.mono (fun q e => Or.inl e)).z scQ6 scQ4)
      have hL3 := hf3.1.lay h1.1.1
      have hs3 : WkS M M3 := ⟨fun q hq => by rw [ho3 q (by omega)]; exact hs1.1 q hq, fun q hq => by rw [hf3.1.2.2.2 112 (by decide)]; exact hs1.2 q hq⟩
      by_cases hr : (stepP T L i).1 = true
      · obtain ⟨h4, v0, v1, v2⟩ := hy3 hr
        rw [if_pos hr] at hPe
        have hPe2 : (true, (stepP T L i).2.1, 16, va_up dt 15 (stepP T L i).2.2) = P := hPe
        have hp1 : P.1 = true := by rw [← hPe2]
        have hp2 : P.2.1 = (stepP T L i).2.1 := by rw [← hPe2]
        have hp3 : P.2.2 = (16, va_up dt 15 (stepP T L i).2.2) := by rw [← hPe2]
        generalize (stepP T L i).2.1 = e at *
        generalize (stepP T L i).2.2 = sd at *
        have hw3 : ∀ i, i < 16 → gmi M3 111 (3 * (64 + i)) = nI (va_up dt 15 sd i).1 ∧ gmi M3 111 (3 * (64 + i) + 1) = (va_up dt 15 sd i).2.1 ∧ gmi M3 111 (3 * (64 + i) + 2) = (va_up dt 15 sd i).2.2 := fun q hq => by
          by_cases e1 : q = 15
          · subst e1; rw [va_up_self]; exact ⟨v0, v1, v2⟩
          · rw [va_up_ne _ _ e1, ho3 _ (by omega), ho3 _ (by omega), ho3 _ (by omega)]; exact hw1 q (by omega)
        refine g_aload_n dX11_readPlan_31 rfl rfl rfl ?_
        refine g_getI dX11_readPlan_32 ff_X11_122 rfl (k100 hL3) rfl ?_
        refine g_iconst (v := -1) dX11_readPlan_35 (by decide) rfl ?_
        rw [h4.2.2.2.1]
        refine g_icmp_eq (tgt := 40) dX11_readPlan_36 (by decide) rfl (fun _ => ?_) (fun h_ => absurd (rfl) h_)
        refine g_iincV (c := 1) dX11_readPlan_40 rfl (by decide) (by decide) rfl ?_
        refine g_aload_n dX11_readPlan_43 rfl rfl rfl ?_
        refine g_callVq (ci := 11) dX11_readPlan_44 lm_X11_132 mv_X11_look (r_look (d := d + 5) hx h4) rfl rfl (k100 h4.1.1) rfl rfl (Nat.le_of_ble_eq_true rfl) (gFit_room (by omega)) rfl (fun v M5 hQ => ?_)
        obtain ⟨rfl, hf5, h5⟩ := hQ
        have hz5 := hz3.tr (hf5.k.z scQ6 scQ4)
        have hs5 : WkS M M5 := ⟨fun q hq => by rw [hf5.1.2.2.2 111 (by decide)]; exact hs3.1 q hq, fun q hq => by rw [hf5.1.2.2.2 112 (by decide)]; exact hs3.2 q hq⟩
        have hw5 : ∀ i, i < 16 → gmi M5 111 (3 * (64 + i)) = nI (va_up dt 15 sd i).1 ∧ gmi M5 111 (3 * (64 + i) + 1) = (va_up dt 15 sd i).2.1 ∧ gmi M5 111 (3 * (64 + i) + 2) = (va_up dt 15 sd i).2.2 := fun q hq => by rw [hf5.1.2.2.2 111 (by decide)]; exact hw3 q hq
        have hsg := h5.sg (j := nxt T L e) (c := 59) (by decide)
        by_cases h59 : sgn T L (nxt T L e) = 59
        · have hlt := (hsg.mp h59).1
          rw [hp1, Bool.true_and, hp2, decide_eq_false (show ¬ L ≤ nxt T L e by omega), if_neg Bool.false_ne_true, if_pos rfl, h59]
          refine g_bipush (v := 59) dX11_readPlan_47 (by decide) rfl ?_
          refine g_icmp_ne (tgt := 56) dX11_readPlan_49 (by decide) rfl (fun h_ => absurd (rfl) h_) (fun _ => ?_)
          refine g_iconst (v := 1) dX11_readPlan_52 (by decide) rfl ?_
          refine g_goto (tgt := 57) dX11_readPlan_53 (by decide) ?_
          refine g_istore_n dX11_readPlan_57 rfl (by decide) rfl ?_
          refine g_iload_n dX11_readPlan_58 rfl rfl rfl ?_
          refine g_if_eq (tgt := 74) dX11_readPlan_59 (by decide) rfl (fun h_ => absurd h_ (by decide)) (fun _ => ?_)
          refine g_iload_n dX11_readPlan_62 rfl rfl rfl ?_
          refine g_bipush (v := 16) dX11_readPlan_63 (by decide) rfl ?_
          refine g_icmp_ne (tgt := 74) dX11_readPlan_65 (by decide) rfl (fun h_ => absurd (rfl) h_) (fun _ => ?_)
          refine g_aload_n dX11_readPlan_68 rfl rfl rfl ?_
          refine g_callVq (ci := 11) dX11_readPlan_69 lm_X11_128 mv_X11_fails (r_fails0 (d := d + 5) hx h5) rfl rfl (k100 h5.1.1) rfl rfl (Nat.le_of_ble_eq_true rfl) (gFit_room (by omega)) rfl (fun v M2 hQ => ?_)
          obtain ⟨rfl, hf⟩ := hQ
          refine g_pop dX11_readPlan_72 rfl rfl ?_
          exact g_vret dX11_readPlan_73 rfl (⟨rfl, hz5.tr (hf.1.k.z scQ6 scQ4), ⟨fun q hq => by rw [hf.1.1.2.2.2 111 (by decide)]; exact hs5.1 q hq, fun q hq => by rw [hf.1.1.2.2.2 112 (by decide)]; exact hs5.2 q hq⟩, hf.2.2.2.2.1, fun z => absurd z Bool.false_ne_true⟩)
        · refine g_bipush (v := 59) dX11_readPlan_47 (by decide) rfl ?_
          refine g_icmp_ne (tgt := 56) dX11_readPlan_49 (by decide) rfl (fun _ => ?_) (fun h_ => absurd h_ (h59))
          refine g_iconst (v := 0) dX11_readPlan_56 (by decide) rfl ?_
          refine g_istore_n dX11_readPlan_57 rfl (by decide) rfl ?_
          refine g_iload_n dX11_readPlan_58 rfl rfl rfl ?_
          refine g_if_eq (tgt := 74) dX11_readPlan_59 (by decide) rfl (fun _ => ?_) (fun h_ => absurd (rfl) h_)
          refine g_iload_n dX11_readPlan_74 rfl rfl rfl ?_
          refine g_if_eq (tgt := 17) dX11_readPlan_75 (by decide) rfl (fun _ => ?_) (fun h_ => absurd (rfl) h_)
          refine g_iload_n dX11_readPlan_17 rfl rfl rfl ?_
          refine g_if_eq (tgt := 91) dX11_readPlan_18 (by decide) rfl (fun _ => ?_) (fun h_ => absurd (rfl) h_)
          exact g_go (end91 M5 (nxt T L e) 16 (va_up dt 15 sd) 0 h5 (by rw [hp2]) nxt_nxt hp1 hp3 (by decide) hz5 hs5 hw5) ⟨rfl, rfl, rfl, trivial⟩
      · have h4 := hn3 hr
        rw [if_neg hr] at hPe
        have hp1 : P.1 = false := by rw [← hPe]
        have hp2 : P.2.1 = (stepP T L i).2.1 := by rw [← hPe]
        rw [hp1, Bool.false_and, if_neg Bool.false_ne_true, if_neg Bool.false_ne_true]
        refine g_aload_n dX11_readPlan_31 rfl rfl rfl ?_
        refine g_getI dX11_readPlan_32 ff_X11_122 rfl (k100 hL3) rfl ?_
        refine g_iconst (v := -1) dX11_readPlan_35 (by decide) rfl ?_
        refine g_icmp_eq (tgt := 40) dX11_readPlan_36 (by decide) rfl (fun h_ => absurd h_ (h4.2)) (fun _ => ?_)
        exact g_vret dX11_readPlan_39 rfl (⟨rfl, hz3, hs3, by rw [hp2]; exact h4.1, fun z => absurd z Bool.false_ne_true⟩)
    | succ n ih =>
      intro c i dt M1 hcn h1 hz1 hs1 hw1 hPe
      have hst := r_readStep (d := d) (row := 3 * (64 + c)) hx hZ h1 (by omega)
      refine g_iload_n dX11_readPlan_17 rfl rfl rfl ?_
      refine g_if_eq (tgt := 91) dX11_readPlan_18 (by decide) rfl (fun h_ => absurd h_ (by decide)) (fun _ => ?_)
      refine g_aload_n dX11_readPlan_21 rfl rfl rfl ?_
      refine g_iconst (v := 3) dX11_readPlan_22 (by decide) rfl ?_
      refine g_bipush (v := 64) dX11_readPlan_23 (by decide) rfl ?_
      refine g_iload_n dX11_readPlan_25 rfl rfl rfl ?_
      refine g_iadd dX11_readPlan_26 rfl ?_
      refine g_imul dX11_readPlan_27 rfl ?_
      rw [show (3 : Int32) = nI 3 from rfl, show (64 : Int32) = nI 64 from rfl, nI_add, pk_mul]
      refine g_callVq (ci := 11) dX11_readPlan_28 lm_X11_263 mv_X11_readStep (hst) rfl rfl (k100 h1.1.1) rfl rfl (Nat.le_of_ble_eq_true rfl) (gFit_room (by omega)) rfl (fun v M3 hQ => ?_)
      obtain ⟨rfl, hf3, ho3, hy3, hn3⟩ := hQ
      have hz3 := hz1.tr ((hf3.mono (fun q e => Or.inl e)).z scQ6 scQ4)
      have hL3 := hf3.1.lay h1.1.1
      have hs3 : WkS M M3 := ⟨fun q hq => by rw [ho3 q (by omega)]; exact hs1.1 q hq, fun q hq => by rw [hf3.1.2.2.2 112 (by decide)]; exact hs1.2 q hq⟩
      by_cases hr : (stepP T L i).1 = true
      · obtain ⟨h4, v0, v1, v2⟩ := hy3 hr
        rw [if_pos hr] at hPe
        generalize (stepP T L i).2.1 = e at *
        generalize (stepP T L i).2.2 = sd at *
        have hw3 : ∀ i, i < c + 1 → gmi M3 111 (3 * (64 + i)) = nI (va_up dt c sd i).1 ∧ gmi M3 111 (3 * (64 + i) + 1) = (va_up dt c sd i).2.1 ∧ gmi M3 111 (3 * (64 + i) + 2) = (va_up dt c sd i).2.2 := fun q hq => by
          by_cases e1 : q = c
          · subst e1; rw [va_up_self]; exact ⟨v0, v1, v2⟩
          · rw [va_up_ne _ _ e1, ho3 _ (by omega), ho3 _ (by omega), ho3 _ (by omega)]; exact hw1 q (by omega)
        refine g_aload_n dX11_readPlan_31 rfl rfl rfl ?_
        refine g_getI dX11_readPlan_32 ff_X11_122 rfl (k100 hL3) rfl ?_
        refine g_iconst (v := -1) dX11_readPlan_35 (by decide) rfl ?_
        rw [h4.2.2.2.1]
        refine g_icmp_eq (tgt := 40) dX11_readPlan_36 (by decide) rfl (fun _ => ?_) (fun h_ => absurd (rfl) h_)
        refine g_iincV (c := 1) dX11_readPlan_40 rfl (by decide) (by decide) rfl ?_
        rw [nI_1]
        refine g_aload_n dX11_readPlan_43 rfl rfl rfl ?_
        refine g_callVq (ci := 11) dX11_readPlan_44 lm_X11_132 mv_X11_look (r_look (d := d + 5) hx h4) rfl rfl (k100 h4.1.1) rfl rfl (Nat.le_of_ble_eq_true rfl) (gFit_room (by omega)) rfl (fun v M5 hQ => ?_)
        obtain ⟨rfl, hf5, h5⟩ := hQ
        have hz5 := hz3.tr (hf5.k.z scQ6 scQ4)
        have hs5 : WkS M M5 := ⟨fun q hq => by rw [hf5.1.2.2.2 111 (by decide)]; exact hs3.1 q hq, fun q hq => by rw [hf5.1.2.2.2 112 (by decide)]; exact hs3.2 q hq⟩
        have hw5 : ∀ i, i < c + 1 → gmi M5 111 (3 * (64 + i)) = nI (va_up dt c sd i).1 ∧ gmi M5 111 (3 * (64 + i) + 1) = (va_up dt c sd i).2.1 ∧ gmi M5 111 (3 * (64 + i) + 2) = (va_up dt c sd i).2.2 := fun q hq => by rw [hf5.1.2.2.2 111 (by decide)]; exact hw3 q hq
        by_cases hs : isS T L e 59 = true
        · have h59 : sgn T L (nxt T L e) = 59 := (h4.is (c := 59) (by decide)).mp hs
          have hlt := ((h4.sg (j := nxt T L e) (c := 59) (by decide)).mp h59).1
          rw [stsP_R n (c + 1) _ (Or.inr hs), if_neg (show ¬ c + 1 = 0 by omega)] at hPe
          have h9 := h5.at (j := nxt T L e + 1) (show nxt T L e + 1 ≤ L by omega)
          rw [h59]
          refine g_bipush (v := 59) dX11_readPlan_47 (by decide) rfl ?_
          refine g_icmp_ne (tgt := 56) dX11_readPlan_49 (by decide) rfl (fun h_ => absurd (rfl) h_) (fun _ => ?_)
          refine g_iconst (v := 1) dX11_readPlan_52 (by decide) rfl ?_
          refine g_goto (tgt := 57) dX11_readPlan_53 (by decide) ?_
          refine g_istore_n dX11_readPlan_57 rfl (by decide) rfl ?_
          refine g_iload_n dX11_readPlan_58 rfl rfl rfl ?_
          refine g_if_eq (tgt := 74) dX11_readPlan_59 (by decide) rfl (fun h_ => absurd h_ (by decide)) (fun _ => ?_)
          refine g_iload_n dX11_readPlan_62 rfl rfl rfl ?_
          refine g_bipush (v := 16) dX11_readPlan_63 (by decide) rfl ?_
          refine g_icmp_ne (tgt := 74) dX11_readPlan_65 (by decide) rfl (fun _ => ?_) (fun h_ => absurd h_ (fun z => absurd ((nI_eq (a := c + 1) (b := 16) (by omega) (by decide)).mp z) (by omega)))
          refine g_iload_n dX11_readPlan_74 rfl rfl rfl ?_
          refine g_if_eq (tgt := 17) dX11_readPlan_75 (by decide) rfl (fun h_ => absurd h_ (by decide)) (fun _ => ?_)
          refine g_aload_n dX11_readPlan_78 rfl rfl rfl ?_
          refine g_dup dX11_readPlan_79 rfl rfl ?_
          refine g_getI dX11_readPlan_80 ff_X11_113 rfl (k100 h5.1.1) rfl ?_
          refine g_iconst (v := 1) dX11_readPlan_83 (by decide) rfl ?_
          refine g_iadd dX11_readPlan_84 rfl ?_
          rw [h5.2.1, nI_1]
          refine g_putI dX11_readPlan_85 fp_X11_113 rfl rfl rfl (k100 h5.1.1) rfl ?_
          refine g_goto (tgt := 17) dX11_readPlan_88 (by decide) ?_
          exact g_go (ih (c + 1) (nxt T L e + 1) (va_up dt c sd) _ (by omega) h9 (hz5.tr ((iFr.put (Or.inl rfl)).k.z scQ6 scQ4)) ⟨fun q hq => by rw [gmi_In _ _ _ (by decide)]; exact hs5.1 q hq, fun q hq => by rw [gmi_In _ _ _ (by decide)]; exact hs5.2 q hq⟩ (fun q hq => by rw [gmi_In _ _ _ (by decide)]; exact hw5 q hq) hPe) ⟨rfl, rfl, rfl, trivial⟩
        · have h59 : ¬ sgn T L (nxt T L e) = 59 := fun z => hs ((h4.is (c := 59) (by decide)).mpr z)
          have hPe2 : (true, nxt T L e, c + 1, va_up dt c sd) = P := by
            rw [← hPe]
            show _ = (if c + 1 = 0 ∨ isS T L e 59 = true then _ else _)
            rw [if_neg (fun z => z.elim (by omega) hs)]
          have hp1 : P.1 = true := by rw [← hPe2]
          have hp2 : P.2.1 = nxt T L e := by rw [← hPe2]
          have hp3 : P.2.2 = (c + 1, va_up dt c sd) := by rw [← hPe2]
          refine g_bipush (v := 59) dX11_readPlan_47 (by decide) rfl ?_
          refine g_icmp_ne (tgt := 56) dX11_readPlan_49 (by decide) rfl (fun _ => ?_) (fun h_ => absurd h_ (h59))
          refine g_iconst (v := 0) dX11_readPlan_56 (by decide) rfl ?_
          refine g_istore_n dX11_readPlan_57 rfl (by decide) rfl ?_
          refine g_iload_n dX11_readPlan_58 rfl rfl rfl ?_
          refine g_if_eq (tgt := 74) dX11_readPlan_59 (by decide) rfl (fun _ => ?_) (fun h_ => absurd (rfl) h_)
          refine g_iload_n dX11_readPlan_74 rfl rfl rfl ?_
          refine g_if_eq (tgt := 17) dX11_readPlan_75 (by decide) rfl (fun _ => ?_) (fun h_ => absurd (rfl) h_)
          refine g_iload_n dX11_readPlan_17 rfl rfl rfl ?_
          refine g_if_eq (tgt := 91) dX11_readPlan_18 (by decide) rfl (fun _ => ?_) (fun h_ => absurd (rfl) h_)
          exact g_go (end91 M5 (nxt T L e) (c + 1) (va_up dt c sd) 0 h5 (by rw [hp2]; exact nxt_nxt) nxt_nxt hp1 hp3 (by omega) hz5 hs5 hw5) ⟨rfl, rfl, rfl, trivial⟩
      · have h4 := hn3 hr
        rw [if_neg hr] at hPe
        have hp1 : P.1 = false := by rw [← hPe]
        have hp2 : P.2.1 = (stepP T L i).2.1 := by rw [← hPe]
        rw [hp1, Bool.false_and, if_neg Bool.false_ne_true, if_neg Bool.false_ne_true]
        refine g_aload_n dX11_readPlan_31 rfl rfl rfl ?_
        refine g_getI dX11_readPlan_32 ff_X11_122 rfl (k100 hL3) rfl ?_
        refine g_iconst (v := -1) dX11_readPlan_35 (by decide) rfl ?_
        refine g_icmp_eq (tgt := 40) dX11_readPlan_36 (by decide) rfl (fun h_ => absurd h_ (h4.2)) (fun _ => ?_)
        exact g_vret dX11_readPlan_39 rfl (⟨rfl, hz3, hs3, by rw [hp2]; exact h4.1, fun z => absurd z Bool.false_ne_true⟩)
  refine g_aload_n dX11_readPlan_0 rfl rfl rfl ?_
  refine g_aload_n dX11_readPlan_1 rfl rfl rfl ?_
  refine g_getR dX11_readPlan_2 ff_X11_9 rfl (k100 hL) (r100_1 hL) rfl ?_
  refine g_iconst (v := 0) dX11_readPlan_5 (by decide) rfl ?_
  refine g_aload_n dX11_readPlan_6 rfl rfl rfl ?_
  refine g_getI dX11_readPlan_7 ff_X11_103 rfl (k100 hL) rfl ?_
  rw [hT.1]
  refine g_callVq (ci := 11) dX11_readPlan_10 lm_X11_201 mv_X11_starts (r_starts (d := d + 5) hx hL (hT.tx hL)) rfl rfl (k100 hL) rfl rfl (Nat.le_of_ble_eq_true rfl) (gFit_room (by omega)) rfl (fun v M2 hQ => ?_)
  obtain ⟨rfl, hF1, hRS, e10, e11, e12, -, -, -⟩ := hQ
  have hp2 : PT M2 T L 0 (-1) w := ⟨hRS, e10, Nat.zero_le _, e11, e12.trans hw12⟩
  refine g_iconst (v := 0) dX11_readPlan_13 (by decide) rfl ?_
  refine g_istore_n dX11_readPlan_14 rfl (by decide) rfl ?_
  refine g_iconst (v := 1) dX11_readPlan_15 (by decide) rfl ?_
  refine g_istore_n dX11_readPlan_16 rfl (by decide) rfl ?_
  exact g_go (main 15 0 0 (fun _ => (0, 0, 0)) M2 rfl hp2 hF1.z ⟨fun q _ => by rw [hF1.2.2.2.2.1 111 (by decide)], fun q _ => by rw [hF1.2.2.2.2.1 112 (by decide)]⟩ (fun q hq => absurd hq (by omega)) hP0) ⟨rfl, rfl, rfl, trivial⟩
end H28
