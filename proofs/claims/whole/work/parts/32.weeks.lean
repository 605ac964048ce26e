section W0
variable {X : gX} {M : gM} {d : Nat}
/-- a week's cells -/
def WkAt (M : gM) (a : Nat) : Prop := gkd M a = 10 ∧ (gkd M (a + 1) = 32 ∧ gln M (a + 1) = 16) ∧ (gkd M (a + 2) = 32 ∧ gln M (a + 2) = 16) ∧ (gkd M (a + 3) = 32 ∧ gln M (a + 3) = 16) ∧ gmr M a 0 = some (a + 1) ∧ gmr M a 1 = some (a + 2) ∧ gmr M a 2 = some (a + 3)
theorem WkAt_fr {S : Nat → Prop} {M2 : gM} {a : Nat} (h : gFr S M M2) (hw : WkAt M a) : WkAt M2 a := by
  unfold WkAt at hw ⊢
  rw [(h.1 a).1, (h.1 (a + 1)).1, (h.1 (a + 1)).2, (h.1 (a + 2)).1, (h.1 (a + 2)).2, (h.1 (a + 3)).1, (h.1 (a + 3)).2, h.2.1]
  exact hw
/-- whether a step can be -/
def stepB (M : gM) (r a i : Nat) : Bool := if gmi M (a + 1) i = 0 then decide (mayTake M r (gmi M (a + 2) i) (gmi M (a + 3) i)) else if gmi M (a + 1) i = 1 then decide (mayGo M r (gmi M (a + 2) i)) else if gmi M (a + 1) i = 2 then decide (mayAtone M r (gmi M (a + 2) i) (gmi M (a + 3) i)) else decide (mayDay M r)
set_option maxRecDepth 20000 in
theorem c_mayStep_now (hx : gXok X) (hL : gLay M) (hT : TownOK M) {a i : Nat} (hw : WkAt M a) (hi : i < 16) : gDet X (d + 3) yX10_mayTakeStep cX10_mayTakeStep 4 (some .boolean) [.ref 0, .ref 24, .ref a, .int (nI i)] M (some (.int (ib (stepB M 25 a i = true)))) M := by
  obtain ⟨k_a, ⟨k_a1, l_a1⟩, ⟨k_a2, l_a2⟩, ⟨k_a3, l_a3⟩, r_a_0, r_a_1, r_a_2⟩ := hw
  refine gMet.of hx (by decide) (Nat.le_of_ble_eq_true rfl) ?_
  unfold stepB
  refine g_aload_n dX10_mayTakeStep_0 rfl rfl rfl ?_
  refine g_getR dX10_mayTakeStep_1 ff_X10_302 rfl (k_a) (r_a_0) rfl ?_
  refine g_iload_n dX10_mayTakeStep_4 rfl rfl rfl ?_
  refine g_iald (i := i) dX10_mayTakeStep_5 (k_a1) (l_a1) (by (try simp only [nI_lit, pk_mul, nI_add, Nat.zero_add]); exact nI_toInt (by omega)) (by omega) rfl ?_
  by_cases e6_0 : gmi M (a + 1) i = 0
  · rw [e6_0]
    refine g_tableIn (off := 26) (tgt := 32) dX10_mayTakeStep_6 (by decide) (by decide) (by decide) (by decide) ?_
    refine g_aload_n dX10_mayTakeStep_32 rfl rfl rfl ?_
    refine g_aload_n dX10_mayTakeStep_33 rfl rfl rfl ?_
    refine g_getR dX10_mayTakeStep_34 ff_X10_305 rfl (k_a) (r_a_1) rfl ?_
    refine g_iload_n dX10_mayTakeStep_37 rfl rfl rfl ?_
    refine g_iald (i := i) dX10_mayTakeStep_38 (k_a2) (l_a2) (by (try simp only [nI_lit, pk_mul, nI_add, Nat.zero_add]); exact nI_toInt (by omega)) (by omega) rfl ?_
    refine g_aload_n dX10_mayTakeStep_39 rfl rfl rfl ?_
    refine g_getR dX10_mayTakeStep_40 ff_X10_307 rfl (k_a) (r_a_2) rfl ?_
    refine g_iload_n dX10_mayTakeStep_43 rfl rfl rfl ?_
    refine g_iald (i := i) dX10_mayTakeStep_44 (k_a3) (l_a3) (by (try simp only [nI_lit, pk_mul, nI_add, Nat.zero_add]); exact nI_toInt (by omega)) (by omega) rfl ?_
    refine g_callVdi (ci := 4) dX10_mayTakeStep_45 lm_X10_204 mv_X4_mayTakeOn (c_mayTakeOn_now (d := d) hx hL hT) rfl rfl (k24 hL) rfl rfl (Nat.le_of_ble_eq_true rfl) (gFit_room (by omega)) rfl ?_
    exact g_iret dX10_mayTakeStep_48 rfl (by first | rfl | exact b01) (⟨by first | rfl | assumption | exact gFr.rf | grind [ib], by first | rfl | assumption | exact gFr.rf | grind [ib]⟩)
  by_cases e6_1 : gmi M (a + 1) i = 1
  · rw [e6_1]
    refine g_tableIn (off := 43) (tgt := 49) dX10_mayTakeStep_6 (by decide) (by decide) (by decide) (by decide) ?_
    refine g_aload_n dX10_mayTakeStep_49 rfl rfl rfl ?_
    refine g_aload_n dX10_mayTakeStep_50 rfl rfl rfl ?_
    refine g_getR dX10_mayTakeStep_51 ff_X10_305 rfl (k_a) (r_a_1) rfl ?_
    refine g_iload_n dX10_mayTakeStep_54 rfl rfl rfl ?_
    refine g_iald (i := i) dX10_mayTakeStep_55 (k_a2) (l_a2) (by (try simp only [nI_lit, pk_mul, nI_add, Nat.zero_add]); exact nI_toInt (by omega)) (by omega) rfl ?_
    refine g_callVdi (ci := 4) dX10_mayTakeStep_56 lm_X10_232 mv_X4_mayGo (c_mayGo_now (d := d) hx hL) rfl rfl (k24 hL) rfl rfl (Nat.le_of_ble_eq_true rfl) (gFit_room (by omega)) rfl ?_
    exact g_iret dX10_mayTakeStep_59 rfl (by first | rfl | exact b01) (⟨by first | rfl | assumption | exact gFr.rf | grind [ib], by first | rfl | assumption | exact gFr.rf | grind [ib]⟩)
  by_cases e6_2 : gmi M (a + 1) i = 2
  · rw [e6_2]
    refine g_tableIn (off := 54) (tgt := 60) dX10_mayTakeStep_6 (by decide) (by decide) (by decide) (by decide) ?_
    refine g_aload_n dX10_mayTakeStep_60 rfl rfl rfl ?_
    refine g_aload_n dX10_mayTakeStep_61 rfl rfl rfl ?_
    refine g_getR dX10_mayTakeStep_62 ff_X10_305 rfl (k_a) (r_a_1) rfl ?_
    refine g_iload_n dX10_mayTakeStep_65 rfl rfl rfl ?_
    refine g_iald (i := i) dX10_mayTakeStep_66 (k_a2) (l_a2) (by (try simp only [nI_lit, pk_mul, nI_add, Nat.zero_add]); exact nI_toInt (by omega)) (by omega) rfl ?_
    refine g_aload_n dX10_mayTakeStep_67 rfl rfl rfl ?_
    refine g_getR dX10_mayTakeStep_68 ff_X10_307 rfl (k_a) (r_a_2) rfl ?_
    refine g_iload_n dX10_mayTakeStep_71 rfl rfl rfl ?_
    refine g_iald (i := i) dX10_mayTakeStep_72 (k_a3) (l_a3) (by (try simp only [nI_lit, pk_mul, nI_add, Nat.zero_add]); exact nI_toInt (by omega)) (by omega) rfl ?_
    refine g_callVdi (ci := 4) dX10_mayTakeStep_73 lm_X10_226 mv_X4_mayAtoneFor (c_mayAtoneFor_now (d := d) hx hL hT) rfl rfl (k24 hL) rfl rfl (Nat.le_of_ble_eq_true rfl) (gFit_room (by omega)) rfl ?_
    exact g_iret dX10_mayTakeStep_76 rfl (by first | rfl | exact b01) (⟨by first | rfl | assumption | exact gFr.rf | grind [ib], by first | rfl | assumption | exact gFr.rf | grind [ib]⟩)
  refine g_tableOut (tgt := 77) dX10_mayTakeStep_6 (swo 0 3 (by decide) (fun k hk => match k, hk with | 0, _ => e6_0 | 1, _ => e6_1 | 2, _ => e6_2 | (k + 3), hk => absurd hk (by omega))) (by decide) ?_
  refine g_aload_n dX10_mayTakeStep_77 rfl rfl rfl ?_
  refine g_callVdi (ci := 4) dX10_mayTakeStep_78 lm_X10_260 mv_X4_mayPassDay (c_mayPassDay_now (d := d) hx hL) rfl rfl (k24 hL) rfl rfl (Nat.le_of_ble_eq_true rfl) (gFit_room (by omega)) rfl ?_
  exact g_iret dX10_mayTakeStep_81 rfl (by first | rfl | exact b01) (⟨by first | rfl | assumption | exact gFr.rf | grind [ib], by first | rfl | assumption | exact gFr.rf | grind [ib]⟩)
set_option maxRecDepth 20000 in
theorem c_mayStep_trial (hx : gXok X) (hL : gLay M) (hT : TownOK M) {a i : Nat} (hw : WkAt M a) (hi : i < 16) : gDet X (d + 3) yX10_mayTakeStep cX10_mayTakeStep 4 (some .boolean) [.ref 0, .ref 27, .ref a, .int (nI i)] M (some (.int (ib (stepB M 28 a i = true)))) M := by
  obtain ⟨k_a, ⟨k_a1, l_a1⟩, ⟨k_a2, l_a2⟩, ⟨k_a3, l_a3⟩, r_a_0, r_a_1, r_a_2⟩ := hw
  refine gMet.of hx (by decide) (Nat.le_of_ble_eq_true rfl) ?_
  unfold stepB
  refine g_aload_n dX10_mayTakeStep_0 rfl rfl rfl ?_
  refine g_getR dX10_mayTakeStep_1 ff_X10_302 rfl (k_a) (r_a_0) rfl ?_
  refine g_iload_n dX10_mayTakeStep_4 rfl rfl rfl ?_
  refine g_iald (i := i) dX10_mayTakeStep_5 (k_a1) (l_a1) (by (try simp only [nI_lit, pk_mul, nI_add, Nat.zero_add]); exact nI_toInt (by omega)) (by omega) rfl ?_
  by_cases e6_0 : gmi M (a + 1) i = 0
  · rw [e6_0]
    refine g_tableIn (off := 26) (tgt := 32) dX10_mayTakeStep_6 (by decide) (by decide) (by decide) (by decide) ?_
    refine g_aload_n dX10_mayTakeStep_32 rfl rfl rfl ?_
    refine g_aload_n dX10_mayTakeStep_33 rfl rfl rfl ?_
    refine g_getR dX10_mayTakeStep_34 ff_X10_305 rfl (k_a) (r_a_1) rfl ?_
    refine g_iload_n dX10_mayTakeStep_37 rfl rfl rfl ?_
    refine g_iald (i := i) dX10_mayTakeStep_38 (k_a2) (l_a2) (by (try simp only [nI_lit, pk_mul, nI_add, Nat.zero_add]); exact nI_toInt (by omega)) (by omega) rfl ?_
    refine g_aload_n dX10_mayTakeStep_39 rfl rfl rfl ?_
    refine g_getR dX10_mayTakeStep_40 ff_X10_307 rfl (k_a) (r_a_2) rfl ?_
    refine g_iload_n dX10_mayTakeStep_43 rfl rfl rfl ?_
    refine g_iald (i := i) dX10_mayTakeStep_44 (k_a3) (l_a3) (by (try simp only [nI_lit, pk_mul, nI_add, Nat.zero_add]); exact nI_toInt (by omega)) (by omega) rfl ?_
    refine g_callVdi (ci := 4) dX10_mayTakeStep_45 lm_X10_204 mv_X4_mayTakeOn (c_mayTakeOn_trial (d := d) hx hL hT) rfl rfl (k27 hL) rfl rfl (Nat.le_of_ble_eq_true rfl) (gFit_room (by omega)) rfl ?_
    exact g_iret dX10_mayTakeStep_48 rfl (by first | rfl | exact b01) (⟨by first | rfl | assumption | exact gFr.rf | grind [ib], by first | rfl | assumption | exact gFr.rf | grind [ib]⟩)
  by_cases e6_1 : gmi M (a + 1) i = 1
  · rw [e6_1]
    refine g_tableIn (off := 43) (tgt := 49) dX10_mayTakeStep_6 (by decide) (by decide) (by decide) (by decide) ?_
    refine g_aload_n dX10_mayTakeStep_49 rfl rfl rfl ?_
    refine g_aload_n dX10_mayTakeStep_50 rfl rfl rfl ?_
    refine g_getR dX10_mayTakeStep_51 ff_X10_305 rfl (k_a) (r_a_1) rfl ?_
    refine g_iload_n dX10_mayTakeStep_54 rfl rfl rfl ?_
    refine g_iald (i := i) dX10_mayTakeStep_55 (k_a2) (l_a2) (by (try simp only [nI_lit, pk_mul, nI_add, Nat.zero_add]); exact nI_toInt (by omega)) (by omega) rfl ?_
    refine g_callVdi (ci := 4) dX10_mayTakeStep_56 lm_X10_232 mv_X4_mayGo (c_mayGo_trial (d := d) hx hL) rfl rfl (k27 hL) rfl rfl (Nat.le_of_ble_eq_true rfl) (gFit_room (by omega)) rfl ?_
    exact g_iret dX10_mayTakeStep_59 rfl (by first | rfl | exact b01) (⟨by first | rfl | assumption | exact gFr.rf | grind [ib], by first | rfl | assumption | exact gFr.rf | grind [ib]⟩)
  by_cases e6_2 : gmi M (a + 1) i = 2
  · rw [e6_2]
    refine g_tableIn (off := 54) (tgt := 60) dX10_mayTakeStep_6 (by decide) (by decide) (by decide) (by decide) ?_
    refine g_aload_n dX10_mayTakeStep_60 rfl rfl rfl ?_
    refine g_aload_n dX10_mayTakeStep_61 rfl rfl rfl ?_
    refine g_getR dX10_mayTakeStep_62 ff_X10_305 rfl (k_a) (r_a_1) rfl ?_
    refine g_iload_n dX10_mayTakeStep_65 rfl rfl rfl ?_
    refine g_iald (i := i) dX10_mayTakeStep_66 (k_a2) (l_a2) (by (try simp only [nI_lit, pk_mul, nI_add, Nat.zero_add]); exact nI_toInt (by omega)) (by omega) rfl ?_
    refine g_aload_n dX10_mayTakeStep_67 rfl rfl rfl ?_
    refine g_getR dX10_mayTakeStep_68 ff_X10_307 rfl (k_a) (r_a_2) rfl ?_
    refine g_iload_n dX10_mayTakeStep_71 rfl rfl rfl ?_
    refine g_iald (i := i) dX10_mayTakeStep_72 (k_a3) (l_a3) (by (try simp only [nI_lit, pk_mul, nI_add, Nat.zero_add]); exact nI_toInt (by omega)) (by omega) rfl ?_
    refine g_callVdi (ci := 4) dX10_mayTakeStep_73 lm_X10_226 mv_X4_mayAtoneFor (c_mayAtoneFor_trial (d := d) hx hL hT) rfl rfl (k27 hL) rfl rfl (Nat.le_of_ble_eq_true rfl) (gFit_room (by omega)) rfl ?_
    exact g_iret dX10_mayTakeStep_76 rfl (by first | rfl | exact b01) (⟨by first | rfl | assumption | exact gFr.rf | grind [ib], by first | rfl | assumption | exact gFr.rf | grind [ib]⟩)
  refine g_tableOut (tgt := 77) dX10_mayTakeStep_6 (swo 0 3 (by decide) (fun k hk => match k, hk with | 0, _ => e6_0 | 1, _ => e6_1 | 2, _ => e6_2 | (k + 3), hk => absurd hk (by omega))) (by decide) ?_
  refine g_aload_n dX10_mayTakeStep_77 rfl rfl rfl ?_
  refine g_callVdi (ci := 4) dX10_mayTakeStep_78 lm_X10_260 mv_X4_mayPassDay (c_mayPassDay_trial (d := d) hx hL) rfl rfl (k27 hL) rfl rfl (Nat.le_of_ble_eq_true rfl) (gFit_room (by omega)) rfl ?_
  exact g_iret dX10_mayTakeStep_81 rfl (by first | rfl | exact b01) (⟨by first | rfl | assumption | exact gFr.rf | grind [ib], by first | rfl | assumption | exact gFr.rf | grind [ib]⟩)
/-- the memory behind a step (the letters and what waits left aside) -/
def stepM (M : gM) (EV : EVt) (r en a i : Nat) : gM :=
  if gmi M (a + 1) i = 0 then gwF M r (takeF (gmi M r) (12 + tn (gmi M (a + 2) i) * 8 + tn (gmi M (a + 3) i)) (gmi M 9 (tn (gmi M (a + 3) i))) (gmi M 8 (tn (gmi M (a + 3) i))))
  else if gmi M (a + 1) i = 1 then gwF M r (goF (gunF M EV (gmi M r) (tn (gmi M (a + 2) i))) (gmi M r) (tn (gmi M (a + 2) i)) (gmi M 3 9))
  else if gmi M (a + 1) i = 2 then gwF M r (atoneF (gmi M r) (12 + tn (gmi M (a + 2) i) * 8 + tn (gmi M (a + 3) i)))
  else gwF (gwF M en (dayE M r en)) r (dayR M r)
set_option maxRecDepth 20000 in
set_option maxHeartbeats 1000000 in
theorem c_step_now (hx : gXok X) (hL : gLay M) (hT : TownOK M) (hl : LeftOK M 25) (hd : okv M 25 66 999) {EV : EVt} (hC : CourtSem M EV) {a i : Nat} (hw : WkAt M a) (hi : i < 16) (hs : stepB M 25 a i = true) : gPos X (d + 6) yX10_takeStep cX10_takeStep 4 none [.ref 0, .ref 24, .ref a, .int (nI i)] M (fun v M2 => v = none ∧ gFr scr0 (stepM M EV 25 26 a i) M2) := by
  obtain ⟨k_a, ⟨k_a1, l_a1⟩, ⟨k_a2, l_a2⟩, ⟨k_a3, l_a3⟩, r_a_0, r_a_1, r_a_2⟩ := hw
  refine gMet.of hx (by decide) (Nat.le_of_ble_eq_true rfl) ?_
  unfold stepB at hs
  unfold stepM
  refine g_aload_n dX10_takeStep_0 rfl rfl rfl ?_
  refine g_getR dX10_takeStep_1 ff_X10_302 rfl (k_a) (r_a_0) rfl ?_
  refine g_iload_n dX10_takeStep_4 rfl rfl rfl ?_
  refine g_iald (i := i) dX10_takeStep_5 (k_a1) (l_a1) (by (try simp only [nI_lit, pk_mul, nI_add, Nat.zero_add]); exact nI_toInt (by omega)) (by omega) rfl ?_
  by_cases e6_0 : gmi M (a + 1) i = 0
  · rw [e6_0]
    refine g_tableIn (off := 26) (tgt := 32) dX10_takeStep_6 (by decide) (by decide) (by decide) (by decide) ?_
    rw [if_pos rfl]
    rw [if_pos e6_0] at hs
    refine g_aload_n dX10_takeStep_32 rfl rfl rfl ?_
    refine g_aload_n dX10_takeStep_33 rfl rfl rfl ?_
    refine g_getR dX10_takeStep_34 ff_X10_305 rfl (k_a) (r_a_1) rfl ?_
    refine g_iload_n dX10_takeStep_37 rfl rfl rfl ?_
    refine g_iald (i := i) dX10_takeStep_38 (k_a2) (l_a2) (by (try simp only [nI_lit, pk_mul, nI_add, Nat.zero_add]); exact nI_toInt (by omega)) (by omega) rfl ?_
    refine g_aload_n dX10_takeStep_39 rfl rfl rfl ?_
    refine g_getR dX10_takeStep_40 ff_X10_307 rfl (k_a) (r_a_2) rfl ?_
    refine g_iload_n dX10_takeStep_43 rfl rfl rfl ?_
    refine g_iald (i := i) dX10_takeStep_44 (k_a3) (l_a3) (by (try simp only [nI_lit, pk_mul, nI_add, Nat.zero_add]); exact nI_toInt (by omega)) (by omega) rfl ?_
    generalize hgx : gmi M (a + 2) i = x at *
    generalize hgz : gmi M (a + 3) i = z at *
    replace hs := of_decide_eq_true hs
    have hs2 := hs
    obtain ⟨ex_, lk⟩ := in_row hT.1.1 (by have := hT.1.2; omega) (hs2.1.1)
    have mk := Nat.lt_of_lt_of_le lk hT.1.2
    generalize gk : tn x = k at *
    subst ex_
    obtain ⟨ex_, le⟩ := in_row hT.2.1.1 (by have := hT.2.1.2; omega) (hs2.1.2)
    have me := Nat.lt_of_lt_of_le le hT.2.1.2
    generalize ge : tn z = e at *
    subst ex_
    refine g_callVdv (ci := 4) dX10_takeStep_45 lm_X10_211 mv_X4_takeOn (c_takeOn_now (d := d) hx hL mk me) rfl rfl (k24 hL) rfl rfl (Nat.le_of_ble_eq_true rfl) (gFit_room (by omega)) rfl ?_
    rw [gwI_def M, gwI_F, gmi_F]
    refine g_goto (tgt := 89) dX10_takeStep_48 (by decide) ?_
    exact g_vret dX10_takeStep_89 rfl (⟨by first | rfl | assumption | exact gFr.rf | grind [ib], by first | rfl | assumption | exact gFr.rf | grind [ib]⟩)
  by_cases e6_1 : gmi M (a + 1) i = 1
  · rw [e6_1]
    refine g_tableIn (off := 45) (tgt := 51) dX10_takeStep_6 (by decide) (by decide) (by decide) (by decide) ?_
    rw [if_neg (by decide), if_pos rfl]
    rw [if_neg e6_0, if_pos e6_1] at hs
    refine g_aload_n dX10_takeStep_51 rfl rfl rfl ?_
    refine g_aload_n dX10_takeStep_52 rfl rfl rfl ?_
    refine g_aload_n dX10_takeStep_53 rfl rfl rfl ?_
    refine g_getR dX10_takeStep_54 ff_X10_305 rfl (k_a) (r_a_1) rfl ?_
    refine g_iload_n dX10_takeStep_57 rfl rfl rfl ?_
    refine g_iald (i := i) dX10_takeStep_58 (k_a2) (l_a2) (by (try simp only [nI_lit, pk_mul, nI_add, Nat.zero_add]); exact nI_toInt (by omega)) (by omega) rfl ?_
    generalize hgx : gmi M (a + 2) i = x at *
    replace hs := of_decide_eq_true hs
    have hs2 := hs
    obtain ⟨ex_, lk⟩ := in_row hT.1.1 (by have := hT.1.2; omega) (hs2.1)
    have mk := Nat.lt_of_lt_of_le lk hT.1.2
    generalize gk : tn x = k at *
    subst ex_
    refine g_callVq (ci := 10) dX10_takeStep_59 lm_X10_235 mv_X10_goToBarber (c_goTo_now (d := d) hx hL hT hl hC mk) rfl rfl (k0 hL) rfl rfl (Nat.le_of_ble_eq_true rfl) (gFit_room (by omega)) rfl (fun v M2 hQ => ?_)
    obtain ⟨rfl, hf⟩ := hQ
    refine g_pop dX10_takeStep_62 rfl rfl ?_
    refine g_goto (tgt := 89) dX10_takeStep_63 (by decide) ?_
    exact g_vret dX10_takeStep_89 rfl (⟨by first | rfl | assumption | exact gFr.rf | grind [ib], by first | rfl | assumption | exact gFr.rf | grind [ib]⟩)
  by_cases e6_2 : gmi M (a + 1) i = 2
  · rw [e6_2]
    refine g_tableIn (off := 60) (tgt := 66) dX10_takeStep_6 (by decide) (by decide) (by decide) (by decide) ?_
    rw [if_neg (by decide), if_neg (by decide), if_pos rfl]
    rw [if_neg e6_0, if_neg e6_1, if_pos e6_2] at hs
    refine g_aload_n dX10_takeStep_66 rfl rfl rfl ?_
    refine g_aload_n dX10_takeStep_67 rfl rfl rfl ?_
    refine g_getR dX10_takeStep_68 ff_X10_305 rfl (k_a) (r_a_1) rfl ?_
    refine g_iload_n dX10_takeStep_71 rfl rfl rfl ?_
    refine g_iald (i := i) dX10_takeStep_72 (k_a2) (l_a2) (by (try simp only [nI_lit, pk_mul, nI_add, Nat.zero_add]); exact nI_toInt (by omega)) (by omega) rfl ?_
    refine g_aload_n dX10_takeStep_73 rfl rfl rfl ?_
    refine g_getR dX10_takeStep_74 ff_X10_307 rfl (k_a) (r_a_2) rfl ?_
    refine g_iload_n dX10_takeStep_77 rfl rfl rfl ?_
    refine g_iald (i := i) dX10_takeStep_78 (k_a3) (l_a3) (by (try simp only [nI_lit, pk_mul, nI_add, Nat.zero_add]); exact nI_toInt (by omega)) (by omega) rfl ?_
    generalize hgx : gmi M (a + 2) i = x at *
    generalize hgz : gmi M (a + 3) i = z at *
    replace hs := of_decide_eq_true hs
    have hs2 := hs
    obtain ⟨ex_, lk⟩ := in_row hT.1.1 (by have := hT.1.2; omega) (hs2.1.1)
    have mk := Nat.lt_of_lt_of_le lk hT.1.2
    generalize gk : tn x = k at *
    subst ex_
    obtain ⟨ex_, le⟩ := in_row hT.2.1.1 (by have := hT.2.1.2; omega) (hs2.1.2)
    have me := Nat.lt_of_lt_of_le le hT.2.1.2
    generalize ge : tn z = e at *
    subst ex_
    refine g_callVdv (ci := 4) dX10_takeStep_79 lm_X10_229 mv_X4_atoneFor (c_atoneFor_now (d := d) hx hL mk me) rfl rfl (k24 hL) rfl rfl (Nat.le_of_ble_eq_true rfl) (gFit_room (by omega)) rfl ?_
    rw [gwI_def M, gwI_F, gmi_F]
    refine g_goto (tgt := 89) dX10_takeStep_82 (by decide) ?_
    exact g_vret dX10_takeStep_89 rfl (⟨by first | rfl | assumption | exact gFr.rf | grind [ib], by first | rfl | assumption | exact gFr.rf | grind [ib]⟩)
  refine g_tableOut (tgt := 85) dX10_takeStep_6 (swo 0 3 (by decide) (fun k hk => match k, hk with | 0, _ => e6_0 | 1, _ => e6_1 | 2, _ => e6_2 | (k + 3), hk => absurd hk (by omega))) (by decide) ?_
  rw [if_neg e6_0, if_neg e6_1, if_neg e6_2]
  refine g_aload_n dX10_takeStep_85 rfl rfl rfl ?_
  refine g_callVdv (ci := 4) dX10_takeStep_86 lm_X10_266 mv_X4_passDay (c_passDay_now (d := d) hx hL hT hd) rfl rfl (k24 hL) rfl rfl (Nat.le_of_ble_eq_true rfl) (gFit_room (by omega)) rfl ?_
  exact g_vret dX10_takeStep_89 rfl (⟨by first | rfl | assumption | exact gFr.rf | grind [ib], by first | rfl | assumption | exact gFr.rf | grind [ib]⟩)
set_option maxRecDepth 20000 in
set_option maxHeartbeats 1000000 in
theorem c_step_trial (hx : gXok X) (hL : gLay M) (hT : TownOK M) (hl : LeftOK M 28) (hd : okv M 28 66 999) {EV : EVt} (hC : CourtSem M EV) {a i : Nat} (hw : WkAt M a) (hi : i < 16) (hs : stepB M 28 a i = true) : gPos X (d + 6) yX10_takeStep cX10_takeStep 4 none [.ref 0, .ref 27, .ref a, .int (nI i)] M (fun v M2 => v = none ∧ gFr scr0 (stepM M EV 28 29 a i) M2) := by
  obtain ⟨k_a, ⟨k_a1, l_a1⟩, ⟨k_a2, l_a2⟩, ⟨k_a3, l_a3⟩, r_a_0, r_a_1, r_a_2⟩ := hw
  refine gMet.of hx (by decide) (Nat.le_of_ble_eq_true rfl) ?_
  unfold stepB at hs
  unfold stepM
  refine g_aload_n dX10_takeStep_0 rfl rfl rfl ?_
  refine g_getR dX10_takeStep_1 ff_X10_302 rfl (k_a) (r_a_0) rfl ?_
  refine g_iload_n dX10_takeStep_4 rfl rfl rfl ?_
  refine g_iald (i := i) dX10_takeStep_5 (k_a1) (l_a1) (by (try simp only [nI_lit, pk_mul, nI_add, Nat.zero_add]); exact nI_toInt (by omega)) (by omega) rfl ?_
  by_cases e6_0 : gmi M (a + 1) i = 0
  · rw [e6_0]
    refine g_tableIn (off := 26) (tgt := 32) dX10_takeStep_6 (by decide) (by decide) (by decide) (by decide) ?_
    rw [if_pos rfl]
    rw [if_pos e6_0] at hs
    refine g_aload_n dX10_takeStep_32 rfl rfl rfl ?_
    refine g_aload_n dX10_takeStep_33 rfl rfl rfl ?_
    refine g_getR dX10_takeStep_34 ff_X10_305 rfl (k_a) (r_a_1) rfl ?_
    refine g_iload_n dX10_takeStep_37 rfl rfl rfl ?_
    refine g_iald (i := i) dX10_takeStep_38 (k_a2) (l_a2) (by (try simp only [nI_lit, pk_mul, nI_add, Nat.zero_add]); exact nI_toInt (by omega)) (by omega) rfl ?_
    refine g_aload_n dX10_takeStep_39 rfl rfl rfl ?_
    refine g_getR dX10_takeStep_40 ff_X10_307 rfl (k_a) (r_a_2) rfl ?_
    refine g_iload_n dX10_takeStep_43 rfl rfl rfl ?_
    refine g_iald (i := i) dX10_takeStep_44 (k_a3) (l_a3) (by (try simp only [nI_lit, pk_mul, nI_add, Nat.zero_add]); exact nI_toInt (by omega)) (by omega) rfl ?_
    generalize hgx : gmi M (a + 2) i = x at *
    generalize hgz : gmi M (a + 3) i = z at *
    replace hs := of_decide_eq_true hs
    have hs2 := hs
    obtain ⟨ex_, lk⟩ := in_row hT.1.1 (by have := hT.1.2; omega) (hs2.1.1)
    have mk := Nat.lt_of_lt_of_le lk hT.1.2
    generalize gk : tn x = k at *
    subst ex_
    obtain ⟨ex_, le⟩ := in_row hT.2.1.1 (by have := hT.2.1.2; omega) (hs2.1.2)
    have me := Nat.lt_of_lt_of_le le hT.2.1.2
    generalize ge : tn z = e at *
    subst ex_
    refine g_callVdv (ci := 4) dX10_takeStep_45 lm_X10_211 mv_X4_takeOn (c_takeOn_trial (d := d) hx hL mk me) rfl rfl (k27 hL) rfl rfl (Nat.le_of_ble_eq_true rfl) (gFit_room (by omega)) rfl ?_
    rw [gwI_def M, gwI_F, gmi_F]
    refine g_goto (tgt := 89) dX10_takeStep_48 (by decide) ?_
    exact g_vret dX10_takeStep_89 rfl (⟨by first | rfl | assumption | exact gFr.rf | grind [ib], by first | rfl | assumption | exact gFr.rf | grind [ib]⟩)
  by_cases e6_1 : gmi M (a + 1) i = 1
  · rw [e6_1]
    refine g_tableIn (off := 45) (tgt := 51) dX10_takeStep_6 (by decide) (by decide) (by decide) (by decide) ?_
    rw [if_neg (by decide), if_pos rfl]
    rw [if_neg e6_0, if_pos e6_1] at hs
    refine g_aload_n dX10_takeStep_51 rfl rfl rfl ?_
    refine g_aload_n dX10_takeStep_52 rfl rfl rfl ?_
    refine g_aload_n dX10_takeStep_53 rfl rfl rfl ?_
    refine g_getR dX10_takeStep_54 ff_X10_305 rfl (k_a) (r_a_1) rfl ?_
    refine g_iload_n dX10_takeStep_57 rfl rfl rfl ?_
    refine g_iald (i := i) dX10_takeStep_58 (k_a2) (l_a2) (by (try simp only [nI_lit, pk_mul, nI_add, Nat.zero_add]); exact nI_toInt (by omega)) (by omega) rfl ?_
    generalize hgx : gmi M (a + 2) i = x at *
    replace hs := of_decide_eq_true hs
    have hs2 := hs
    obtain ⟨ex_, lk⟩ := in_row hT.1.1 (by have := hT.1.2; omega) (hs2.1)
    have mk := Nat.lt_of_lt_of_le lk hT.1.2
    generalize gk : tn x = k at *
    subst ex_
    refine g_callVq (ci := 10) dX10_takeStep_59 lm_X10_235 mv_X10_goToBarber (c_goTo_trial (d := d) hx hL hT hl hC mk) rfl rfl (k0 hL) rfl rfl (Nat.le_of_ble_eq_true rfl) (gFit_room (by omega)) rfl (fun v M2 hQ => ?_)
    obtain ⟨rfl, hf⟩ := hQ
    refine g_pop dX10_takeStep_62 rfl rfl ?_
    refine g_goto (tgt := 89) dX10_takeStep_63 (by decide) ?_
    exact g_vret dX10_takeStep_89 rfl (⟨by first | rfl | assumption | exact gFr.rf | grind [ib], by first | rfl | assumption | exact gFr.rf | grind [ib]⟩)
  by_cases e6_2 : gmi M (a + 1) i = 2
  · rw [e6_2]
    refine g_tableIn (off := 60) (tgt := 66) dX10_takeStep_6 (by decide) (by decide) (by decide) (by decide) ?_
    rw [if_neg (by decide), if_neg (by decide), if_pos rfl]
    rw [if_neg e6_0, if_neg e6_1, if_pos e6_2] at hs
    refine g_aload_n dX10_takeStep_66 rfl rfl rfl ?_
    refine g_aload_n dX10_takeStep_67 rfl rfl rfl ?_
    refine g_getR dX10_takeStep_68 ff_X10_305 rfl (k_a) (r_a_1) rfl ?_
    refine g_iload_n dX10_takeStep_71 rfl rfl rfl ?_
    refine g_iald (i := i) dX10_takeStep_72 (k_a2) (l_a2) (by (try simp only [nI_lit, pk_mul, nI_add, Nat.zero_add]); exact nI_toInt (by omega)) (by omega) rfl ?_
    refine g_aload_n dX10_takeStep_73 rfl rfl rfl ?_
    refine g_getR dX10_takeStep_74 ff_X10_307 rfl (k_a) (r_a_2) rfl ?_
    refine g_iload_n dX10_takeStep_77 rfl rfl rfl ?_
    refine g_iald (i := i) dX10_takeStep_78 (k_a3) (l_a3) (by (try simp only [nI_lit, pk_mul, nI_add, Nat.zero_add]); exact nI_toInt (by omega)) (by omega) rfl ?_
    generalize hgx : gmi M (a + 2) i = x at *
    generalize hgz : gmi M (a + 3) i = z at *
    replace hs := of_decide_eq_true hs
    have hs2 := hs
    obtain ⟨ex_, lk⟩ := in_row hT.1.1 (by have := hT.1.2; omega) (hs2.1.1)
    have mk := Nat.lt_of_lt_of_le lk hT.1.2
    generalize gk : tn x = k at *
    subst ex_
    obtain ⟨ex_, le⟩ := in_row hT.2.1.1 (by have := hT.2.1.2; omega) (hs2.1.2)
    have me := Nat.lt_of_lt_of_le le hT.2.1.2
    generalize ge : tn z = e at *
    subst ex_
    refine g_callVdv (ci := 4) dX10_takeStep_79 lm_X10_229 mv_X4_atoneFor (c_atoneFor_trial (d := d) hx hL mk me) rfl rfl (k27 hL) rfl rfl (Nat.le_of_ble_eq_true rfl) (gFit_room (by omega)) rfl ?_
    rw [gwI_def M, gwI_F, gmi_F]
    refine g_goto (tgt := 89) dX10_takeStep_82 (by decide) ?_
    exact g_vret dX10_takeStep_89 rfl (⟨by first | rfl | assumption | exact gFr.rf | grind [ib], by first | rfl | assumption | exact gFr.rf | grind [ib]⟩)
  refine g_tableOut (tgt := 85) dX10_takeStep_6 (swo 0 3 (by decide) (fun k hk => match k, hk with | 0, _ => e6_0 | 1, _ => e6_1 | 2, _ => e6_2 | (k + 3), hk => absurd hk (by omega))) (by decide) ?_
  rw [if_neg e6_0, if_neg e6_1, if_neg e6_2]
  refine g_aload_n dX10_takeStep_85 rfl rfl rfl ?_
  refine g_callVdv (ci := 4) dX10_takeStep_86 lm_X10_266 mv_X4_passDay (c_passDay_trial (d := d) hx hL hT hd) rfl rfl (k27 hL) rfl rfl (Nat.le_of_ble_eq_true rfl) (gFit_room (by omega)) rfl ?_
  exact g_vret dX10_takeStep_89 rfl (⟨by first | rfl | assumption | exact gFr.rf | grind [ib], by first | rfl | assumption | exact gFr.rf | grind [ib]⟩)
end W0
section W1
variable {X : gX} {M : gM} {d : Nat}
/-- what a walk of steps over the row r needs -/
def Ws (M : gM) (EV : EVt) (r a : Nat) : Prop := gLay M ∧ TownOK M ∧ LeftOK M r ∧ okv M r 66 999 ∧ CourtSem M EV ∧ WkAt M a
theorem Ws_fr {M2 : gM} {EV : EVt} {r a : Nat} (hr : r = 25 ∨ r = 28) (h : gFr scr0 M M2) (hs : Ws M EV r a) : Ws M2 EV r a := by
  obtain ⟨h1, h2, h3, h4, h5, h6⟩ := hs
  have er : gmi M2 r = gmi M r := h.2.2.2 r (scr0_lo (by omega) (by omega))
  exact ⟨h.lay h1, h.town scr0_town h2, LeftOK_fr er h3, okv_eq er h4, CourtSem_fr scr0_court h h5, WkAt_fr h h6⟩
theorem imax_m1 {n : Nat} (h : n < 2 ^ 31) : imax 0 (nI n - 1) = nI (n - 1) := by
  unfold imax
  by_cases h0 : n = 0
  · subst h0; rfl
  · rw [nI_m1 (by omega)]
    by_cases h1 : 0 < nI (n - 1)
    · rw [if_pos h1]
    · rw [if_neg h1]
      have : ¬ 0 < n - 1 := fun q => h1 ((qlt 0 (n - 1) rfl rfl (by decide) (by omega)).mpr q)
      rw [show n - 1 = 0 by omega]
      rfl
theorem LeftF_ag {F : Nat → Int32} {D i : Nat} (hl : LeftF F) (hi : i ≤ 6) : LeftF (ag F D i 0 0) := fun k h1 h2 => by
  obtain ⟨n, e, hn⟩ := hl k h1 h2
  unfold ag
  rw [if_neg (by omega)]
  split
  · exact ⟨n - 1, by rw [e, imax_m1 (by omega)], by omega⟩
  · exact ⟨n, e, hn⟩
theorem LeftF_day (hT : TownOK M) {r : Nat} (hl : LeftF (gmi M r)) : LeftF (dayR M r) := by
  unfold dayR
  exact LeftF_out (LeftF_out (LeftF_out (LeftF_ag (LeftF_out hl (by decide)) hT.1.2) (by decide)) (by decide)) (by decide)
theorem dayR_66 (r : Nat) (hT : TownOK M) : dayR M r 66 = gmi M r 66 + 1 := by
  have := hT.1.2
  unfold dayR
  rw [va_up_self, va_up_ne _ _ (by decide), va_up_ne _ _ (by decide)]
  unfold ag
  rw [if_neg (by omega), if_neg (by omega), va_up_ne _ _ (by decide)]
theorem LeftF_go {F : Nat → Int32} {p : Nat} {g : Bool} {nick : Int32} (hl : LeftF F) (hp : p < 6) : LeftF (goF g F p nick) := by
  unfold goF
  cases g
  · exact LeftF_out (LeftF_out (LeftF_out hl (by decide)) (by decide)) (by decide)
  · exact LeftF_out (LeftF_out (LeftF_out (LeftF_out hl (by decide)) (by omega)) (by omega)) (by decide)
theorem goF_66 {F : Nat → Int32} {p : Nat} {g : Bool} {nick : Int32} (hp : p < 6) : goF g F p nick 66 = F 66 := by
  unfold goF
  cases g
  · show goN F p nick 66 = _
    unfold goN
    rw [va_up_ne _ _ (by decide), va_up_ne _ _ (by decide), va_up_ne _ _ (by decide)]
  · show goG F p 66 = _
    unfold goG
    rw [va_up_ne _ _ (by decide), va_up_ne _ _ (by omega), va_up_ne _ _ (by omega), va_up_ne _ _ (by decide)]
theorem Ws_F {EV : EVt} {r a : Nat} {f : Nat → Int32} (hr : r = 25 ∨ r = 28) (hs : Ws M EV r a) (hl : LeftF f) (hd : ∃ n, f 66 = nI n ∧ n ≤ 999) : Ws (gwF M r f) EV r a := by
  obtain ⟨h1, h2, h3, h4, h5, h6⟩ := hs
  have hf : gFr (fun c => c = r) M (gwF M r f) := gFr.wF rfl
  obtain ⟨n, e, hn⟩ := hd
  refine ⟨gLay_F h1, hf.town (fun c _ _ q => by omega) h2, LeftOK_of (by rw [gmi_F]; exact hl), (okv_of (by rw [gmi_F]; exact e) hn (by decide)).1, CourtSem_fr ⟨by omega, fun k => ⟨by omega, by omega, by omega, by omega⟩⟩ hf h5, WkAt_fr hf h6⟩
theorem Ws_E {EV : EVt} {r a en : Nat} {f : Nat → Int32} (hr : r = 25 ∨ r = 28) (he : en = 26 ∨ en = 29) (hs : Ws M EV r a) : Ws (gwF M en f) EV r a := by
  obtain ⟨h1, h2, h3, h4, h5, h6⟩ := hs
  have hf : gFr (fun c => c = en) M (gwF M en f) := gFr.wF rfl
  have er : gmi (gwF M en f) r = gmi M r := gmi_Fn _ _ (by omega)
  exact ⟨gLay_F h1, hf.town (fun c _ _ q => by omega) h2, LeftOK_fr er h3, okv_eq er h4, CourtSem_fr ⟨by omega, fun k => ⟨by omega, by omega, by omega, by omega⟩⟩ hf h5, WkAt_fr hf h6⟩
theorem inD_row (hT : TownOK M) {z : Int32} (h : inD M z) : tn z < 8 := by
  have := hT.2.1.2
  have := (in_row hT.2.1.1 (by omega) h).2
  omega
theorem inP_row (hT : TownOK M) {z : Int32} (h : inP M z) : tn z < 6 := by
  have := hT.1.2
  have := (in_row hT.1.1 (by omega) h).2
  omega
theorem Ws_step {EV : EVt} {r a en i : Nat} (hr : r = 25 ∨ r = 28) (he : en = 26 ∨ en = 29) (hs : Ws M EV r a) (hb : stepB M r a i = true) : Ws (stepM M EV r en a i) EV r a := by
  have hs0 := hs
  obtain ⟨h1, h2, h3, h4, h5, h6⟩ := hs
  unfold stepB at hb
  unfold stepM
  by_cases e0 : gmi M (a + 1) i = 0
  · rw [if_pos e0] at hb ⊢
    have hq := of_decide_eq_true hb
    have := inD_row h2 hq.1.2
    exact Ws_F hr hs0 (LeftF_take (LeftF_of h3) ⟨_, h2.2.2.2.2.1 _ this⟩) ⟨_, (by unfold takeF; rw [va_up_ne _ _ (by decide), va_up_ne _ _ (by have := inP_row h2 hq.1.1; omega)]; exact h4.1), h4.2⟩
  · rw [if_neg e0] at hb ⊢
    by_cases e1 : gmi M (a + 1) i = 1
    · rw [if_pos e1] at hb ⊢
      have hq := inP_row h2 (of_decide_eq_true hb).1
      exact Ws_F hr hs0 (LeftF_go (LeftF_of h3) hq) ⟨_, (goF_66 hq).trans h4.1, h4.2⟩
    · rw [if_neg e1] at hb ⊢
      by_cases e2 : gmi M (a + 1) i = 2
      · rw [if_pos e2] at hb ⊢
        have hq := of_decide_eq_true hb
        have := inD_row h2 hq.1.2
        have := inP_row h2 hq.1.1
        exact Ws_F hr hs0 (LeftF_atone (LeftF_of h3)) ⟨_, (by unfold atoneF; rw [va_up_ne _ _ (by decide), va_up_ne _ _ (by omega)]; exact h4.1), h4.2⟩
      · rw [if_neg e2] at hb ⊢
        have hq := of_decide_eq_true hb
        refine Ws_F hr (Ws_E hr he hs0) (LeftF_day h2 (LeftF_of h3)) ⟨tv M r 66 + 1, ?_, ?_⟩
        · rw [dayR_66 r h2, h4.1, nI_1]
        · have := h4.2
          have h9 : ¬ 999 ≤ tv M r 66 := fun q => hq.2 (by rw [h4.1]; exact (qle 999 _ rfl rfl (by decide) (by omega)).mpr q)
          omega
theorem stepB_fr {M2 : gM} {r a i : Nat} (ha : ¬ scr0 (a + 1) ∧ ¬ scr0 (a + 2) ∧ ¬ scr0 (a + 3)) (hr : r = 25 ∨ r = 28) (h : gFr scr0 M M2) : stepB M2 r a i = stepB M r a i := by
  have e3 := h.2.2.2 3 (scr0_lo (by decide) (by decide))
  have er : gmi M2 r = gmi M r := h.2.2.2 r (scr0_lo (by omega) (by omega))
  unfold stepB mayTake mayGo mayAtone mayDay inP inD
  rw [h.2.2.2 _ ha.1, h.2.2.2 _ ha.2.1, h.2.2.2 _ ha.2.2, e3, er]
theorem stepM_fr {M2 : gM} {EV : EVt} {r en a i : Nat} (ha : ¬ scr0 (a + 1) ∧ ¬ scr0 (a + 2) ∧ ¬ scr0 (a + 3)) (hr : r = 25 ∨ r = 28) (he : en = 26 ∨ en = 29) (h : gFr scr0 M M2) : gFr scr0 (stepM M EV r en a i) (stepM M2 EV r en a i) := by
  have e3 := h.2.2.2 3 (scr0_lo (by decide) (by decide))
  have e5 := h.2.2.2 5 (scr0_lo (by decide) (by decide))
  have e6 := h.2.2.2 6 (scr0_lo (by decide) (by decide))
  have e7 := h.2.2.2 7 (scr0_lo (by decide) (by decide))
  have e8 := h.2.2.2 8 (scr0_lo (by decide) (by decide))
  have e9 := h.2.2.2 9 (scr0_lo (by decide) (by decide))
  have er : gmi M2 r = gmi M r := h.2.2.2 r (scr0_lo (by omega) (by omega))
  have ee : gmi M2 en = gmi M en := h.2.2.2 en (scr0_lo (by omega) (by omega))
  unfold stepM
  rw [h.2.2.2 _ ha.1, h.2.2.2 _ ha.2.1, h.2.2.2 _ ha.2.2, e3, er, e8, e9, gunF_eq e3 e5 e7, dayE_eq e3 er ee, dayR_eq e3 e6 er]
  split
  · exact h.congF
  · split
    · exact h.congF
    · split
      · exact h.congF
      · exact h.congF.congF
end W1
