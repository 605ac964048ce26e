section A0
variable {X : gX} {M : gM} {d : Nat}
theorem keep_fr (hn : okv M 33 2 39) : gFr (fun c => 33 ≤ c ∧ c < 75) M (keepM M) := by
  have hq := hn.2
  unfold keepM
  exact ((gFr.wF (by omega)).tr (gFr.wI (by omega))).tr (gFr.wI (by omega))
theorem keep_mi (hn : okv M 33 2 39) {c : Nat} (h : c < 33) : gmi (keepM M) c = gmi M c := (keep_fr hn).2.2.2 c (by omega)
theorem keep_lay (hn : okv M 33 2 39) (hL : gLay M) : gLay (keepM M) := (keep_fr hn).lay hL
theorem keep_town (hn : okv M 33 2 39) (hT : TownOK M) : TownOK (keepM M) := (keep_fr hn).town (fun c h1 h2 q => by omega) hT
theorem keep_left (hn : okv M 33 2 39) (hl : LeftOK M 25) : LeftOK (keepM M) 25 := LeftOK_fr (keep_mi hn (by decide)) hl
/-- the deeds by a row -/
def dsF (F : Nat → Int32) (D p n : Nat) : Nat := bsum (fun e => decide (n < tn (F (12 + p * 8 + e)))) D
/-- rows of acts -/
def takeF (f : Nat → Int32) (i : Nat) (v h : Int32) : Nat → Int32 := va_up (va_up f i v) 62 (imin 9999 (va_up f i v 62 + h))
def sellF (f : Nat → Int32) (i j : Nat) : Nat → Int32 := va_up (va_up (va_up f j (f i)) i 0) 65 (va_up (va_up f j (f i)) i 0 65 - 1)
def atoneF (f : Nat → Int32) (i : Nat) : Nat → Int32 := va_up (va_up f i 0) 65 (va_up f i 0 65 - 2)
/-- what is left, of a row -/
def LeftF (F : Nat → Int32) : Prop := ∀ i, 12 ≤ i → i < 60 → ∃ n, F i = nI n ∧ n ≤ 9
theorem LeftF_of {r : Nat} (h : LeftOK M r) : LeftF (gmi M r) := fun i h1 h2 => ⟨_, (h i h1 h2).1, (h i h1 h2).2⟩
theorem LeftOK_of {r : Nat} (h : LeftF (gmi M r)) : LeftOK M r := fun i h1 h2 => by
  obtain ⟨n, e, hn⟩ := h i h1 h2
  exact (okv_of e hn (by decide)).1
theorem LeftF_up {F : Nat → Int32} {i n : Nat} {v : Int32} (h : LeftF F) (hv : v = nI n) (hn : n ≤ 9) : LeftF (va_up F i v) := fun j h1 h2 => by
  by_cases e : j = i
  · rw [e, va_up_self]; exact ⟨n, hv, hn⟩
  · rw [va_up_ne _ _ e]; exact h j h1 h2
theorem LeftF_out {F : Nat → Int32} {i : Nat} {v : Int32} (h : LeftF F) (hi : ¬ (12 ≤ i ∧ i < 60)) : LeftF (va_up F i v) := fun j h1 h2 => by
  rw [va_up_ne _ _ (by omega)]; exact h j h1 h2
theorem LeftF_take {F : Nat → Int32} {i : Nat} {v h : Int32} (hl : LeftF F) (hv : ∃ n, v = nI n ∧ n ≤ 9) : LeftF (takeF F i v h) := by
  obtain ⟨n, e, hn⟩ := hv
  exact LeftF_out (LeftF_up hl e hn) (by decide)
theorem LeftF_atone {F : Nat → Int32} {i : Nat} (hl : LeftF F) : LeftF (atoneF F i) := LeftF_out (LeftF_up hl (n := 0) rfl (by decide)) (by decide)
theorem LeftF_sell {F : Nat → Int32} {i j : Nat} (hl : LeftF F) (hi : 12 ≤ i ∧ i < 60) : LeftF (sellF F i j) := by
  obtain ⟨n, e, hn⟩ := hl i hi.1 hi.2
  exact LeftF_out (LeftF_up (LeftF_up hl e hn) (n := 0) rfl (by decide)) (by decide)
abbrev mayTake (M : gM) (r : Nat) (x z : Int32) : Prop := (inP M x ∧ inD M z) ∧ gmi M r (12 + tn x * 8 + tn z) = 0
abbrev mayAtone (M : gM) (r : Nat) (x z : Int32) : Prop := (inP M x ∧ inD M z) ∧ ¬ gmi M r (12 + tn x * 8 + tn z) ≤ 0 ∧ ¬ gmi M r 65 < 2
abbrev maySell (M : gM) (r : Nat) (x o z : Int32) : Prop := (inP M x ∧ inD M z) ∧ inP M o ∧ ¬ x = o ∧ ¬ gmi M r (12 + tn x * 8 + tn z) ≤ 0 ∧ gmi M r (12 + tn o * 8 + tn z) = 0 ∧ ¬ gmi M r 65 < 1
abbrev mayGo (M : gM) (r : Nat) (x : Int32) : Prop := inP M x ∧ ¬ gmi M r 60 >>> (x &&& 31) &&& 1 = 1
theorem guilt_w (hx : gXok X) {M1 : gM} {F : Nat → Int32} (hL : gLay M1) (hT : TownOK M1) (hl : LeftF F) (hM : ∀ c, c < 33 → c ≠ 25 → gmi M1 c = gmi M c) {p : Nat} (hp : p < 6) : gDet X (d + 3) yX4_guiltOf cX4_guiltOf 2 (some .int) [.ref 24, .int (nI p)] (gwF M1 25 F) (some (.int (nI (heft M (dsF F (tv M 3 8) p 0))))) (gwF M1 25 F) := by
  have h := c_guiltOf_now (X := X) (d := d) (M := gwF M1 25 F) hx (gLay_F hL) hT (LeftOK_of (by rw [gmi_F]; exact hl)) hp
  have e : heft (gwF M1 25 F) (dset (gwF M1 25 F) 25 p 0) = heft M (dsF F (tv M 3 8) p 0) := by
    rw [heft_fr (show gmi (gwF M1 25 F) 3 = gmi M 3 by rw [gmi_Fn _ _ (by decide)]; exact hM 3 (by decide) (by decide)) (show gmi (gwF M1 25 F) 7 = gmi M 7 by rw [gmi_Fn _ _ (by decide)]; exact hM 7 (by decide) (by decide))]
    unfold dset dsF
    rw [tv_eq (show gmi (gwF M1 25 F) 3 = gmi M 3 by rw [gmi_Fn _ _ (by decide)]; exact hM 3 (by decide) (by decide))]
    congr 2
  rw [e] at h
  exact h
set_option maxRecDepth 20000 in
theorem c_commit (hx : gXok X) (hL : gLay M) (hP : PLay M) (hn : okv M 33 2 39) (hT : TownOK M) (hl : LeftOK M 25) {x z : Int32} : gDet X (d + 4) yX10_commit cX10_commit 3 (some .int) [.ref 0, .int x, .int z] M (some (.int (if mayTake M 25 x z then nI (heft M (dsF (takeF (gmi M 25) (12 + tn x * 8 + tn z) (gmi M 9 (tn z)) (gmi M 8 (tn z))) (tv M 3 8) (tn x) 0)) else -1))) (if mayTake M 25 x z then gwF (keepM M) 25 (takeF (gmi M 25) (12 + tn x * 8 + tn z) (gmi M 9 (tn z)) (gmi M 8 (tn z))) else M) := by
  have hL0 := hL
  refine gMet.of hx (by decide) (Nat.le_of_ble_eq_true rfl) ?_
  refine g_aload_n dX10_commit_0 rfl rfl rfl ?_
  refine g_getR dX10_commit_1 ff_X10_58 rfl (k0 hL) (r0_8 hL) rfl ?_
  refine g_iload_n dX10_commit_4 rfl rfl rfl ?_
  refine g_iload_n dX10_commit_5 rfl rfl rfl ?_
  refine g_callVdi (ci := 4) dX10_commit_6 lm_X10_204 mv_X4_mayTakeOn (c_mayTakeOn_now (d := d) hx hL hT) rfl rfl (k24 hL) rfl rfl (Nat.le_of_ble_eq_true rfl) (gFit_room (by omega)) rfl ?_
  refine g_ine (tgt := 14) dX10_commit_9 (by decide) rfl (fun h9 => ?_) (fun h9 => ?_)
  · rw [if_pos h9, if_pos h9]
    have h9b := h9
    obtain ⟨ex_, lk⟩ := in_row hT.1.1 (by have := hT.1.2; omega) (h9b.1.1)
    have mk := Nat.lt_of_lt_of_le lk hT.1.2
    generalize gk : tn x = k at *
    subst ex_
    obtain ⟨ex_, le⟩ := in_row hT.2.1.1 (by have := hT.2.1.2; omega) (h9b.1.2)
    have me := Nat.lt_of_lt_of_le le hT.2.1.2
    generalize ge : tn z = e at *
    subst ex_
    refine g_aload_n dX10_commit_14 rfl rfl rfl ?_
    refine g_getR dX10_commit_15 ff_X10_71 rfl (k0 hL) (r0_12 hL) rfl ?_
    refine g_aload_n dX10_commit_18 rfl rfl rfl ?_
    refine g_getR dX10_commit_19 ff_X10_58 rfl (k0 hL) (r0_8 hL) rfl ?_
    refine g_callVdv (ci := 5) dX10_commit_22 lm_X10_207 mv_X5_keep (c_keep (d := d) hx hL hP hn) rfl rfl (k33 hL) rfl rfl (Nat.le_of_ble_eq_true rfl) (gFit_room (by omega)) rfl ?_
    refine g_aload_n dX10_commit_25 rfl rfl rfl ?_
    refine g_getR dX10_commit_26 ff_X10_58 rfl (k0 (keep_lay hn hL)) (r0_8 (keep_lay hn hL)) rfl ?_
    refine g_iload_n dX10_commit_29 rfl rfl rfl ?_
    refine g_iload_n dX10_commit_30 rfl rfl rfl ?_
    refine g_callVdv (ci := 4) dX10_commit_31 lm_X10_211 mv_X4_takeOn (c_takeOn_now (d := d) hx (keep_lay hn hL) mk me) rfl rfl (k24 (keep_lay hn hL)) rfl rfl (Nat.le_of_ble_eq_true rfl) (gFit_room (by omega)) rfl ?_
    rw [gwI_def (keepM M), gwI_F, gmi_F, keep_mi hn (show 25 < 33 by decide), keep_mi hn (show 9 < 33 by decide), keep_mi hn (show 8 < 33 by decide)]
    refine g_aload_n dX10_commit_34 rfl rfl rfl ?_
    refine g_getR dX10_commit_35 ff_X10_58 rfl (k0 (gLay_F (keep_lay hn hL))) (r0_8 (gLay_F (keep_lay hn hL))) rfl ?_
    refine g_iload_n dX10_commit_38 rfl rfl rfl ?_
    refine g_callVdi (ci := 4) dX10_commit_39 lm_X10_215 mv_X4_guiltOf (guilt_w (d := d) hx (keep_lay hn hL0) (keep_town hn hT) (LeftF_take (LeftF_of hl) ⟨_, hT.2.2.2.2.1 e me⟩) (fun c h1 _ => keep_mi hn h1) mk) rfl rfl (k24 (gLay_F (keep_lay hn hL))) rfl rfl (Nat.le_of_ble_eq_true rfl) (gFit_room (by omega)) rfl ?_
    exact g_iret dX10_commit_42 rfl rfl (⟨by first | rfl | assumption | exact gFr.rf | grind [ib], by first | rfl | assumption | exact gFr.rf | grind [ib]⟩)
  · refine g_iconst (v := -1) dX10_commit_12 (by decide) rfl ?_
    exact g_iret dX10_commit_13 rfl rfl (⟨by first | rfl | assumption | exact gFr.rf | grind [ib], by first | rfl | assumption | exact gFr.rf | grind [ib]⟩)
set_option maxRecDepth 20000 in
theorem c_sell (hx : gXok X) (hL : gLay M) (hP : PLay M) (hn : okv M 33 2 39) (hT : TownOK M) {x o z : Int32} : gDet X (d + 4) yX10_sell cX10_sell 4 (some .int) [.ref 0, .int x, .int o, .int z] M (some (.int (if maySell M 25 x o z then sellF (gmi M 25) (12 + tn x * 8 + tn z) (12 + tn o * 8 + tn z) (12 + tn o * 8 + tn z) else -1))) (if maySell M 25 x o z then gwF (keepM M) 25 (sellF (gmi M 25) (12 + tn x * 8 + tn z) (12 + tn o * 8 + tn z)) else M) := by
  refine gMet.of hx (by decide) (Nat.le_of_ble_eq_true rfl) ?_
  refine g_aload_n dX10_sell_0 rfl rfl rfl ?_
  refine g_getR dX10_sell_1 ff_X10_58 rfl (k0 hL) (r0_8 hL) rfl ?_
  refine g_iload_n dX10_sell_4 rfl rfl rfl ?_
  refine g_iload_n dX10_sell_5 rfl rfl rfl ?_
  refine g_iload_n dX10_sell_6 rfl rfl rfl ?_
  refine g_callVdi (ci := 4) dX10_sell_7 lm_X10_218 mv_X4_maySellTo (c_maySellTo_now (d := d) hx hL hT) rfl rfl (k24 hL) rfl rfl (Nat.le_of_ble_eq_true rfl) (gFit_room (by omega)) rfl ?_
  refine g_ine (tgt := 15) dX10_sell_10 (by decide) rfl (fun h10 => ?_) (fun h10 => ?_)
  · rw [if_pos h10, if_pos h10]
    have h9b := h10
    obtain ⟨ex_, lk⟩ := in_row hT.1.1 (by have := hT.1.2; omega) (h9b.1.1)
    have mk := Nat.lt_of_lt_of_le lk hT.1.2
    generalize gk : tn x = k at *
    subst ex_
    obtain ⟨ex_, lj⟩ := in_row hT.1.1 (by have := hT.1.2; omega) (h9b.2.1)
    have mj := Nat.lt_of_lt_of_le lj hT.1.2
    generalize gj : tn o = j at *
    subst ex_
    obtain ⟨ex_, le⟩ := in_row hT.2.1.1 (by have := hT.2.1.2; omega) (h9b.1.2)
    have me := Nat.lt_of_lt_of_le le hT.2.1.2
    generalize ge : tn z = e at *
    subst ex_
    refine g_aload_n dX10_sell_15 rfl rfl rfl ?_
    refine g_getR dX10_sell_16 ff_X10_71 rfl (k0 hL) (r0_12 hL) rfl ?_
    refine g_aload_n dX10_sell_19 rfl rfl rfl ?_
    refine g_getR dX10_sell_20 ff_X10_58 rfl (k0 hL) (r0_8 hL) rfl ?_
    refine g_callVdv (ci := 5) dX10_sell_23 lm_X10_207 mv_X5_keep (c_keep (d := d) hx hL hP hn) rfl rfl (k33 hL) rfl rfl (Nat.le_of_ble_eq_true rfl) (gFit_room (by omega)) rfl ?_
    refine g_aload_n dX10_sell_26 rfl rfl rfl ?_
    refine g_getR dX10_sell_27 ff_X10_58 rfl (k0 (keep_lay hn hL)) (r0_8 (keep_lay hn hL)) rfl ?_
    refine g_iload_n dX10_sell_30 rfl rfl rfl ?_
    refine g_iload_n dX10_sell_31 rfl rfl rfl ?_
    refine g_iload_n dX10_sell_32 rfl rfl rfl ?_
    refine g_callVdv (ci := 4) dX10_sell_33 lm_X10_222 mv_X4_sellTo (c_sellTo_now (d := d) hx (keep_lay hn hL) mk mj me) rfl rfl (k24 (keep_lay hn hL)) rfl rfl (Nat.le_of_ble_eq_true rfl) (gFit_room (by omega)) rfl ?_
    rw [gwI_def (keepM M), gwI_F, gwI_F, gmi_F, keep_mi hn (show 25 < 33 by decide)]
    refine g_aload_n dX10_sell_36 rfl rfl rfl ?_
    refine g_getR dX10_sell_37 ff_X10_58 rfl (k0 (gLay_F (keep_lay hn hL))) (r0_8 (gLay_F (keep_lay hn hL))) rfl ?_
    refine g_iload_n dX10_sell_40 rfl rfl rfl ?_
    refine g_iload_n dX10_sell_41 rfl rfl rfl ?_
    refine g_callVdi (ci := 4) dX10_sell_42 lm_X10_197 mv_X4_leftOf (c_leftOf_now (d := d) hx (gLay_F (keep_lay hn hL)) mj me) rfl rfl (k24 (gLay_F (keep_lay hn hL))) rfl rfl (Nat.le_of_ble_eq_true rfl) (gFit_room (by omega)) rfl ?_
    exact g_iret dX10_sell_45 rfl rfl (⟨by rw [gmi_F]; rfl, rfl⟩)
  · refine g_iconst (v := -1) dX10_sell_13 (by decide) rfl ?_
    exact g_iret dX10_sell_14 rfl rfl (⟨by first | rfl | assumption | exact gFr.rf | grind [ib], by first | rfl | assumption | exact gFr.rf | grind [ib]⟩)
set_option maxRecDepth 20000 in
theorem c_atone (hx : gXok X) (hL : gLay M) (hP : PLay M) (hn : okv M 33 2 39) (hT : TownOK M) (hl : LeftOK M 25) {x z : Int32} : gDet X (d + 4) yX10_atone cX10_atone 3 (some .int) [.ref 0, .int x, .int z] M (some (.int (if mayAtone M 25 x z then nI (heft M (dsF (atoneF (gmi M 25) (12 + tn x * 8 + tn z)) (tv M 3 8) (tn x) 0)) else -1))) (if mayAtone M 25 x z then gwF (keepM M) 25 (atoneF (gmi M 25) (12 + tn x * 8 + tn z)) else M) := by
  have hL0 := hL
  refine gMet.of hx (by decide) (Nat.le_of_ble_eq_true rfl) ?_
  refine g_aload_n dX10_atone_0 rfl rfl rfl ?_
  refine g_getR dX10_atone_1 ff_X10_58 rfl (k0 hL) (r0_8 hL) rfl ?_
  refine g_iload_n dX10_atone_4 rfl rfl rfl ?_
  refine g_iload_n dX10_atone_5 rfl rfl rfl ?_
  refine g_callVdi (ci := 4) dX10_atone_6 lm_X10_226 mv_X4_mayAtoneFor (c_mayAtoneFor_now (d := d) hx hL hT) rfl rfl (k24 hL) rfl rfl (Nat.le_of_ble_eq_true rfl) (gFit_room (by omega)) rfl ?_
  refine g_ine (tgt := 14) dX10_atone_9 (by decide) rfl (fun h9 => ?_) (fun h9 => ?_)
  · rw [if_pos h9, if_pos h9]
    have h9b := h9
    obtain ⟨ex_, lk⟩ := in_row hT.1.1 (by have := hT.1.2; omega) (h9b.1.1)
    have mk := Nat.lt_of_lt_of_le lk hT.1.2
    generalize gk : tn x = k at *
    subst ex_
    obtain ⟨ex_, le⟩ := in_row hT.2.1.1 (by have := hT.2.1.2; omega) (h9b.1.2)
    have me := Nat.lt_of_lt_of_le le hT.2.1.2
    generalize ge : tn z = e at *
    subst ex_
    refine g_aload_n dX10_atone_14 rfl rfl rfl ?_
    refine g_getR dX10_atone_15 ff_X10_71 rfl (k0 hL) (r0_12 hL) rfl ?_
    refine g_aload_n dX10_atone_18 rfl rfl rfl ?_
    refine g_getR dX10_atone_19 ff_X10_58 rfl (k0 hL) (r0_8 hL) rfl ?_
    refine g_callVdv (ci := 5) dX10_atone_22 lm_X10_207 mv_X5_keep (c_keep (d := d) hx hL hP hn) rfl rfl (k33 hL) rfl rfl (Nat.le_of_ble_eq_true rfl) (gFit_room (by omega)) rfl ?_
    refine g_aload_n dX10_atone_25 rfl rfl rfl ?_
    refine g_getR dX10_atone_26 ff_X10_58 rfl (k0 (keep_lay hn hL)) (r0_8 (keep_lay hn hL)) rfl ?_
    refine g_iload_n dX10_atone_29 rfl rfl rfl ?_
    refine g_iload_n dX10_atone_30 rfl rfl rfl ?_
    refine g_callVdv (ci := 4) dX10_atone_31 lm_X10_229 mv_X4_atoneFor (c_atoneFor_now (d := d) hx (keep_lay hn hL) mk me) rfl rfl (k24 (keep_lay hn hL)) rfl rfl (Nat.le_of_ble_eq_true rfl) (gFit_room (by omega)) rfl ?_
    rw [gwI_def (keepM M), gwI_F, gmi_F, keep_mi hn (show 25 < 33 by decide)]
    refine g_aload_n dX10_atone_34 rfl rfl rfl ?_
    refine g_getR dX10_atone_35 ff_X10_58 rfl (k0 (gLay_F (keep_lay hn hL))) (r0_8 (gLay_F (keep_lay hn hL))) rfl ?_
    refine g_iload_n dX10_atone_38 rfl rfl rfl ?_
    refine g_callVdi (ci := 4) dX10_atone_39 lm_X10_215 mv_X4_guiltOf (guilt_w (d := d) hx (keep_lay hn hL0) (keep_town hn hT) (LeftF_atone (LeftF_of hl)) (fun c h1 _ => keep_mi hn h1) mk) rfl rfl (k24 (gLay_F (keep_lay hn hL))) rfl rfl (Nat.le_of_ble_eq_true rfl) (gFit_room (by omega)) rfl ?_
    exact g_iret dX10_atone_42 rfl rfl (⟨by first | rfl | assumption | exact gFr.rf | grind [ib], by first | rfl | assumption | exact gFr.rf | grind [ib]⟩)
  · refine g_iconst (v := -1) dX10_atone_12 (by decide) rfl ?_
    exact g_iret dX10_atone_13 rfl rfl (⟨by first | rfl | assumption | exact gFr.rf | grind [ib], by first | rfl | assumption | exact gFr.rf | grind [ib]⟩)
abbrev mayGive (M : gM) (x : Int32) : Prop := ¬ gmi M 3 7 = 0 ∧ ¬ x < 1 ∧ ¬ 50 < x ∧ gmi M 25 65 + x ≤ 999
set_option maxRecDepth 20000 in
theorem c_give (hx : gXok X) (hL : gLay M) (hP : PLay M) (hn : okv M 33 2 39) {x : Int32} : gDet X (d + 4) yX10_give cX10_give 2 (some .int) [.ref 0, .int x] M (some (.int (if mayGive M x then gmi M 25 65 + x else -1))) (if mayGive M x then gwF (keepM M) 25 (va_up (gmi M 25) 65 (gmi M 25 65 + x)) else M) := by
  refine gMet.of hx (by decide) (Nat.le_of_ble_eq_true rfl) ?_
  refine g_aload_n dX10_give_0 rfl rfl rfl ?_
  refine g_callVdi (ci := 10) dX10_give_1 lm_X10_250 mv_X10_noTown (c_noTown (d := d) hx hL) rfl rfl (k0 hL) rfl rfl (Nat.le_of_ble_eq_true rfl) (gFit_room (by omega)) rfl ?_
  refine g_ine (tgt := 35) dX10_give_4 (by decide) rfl (fun h4 => ?_) (fun h4 => ?_)
  · refine g_iconst (v := -1) dX10_give_35 (by decide) rfl ?_
    exact g_iret dX10_give_36 rfl rfl (⟨by first | rfl | assumption | exact gFr.rf | grind [ib], by first | rfl | assumption | exact gFr.rf | grind [ib]⟩)
  · refine g_iload_n dX10_give_7 rfl rfl rfl ?_
    refine g_iconst (v := 1) dX10_give_8 (by decide) rfl ?_
    refine g_icmp_lt (tgt := 35) dX10_give_9 (by decide) rfl (fun h9 => ?_) (fun h9 => ?_)
    · refine g_iconst (v := -1) dX10_give_35 (by decide) rfl ?_
      exact g_iret dX10_give_36 rfl rfl (⟨by first | rfl | assumption | exact gFr.rf | grind [ib], by first | rfl | assumption | exact gFr.rf | grind [ib]⟩)
    · refine g_iload_n dX10_give_12 rfl rfl rfl ?_
      refine g_bipush (v := 50) dX10_give_13 (by decide) rfl ?_
      refine g_icmp_gt (tgt := 35) dX10_give_15 (by decide) rfl (fun h15 => ?_) (fun h15 => ?_)
      · refine g_iconst (v := -1) dX10_give_35 (by decide) rfl ?_
        exact g_iret dX10_give_36 rfl rfl (⟨by first | rfl | assumption | exact gFr.rf | grind [ib], by first | rfl | assumption | exact gFr.rf | grind [ib]⟩)
      · refine g_aload_n dX10_give_18 rfl rfl rfl ?_
        refine g_getR dX10_give_19 ff_X10_58 rfl (k0 hL) (r0_8 hL) rfl ?_
        refine g_bipush (v := 65) dX10_give_22 (by decide) rfl ?_
        refine g_callVdi (ci := 4) dX10_give_24 lm_X10_254 mv_X4_get (c_get_now (d := d) (i := 65) hx hL (by decide)) rfl rfl (k24 hL) rfl rfl (Nat.le_of_ble_eq_true rfl) (gFit_room (by omega)) rfl ?_
        refine g_iload_n dX10_give_27 rfl rfl rfl ?_
        refine g_iadd dX10_give_28 rfl ?_
        refine g_sipush (v := 999) dX10_give_29 (by decide) rfl ?_
        refine g_icmp_le (tgt := 37) dX10_give_32 (by decide) rfl (fun h32 => ?_) (fun h32 => ?_)
        · rw [if_pos (show mayGive M x from ⟨h4, h9, h15, h32⟩), if_pos (show mayGive M x from ⟨h4, h9, h15, h32⟩)]
          refine g_aload_n dX10_give_37 rfl rfl rfl ?_
          refine g_getR dX10_give_38 ff_X10_71 rfl (k0 hL) (r0_12 hL) rfl ?_
          refine g_aload_n dX10_give_41 rfl rfl rfl ?_
          refine g_getR dX10_give_42 ff_X10_58 rfl (k0 hL) (r0_8 hL) rfl ?_
          refine g_callVdv (ci := 5) dX10_give_45 lm_X10_207 mv_X5_keep (c_keep (d := d) hx hL hP hn) rfl rfl (k33 hL) rfl rfl (Nat.le_of_ble_eq_true rfl) (gFit_room (by omega)) rfl ?_
          refine g_aload_n dX10_give_48 rfl rfl rfl ?_
          refine g_getR dX10_give_49 ff_X10_58 rfl (k0 (keep_lay hn hL)) (r0_8 (keep_lay hn hL)) rfl ?_
          refine g_iload_n dX10_give_52 rfl rfl rfl ?_
          refine g_callVdv (ci := 4) dX10_give_53 lm_X10_257 mv_X4_receive (c_receive_now (d := d) hx (keep_lay hn hL)) rfl rfl (k24 (keep_lay hn hL)) rfl rfl (Nat.le_of_ble_eq_true rfl) (gFit_room (by omega)) rfl ?_
          rw [gwI_def (keepM M), keep_mi hn (show 25 < 33 by decide)]
          refine g_aload_n dX10_give_56 rfl rfl rfl ?_
          refine g_getR dX10_give_57 ff_X10_58 rfl (k0 (gLay_F (keep_lay hn hL))) (r0_8 (gLay_F (keep_lay hn hL))) rfl ?_
          refine g_bipush (v := 65) dX10_give_60 (by decide) rfl ?_
          refine g_callVdi (ci := 4) dX10_give_62 lm_X10_254 mv_X4_get (c_get_now (d := d) (i := 65) hx (gLay_F (keep_lay hn hL)) (by decide)) rfl rfl (k24 (gLay_F (keep_lay hn hL))) rfl rfl (Nat.le_of_ble_eq_true rfl) (gFit_room (by omega)) rfl ?_
          exact g_iret dX10_give_65 rfl rfl (⟨by rw [gmi_F, va_up_self], rfl⟩)
        · refine g_iconst (v := -1) dX10_give_35 (by decide) rfl ?_
          exact g_iret dX10_give_36 rfl rfl (⟨by first | rfl | assumption | exact gFr.rf | grind [ib], by first | rfl | assumption | exact gFr.rf | grind [ib]⟩)
abbrev mayDay (M : gM) (r : Nat) : Prop := ¬ gmi M 3 7 ≤ 0 ∧ ¬ 999 ≤ gmi M r 66
theorem smo_eq {M1 : gM} {r : Nat} (h3 : gmi M1 3 = gmi M 3) (hr : gmi M1 r = gmi M r) : smo M1 r = smo M r := by unfold smo; rw [tv_eq h3, hr]
theorem wishN_eq {M1 : gM} {r : Nat} (h3 : gmi M1 3 = gmi M 3) (h6 : gmi M1 6 = gmi M 6) (hr : gmi M1 r = gmi M r) : wishN M1 r = wishN M r := by unfold wishN; rw [smo_eq h3 hr, h6, hr, tv_eq h3]
theorem dayR_eq {M1 : gM} {r : Nat} (h3 : gmi M1 3 = gmi M 3) (h6 : gmi M1 6 = gmi M 6) (hr : gmi M1 r = gmi M r) : dayR M1 r = dayR M r := by unfold dayR; rw [wishN_eq h3 h6 hr, hr, tv_eq h3]
theorem dayE_eq {M1 : gM} {r e : Nat} (h3 : gmi M1 3 = gmi M 3) (hr : gmi M1 r = gmi M r) (he : gmi M1 e = gmi M e) : dayE M1 r e = dayE M r e := by unfold dayE; rw [smo_eq h3 hr, tv_eq hr, hr, he]
set_option maxRecDepth 20000 in
theorem c_day (hx : gXok X) (hL : gLay M) (hP : PLay M) (hn : okv M 33 2 39) (hT : TownOK M) (hd : okv M 25 66 999) : gDet X (d + 4) yX10_day cX10_day 2 (some .int) [.ref 0] M (some (.int (if mayDay M 25 then ibc (nI (smo M 25)) else -1))) (if mayDay M 25 then gwF (gwF (keepM M) 26 (dayE M 25 26)) 25 (dayR M 25) else M) := by
  refine gMet.of hx (by decide) (Nat.le_of_ble_eq_true rfl) ?_
  have e3 := keep_mi hn (show 3 < 33 by decide)
  have e6 := keep_mi hn (show 6 < 33 by decide)
  have e25 := keep_mi hn (show 25 < 33 by decide)
  have e26 := keep_mi hn (show 26 < 33 by decide)
  have hs := c_smooth_now (X := X) (d := d) hx (keep_lay hn hL) (keep_town hn hT)
  rw [show bsum (fun p => decide (gmi (keepM M) 25 p = 0)) (tv (keepM M) 3 7) = smo M 25 from smo_eq e3 e25] at hs
  have hp := c_passDay_now (X := X) (d := d) hx (keep_lay hn hL) (keep_town hn hT) (okv_eq e25 hd)
  rw [dayE_eq e3 e25 e26, dayR_eq e3 e6 e25] at hp
  refine g_aload_n dX10_day_0 rfl rfl rfl ?_
  refine g_getR dX10_day_1 ff_X10_58 rfl (k0 hL) (r0_8 hL) rfl ?_
  refine g_callVdi (ci := 4) dX10_day_4 lm_X10_260 mv_X4_mayPassDay (c_mayPassDay_now (d := d) hx hL) rfl rfl (k24 hL) rfl rfl (Nat.le_of_ble_eq_true rfl) (gFit_room (by omega)) rfl ?_
  refine g_ine (tgt := 12) dX10_day_7 (by decide) rfl (fun h7 => ?_) (fun h7 => ?_)
  · refine g_aload_n dX10_day_12 rfl rfl rfl ?_
    refine g_getR dX10_day_13 ff_X10_71 rfl (k0 hL) (r0_12 hL) rfl ?_
    refine g_aload_n dX10_day_16 rfl rfl rfl ?_
    refine g_getR dX10_day_17 ff_X10_58 rfl (k0 hL) (r0_8 hL) rfl ?_
    refine g_callVdv (ci := 5) dX10_day_20 lm_X10_207 mv_X5_keep (c_keep (d := d) hx hL hP hn) rfl rfl (k33 hL) rfl rfl (Nat.le_of_ble_eq_true rfl) (gFit_room (by omega)) rfl ?_
    refine g_aload_n dX10_day_23 rfl rfl rfl ?_
    refine g_getR dX10_day_24 ff_X10_58 rfl (k0 (keep_lay hn hL)) (r0_8 (keep_lay hn hL)) rfl ?_
    refine g_callVdi (ci := 4) dX10_day_27 lm_X10_263 mv_X4_smooth (hs) rfl rfl (k24 (keep_lay hn hL)) rfl rfl (Nat.le_of_ble_eq_true rfl) (gFit_room (by omega)) rfl ?_
    refine g_istore_n dX10_day_30 rfl (by decide) rfl ?_
    refine g_aload_n dX10_day_31 rfl rfl rfl ?_
    refine g_getR dX10_day_32 ff_X10_58 rfl (k0 (keep_lay hn hL)) (r0_8 (keep_lay hn hL)) rfl ?_
    refine g_callVdv (ci := 4) dX10_day_35 lm_X10_266 mv_X4_passDay (hp) rfl rfl (k24 (keep_lay hn hL)) rfl rfl (Nat.le_of_ble_eq_true rfl) (gFit_room (by omega)) rfl ?_
    refine g_iload_n dX10_day_38 rfl rfl rfl ?_
    refine g_callSdi dX10_day_39 lm_X10_269 mv_J6_bitCount_0f7a4 (c_bitCount (d := d) hx) rfl rfl (Nat.le_of_ble_eq_true rfl) (gFit_room (by omega)) rfl ?_
    exact g_iret dX10_day_42 rfl rfl (⟨by first | rfl | assumption | exact gFr.rf | grind [ib], by first | rfl | assumption | exact gFr.rf | grind [ib]⟩)
  · refine g_iconst (v := -1) dX10_day_10 (by decide) rfl ?_
    exact g_iret dX10_day_11 rfl rfl (⟨by first | rfl | assumption | exact gFr.rf | grind [ib], by first | rfl | assumption | exact gFr.rf | grind [ib]⟩)
end A0
