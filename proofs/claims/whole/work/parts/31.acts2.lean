section A1
variable {X : gX} {M : gM} {d : Nat}
theorem gFr.congF {S : Nat → Prop} {M2 : gM} {a : Nat} {f : Nat → Int32} (h : gFr S M M2) : gFr S (gwF M a f) (gwF M2 a f) := by
  refine ⟨h.1, h.2.1, h.2.2.1, fun c hc => ?_⟩
  by_cases e : c = a
  · subst e; rw [gmi_F, gmi_F]
  · rw [gmi_Fn _ _ e, gmi_Fn _ _ e]; exact h.2.2.2 c hc
/-- guilty by a row -/
def gubF (M : gM) (EV : EVt) (F : Nat → Int32) (p b : Nat) : Bool := decide (0 < rd EV (nI (heft M b)) (gmi M 5 p) (F p) (ibc (nI b)) (F 66) (F (6 + p)))
def goF (g : Bool) (f : Nat → Int32) (p : Nat) (nick : Int32) : Nat → Int32 := if g then goG f p else goN f p nick
/-- guilty, as he stands by a row -/
def gunF (M : gM) (EV : EVt) (F : Nat → Int32) (p : Nat) : Bool := gubF M EV F p (dsF F (tv M 3 8) p 0)
theorem gub_F (EV : EVt) (p b : Nat) : gub M EV p b = gubF M EV (gmi M 25) p b := rfl
theorem dset_F (r p n : Nat) : dset M r p n = dsF (gmi M r) (tv M 3 8) p n := rfl
set_option maxRecDepth 20000 in
theorem c_goTo_now (hx : gXok X) (hL : gLay M) (hT : TownOK M) (hl : LeftOK M 25) {EV : EVt} (hC : CourtSem M EV) {p : Nat} (hp : p < 6) :
    gPos X (d + 5) yX10_goToBarber cX10_goToBarber 4 (some .boolean) [.ref 0, .ref 24, .int (nI p)] M (fun v M2 => v = some (.int (ib (gunF M EV (gmi M 25) p = true))) ∧ gFr scr0 (gwF M 25 (goF (gunF M EV (gmi M 25) p) (gmi M 25) p (gmi M 3 9))) M2) := by
  refine gMet.of hx (by decide) (Nat.le_of_ble_eq_true rfl) ?_
  have hg := c_isGuilty_now (X := X) (d := d) hx hL hT hC hp (dset_lt hT 25 p 0)
  rw [show ib (0 < rd EV (nI (heft M (dset M 25 p 0))) (gmi M 5 p) (gmi M 25 p) (ibc (nI (dset M 25 p 0))) (gmi M 25 66) (gmi M 25 (6 + p))) = ib (gunF M EV (gmi M 25) p = true) from by
    unfold gunF gubF
    rw [← dset_F]
    exact ib_iff (by simp)] at hg
  refine g_aload_n dX10_goToBarber_0 rfl rfl rfl ?_
  refine g_getR dX10_goToBarber_1 ff_X10_40 rfl (k0 hL) (r0_4 hL) rfl ?_
  refine g_aload_n dX10_goToBarber_4 rfl rfl rfl ?_
  refine g_iload_n dX10_goToBarber_5 rfl rfl rfl ?_
  refine g_aload_n dX10_goToBarber_6 rfl rfl rfl ?_
  refine g_iload_n dX10_goToBarber_7 rfl rfl rfl ?_
  refine g_callVdi (ci := 4) dX10_goToBarber_8 lm_X10_239 mv_X4_deedsOf (c_deedsOf_now (d := d) hx hL hT hl hp) rfl rfl (k24 hL) rfl rfl (Nat.le_of_ble_eq_true rfl) (gFit_room (by omega)) rfl ?_
  refine g_callVq (ci := 0) dX10_goToBarber_11 lm_X10_242 mv_X0_isGuilty (hg) rfl rfl (k20 hL) rfl rfl (Nat.le_of_ble_eq_true rfl) (gFit_room (by omega)) rfl (fun v M2 hQ => ?_)
  obtain ⟨rfl, hf⟩ := hQ
  have e25 := hf.2.2.2 25 (scr0_lo (by decide) (by decide))
  have e3 := hf.2.2.2 3 (scr0_lo (by decide) (by decide))
  generalize hgu : gunF M EV (gmi M 25) p = g
  refine g_istore_n dX10_goToBarber_14 rfl (by decide) rfl ?_
  cases g with
  | true =>
  have hc := c_goG_now (X := X) (d := d) hx (hf.lay hL) hp
  rw [e25] at hc
  rw [show ib (true = true) = 1 from rfl]
  refine g_aload_n dX10_goToBarber_15 rfl rfl rfl ?_
  refine g_iload_n dX10_goToBarber_16 rfl rfl rfl ?_
  refine g_iload_n dX10_goToBarber_17 rfl rfl rfl ?_
  refine g_callVdv (ci := 4) dX10_goToBarber_18 lm_X10_246 mv_X4_go (hc) rfl rfl (k24 (hf.lay hL)) rfl rfl (Nat.le_of_ble_eq_true rfl) (gFit_room (by omega)) rfl ?_
  refine g_iload_n dX10_goToBarber_21 rfl rfl rfl ?_
  exact g_iret dX10_goToBarber_22 rfl (by first | rfl | exact b01) (⟨rfl, hf.congF⟩)
  | false =>
  have hc := c_goN_now (X := X) (d := d) hx (hf.lay hL) hp
  rw [e25, e3] at hc
  rw [show ib (false = true) = 0 from rfl]
  refine g_aload_n dX10_goToBarber_15 rfl rfl rfl ?_
  refine g_iload_n dX10_goToBarber_16 rfl rfl rfl ?_
  refine g_iload_n dX10_goToBarber_17 rfl rfl rfl ?_
  refine g_callVdv (ci := 4) dX10_goToBarber_18 lm_X10_246 mv_X4_go (hc) rfl rfl (k24 (hf.lay hL)) rfl rfl (Nat.le_of_ble_eq_true rfl) (gFit_room (by omega)) rfl ?_
  refine g_iload_n dX10_goToBarber_21 rfl rfl rfl ?_
  exact g_iret dX10_goToBarber_22 rfl (by first | rfl | exact b01) (⟨rfl, hf.congF⟩)
set_option maxRecDepth 20000 in
theorem c_goTo_trial (hx : gXok X) (hL : gLay M) (hT : TownOK M) (hl : LeftOK M 28) {EV : EVt} (hC : CourtSem M EV) {p : Nat} (hp : p < 6) :
    gPos X (d + 5) yX10_goToBarber cX10_goToBarber 4 (some .boolean) [.ref 0, .ref 27, .int (nI p)] M (fun v M2 => v = some (.int (ib (gunF M EV (gmi M 28) p = true))) ∧ gFr scr0 (gwF M 28 (goF (gunF M EV (gmi M 28) p) (gmi M 28) p (gmi M 3 9))) M2) := by
  refine gMet.of hx (by decide) (Nat.le_of_ble_eq_true rfl) ?_
  have hg := c_isGuilty_trial (X := X) (d := d) hx hL hT hC hp (dset_lt hT 28 p 0)
  rw [show ib (0 < rd EV (nI (heft M (dset M 28 p 0))) (gmi M 5 p) (gmi M 28 p) (ibc (nI (dset M 28 p 0))) (gmi M 28 66) (gmi M 28 (6 + p))) = ib (gunF M EV (gmi M 28) p = true) from by
    unfold gunF gubF
    rw [← dset_F]
    exact ib_iff (by simp)] at hg
  refine g_aload_n dX10_goToBarber_0 rfl rfl rfl ?_
  refine g_getR dX10_goToBarber_1 ff_X10_40 rfl (k0 hL) (r0_4 hL) rfl ?_
  refine g_aload_n dX10_goToBarber_4 rfl rfl rfl ?_
  refine g_iload_n dX10_goToBarber_5 rfl rfl rfl ?_
  refine g_aload_n dX10_goToBarber_6 rfl rfl rfl ?_
  refine g_iload_n dX10_goToBarber_7 rfl rfl rfl ?_
  refine g_callVdi (ci := 4) dX10_goToBarber_8 lm_X10_239 mv_X4_deedsOf (c_deedsOf_trial (d := d) hx hL hT hl hp) rfl rfl (k27 hL) rfl rfl (Nat.le_of_ble_eq_true rfl) (gFit_room (by omega)) rfl ?_
  refine g_callVq (ci := 0) dX10_goToBarber_11 lm_X10_242 mv_X0_isGuilty (hg) rfl rfl (k20 hL) rfl rfl (Nat.le_of_ble_eq_true rfl) (gFit_room (by omega)) rfl (fun v M2 hQ => ?_)
  obtain ⟨rfl, hf⟩ := hQ
  have e28 := hf.2.2.2 28 (scr0_lo (by decide) (by decide))
  have e3 := hf.2.2.2 3 (scr0_lo (by decide) (by decide))
  generalize hgu : gunF M EV (gmi M 28) p = g
  refine g_istore_n dX10_goToBarber_14 rfl (by decide) rfl ?_
  cases g with
  | true =>
  have hc := c_goG_trial (X := X) (d := d) hx (hf.lay hL) hp
  rw [e28] at hc
  rw [show ib (true = true) = 1 from rfl]
  refine g_aload_n dX10_goToBarber_15 rfl rfl rfl ?_
  refine g_iload_n dX10_goToBarber_16 rfl rfl rfl ?_
  refine g_iload_n dX10_goToBarber_17 rfl rfl rfl ?_
  refine g_callVdv (ci := 4) dX10_goToBarber_18 lm_X10_246 mv_X4_go (hc) rfl rfl (k27 (hf.lay hL)) rfl rfl (Nat.le_of_ble_eq_true rfl) (gFit_room (by omega)) rfl ?_
  refine g_iload_n dX10_goToBarber_21 rfl rfl rfl ?_
  exact g_iret dX10_goToBarber_22 rfl (by first | rfl | exact b01) (⟨rfl, hf.congF⟩)
  | false =>
  have hc := c_goN_trial (X := X) (d := d) hx (hf.lay hL) hp
  rw [e28, e3] at hc
  rw [show ib (false = true) = 0 from rfl]
  refine g_aload_n dX10_goToBarber_15 rfl rfl rfl ?_
  refine g_iload_n dX10_goToBarber_16 rfl rfl rfl ?_
  refine g_iload_n dX10_goToBarber_17 rfl rfl rfl ?_
  refine g_callVdv (ci := 4) dX10_goToBarber_18 lm_X10_246 mv_X4_go (hc) rfl rfl (k27 (hf.lay hL)) rfl rfl (Nat.le_of_ble_eq_true rfl) (gFit_room (by omega)) rfl ?_
  refine g_iload_n dX10_goToBarber_21 rfl rfl rfl ?_
  exact g_iret dX10_goToBarber_22 rfl (by first | rfl | exact b01) (⟨rfl, hf.congF⟩)
theorem gunF_eq {M1 : gM} {EV : EVt} {F : Nat → Int32} {p : Nat} (h3 : gmi M1 3 = gmi M 3) (h5 : gmi M1 5 = gmi M 5) (h7 : gmi M1 7 = gmi M 7) : gunF M1 EV F p = gunF M EV F p := by
  unfold gunF gubF
  rw [heft_fr h3 h7, h5, tv_eq h3]
set_option maxRecDepth 20000 in
theorem c_shave (hx : gXok X) (hL : gLay M) (hP : PLay M) (hn : okv M 33 2 39) (hT : TownOK M) (hl : LeftOK M 25) {EV : EVt} (hC : CourtSem M EV) {x : Int32} :
    gPos X (d + 6) yX10_shave cX10_shave 2 (some .int) [.ref 0, .int x] M (fun v M2 => v = some (.int (if mayGo M 25 x then ib (gunF M EV (gmi M 25) (tn x) = true) else -1)) ∧ gFr scr0 (if mayGo M 25 x then gwF (keepM M) 25 (goF (gunF M EV (gmi M 25) (tn x)) (gmi M 25) (tn x) (gmi M 3 9)) else M) M2) := by
  refine gMet.of hx (by decide) (Nat.le_of_ble_eq_true rfl) ?_
  refine g_aload_n dX10_shave_0 rfl rfl rfl ?_
  refine g_getR dX10_shave_1 ff_X10_58 rfl (k0 hL) (r0_8 hL) rfl ?_
  refine g_iload_n dX10_shave_4 rfl rfl rfl ?_
  refine g_callVdi (ci := 4) dX10_shave_5 lm_X10_232 mv_X4_mayGo (c_mayGo_now (d := d) hx hL) rfl rfl (k24 hL) rfl rfl (Nat.le_of_ble_eq_true rfl) (gFit_room (by omega)) rfl ?_
  refine g_ine (tgt := 13) dX10_shave_8 (by decide) rfl (fun h8 => ?_) (fun h8 => ?_)
  · rw [if_pos h8, if_pos h8]
    have h8b := h8
    obtain ⟨ex_, lk⟩ := in_row hT.1.1 (by have := hT.1.2; omega) (h8b.1)
    have mk := Nat.lt_of_lt_of_le lk hT.1.2
    generalize gk : tn x = k at *
    subst ex_
    have hc := c_goTo_now (X := X) (d := d) hx (keep_lay hn hL) (keep_town hn hT) (keep_left hn hl) (CourtSem_fr ⟨by decide, fun k => ⟨by omega, by omega, by omega, by omega⟩⟩ (keep_fr hn) hC) mk
    rw [keep_mi hn (show 25 < 33 by decide), keep_mi hn (show 3 < 33 by decide), gunF_eq (keep_mi hn (show 3 < 33 by decide)) (keep_mi hn (show 5 < 33 by decide)) (keep_mi hn (show 7 < 33 by decide))] at hc
    refine g_aload_n dX10_shave_13 rfl rfl rfl ?_
    refine g_getR dX10_shave_14 ff_X10_71 rfl (k0 hL) (r0_12 hL) rfl ?_
    refine g_aload_n dX10_shave_17 rfl rfl rfl ?_
    refine g_getR dX10_shave_18 ff_X10_58 rfl (k0 hL) (r0_8 hL) rfl ?_
    refine g_callVdv (ci := 5) dX10_shave_21 lm_X10_207 mv_X5_keep (c_keep (d := d) hx hL hP hn) rfl rfl (k33 hL) rfl rfl (Nat.le_of_ble_eq_true rfl) (gFit_room (by omega)) rfl ?_
    refine g_aload_n dX10_shave_24 rfl rfl rfl ?_
    refine g_aload_n dX10_shave_25 rfl rfl rfl ?_
    refine g_getR dX10_shave_26 ff_X10_58 rfl (k0 (keep_lay hn hL)) (r0_8 (keep_lay hn hL)) rfl ?_
    refine g_iload_n dX10_shave_29 rfl rfl rfl ?_
    refine g_callVq (ci := 10) dX10_shave_30 lm_X10_235 mv_X10_goToBarber (hc) rfl rfl (k0 (keep_lay hn hL)) rfl rfl (Nat.le_of_ble_eq_true rfl) (gFit_room (by omega)) rfl (fun v M2 hQ => ?_)
    obtain ⟨rfl, hf⟩ := hQ
    refine g_ieq (tgt := 40) dX10_shave_33 (by decide) rfl (fun h33 => ?_) (fun h33 => ?_)
    · refine g_iconst (v := 0) dX10_shave_40 (by decide) rfl ?_
      exact g_iret dX10_shave_41 rfl (by first | rfl | exact b01) (⟨by first | rfl | assumption | exact gFr.rf | grind [ib], by first | rfl | assumption | exact gFr.rf | grind [ib]⟩)
    · refine g_iconst (v := 1) dX10_shave_36 (by decide) rfl ?_
      refine g_goto (tgt := 41) dX10_shave_37 (by decide) ?_
      exact g_iret dX10_shave_41 rfl (by first | rfl | exact b01) (⟨by first | rfl | assumption | exact gFr.rf | grind [ib], by first | rfl | assumption | exact gFr.rf | grind [ib]⟩)
  · rw [if_neg h8, if_neg h8]
    refine g_iconst (v := -1) dX10_shave_11 (by decide) rfl ?_
    exact g_iret dX10_shave_12 rfl (by first | rfl | exact b01) (⟨by first | rfl | assumption | exact gFr.rf | grind [ib], by first | rfl | assumption | exact gFr.rf | grind [ib]⟩)
end A1
