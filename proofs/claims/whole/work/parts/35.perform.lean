section W4
variable {X : gX} {M : gM} {d : Nat}
theorem keepM_fr {M2 : gM} (hn : okv M 33 2 39) (h : gFr scr0 M M2) : gFr scr0 (keepM M) (keepM M2) := by
  have hq := hn.2
  have e33 : gmi M2 33 = gmi M 33 := h.2.2.2 33 (scr0_lo (by decide) (by decide))
  have e25 : gmi M2 25 = gmi M 25 := h.2.2.2 25 (scr0_lo (by decide) (by decide))
  have ek : gmi M2 (35 + tv M 33 2) = gmi M (35 + tv M 33 2) := h.2.2.2 _ (scr0_lo (by omega) (by omega))
  unfold keepM
  rw [tv_eq e33, e25, ek, e33]
  unfold gwI
  have h1 := h.congF (a := 35 + tv M 33 2) (f := va_cpy (gmi M 25) (gmi M (35 + tv M 33 2)) 0 0 67)
  rw [h1.2.2.2 33 (scr0_lo (by decide) (by decide))]
  have h2 := h1.congF (a := 33) (f := va_up (gmi (gwF M (35 + tv M 33 2) (va_cpy (gmi M 25) (gmi M (35 + tv M 33 2)) 0 0 67)) 33) 2 (nI ((tv M 33 2 + 1) % 40)))
  rw [h2.2.2.2 33 (scr0_lo (by decide) (by decide))]
  exact h2.congF
theorem keepM_ok (hn : okv M 33 2 39) : okv (keepM M) 33 2 39 := by
  have hq := hn.2
  refine (okv_of (n := (tv M 33 2 + 1) % 40) ?_ (by omega) (by decide)).1
  unfold keepM
  rw [gmi_I, va_up_ne _ _ (by decide), gmi_I, va_up_self]
theorem keep_Ws {EV : EVt} {a : Nat} (hn : okv M 33 2 39) (hs : Ws M EV 25 a) : Ws (keepM M) EV 25 a := by
  obtain ⟨h1, h2, h3, h4, h5, h6⟩ := hs
  exact ⟨keep_lay hn h1, keep_town hn h2, keep_left hn h3, okv_eq (keep_mi hn (by decide)) h4, CourtSem_fr ⟨by decide, fun k => ⟨by omega, by omega, by omega, by omega⟩⟩ (keep_fr hn) h5, WkAt_fr (keep_fr hn) h6⟩
theorem keep_stepB {k i : Nat} (hn : okv M 33 2 39) : stepB (keepM M) 25 (300 + 5 * k) i = stepB M 25 (300 + 5 * k) i := by
  have e : ∀ c, c < 33 ∨ 300 ≤ c → gmi (keepM M) c = gmi M c := fun c h => (keep_fr hn).2.2.2 c (by omega)
  unfold stepB mayTake mayGo mayAtone mayDay inP inD
  rw [e (300 + 5 * k + 1) (by omega), e (300 + 5 * k + 2) (by omega), e (300 + 5 * k + 3) (by omega), e 3 (by omega), e 25 (by omega)]
/-- how a week goes in earnest -/
def perfSt (M : gM) (EV : EVt) (k : Nat) : Nat × gM := goSt keepM EV 25 26 (300 + 5 * k) (tv M (300 + 5 * k) 3) 0 M
set_option maxRecDepth 20000 in
set_option maxHeartbeats 1000000 in
theorem c_perform (hx : gXok X) (hL : gLay M) (hP : PLay M) (hn : okv M 33 2 39) (hT : TownOK M) (hl : LeftOK M 25) (hd : okv M 25 66 999) (hW : WeeksOK M) {EV : EVt} (hC : CourtSem M EV) {x : Int32} : gPos X (d + 7) yX10_perform cX10_perform 4 (some .int) [.ref 0, .int x] M (fun v M2 => v = some (.int (if inW M x ∧ ¬ gmi M 3 7 = 0 then nI (perfSt M EV (tn x)).1 else -1)) ∧ gFr scr0 (if inW M x ∧ ¬ gmi M 3 7 = 0 then (perfSt M EV (tn x)).2 else M) M2) := by
  have h4 := hW.1.2
  refine gMet.of hx (by decide) (Nat.le_of_ble_eq_true rfl) ?_
  by_cases hin : inW M x
  · obtain ⟨ex, lk⟩ := in_row hW.1.1 (by omega) hin
    have hwk := (hW.2 _ lk).2.1
    have hlen := (hW.2 _ lk).2.2
    have hlen2 := hlen.2
    generalize hk : tn x = k at *
    subst ex
    refine g_aload_n dX10_perform_0 rfl rfl rfl ?_
    refine g_iload_n dX10_perform_1 rfl rfl rfl ?_
    refine g_callVdr (ci := 10) dX10_perform_2 lm_X10_296 mv_X10_weekOf (c_weekS (d := d) hx hL hW lk) rfl rfl (k0 hL) rfl rfl (Nat.le_of_ble_eq_true rfl) (gFit_room (by omega)) rfl ?_
    refine g_astore_n dX10_perform_5 rfl (by decide) rfl ?_
    refine g_aload_n dX10_perform_6 rfl rfl rfl ?_
    refine g_ifnull dX10_perform_7 rfl ?_
    refine g_aload_n dX10_perform_10 rfl rfl rfl ?_
    refine g_callVdi (ci := 10) dX10_perform_11 lm_X10_250 mv_X10_noTown (c_noTown (d := d) hx hL) rfl rfl (k0 hL) rfl rfl (Nat.le_of_ble_eq_true rfl) (gFit_room (by omega)) rfl ?_
    refine g_ieq (tgt := 19) dX10_perform_14 (by decide) rfl (fun h14 => ?_) (fun h14 => ?_)
    · rw [if_pos ⟨hin, h14⟩, if_pos ⟨hin, h14⟩]
      refine g_iconst (v := 0) dX10_perform_19 (by decide) rfl ?_
      refine g_istore_n dX10_perform_20 rfl (by decide) rfl ?_
      refine g_loopM (fun i => [(0, .ref 0), (1, .int (nI k)), (2, .ref (300 + 5 * k)), (3, .int (nI i))]) (fun i M1 => ∃ Mi, gFr scr0 Mi M1 ∧ Ws Mi EV 25 (300 + 5 * k) ∧ (okv Mi 33 2 39 ∧ PLay Mi ∧ gmi Mi (300 + 5 * k) = gmi M (300 + 5 * k)) ∧ goSt keepM EV 25 26 (300 + 5 * k) (tv M (300 + 5 * k) 3 - i) i Mi = perfSt M EV k) (tv M (300 + 5 * k) 3) 0 (Nat.zero_le _) ⟨rfl, rfl, rfl, rfl, trivial⟩ ⟨M, gFr.rf, ⟨hL, hT, hl, hd, hC, hwk⟩, ⟨hn, hP, rfl⟩, rfl⟩ (fun M1 hI => ?_) (fun i M1 _ hi hI ih => ?_)
      · obtain ⟨Mi, hf, hws, hT0, hg⟩ := hI
        have el : gmi M1 (300 + 5 * k) 3 = nI (tv M (300 + 5 * k) 3) := by rw [hf.2.2.2 _ (wk_scr k).2.2.2, hT0.2.2]; exact hlen.1
        have k_a : gkd M1 (300 + 5 * k) = 10 := (WkAt_fr hf hws.2.2.2.2.2).1
        rw [Nat.sub_self] at hg
        refine g_iload_n dX10_perform_21 rfl rfl rfl ?_
        refine g_aload_n dX10_perform_22 rfl rfl rfl ?_
        refine g_getI dX10_perform_23 ff_X10_300 rfl (k_a) rfl ?_
        refine g_icmp_ge (tgt := 69) dX10_perform_26 (by decide) rfl (fun _ => ?_) (fun h_ => absurd (by rw [el]; exact nI_le (Nat.le_refl _) (by omega)) h_)
        refine g_iload_n dX10_perform_69 rfl rfl rfl ?_
        exact g_iret dX10_perform_70 rfl (by first | rfl | exact b01) (⟨by rw [← hg]; rfl, by rw [← hg]; exact hf⟩)
      · obtain ⟨Mi, hf, hws, ⟨hn0, hP0, hq0⟩, hg⟩ := hI
        have hws1 := Ws_fr (Or.inl rfl) hf hws
        have el : gmi M1 (300 + 5 * k) 3 = nI (tv M (300 + 5 * k) 3) := by rw [hf.2.2.2 _ (wk_scr k).2.2.2, hq0]; exact hlen.1
        have k_a : gkd M1 (300 + 5 * k) = 10 := hws1.2.2.2.2.2.1
        have eb := stepB_fr (i := i) ⟨(wk_scr k).1, (wk_scr k).2.1, (wk_scr k).2.2.1⟩ (Or.inl rfl : (25 : Nat) = 25 ∨ (25 : Nat) = 28) hf
        rw [show tv M (300 + 5 * k) 3 - i = (tv M (300 + 5 * k) 3 - (i + 1)) + 1 by omega] at hg
        unfold goSt at hg
        have hn1 : okv M1 33 2 39 := okv_eq (hf.2.2.2 33 (scr0_lo (by decide) (by decide))) hn0
        have hL1 := hws1.1
        have hwsk := keep_Ws hn1 hws1
        refine g_iload_n dX10_perform_21 rfl rfl rfl ?_
        refine g_aload_n dX10_perform_22 rfl rfl rfl ?_
        refine g_getI dX10_perform_23 ff_X10_300 rfl (k_a) rfl ?_
        refine g_icmp_ge (tgt := 69) dX10_perform_26 (by decide) rfl (fun h_ => absurd h_ (by rw [el]; exact nI_ge hi (by omega))) (fun _ => ?_)
        refine g_aload_n dX10_perform_29 rfl rfl rfl ?_
        refine g_aload_n dX10_perform_30 rfl rfl rfl ?_
        refine g_getR dX10_perform_31 ff_X10_58 rfl (k0 hws1.1) (r0_8 hws1.1) rfl ?_
        refine g_aload_n dX10_perform_34 rfl rfl rfl ?_
        refine g_iload_n dX10_perform_35 rfl rfl rfl ?_
        refine g_callVdi (ci := 10) dX10_perform_36 lm_X10_312 mv_X10_mayTakeStep (c_mayStep_now (d := d) hx hws1.1 hws1.2.1 hws1.2.2.2.2.2 (show i < 16 by omega)) rfl rfl (k0 hws1.1) rfl rfl (Nat.le_of_ble_eq_true rfl) (gFit_room (by omega)) rfl ?_
        refine g_ieq (tgt := 69) dX10_perform_39 (by decide) rfl (fun h39 => ?_) (fun h39 => ?_)
        · rw [← eb, if_neg h39] at hg
          refine g_iload_n dX10_perform_69 rfl rfl rfl ?_
          exact g_iret dX10_perform_70 rfl (by first | rfl | exact b01) (⟨by rw [← hg], by rw [← hg]; exact hf⟩)
        · rw [← eb, if_pos h39] at hg
          refine g_aload_n dX10_perform_42 rfl rfl rfl ?_
          refine g_getR dX10_perform_43 ff_X10_71 rfl (k0 hws1.1) (r0_12 hws1.1) rfl ?_
          refine g_aload_n dX10_perform_46 rfl rfl rfl ?_
          refine g_getR dX10_perform_47 ff_X10_58 rfl (k0 hws1.1) (r0_8 hws1.1) rfl ?_
          refine g_callVdv (ci := 5) dX10_perform_50 lm_X10_207 mv_X5_keep (c_keep (d := d) hx hws1.1 (hf.play hP0) hn1) rfl rfl (k33 hws1.1) rfl rfl (Nat.le_of_ble_eq_true rfl) (gFit_room (by omega)) rfl ?_
          refine g_aload_n dX10_perform_53 rfl rfl rfl ?_
          refine g_aload_n dX10_perform_54 rfl rfl rfl ?_
          refine g_getR dX10_perform_55 ff_X10_58 rfl (k0 (keep_lay hn1 hL1)) (r0_8 (keep_lay hn1 hL1)) rfl ?_
          refine g_aload_n dX10_perform_58 rfl rfl rfl ?_
          refine g_iload_n dX10_perform_59 rfl rfl rfl ?_
          refine g_callVq (ci := 10) dX10_perform_60 lm_X10_316 mv_X10_takeStep (c_step_now (d := d) hx (keep_lay hn1 hL1) hwsk.2.1 hwsk.2.2.1 hwsk.2.2.2.1 hwsk.2.2.2.2.1 hwsk.2.2.2.2.2 (show i < 16 by omega) (by rw [keep_stepB hn1]; exact h39)) rfl rfl (k0 (keep_lay hn1 hL1)) rfl rfl (Nat.le_of_ble_eq_true rfl) (gFit_room (by omega)) rfl (fun v M2 hQ => ?_)
          obtain ⟨rfl, hf⟩ := hQ
          have hf2 := (stepM_fr (EV := EV) (en := 26) (i := i) ⟨(wk_scr k).1, (wk_scr k).2.1, (wk_scr k).2.2.1⟩ (Or.inl rfl : (25 : Nat) = 25 ∨ (25 : Nat) = 28) (Or.inl rfl) (keepM_fr hn0 ‹gFr scr0 Mi M1›)).tr hf
          have hso : gFr (fun c => c = 25 ∨ c = 26) (keepM Mi) (stepM (keepM Mi) EV 25 26 (300 + 5 * k) i) := stepM_only (Or.inl rfl) (Or.inr rfl)
          refine g_iincV (c := 1) dX10_perform_63 rfl (by decide) (by decide) rfl ?_
          refine g_goto (tgt := 21) dX10_perform_66 (by decide) ?_
          exact g_go (ih M2 ⟨_, hf2, Ws_step (Or.inl rfl) (Or.inl rfl) (keep_Ws hn0 hws) (by rw [keep_stepB hn0, ← eb]; exact h39), ⟨okv_eq (hso.2.2.2 33 (by omega)) (keepM_ok hn0), hso.play ((keep_fr hn0).play hP0), by rw [hso.2.2.2 _ (by omega), (keep_fr hn0).2.2.2 _ (by omega)]; exact hq0⟩, hg⟩) ⟨rfl, rfl, rfl, by rw [← nI_1 i]; rfl, trivial⟩
    · rw [if_neg (fun q => q.2 h14), if_neg (fun q => q.2 h14)]
      refine g_iconst (v := -1) dX10_perform_17 (by decide) rfl ?_
      exact g_iret dX10_perform_18 rfl (by first | rfl | exact b01) (⟨by first | rfl | assumption | exact gFr.rf | grind [ib], by first | rfl | assumption | exact gFr.rf | grind [ib]⟩)
  · rw [if_neg (fun q => hin q.1), if_neg (fun q => hin q.1)]
    refine g_aload_n dX10_perform_0 rfl rfl rfl ?_
    refine g_iload_n dX10_perform_1 rfl rfl rfl ?_
    refine g_callVdr (ci := 10) dX10_perform_2 lm_X10_296 mv_X10_weekOf (c_weekN (d := d) hx hL hin) rfl rfl (k0 hL) rfl rfl (Nat.le_of_ble_eq_true rfl) (gFit_room (by omega)) rfl ?_
    refine g_astore_nN dX10_perform_5 rfl (by decide) rfl ?_
    refine g_aload_nN dX10_perform_6 rfl rfl rfl ?_
    refine g_ifnullN (tgt := 17) dX10_perform_7 (by decide) ?_
    refine g_iconst (v := -1) dX10_perform_17 (by decide) rfl ?_
    exact g_iret dX10_perform_18 rfl (by first | rfl | exact b01) (⟨by first | rfl | assumption | exact gFr.rf | grind [ib], by first | rfl | assumption | exact gFr.rf | grind [ib]⟩)
end W4
