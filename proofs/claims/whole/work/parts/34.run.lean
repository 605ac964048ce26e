section W3
variable {X : gX} {M : gM} {d : Nat}
/-- steps one after the other, as long as they can be -/
def goSt (K : gM → gM) (EV : EVt) (r en a : Nat) : Nat → Nat → gM → Nat × gM
  | 0, i, M => (i, M)
  | n + 1, i, M => if stepB M r a i then goSt K EV r en a n (i + 1) (stepM (K M) EV r en a i) else (i, M)
theorem goSt_le {K : gM → gM} {EV : EVt} {r en a : Nat} : ∀ {n i : Nat} {M : gM}, (goSt K EV r en a n i M).1 ≤ i + n
  | 0, _, _ => Nat.le_refl _
  | n + 1, i, M => by
    unfold goSt
    split
    · exact Nat.le_trans goSt_le (by omega)
    · exact Nat.le_add_right _ _
def scrT : Nat → Prop := fun c => scr0 c ∨ c = 28 ∨ c = 29
theorem stepM_only {S : Nat → Prop} {EV : EVt} {r en a i : Nat} (hr : S r) (he : S en) : gFr S M (stepM M EV r en a i) := by
  unfold stepM
  split
  · exact gFr.wF hr
  · split
    · exact gFr.wF hr
    · split
      · exact gFr.wF hr
      · exact (gFr.wF he).tr (gFr.wF hr)
theorem goSt_only {S : Nat → Prop} {EV : EVt} {r en a : Nat} (hr : S r) (he : S en) : ∀ {n i : Nat} {M : gM}, gFr S M (goSt id EV r en a n i M).2
  | 0, _, _ => gFr.rf
  | n + 1, i, M => by
    unfold goSt
    split
    · exact (stepM_only hr he).tr (goSt_only hr he)
    · exact gFr.rf
theorem wk_scr (k : Nat) : ¬ scr0 (300 + 5 * k + 1) ∧ ¬ scr0 (300 + 5 * k + 2) ∧ ¬ scr0 (300 + 5 * k + 3) ∧ ¬ scr0 (300 + 5 * k) := by
  refine ⟨?_, ?_, ?_, ?_⟩ <;> exact fun q => q.elim (by omega) (fun ⟨j, hj⟩ => by omega)
/-- the trial, a copy of now -/
def trialM (M : gM) : gM := gwF (gwF M 28 (va_cpy (gmi M 25) (gmi M 28) 0 0 67)) 29 (va_cpy (gmi M 26) (gmi M 29) 0 0 384)
theorem trial_fr : gFr (fun c => c = 28 ∨ c = 29) M (trialM M) := (gFr.wF (Or.inl rfl)).tr (gFr.wF (Or.inr rfl))
theorem trial_28 {i : Nat} (hi : i < 67) : gmi (trialM M) 28 i = gmi M 25 i := by
  unfold trialM
  rw [gmi_Fn _ _ (by decide), gmi_F]
  unfold va_cpy
  rw [if_pos (by omega)]
  congr 1
  omega
theorem trial_Ws {EV : EVt} {a : Nat} (hL : gLay M) (hT : TownOK M) (hl : LeftOK M 25) (hd : okv M 25 66 999) (hC : CourtSem M EV) (hw : WkAt M a) : Ws (trialM M) EV 28 a := by
  have hf := trial_fr (M := M)
  refine ⟨hf.lay hL, hf.town (fun c _ _ q => by omega) hT, fun i h1 h2 => ?_, ?_, CourtSem_fr ⟨by omega, fun k => ⟨by omega, by omega, by omega, by omega⟩⟩ hf hC, WkAt_fr hf hw⟩
  · exact (okv_of ((trial_28 (by omega)).trans (hl i h1 h2).1) (hl i h1 h2).2 (by decide)).1
  · exact (okv_of ((trial_28 (by omega)).trans hd.1) hd.2 (by decide)).1
/-- how a week ends on trial -/
def runSt (M : gM) (EV : EVt) (k : Nat) : Nat × gM := goSt id EV 28 29 (300 + 5 * k) (tv M (300 + 5 * k) 3) 0 (trialM M)
def runV (M : gM) (EV : EVt) (k : Nat) (w : Int32) : Int32 := if w = 1 then gmi (runSt M EV k).2 28 62 - gmi M 25 62 else if (runSt M EV k).1 = tv M (300 + 5 * k) 3 then -1 else nI (runSt M EV k).1
set_option maxRecDepth 20000 in
set_option maxHeartbeats 1000000 in
theorem c_run (hx : gXok X) (hL : gLay M) (hT : TownOK M) (hl : LeftOK M 25) (hd : okv M 25 66 999) (hW : WeeksOK M) {EV : EVt} (hC : CourtSem M EV) {x w : Int32} : gPos X (d + 7) yX10_run cX10_run 5 (some .int) [.ref 0, .int x, .int w] M (fun v M2 => v = some (.int (if inW M x ∧ ¬ gmi M 3 7 = 0 ∧ ¬ w < 0 ∧ w ≤ 1 then runV M EV (tn x) w else -1000000)) ∧ gFr scrT M M2) := by
  have h4 := hW.1.2
  have hL0 := hL
  refine gMet.of hx (by decide) (Nat.le_of_ble_eq_true rfl) ?_
  by_cases hin : inW M x
  · obtain ⟨ex, lk⟩ := in_row hW.1.1 (by omega) hin
    have hwk := (hW.2 _ lk).2.1
    have hlen := (hW.2 _ lk).2.2
    have hlen2 := hlen.2
    generalize hk : tn x = k at *
    subst ex
    refine g_aload_n dX10_run_0 rfl rfl rfl ?_
    refine g_iload_n dX10_run_1 rfl rfl rfl ?_
    refine g_callVdr (ci := 10) dX10_run_2 lm_X10_296 mv_X10_weekOf (c_weekS (d := d) hx hL hW lk) rfl rfl (k0 hL) rfl rfl (Nat.le_of_ble_eq_true rfl) (gFit_room (by omega)) rfl ?_
    refine g_astore_n dX10_run_5 rfl (by decide) rfl ?_
    refine g_aload_n dX10_run_6 rfl rfl rfl ?_
    refine g_ifnull dX10_run_7 rfl ?_
    refine g_aload_n dX10_run_10 rfl rfl rfl ?_
    refine g_callVdi (ci := 10) dX10_run_11 lm_X10_250 mv_X10_noTown (c_noTown (d := d) hx hL) rfl rfl (k0 hL) rfl rfl (Nat.le_of_ble_eq_true rfl) (gFit_room (by omega)) rfl ?_
    refine g_ine (tgt := 26) dX10_run_14 (by decide) rfl (fun h14 => ?_) (fun h14 => ?_)
    · refine g_ldcw dX10_run_26 lq_X10_301 rfl ?_
      exact g_iret dX10_run_29 rfl (by first | rfl | exact b01) (⟨by first | rfl | assumption | exact gFr.rf | grind [ib], gFr.rf⟩)
    · refine g_iload_n dX10_run_17 rfl rfl rfl ?_
      refine g_if_lt (tgt := 26) dX10_run_18 (by decide) rfl (fun h18 => ?_) (fun h18 => ?_)
      · refine g_ldcw dX10_run_26 lq_X10_301 rfl ?_
        exact g_iret dX10_run_29 rfl (by first | rfl | exact b01) (⟨by first | rfl | assumption | exact gFr.rf | grind [ib], gFr.rf⟩)
      · refine g_iload_n dX10_run_21 rfl rfl rfl ?_
        refine g_iconst (v := 1) dX10_run_22 (by decide) rfl ?_
        refine g_icmp_le (tgt := 30) dX10_run_23 (by decide) rfl (fun h23 => ?_) (fun h23 => ?_)
        · rw [if_pos ⟨hin, h14, h18, h23⟩]
          refine g_aload_n dX10_run_30 rfl rfl rfl ?_
          refine g_getR dX10_run_31 ff_X10_62 rfl (k0 hL) (r0_9 hL) rfl ?_
          refine g_aload_n dX10_run_34 rfl rfl rfl ?_
          refine g_getR dX10_run_35 ff_X10_58 rfl (k0 hL) (r0_8 hL) rfl ?_
          refine g_callVdv (ci := 4) dX10_run_38 lm_X10_309 mv_X4_copy (c_copy_tn (d := d) hx hL) rfl rfl (k27 hL) rfl rfl (Nat.le_of_ble_eq_true rfl) (gFit_room (by omega)) rfl ?_
          refine g_iconst (v := 0) dX10_run_41 (by decide) rfl ?_
          refine g_istore dX10_run_42 (by decide) rfl ?_
          have hW0 := trial_Ws hL0 hT hl hd hC hwk
          have hfin : ∀ (i : Nat) (Mi M1 : gM), i ≤ 16 → (i, Mi) = runSt M EV k → gFr scr0 Mi M1 → gW X (gRoom (d + 7) 0 0) (gZ X gN0 0 0 (fun v M2 => v = some (.int (runV M EV k w)) ∧ gFr scrT M M2)) gN0 yX10_run cX10_run 5 (some .int) 84 [(0, .ref 0), (1, .int (nI k)), (2, .int w), (3, .ref (300 + 5 * k)), (4, .int (nI i))] [] M1 0 0 := by
            intro i Mi M1 hi16 he hf
            have hall : gFr scrT M M1 := (trial_fr.mono (fun c q => Or.inr q)).tr (((show Mi = (runSt M EV k).2 by rw [← he]) ▸ goSt_only (S := fun c => c = 28 ∨ c = 29) (Or.inl rfl) (Or.inr rfl) : gFr (fun c => c = 28 ∨ c = 29) (trialM M) Mi).mono (fun c q => Or.inr q) |>.tr (hf.mono (fun c q => Or.inl q)))
            have eM : gmi M1 25 = gmi M 25 := hall.2.2.2 25 (fun q => q.elim (scr0_lo (by decide) (by decide)) (by omega))
            have e28 : gmi M1 28 = gmi (runSt M EV k).2 28 := by rw [← he]; exact hf.2.2.2 28 (scr0_lo (by decide) (by decide))
            have el : gmi M1 (300 + 5 * k) 3 = nI (tv M (300 + 5 * k) 3) := by rw [hall.2.2.2 _ (fun q => q.elim (wk_scr k).2.2.2 (by omega))]; exact hlen.1
            have hL1 := hall.lay hL0
            have k_a : gkd M1 (300 + 5 * k) = 10 := (WkAt_fr hall hwk).1
            have e1 : i = (runSt M EV k).1 := by rw [← he]
            unfold runV
            refine g_iload_n dX10_run_84 rfl rfl rfl ?_
            refine g_iconst (v := 1) dX10_run_85 (by decide) rfl ?_
            refine g_icmp_ne (tgt := 109) dX10_run_86 (by decide) rfl (fun h86 => ?_) (fun h86 => ?_)
            · refine g_iload dX10_run_109 rfl rfl ?_
              refine g_aload_n dX10_run_111 rfl rfl rfl ?_
              refine g_getI dX10_run_112 ff_X10_300 rfl (k_a) rfl ?_
              rw [el]
              refine g_icmp_ne (tgt := 122) dX10_run_115 (by decide) rfl (fun h115 => ?_) (fun h115 => ?_)
              · rw [if_neg h86, ← e1, if_neg (fun q => h115 (by rw [q]))]
                refine g_iload dX10_run_122 rfl rfl ?_
                exact g_iret dX10_run_124 rfl (by first | rfl | exact b01) (⟨by first | rfl | assumption | exact gFr.rf | grind [ib], hall⟩)
              · rw [if_neg h86, ← e1, if_pos ((qeq i _ rfl rfl (by omega) (by omega)).mp h115)]
                refine g_iconst (v := -1) dX10_run_118 (by decide) rfl ?_
                refine g_goto (tgt := 124) dX10_run_119 (by decide) ?_
                exact g_iret dX10_run_124 rfl (by first | rfl | exact b01) (⟨by first | rfl | assumption | exact gFr.rf | grind [ib], hall⟩)
            · refine g_aload_n dX10_run_89 rfl rfl rfl ?_
              refine g_getR dX10_run_90 ff_X10_62 rfl (k0 hL1) (r0_9 hL1) rfl ?_
              refine g_bipush (v := 62) dX10_run_93 (by decide) rfl ?_
              refine g_callVdi (ci := 4) dX10_run_95 lm_X10_254 mv_X4_get (c_get_trial (d := d) (i := 62) hx hL1 (by decide)) rfl rfl (k27 hL1) rfl rfl (Nat.le_of_ble_eq_true rfl) (gFit_room (by omega)) rfl ?_
              refine g_aload_n dX10_run_98 rfl rfl rfl ?_
              refine g_getR dX10_run_99 ff_X10_58 rfl (k0 hL1) (r0_8 hL1) rfl ?_
              refine g_bipush (v := 62) dX10_run_102 (by decide) rfl ?_
              refine g_callVdi (ci := 4) dX10_run_104 lm_X10_254 mv_X4_get (c_get_now (d := d) (i := 62) hx hL1 (by decide)) rfl rfl (k24 hL1) rfl rfl (Nat.le_of_ble_eq_true rfl) (gFit_room (by omega)) rfl ?_
              refine g_isub dX10_run_107 rfl ?_
              exact g_iret dX10_run_108 rfl (by first | rfl | exact b01) (⟨by rw [if_pos h86, eM, e28], hall⟩)
          refine g_loopM (fun i => [(0, .ref 0), (1, .int (nI k)), (2, .int w), (3, .ref (300 + 5 * k)), (4, .int (nI i))]) (fun i M1 => ∃ Mi, gFr scr0 Mi M1 ∧ Ws Mi EV 28 (300 + 5 * k) ∧ gFr scrT M Mi ∧ goSt id EV 28 29 (300 + 5 * k) (tv M (300 + 5 * k) 3 - i) i Mi = runSt M EV k) (tv M (300 + 5 * k) 3) 0 (Nat.zero_le _) ⟨rfl, rfl, rfl, rfl, rfl, trivial⟩ ⟨trialM M, gFr.rf, hW0, trial_fr.mono (fun c q => Or.inr q), rfl⟩ (fun M1 hI => ?_) (fun i M1 _ hi hI ih => ?_)
          · obtain ⟨Mi, hf, hws, hT0, hg⟩ := hI
            have el : gmi M1 (300 + 5 * k) 3 = nI (tv M (300 + 5 * k) 3) := by rw [hf.2.2.2 _ (wk_scr k).2.2.2, hT0.2.2.2 _ (fun q => q.elim (wk_scr k).2.2.2 (by omega))]; exact hlen.1
            have k_a : gkd M1 (300 + 5 * k) = 10 := (WkAt_fr hf hws.2.2.2.2.2).1
            rw [Nat.sub_self] at hg
            refine g_iload dX10_run_44 rfl rfl ?_
            refine g_aload_n dX10_run_46 rfl rfl rfl ?_
            refine g_getI dX10_run_47 ff_X10_300 rfl (k_a) rfl ?_
            refine g_icmp_ge (tgt := 84) dX10_run_50 (by decide) rfl (fun _ => ?_) (fun h_ => absurd (by rw [el]; exact nI_le (Nat.le_refl _) (by omega)) h_)
            exact hfin _ Mi M1 (by omega) hg hf
          · obtain ⟨Mi, hf, hws, hT0, hg⟩ := hI
            have hws1 := Ws_fr (Or.inr rfl) hf hws
            have el : gmi M1 (300 + 5 * k) 3 = nI (tv M (300 + 5 * k) 3) := by rw [hf.2.2.2 _ (wk_scr k).2.2.2, hT0.2.2.2 _ (fun q => q.elim (wk_scr k).2.2.2 (by omega))]; exact hlen.1
            have k_a : gkd M1 (300 + 5 * k) = 10 := hws1.2.2.2.2.2.1
            have eb := stepB_fr (i := i) ⟨(wk_scr k).1, (wk_scr k).2.1, (wk_scr k).2.2.1⟩ (Or.inr rfl : (28 : Nat) = 25 ∨ (28 : Nat) = 28) hf
            rw [show tv M (300 + 5 * k) 3 - i = (tv M (300 + 5 * k) 3 - (i + 1)) + 1 by omega] at hg
            unfold goSt at hg
            refine g_iload dX10_run_44 rfl rfl ?_
            refine g_aload_n dX10_run_46 rfl rfl rfl ?_
            refine g_getI dX10_run_47 ff_X10_300 rfl (k_a) rfl ?_
            refine g_icmp_ge (tgt := 84) dX10_run_50 (by decide) rfl (fun h_ => absurd h_ (by rw [el]; exact nI_ge hi (by omega))) (fun _ => ?_)
            refine g_aload_n dX10_run_53 rfl rfl rfl ?_
            refine g_aload_n dX10_run_54 rfl rfl rfl ?_
            refine g_getR dX10_run_55 ff_X10_62 rfl (k0 hws1.1) (r0_9 hws1.1) rfl ?_
            refine g_aload_n dX10_run_58 rfl rfl rfl ?_
            refine g_iload dX10_run_59 rfl rfl ?_
            refine g_callVdi (ci := 10) dX10_run_61 lm_X10_312 mv_X10_mayTakeStep (c_mayStep_trial (d := d) hx hws1.1 hws1.2.1 hws1.2.2.2.2.2 (show i < 16 by omega)) rfl rfl (k0 hws1.1) rfl rfl (Nat.le_of_ble_eq_true rfl) (gFit_room (by omega)) rfl ?_
            refine g_ieq (tgt := 84) dX10_run_64 (by decide) rfl (fun h64 => ?_) (fun h64 => ?_)
            · rw [← eb, if_neg h64] at hg
              exact hfin i Mi M1 (by omega) hg hf
            · rw [← eb, if_pos h64] at hg
              refine g_aload_n dX10_run_67 rfl rfl rfl ?_
              refine g_aload_n dX10_run_68 rfl rfl rfl ?_
              refine g_getR dX10_run_69 ff_X10_62 rfl (k0 hws1.1) (r0_9 hws1.1) rfl ?_
              refine g_aload_n dX10_run_72 rfl rfl rfl ?_
              refine g_iload dX10_run_73 rfl rfl ?_
              refine g_callVq (ci := 10) dX10_run_75 lm_X10_316 mv_X10_takeStep (c_step_trial (d := d) hx hws1.1 hws1.2.1 hws1.2.2.1 hws1.2.2.2.1 hws1.2.2.2.2.1 hws1.2.2.2.2.2 (show i < 16 by omega) h64) rfl rfl (k0 hws1.1) rfl rfl (Nat.le_of_ble_eq_true rfl) (gFit_room (by omega)) rfl (fun v M2 hQ => ?_)
              obtain ⟨rfl, hf⟩ := hQ
              have hf2 := (stepM_fr (EV := EV) (en := 29) (i := i) ⟨(wk_scr k).1, (wk_scr k).2.1, (wk_scr k).2.2.1⟩ (Or.inr rfl : (28 : Nat) = 25 ∨ (28 : Nat) = 28) (Or.inr rfl) ‹gFr scr0 Mi M1›).tr hf
              refine g_iincV (c := 1) dX10_run_78 rfl (by decide) (by decide) rfl ?_
              refine g_goto (tgt := 44) dX10_run_81 (by decide) ?_
              exact g_go (ih M2 ⟨_, hf2, Ws_step (Or.inr rfl) (Or.inr rfl) hws (by rw [← eb]; exact h64), hT0.tr (stepM_only (Or.inr (Or.inl rfl)) (Or.inr (Or.inr rfl))), hg⟩) ⟨rfl, rfl, rfl, rfl, by rw [← nI_1 i]; rfl, trivial⟩
        · refine g_ldcw dX10_run_26 lq_X10_301 rfl ?_
          exact g_iret dX10_run_29 rfl (by first | rfl | exact b01) (⟨by first | rfl | assumption | exact gFr.rf | grind [ib], gFr.rf⟩)
  · rw [if_neg (fun q => hin q.1)]
    refine g_aload_n dX10_run_0 rfl rfl rfl ?_
    refine g_iload_n dX10_run_1 rfl rfl rfl ?_
    refine g_callVdr (ci := 10) dX10_run_2 lm_X10_296 mv_X10_weekOf (c_weekN (d := d) hx hL hin) rfl rfl (k0 hL) rfl rfl (Nat.le_of_ble_eq_true rfl) (gFit_room (by omega)) rfl ?_
    refine g_astore_nN dX10_run_5 rfl (by decide) rfl ?_
    refine g_aload_nN dX10_run_6 rfl rfl rfl ?_
    refine g_ifnullN (tgt := 26) dX10_run_7 (by decide) ?_
    refine g_ldcw dX10_run_26 lq_X10_301 rfl ?_
    exact g_iret dX10_run_29 rfl (by first | rfl | exact b01) (⟨by first | rfl | assumption | exact gFr.rf | grind [ib], by first | rfl | assumption | exact gFr.rf | grind [ib]⟩)
end W3
