section K3
variable {X : gX} {M : gM} {d : Nat}
def scrQ (M M2 : gM) : Prop := gFr scrS M M2 ∧ gmi M2 75 5 = gmi M 75 5
set_option maxRecDepth 20000 in
set_option maxHeartbeats 2000000 in
theorem c_bestBeard3 (hx : gXok X) (hL : gLay M) (hT : TownOK M) {EV : EVt} (hC : CourtSem M EV) (hB : BeardOK M EV) {c : Nat} (hc : gmi M 75 5 = nI c) (h10 : c ≤ 10) {p : Nat} (hp : p < 6) :
    gPos X (d + 6) yX6_bestBeard cX6_bestBeard 8 (some .int) [.ref 75, .int (nI p)] M (fun v M2 => v = some (.int (askV M EV p c)) ∧ scrQ M M2) := by
  have hL0 := hL
  have h8 := hT.2.1.2
  have h256 : 2 ^ tv M 3 8 ≤ 256 := Nat.le_trans (bt_pow h8) (by decide)
  have hle := fb_ct_le (setB M EV p c) (2 ^ tv M 3 8)
  have hgl := glt_le (M := M) EV p c
  have hln : ∀ b, leanN M EV p c b ≤ fb_ct (setB M EV p c) (2 ^ tv M 3 8) ∧ leanN M EV p c b % 2 = fb_ct (setB M EV p c) (2 ^ tv M 3 8) % 2 := fun b => by
    have := hgl b
    unfold leanN
    omega
  have habs : ∀ b, iabs (2 * nI (gltN M EV p c b) - nI (fb_ct (setB M EV p c) (2 ^ tv M 3 8))) = nI (leanN M EV p c b) := fun b => by
    have := hgl b
    rw [show (2 : Int32) = nI 2 from rfl, pk_mul, iabs_sub (by omega) (by omega)]
    rfl
  have hstop : ∀ i, i ≤ 99 → leanN M EV p c i < 2 → am (leanN M EV p c) 99 = am (leanN M EV p c) i := fun i hi hl2 => am_stop (fun b => by
    have h1 := am_le (f := leanN M EV p c) i
    have h2 := (hln (am (leanN M EV p c) i)).2
    have h3 := (hln b).2
    omega) 99 hi
  unfold askV
  generalize hF : fb_ct (setB M EV p c) (2 ^ tv M 3 8) = F at *
  generalize hln2 : leanN M EV p c = ln at *
  refine gMet.of hx (by decide) (Nat.le_of_ble_eq_true rfl) ?_
  refine g_aload_n dX6_bestBeard_0 rfl rfl rfl ?_
  refine g_iload_n dX6_bestBeard_1 rfl rfl rfl ?_
  refine g_callVq (ci := 6) dX6_bestBeard_2 lm_X6_64 mv_X6_gatherCases (c_gather (d := d) hx hL hT hC hc h10 hp) rfl rfl (k75 hL) rfl rfl (Nat.le_of_ble_eq_true rfl) (gFit_room (by omega)) rfl (fun v M2 hQ => ?_)
  obtain ⟨rfl, hf⟩ := hQ
  rw [hF]
  refine g_istore_n dX6_bestBeard_5 rfl (by decide) rfl ?_
  refine g_iload_n dX6_bestBeard_6 rfl rfl rfl ?_
  have hG := hf
  refine g_if_ne (tgt := 12) dX6_bestBeard_7 (by decide) rfl (fun h7 => ?_) (fun h7 => ?_)
  · rw [if_neg (fun q => h7 (by rw [q]; rfl))]
    have hC2 := CourtSem_fr scrS_court hG.1 hC
    have hh2 : heedP M2 EV = heedP M EV := (by unfold heedP; cases EV with | none => rfl | some E => rw [hG.1.2.2.2 20 scrS_court.1, hG.1.2.2.2 _ (scrS_court.2 _).1])
    refine g_iconst (v := 0) dX6_bestBeard_12 (by decide) rfl ?_
    refine g_istore_n dX6_bestBeard_13 rfl (by decide) rfl ?_
    refine g_iload_n dX6_bestBeard_14 rfl rfl rfl ?_
    refine g_iconst (v := 1) dX6_bestBeard_15 (by decide) rfl ?_
    refine g_iadd dX6_bestBeard_16 rfl ?_
    refine g_istore dX6_bestBeard_17 (by decide) rfl ?_
    refine g_aload_n dX6_bestBeard_19 rfl rfl rfl ?_
    refine g_getR dX6_bestBeard_20 ff_X6_32 rfl (k75 (hG.1.lay hL0)) (r75_1 (hG.1.lay hL0)) rfl ?_
    refine g_callVdi (ci := 0) dX6_bestBeard_23 lm_X6_67 mv_X0_heedsBeard (c_heeds (d := d) hx (hG.1.lay hL0) hC2) rfl rfl (k20 (hG.1.lay hL0)) rfl rfl (Nat.le_of_ble_eq_true rfl) (gFit_room (by omega)) rfl ?_
    rw [hh2]
    refine g_ieq (tgt := 34) dX6_bestBeard_26 (by decide) rfl (fun h26 => ?_) (fun h26 => ?_)
    · refine g_iconst (v := 0) dX6_bestBeard_34 (by decide) rfl ?_
      first | skip
      have main : ∀ L, L ≤ 99 → (L = 99 ∨ (L = 0 ∧ ∀ b, ln b = ln 0)) → gW X (gRoom (d + 6) 0 0) (gZ X gN0 0 0 (fun v M2 => v = some (.int (nI (am ln 99))) ∧ scrQ M M2)) gN0 yX6_bestBeard cX6_bestBeard 8 (some .int) 35 [(0, .ref 75), (1, .int (nI p)), (2, .int (nI F)), (3, .int 0), (4, .int (nI F + 1))] [.int (nI L)] M2 0 0 := by
        intro L hL99 hL2
        have hend : am ln L = am ln 99 := by
          rcases hL2 with rfl | ⟨rfl, hcon⟩
          · rfl
          · exact (am_stop (fun b => by rw [hcon b]; exact Nat.le_of_eq (hcon _)) 99 (by omega)).symm
        refine g_istore dX6_bestBeard_35 (by decide) rfl ?_
        refine g_iconst (v := 0) dX6_bestBeard_37 (by decide) rfl ?_
        refine g_istore dX6_bestBeard_38 (by decide) rfl ?_
        refine g_loopM (fun i => [(0, .ref 75), (1, .int (nI p)), (2, .int (nI F)), (3, .int (nI (am ln (i - 1)))), (4, .int (nI (if i = 0 then F + 1 else ln (am ln (i - 1))))), (5, .int (nI L)), (6, .int (nI i))]) (fun i M1 => gFr scr0 M2 M1) (L + 1) 0 (Nat.zero_le _) ⟨rfl, rfl, rfl, rfl, by rw [nI_1]; rfl, rfl, rfl, trivial⟩ gFr.rf (fun M1 hI => ?_) (fun i M1 _ hi hI ih => ?_)
        · refine g_iload dX6_bestBeard_40 rfl rfl ?_
          refine g_iload dX6_bestBeard_42 rfl rfl ?_
          refine g_icmp_gt (tgt := 91) dX6_bestBeard_44 (by decide) rfl (fun _ => ?_) (fun h_ => absurd (nI_lt (by omega) (by omega)) h_)
          refine g_iload_n dX6_bestBeard_91 rfl rfl rfl ?_
          exact g_iret dX6_bestBeard_92 rfl (by first | rfl | exact b01 | exact nb01 hv01) (⟨by rw [Nat.add_sub_cancel, hend], hG.1.tr (hI.mono (fun c q => Or.inl q)), by rw [hI.2.2.2 75 (scr0_lo (by decide) (by decide))]; exact hG.2.2.1 5 (by decide)⟩)
        · have hga := c_guiltyAt (X := X) (d := d) (b := i) hx hL0 hT hC hp (Gath_fr hG hI)
          have hls : (if i = 0 then F + 1 else ln (am ln (i - 1))) ≤ 1000 := by
            have := (hln (am ln (i - 1))).1
            split <;> omega
          have hbest : (ln i < (if i = 0 then F + 1 else ln (am ln (i - 1))) → am ln i = i) ∧ (¬ ln i < (if i = 0 then F + 1 else ln (am ln (i - 1))) → am ln i = am ln (i - 1) ∧ i ≠ 0) := by
            cases i with
            | zero => exact ⟨fun _ => rfl, fun q => absurd (Nat.lt_succ_of_le (hln 0).1) q⟩
            | succ m => exact ⟨fun q => if_pos q, fun q => ⟨if_neg q, by omega⟩⟩
          generalize hlv : (if i = 0 then F + 1 else ln (am ln (i - 1))) = lv at *
          have hli := (hln i).1
          have fin : ∀ (M3 : gM), gFr scr0 M2 M3 → gW X (gRoom (d + 6) 0 0) (gZ X gN0 0 0 (fun v M2 => v = some (.int (nI (am ln 99))) ∧ scrQ M M2)) gN0 yX6_bestBeard cX6_bestBeard 8 (some .int) 77 [(0, .ref 75), (1, .int (nI p)), (2, .int (nI F)), (3, .int (nI (am ln i))), (4, .int (nI (ln (am ln i)))), (5, .int (nI L)), (6, .int (nI i)), (7, .int (nI (ln i)))] [] M3 0 0 := by
            intro M3 h3
            refine g_iload dX6_bestBeard_77 rfl rfl ?_
            refine g_iconst (v := 2) dX6_bestBeard_79 (by decide) rfl ?_
            refine g_icmp_ge (tgt := 85) dX6_bestBeard_80 (by decide) rfl (fun h80 => ?_) (fun h80 => ?_)
            · refine g_iincV (c := 1) dX6_bestBeard_85 rfl (by decide) (by decide) rfl ?_
              refine g_goto (tgt := 40) dX6_bestBeard_88 (by decide) ?_
              exact g_go (ih M3 h3) ⟨rfl, rfl, rfl, by rw [Nat.add_sub_cancel]; rfl, by rw [if_neg (by omega), Nat.add_sub_cancel]; rfl, rfl, by rw [← nI_1 i]; rfl, trivial⟩
            · refine g_iload_n dX6_bestBeard_83 rfl rfl rfl ?_
              exact g_iret dX6_bestBeard_84 rfl (by first | rfl | exact b01 | exact nb01 hv01) (⟨by rw [hstop i (by omega) ((qlt (ln i) 2 rfl rfl (by omega) (by decide)).mp (Int32.not_le.mp h80))], hG.1.tr (h3.mono (fun c q => Or.inl q)), by rw [h3.2.2.2 75 (scr0_lo (by decide) (by decide))]; exact hG.2.2.1 5 (by decide)⟩)
          refine g_iload dX6_bestBeard_40 rfl rfl ?_
          refine g_iload dX6_bestBeard_42 rfl rfl ?_
          refine g_icmp_gt (tgt := 91) dX6_bestBeard_44 (by decide) rfl (fun h_ => absurd h_ (nI_nlt (by omega) (by omega))) (fun _ => ?_)
          refine g_iconst (v := 2) dX6_bestBeard_47 (by decide) rfl ?_
          refine g_aload_n dX6_bestBeard_48 rfl rfl rfl ?_
          refine g_iload_n dX6_bestBeard_49 rfl rfl rfl ?_
          refine g_iload dX6_bestBeard_50 rfl rfl ?_
          refine g_callVq (ci := 6) dX6_bestBeard_52 lm_X6_71 mv_X6_guiltyAt (hga) rfl rfl (k75 (hI.lay (hG.1.lay hL0))) rfl rfl (Nat.le_of_ble_eq_true rfl) (gFit_room (by omega)) rfl (fun v M2 hQ => ?_)
          obtain ⟨rfl, hf⟩ := hQ
          refine g_imul dX6_bestBeard_55 rfl ?_
          refine g_iload_n dX6_bestBeard_56 rfl rfl rfl ?_
          refine g_isub dX6_bestBeard_57 rfl ?_
          refine g_callSdi dX6_bestBeard_58 lm_X6_75 mv_J9_abs_0f7a4 (c_abs (d := d) hx) rfl rfl (Nat.le_of_ble_eq_true rfl) (gFit_room (by omega)) rfl ?_
          rw [habs i]
          refine g_istore dX6_bestBeard_61 (by decide) rfl ?_
          refine g_iload dX6_bestBeard_63 rfl rfl ?_
          refine g_iload dX6_bestBeard_65 rfl rfl ?_
          refine g_icmp_ge (tgt := 77) dX6_bestBeard_67 (by decide) rfl (fun h67 => ?_) (fun h67 => ?_)
          · have e := (hbest.2 (fun q => absurd ((qlt (ln i) lv rfl rfl (by omega) (by omega)).mpr q) (Int32.not_lt.mpr h67)))
            exact g_go (fin _ (hI.tr hf)) ⟨rfl, rfl, rfl, by rw [e.1]; rfl, by rw [e.1, ← hlv, if_neg e.2]; rfl, rfl, rfl, rfl, trivial⟩
          · have e := hbest.1 ((qlt (ln i) lv rfl rfl (by omega) (by omega)).mp (Int32.not_le.mp h67))
            refine g_iload dX6_bestBeard_70 rfl rfl ?_
            refine g_istore_n dX6_bestBeard_72 rfl (by decide) rfl ?_
            refine g_iload dX6_bestBeard_73 rfl rfl ?_
            refine g_istore dX6_bestBeard_75 (by decide) rfl ?_
            exact g_go (fin _ (hI.tr hf)) ⟨rfl, rfl, rfl, by rw [e]; rfl, by rw [e]; rfl, rfl, rfl, rfl, trivial⟩
      first
        | exact g_go (main 99 (by omega) (Or.inl rfl)) ⟨rfl, rfl, rfl, rfl, rfl, trivial⟩
        | (refine g_go (main 0 (by omega) (Or.inr ⟨rfl, fun b => ?_⟩)) ⟨rfl, rfl, rfl, rfl, rfl, trivial⟩
           have hBb := hB (Bool.eq_false_iff.mpr h26)
           rw [← hln2]
           unfold leanN gltN rdS
           rw [show (fun s => setB M EV p c s && decide (0 < rd EV (nI (heft M s)) (gmi M 5 p) (nI b) (ibc (nI s)) 0 0)) = (fun s => setB M EV p c s && decide (0 < rd EV (nI (heft M s)) (gmi M 5 p) (nI 0) (ibc (nI s)) 0 0)) from by funext s; rw [hBb _ _ (nI b) (nI 0)]])
    · refine g_bipush (v := 99) dX6_bestBeard_29 (by decide) rfl ?_
      refine g_goto (tgt := 35) dX6_bestBeard_31 (by decide) ?_
      first | skip
      have main : ∀ L, L ≤ 99 → (L = 99 ∨ (L = 0 ∧ ∀ b, ln b = ln 0)) → gW X (gRoom (d + 6) 0 0) (gZ X gN0 0 0 (fun v M2 => v = some (.int (nI (am ln 99))) ∧ scrQ M M2)) gN0 yX6_bestBeard cX6_bestBeard 8 (some .int) 35 [(0, .ref 75), (1, .int (nI p)), (2, .int (nI F)), (3, .int 0), (4, .int (nI F + 1))] [.int (nI L)] M2 0 0 := by
        intro L hL99 hL2
        have hend : am ln L = am ln 99 := by
          rcases hL2 with rfl | ⟨rfl, hcon⟩
          · rfl
          · exact (am_stop (fun b => by rw [hcon b]; exact Nat.le_of_eq (hcon _)) 99 (by omega)).symm
        refine g_istore dX6_bestBeard_35 (by decide) rfl ?_
        refine g_iconst (v := 0) dX6_bestBeard_37 (by decide) rfl ?_
        refine g_istore dX6_bestBeard_38 (by decide) rfl ?_
        refine g_loopM (fun i => [(0, .ref 75), (1, .int (nI p)), (2, .int (nI F)), (3, .int (nI (am ln (i - 1)))), (4, .int (nI (if i = 0 then F + 1 else ln (am ln (i - 1))))), (5, .int (nI L)), (6, .int (nI i))]) (fun i M1 => gFr scr0 M2 M1) (L + 1) 0 (Nat.zero_le _) ⟨rfl, rfl, rfl, rfl, by rw [nI_1]; rfl, rfl, rfl, trivial⟩ gFr.rf (fun M1 hI => ?_) (fun i M1 _ hi hI ih => ?_)
        · refine g_iload dX6_bestBeard_40 rfl rfl ?_
          refine g_iload dX6_bestBeard_42 rfl rfl ?_
          refine g_icmp_gt (tgt := 91) dX6_bestBeard_44 (by decide) rfl (fun _ => ?_) (fun h_ => absurd (nI_lt (by omega) (by omega)) h_)
          refine g_iload_n dX6_bestBeard_91 rfl rfl rfl ?_
          exact g_iret dX6_bestBeard_92 rfl (by first | rfl | exact b01 | exact nb01 hv01) (⟨by rw [Nat.add_sub_cancel, hend], hG.1.tr (hI.mono (fun c q => Or.inl q)), by rw [hI.2.2.2 75 (scr0_lo (by decide) (by decide))]; exact hG.2.2.1 5 (by decide)⟩)
        · have hga := c_guiltyAt (X := X) (d := d) (b := i) hx hL0 hT hC hp (Gath_fr hG hI)
          have hls : (if i = 0 then F + 1 else ln (am ln (i - 1))) ≤ 1000 := by
            have := (hln (am ln (i - 1))).1
            split <;> omega
          have hbest : (ln i < (if i = 0 then F + 1 else ln (am ln (i - 1))) → am ln i = i) ∧ (¬ ln i < (if i = 0 then F + 1 else ln (am ln (i - 1))) → am ln i = am ln (i - 1) ∧ i ≠ 0) := by
            cases i with
            | zero => exact ⟨fun _ => rfl, fun q => absurd (Nat.lt_succ_of_le (hln 0).1) q⟩
            | succ m => exact ⟨fun q => if_pos q, fun q => ⟨if_neg q, by omega⟩⟩
          generalize hlv : (if i = 0 then F + 1 else ln (am ln (i - 1))) = lv at *
          have hli := (hln i).1
          have fin : ∀ (M3 : gM), gFr scr0 M2 M3 → gW X (gRoom (d + 6) 0 0) (gZ X gN0 0 0 (fun v M2 => v = some (.int (nI (am ln 99))) ∧ scrQ M M2)) gN0 yX6_bestBeard cX6_bestBeard 8 (some .int) 77 [(0, .ref 75), (1, .int (nI p)), (2, .int (nI F)), (3, .int (nI (am ln i))), (4, .int (nI (ln (am ln i)))), (5, .int (nI L)), (6, .int (nI i)), (7, .int (nI (ln i)))] [] M3 0 0 := by
            intro M3 h3
            refine g_iload dX6_bestBeard_77 rfl rfl ?_
            refine g_iconst (v := 2) dX6_bestBeard_79 (by decide) rfl ?_
            refine g_icmp_ge (tgt := 85) dX6_bestBeard_80 (by decide) rfl (fun h80 => ?_) (fun h80 => ?_)
            · refine g_iincV (c := 1) dX6_bestBeard_85 rfl (by decide) (by decide) rfl ?_
              refine g_goto (tgt := 40) dX6_bestBeard_88 (by decide) ?_
              exact g_go (ih M3 h3) ⟨rfl, rfl, rfl, by rw [Nat.add_sub_cancel]; rfl, by rw [if_neg (by omega), Nat.add_sub_cancel]; rfl, rfl, by rw [← nI_1 i]; rfl, trivial⟩
            · refine g_iload_n dX6_bestBeard_83 rfl rfl rfl ?_
              exact g_iret dX6_bestBeard_84 rfl (by first | rfl | exact b01 | exact nb01 hv01) (⟨by rw [hstop i (by omega) ((qlt (ln i) 2 rfl rfl (by omega) (by decide)).mp (Int32.not_le.mp h80))], hG.1.tr (h3.mono (fun c q => Or.inl q)), by rw [h3.2.2.2 75 (scr0_lo (by decide) (by decide))]; exact hG.2.2.1 5 (by decide)⟩)
          refine g_iload dX6_bestBeard_40 rfl rfl ?_
          refine g_iload dX6_bestBeard_42 rfl rfl ?_
          refine g_icmp_gt (tgt := 91) dX6_bestBeard_44 (by decide) rfl (fun h_ => absurd h_ (nI_nlt (by omega) (by omega))) (fun _ => ?_)
          refine g_iconst (v := 2) dX6_bestBeard_47 (by decide) rfl ?_
          refine g_aload_n dX6_bestBeard_48 rfl rfl rfl ?_
          refine g_iload_n dX6_bestBeard_49 rfl rfl rfl ?_
          refine g_iload dX6_bestBeard_50 rfl rfl ?_
          refine g_callVq (ci := 6) dX6_bestBeard_52 lm_X6_71 mv_X6_guiltyAt (hga) rfl rfl (k75 (hI.lay (hG.1.lay hL0))) rfl rfl (Nat.le_of_ble_eq_true rfl) (gFit_room (by omega)) rfl (fun v M2 hQ => ?_)
          obtain ⟨rfl, hf⟩ := hQ
          refine g_imul dX6_bestBeard_55 rfl ?_
          refine g_iload_n dX6_bestBeard_56 rfl rfl rfl ?_
          refine g_isub dX6_bestBeard_57 rfl ?_
          refine g_callSdi dX6_bestBeard_58 lm_X6_75 mv_J9_abs_0f7a4 (c_abs (d := d) hx) rfl rfl (Nat.le_of_ble_eq_true rfl) (gFit_room (by omega)) rfl ?_
          rw [habs i]
          refine g_istore dX6_bestBeard_61 (by decide) rfl ?_
          refine g_iload dX6_bestBeard_63 rfl rfl ?_
          refine g_iload dX6_bestBeard_65 rfl rfl ?_
          refine g_icmp_ge (tgt := 77) dX6_bestBeard_67 (by decide) rfl (fun h67 => ?_) (fun h67 => ?_)
          · have e := (hbest.2 (fun q => absurd ((qlt (ln i) lv rfl rfl (by omega) (by omega)).mpr q) (Int32.not_lt.mpr h67)))
            exact g_go (fin _ (hI.tr hf)) ⟨rfl, rfl, rfl, by rw [e.1]; rfl, by rw [e.1, ← hlv, if_neg e.2]; rfl, rfl, rfl, rfl, trivial⟩
          · have e := hbest.1 ((qlt (ln i) lv rfl rfl (by omega) (by omega)).mp (Int32.not_le.mp h67))
            refine g_iload dX6_bestBeard_70 rfl rfl ?_
            refine g_istore_n dX6_bestBeard_72 rfl (by decide) rfl ?_
            refine g_iload dX6_bestBeard_73 rfl rfl ?_
            refine g_istore dX6_bestBeard_75 (by decide) rfl ?_
            exact g_go (fin _ (hI.tr hf)) ⟨rfl, rfl, rfl, by rw [e]; rfl, by rw [e]; rfl, rfl, rfl, rfl, trivial⟩
      first
        | exact g_go (main 99 (by omega) (Or.inl rfl)) ⟨rfl, rfl, rfl, rfl, rfl, trivial⟩
        | (refine g_go (main 0 (by omega) (Or.inr ⟨rfl, fun b => ?_⟩)) ⟨rfl, rfl, rfl, rfl, rfl, trivial⟩
           have hBb := hB (Bool.eq_false_iff.mpr h26)
           rw [← hln2]
           unfold leanN gltN rdS
           rw [show (fun s => setB M EV p c s && decide (0 < rd EV (nI (heft M s)) (gmi M 5 p) (nI b) (ibc (nI s)) 0 0)) = (fun s => setB M EV p c s && decide (0 < rd EV (nI (heft M s)) (gmi M 5 p) (nI 0) (ibc (nI s)) 0 0)) from by funext s; rw [hBb _ _ (nI b) (nI 0)]])
  · refine g_iconst (v := -1) dX6_bestBeard_10 (by decide) rfl ?_
    exact g_iret dX6_bestBeard_11 rfl (by first | rfl | exact b01 | exact nb01 hv01) (⟨by rw [if_pos ((qeq F 0 rfl rfl (by omega) (by omega)).mp h7)], hG.1, hG.2.2.1 5 (by decide)⟩)
set_option maxRecDepth 20000 in
theorem c_ask3 (hx : gXok X) (hL : gLay M) (hT : TownOK M) {EV : EVt} (hC : CourtSem M EV) (hB : BeardOK M EV) {c : Nat} (hc : gmi M 75 5 = nI c) (h10 : c ≤ 10) {x : Int32} :
    gPos X (d + 7) yX10_ask cX10_ask 2 (some .int) [.ref 0, .int x] M (fun v M2 => v = some (.int (if inP M x then askV M EV (tn x) c else -1)) ∧ scrQ M M2) := by
  refine gMet.of hx (by decide) (Nat.le_of_ble_eq_true rfl) ?_
  refine g_aload_n dX10_ask_0 rfl rfl rfl ?_
  refine g_getR dX10_ask_1 ff_X10_19 rfl (k0 hL) (r0_1 hL) rfl ?_
  refine g_iload_n dX10_ask_4 rfl rfl rfl ?_
  refine g_callVdi (ci := 8) dX10_ask_5 lm_X10_158 mv_X8_hasPerson (c_hasPerson (d := d) hx hL) rfl rfl (k3 hL) rfl rfl (Nat.le_of_ble_eq_true rfl) (gFit_room (by omega)) rfl ?_
  refine g_ieq (tgt := 22) dX10_ask_8 (by decide) rfl (fun h8 => ?_) (fun h8 => ?_)
  · refine g_iconst (v := -1) dX10_ask_22 (by decide) rfl ?_
    exact g_iret dX10_ask_23 rfl (by first | rfl | exact b01 | exact nb01 hv01) (⟨by first | rfl | (rw [if_neg h8]) | grind [ib], by first | exact hf | exact ⟨gFr.rf, rfl⟩⟩)
  · rw [if_pos h8]
    obtain ⟨ex_, lk⟩ := in_row hT.1.1 (by have := hT.1.2; omega) (h8)
    have mk := Nat.lt_of_lt_of_le lk hT.1.2
    generalize gk : tn x = k at *
    subst ex_
    refine g_aload_n dX10_ask_11 rfl rfl rfl ?_
    refine g_getR dX10_ask_12 ff_X10_80 rfl (k0 hL) (r0_13 hL) rfl ?_
    refine g_iload_n dX10_ask_15 rfl rfl rfl ?_
    refine g_callVq (ci := 6) dX10_ask_16 lm_X10_356 mv_X6_bestBeard (c_bestBeard3 (d := d) hx hL hT hC hB hc h10 mk) rfl rfl (k75 hL) rfl rfl (Nat.le_of_ble_eq_true rfl) (gFit_room (by omega)) rfl (fun v M2 hQ => ?_)
    obtain ⟨rfl, hf⟩ := hQ
    refine g_goto (tgt := 23) dX10_ask_19 (by decide) ?_
    exact g_iret dX10_ask_23 rfl (by first | rfl | exact b01 | exact nb01 hv01) (⟨by first | rfl | (rw [if_neg h8]) | grind [ib], by first | exact hf | exact ⟨gFr.rf, rfl⟩⟩)
end K3
