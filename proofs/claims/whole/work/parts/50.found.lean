section R2
variable {X : gX} {M : gM} {d : Nat} {T : Nat → Nat} {L i : Nat}
def townI : TS := (0, 0, false, 1, 20, fun _ => 0, fun _ => 0)
def townP (T : Nat → Nat) (L : Nat) : Bool × Nat × TS := clsP T L 16 true 0 townI
/-- whether the tape tells a town; where it fails -/
def townOK (T : Nat → Nat) (L : Nat) : Bool := (townP T L).1 && (decide (L ≤ nxt T L (townP T L).2.1) && (decide (0 < (townP T L).2.2.1) && decide (0 < (townP T L).2.2.2.1)))
def townAt (T : Nat → Nat) (L : Nat) : Nat := if (townP T L).1 then nxt T L (townP T L).2.1 else (townP T L).2.1
set_option maxRecDepth 20000 in
set_option maxHeartbeats 2000000 in
theorem c_faultT (hx : gXok X) (hZ : gSt X) (hL : gLay M) (hTC : TapeC M T L) (hB : TownB M 11) : gPos X (d + 7) yX8_faultIn cX8_faultIn 3 (some .int) [.ref 11, .ref 1] M (fun v M2 => v = some (.int (if townOK T L then -1 else nI (townAt T L))) ∧ gFr scrD M M2 ∧ TapeC M2 T L ∧ DrF M2 (townP T L).2.2) := by
  refine gMet.of hx (by decide) (Nat.le_of_ble_eq_true rfl) ?_
  have h240 := hTC.2.1
  refine g_aload_n dX8_faultIn_0 rfl rfl rfl ?_
  refine g_iconst (v := 0) dX8_faultIn_1 (by decide) rfl ?_
  refine g_putI dX8_faultIn_2 fp_X8_59 rfl rfl rfl (k1 hL) rfl ?_
  refine g_aload_n dX8_faultIn_5 rfl rfl rfl ?_
  refine g_iconst (v := 0) dX8_faultIn_6 (by decide) rfl ?_
  refine g_putI dX8_faultIn_7 fp_X8_33 rfl rfl rfl (k11 (gLay_I hL)) rfl ?_
  refine g_aload_n dX8_faultIn_10 rfl rfl rfl ?_
  refine g_iconst (v := 0) dX8_faultIn_11 (by decide) rfl ?_
  refine g_putI dX8_faultIn_12 fp_X8_37 rfl rfl rfl (k11 (gLay_I (gLay_I hL))) rfl ?_
  refine g_aload_n dX8_faultIn_15 rfl rfl rfl ?_
  refine g_iconst (v := 0) dX8_faultIn_16 (by decide) rfl ?_
  refine g_putI dX8_faultIn_17 fp_X8_64 rfl rfl rfl (k11 (gLay_I (gLay_I (gLay_I hL)))) rfl ?_
  generalize hM1 : gwI (gwI (gwI (gwI M 1 2 0) 11 7 0) 11 8 0) 11 11 0 = M1
  have hf1 : gFr scrD M M1 := by rw [← hM1]; exact (((gFr.wI (Or.inl rfl)).tr (gFr.wI (Or.inr (by decide)))).tr (gFr.wI (Or.inr (by decide)))).tr (gFr.wI (Or.inr (by decide)))
  have hL1 := hf1.lay hL
  refine g_aload_n dX8_faultIn_20 rfl rfl rfl ?_
  refine g_gets (b := 5000) dX8_faultIn_21 lo_X8_68 (fun U hU => (hZ U hU).1.1) (by decide) rfl ?_
  refine g_iconst (v := 0) dX8_faultIn_24 (by decide) rfl ?_
  refine g_tald (i := 0) (v := 1) dX8_faultIn_25 (fun U hU => (hZ U hU).1.2) (by decide) rfl (by decide) rfl rfl ?_
  refine g_putI dX8_faultIn_26 fp_X8_53 rfl rfl rfl (k11 hL1) rfl ?_
  refine g_aload_n dX8_faultIn_29 rfl rfl rfl ?_
  refine g_gets (b := 5000) dX8_faultIn_30 lo_X8_68 (fun U hU => (hZ U hU).1.1) (by decide) rfl ?_
  refine g_iconst (v := 1) dX8_faultIn_33 (by decide) rfl ?_
  refine g_tald (i := 1) (v := 20) dX8_faultIn_34 (fun U hU => (hZ U hU).1.2) (by decide) rfl (by decide) rfl rfl ?_
  refine g_putI dX8_faultIn_35 fp_X8_56 rfl rfl rfl (k11 (gLay_I hL1)) rfl ?_
  have hf2 : gFr scrD M (gwI (gwI M1 11 9 1) 11 10 20) := (hf1.tr (gFr.wI (Or.inr (by decide)))).tr (gFr.wI (Or.inr (by decide)))
  have hC2 : TC (gwI (gwI M1 11 9 1) 11 10 20) T L 0 := by
    rw [← hM1]
    exact ⟨gLay_I (gLay_I (gLay_I (gLay_I (gLay_I (gLay_I hL))))), ⟨hTC.1, hTC.2.1, hTC.2.2⟩, rfl, Nat.zero_le _⟩
  have hD2 : DrF (gwI (gwI M1 11 9 1) 11 10 20) townI := by
    rw [← hM1]
    exact ⟨⟨rfl, rfl, rfl, rfl, fun p hp => absurd hp (Nat.not_lt_zero _), fun p hp => absurd hp (Nat.not_lt_zero _)⟩, ⟨(okv_of (n := 1) rfl (by decide) (by decide)).1, (okv_of (n := 20) rfl (by decide) (by decide)).1, hB.2.2.1, hB.2.2.2⟩, rfl, by decide, by decide⟩
  generalize hM2 : gwI (gwI M1 11 9 1) 11 10 20 = M2 at *
  have hcl := c_readsClauses (X := X) (d := d) hx hZ hC2 hD2
  rw [show clsP T L 16 true 0 townI = townP T L from rfl] at hcl
  have hOK : townOK T L = ((townP T L).1 && (decide (L ≤ nxt T L (townP T L).2.1) && (decide (0 < (townP T L).2.2.1) && decide (0 < (townP T L).2.2.2.1)))) := rfl
  have hAt : townAt T L = if (townP T L).1 then nxt T L (townP T L).2.1 else (townP T L).2.1 := rfl
  generalize hR : townP T L = Rs at *
  have fin : ∀ (b : Bool) (M3 : gM) (q : Nat), townOK T L = b → (b = false → townAt T L = q) → gFr scrD M M3 → TC M3 T L q → DrF M3 Rs.2.2 → gW X (gRoom (d + 7) 0 0) (gZ X gN0 0 0 (fun v M2 => v = some (.int (if townOK T L then -1 else nI (townAt T L))) ∧ gFr scrD M M2 ∧ TapeC M2 T L ∧ DrF M2 Rs.2.2)) gN0 yX8_faultIn cX8_faultIn 3 (some .int) 73 [(0, .ref 11), (1, .ref 1)] [.int (ib (b = true))] M3 0 0 := by
    intro b M3 q hb hq hf3 hC3 hD3
    rw [hb]
    cases b with
    | true =>
      refine g_istore_n dX8_faultIn_73 rfl (by decide) rfl ?_
      refine g_iload_n dX8_faultIn_74 rfl rfl rfl ?_
      refine g_if_eq (tgt := 82) dX8_faultIn_75 (by decide) rfl (fun h_ => absurd h_ (by decide)) (fun _ => ?_)
      refine g_iconst (v := -1) dX8_faultIn_78 (by decide) rfl ?_
      refine g_goto (tgt := 86) dX8_faultIn_79 (by decide) ?_
      exact g_iret dX8_faultIn_86 rfl (by first | rfl | exact b01) (⟨rfl, hf3, hC3.2.1, hD3⟩)
    | false =>
      rw [hq rfl]
      refine g_istore_n dX8_faultIn_73 rfl (by decide) rfl ?_
      refine g_iload_n dX8_faultIn_74 rfl rfl rfl ?_
      refine g_if_eq (tgt := 82) dX8_faultIn_75 (by decide) rfl (fun _ => ?_) (fun h_ => absurd (by decide) h_)
      refine g_aload_n dX8_faultIn_82 rfl rfl rfl ?_
      refine g_getI dX8_faultIn_83 ff_X8_59 rfl (k1 hC3.1) rfl ?_
      exact g_iret dX8_faultIn_86 rfl (by first | rfl | exact b01) (⟨by rw [hC3.2.2.1]; rfl, hf3, hC3.2.1, hD3⟩)
  refine g_aload_n dX8_faultIn_38 rfl rfl rfl ?_
  refine g_aload_n dX8_faultIn_39 rfl rfl rfl ?_
  refine g_callVq (ci := 8) dX8_faultIn_40 lm_X8_71 mv_X8_readsClauses (hcl) rfl rfl (k11 hC2.1) rfl rfl (Nat.le_of_ble_eq_true rfl) (gFit_room (by omega)) rfl (fun v M2 hQ => ?_)
  obtain ⟨rfl, hf⟩ := hQ
  have hcl2 := hf
  have hf3 := hf2.tr hcl2.1
  refine g_ieq (tgt := 72) dX8_faultIn_43 (by decide) rfl (fun h43 => ?_) (fun h43 => ?_)
  · refine g_iconst (v := 0) dX8_faultIn_72 (by decide) rfl ?_
    exact g_go (fin false _ _ (by rw [hOK, Bool.eq_false_iff.mpr h43]; rfl) (fun _ => by rw [hAt, if_neg h43]) hf3 hcl2.2.1 hcl2.2.2) ⟨rfl, rfl, trivial⟩
  · refine g_aload_n dX8_faultIn_46 rfl rfl rfl ?_
    refine g_callVq (ci := 7) dX8_faultIn_47 lm_X8_75 mv_X7_next (c_next (d := d) hx hcl2.2.1) rfl rfl (k1 hcl2.2.1.1) rfl rfl (Nat.le_of_ble_eq_true rfl) (gFit_room (by omega)) rfl (fun v M2 hQ => ?_)
    obtain ⟨rfl, hf⟩ := hQ
    have hnx := hf
    have hD4 := DrF_fr hnx.1 (fun c a b q => by omega) hcl2.2.2
    have t1 := hD4.1.1
    have t2 := hD4.1.2.1
    have hP6 := hD4.2.2.2.1
    have hD8 := hD4.2.2.2.2
    have hf4 := hf3.tr (hnx.fr (S := scrD) (Or.inl rfl))
    have bad : (decide (L ≤ nxt T L Rs.2.1) && (decide (0 < Rs.2.2.1) && decide (0 < Rs.2.2.2.1))) = false → gW X (gRoom (d + 7) 0 0) (gZ X gN0 0 0 (fun v M2 => v = some (.int (if townOK T L then -1 else nI (townAt T L))) ∧ gFr scrD M M2 ∧ TapeC M2 T L ∧ DrF M2 Rs.2.2)) gN0 yX8_faultIn cX8_faultIn 3 (some .int) 72 [(0, .ref 11), (1, .ref 1)] [] M2 0 0 := by
      intro hb
      refine g_iconst (v := 0) dX8_faultIn_72 (by decide) rfl ?_
      exact g_go (fin false _ _ (by rw [hOK, h43, hb]; rfl) (fun _ => by rw [hAt, if_pos h43]) hf4 hnx.2 hD4) ⟨rfl, rfl, trivial⟩
    refine g_iconst (v := -1) dX8_faultIn_50 (by decide) rfl ?_
    refine g_icmp_ne (tgt := 72) dX8_faultIn_51 (by decide) rfl (fun h51 => ?_) (fun h51 => ?_)
    · first
        | exact g_go (bad (by rw [decide_eq_false (fun q : L ≤ nxt T L Rs.2.1 => h51 (if_neg (by omega)))]; rfl)) ⟨rfl, rfl, trivial⟩
        | exact g_go (bad (by rw [decide_eq_false (fun q : 0 < Rs.2.2.1 => nI_nle q (by omega) h58), Bool.false_and, Bool.and_false])) ⟨rfl, rfl, trivial⟩
        | exact g_go (bad (by rw [decide_eq_false (fun q : 0 < Rs.2.2.2.1 => nI_nle q (by omega) h65), Bool.and_false, Bool.and_false])) ⟨rfl, rfl, trivial⟩
    · refine g_aload_n dX8_faultIn_54 rfl rfl rfl ?_
      refine g_getI dX8_faultIn_55 ff_X8_33 rfl (k11 hnx.2.1) rfl ?_
      rw [t1]
      refine g_if_le (tgt := 72) dX8_faultIn_58 (by decide) rfl (fun h58 => ?_) (fun h58 => ?_)
      · first
          | exact g_go (bad (by rw [decide_eq_false (fun q : L ≤ nxt T L Rs.2.1 => h51 (if_neg (by omega)))]; rfl)) ⟨rfl, rfl, trivial⟩
          | exact g_go (bad (by rw [decide_eq_false (fun q : 0 < Rs.2.2.1 => nI_nle q (by omega) h58), Bool.false_and, Bool.and_false])) ⟨rfl, rfl, trivial⟩
          | exact g_go (bad (by rw [decide_eq_false (fun q : 0 < Rs.2.2.2.1 => nI_nle q (by omega) h65), Bool.and_false, Bool.and_false])) ⟨rfl, rfl, trivial⟩
      · refine g_aload_n dX8_faultIn_61 rfl rfl rfl ?_
        refine g_getI dX8_faultIn_62 ff_X8_37 rfl (k11 hnx.2.1) rfl ?_
        rw [t2]
        refine g_if_le (tgt := 72) dX8_faultIn_65 (by decide) rfl (fun h65 => ?_) (fun h65 => ?_)
        · first
            | exact g_go (bad (by rw [decide_eq_false (fun q : L ≤ nxt T L Rs.2.1 => h51 (if_neg (by omega)))]; rfl)) ⟨rfl, rfl, trivial⟩
            | exact g_go (bad (by rw [decide_eq_false (fun q : 0 < Rs.2.2.1 => nI_nle q (by omega) h58), Bool.false_and, Bool.and_false])) ⟨rfl, rfl, trivial⟩
            | exact g_go (bad (by rw [decide_eq_false (fun q : 0 < Rs.2.2.2.1 => nI_nle q (by omega) h65), Bool.and_false, Bool.and_false])) ⟨rfl, rfl, trivial⟩
        · have g1 : L ≤ nxt T L Rs.2.1 := Nat.le_of_not_lt (fun q => by have q2 : sgn T L (nxt T L Rs.2.1) = nI (T (nxt T L Rs.2.1)) := if_pos q; rw [q2] at h51; exact absurd (show nI (T (nxt T L Rs.2.1)) < 0 by rw [h51]; decide) (nI_pos (by have := (hTC.2.2 _ q).2.2; omega)))
          have g2 : 0 < Rs.2.2.1 := Nat.pos_of_ne_zero (fun q => h58 (by rw [q]; decide))
          have g3 : 0 < Rs.2.2.2.1 := Nat.pos_of_ne_zero (fun q => h65 (by rw [q]; decide))
          refine g_iconst (v := 1) dX8_faultIn_68 (by decide) rfl ?_
          refine g_goto (tgt := 73) dX8_faultIn_69 (by decide) ?_
          exact g_go (fin true _ _ (by rw [hOK, h43, decide_eq_true g1, decide_eq_true g2, decide_eq_true g3]; rfl) (fun q => absurd q.symm Bool.false_ne_true) hf4 hnx.2 hD4) ⟨rfl, rfl, trivial⟩
end R2
