theorem swo (lo n : Nat) {w : Int32} (hl : lo + n < 2 ^ 31) (h : ∀ k, k < n → ¬ w = nI (lo + k)) : w.toInt < (lo : Int) ∨ ((lo + n : Nat) : Int) - 1 < w.toInt := by
  by_cases h0 : w < 0
  · have := Int32.lt_iff_toInt_lt.mp h0
    have e : (0 : Int32).toInt = 0 := rfl
    omega
  · obtain ⟨j, hj, rfl⟩ := nI_of h0
    rw [nI_toInt hj]
    by_cases h1 : j < lo
    · omega
    · by_cases h2 : j < lo + n
      · exact absurd (by rw [show lo + (j - lo) = j by omega]) (h (j - lo) (by omega))
      · omega
section G5
variable {X : gX} {M : gM} {d : Nat}
set_option maxRecDepth 20000 in
theorem c_skin (hx : gXok X) (hL : gLay M) (hT : TownOK M) (hl : LeftOK M 25) {EV : EVt} (hC : CourtSem M EV) {x w : Int32} :
    gPos X (d + 5) yX10_skin cX10_skin 4 (some .int) [.ref 0, .int x, .int w] M (fun v M2 => v = some (.int (if inP M x then (if w = 0 then nI (heft M (dset M 25 (tn x) 0)) else if w = 1 then rd EV (nI (heft M (dset M 25 (tn x) 0))) (gmi M 5 (tn x)) (imin 99 (gmi M 25 (tn x) + 0)) (ibc (nI (dset M 25 (tn x) 0))) (gmi M 25 66 + 0) (gmi M 25 (6 + tn x)) else if w = 2 then ib (gub M EV (tn x) (dset M 25 (tn x) 0) = true) else -1000000) else -1000000)) ∧ gFr scr0 M M2) := by
  refine gMet.of hx (by decide) (Nat.le_of_ble_eq_true rfl) ?_
  refine g_aload_n dX10_skin_0 rfl rfl rfl ?_
  refine g_getR dX10_skin_1 ff_X10_19 rfl (k0 hL) (r0_1 hL) rfl ?_
  refine g_iload_n dX10_skin_4 rfl rfl rfl ?_
  refine g_callVdi (ci := 8) dX10_skin_5 lm_X10_158 mv_X8_hasPerson (c_hasPerson (d := d) hx hL) rfl rfl (k3 hL) rfl rfl (Nat.le_of_ble_eq_true rfl) (gFit_room (by omega)) rfl ?_
  refine g_ine (tgt := 15) dX10_skin_8 (by decide) rfl (fun h8 => ?_) (fun h8 => ?_)
  · rw [if_pos h8]
    obtain ⟨ex_, lk⟩ := in_row hT.1.1 (by have := hT.1.2; omega) (h8)
    have mk := Nat.lt_of_lt_of_le lk hT.1.2
    generalize gk : tn x = k at *
    subst ex_
    refine g_aload_n dX10_skin_15 rfl rfl rfl ?_
    refine g_getR dX10_skin_16 ff_X10_58 rfl (k0 hL) (r0_8 hL) rfl ?_
    refine g_iload_n dX10_skin_19 rfl rfl rfl ?_
    refine g_callVdi (ci := 4) dX10_skin_20 lm_X10_239 mv_X4_deedsOf (c_deedsOf_now (d := d) hx hL hT hl mk) rfl rfl (k24 hL) rfl rfl (Nat.le_of_ble_eq_true rfl) (gFit_room (by omega)) rfl ?_
    refine g_istore_n dX10_skin_23 rfl (by decide) rfl ?_
    refine g_iload_n dX10_skin_24 rfl rfl rfl ?_
    by_cases e25_0 : w = 0
    · rw [e25_0]
      refine g_tableIn (off := 27) (tgt := 52) dX10_skin_25 (by decide) (by decide) (by decide) (by decide) ?_
      refine g_aload_n dX10_skin_52 rfl rfl rfl ?_
      refine g_getR dX10_skin_53 ff_X10_19 rfl (k0 hL) (r0_1 hL) rfl ?_
      refine g_iload_n dX10_skin_56 rfl rfl rfl ?_
      refine g_callVdi (ci := 8) dX10_skin_57 lm_X10_320 mv_X8_weightOf (c_weightOf (d := d) hx hL (dset_lt hT 25 k 0) hT.2.1 hT.2.2.1) rfl rfl (k3 hL) rfl rfl (Nat.le_of_ble_eq_true rfl) (gFit_room (by omega)) rfl ?_
      exact g_iret dX10_skin_60 rfl rfl (⟨by first | rfl | assumption | exact gFr.rf | grind [ib], by first | rfl | assumption | exact gFr.rf | grind [ib]⟩)
    by_cases e25_1 : w = 1
    · rw [e25_1]
      refine g_tableIn (off := 36) (tgt := 61) dX10_skin_25 (by decide) (by decide) (by decide) (by decide) ?_
      refine g_aload_n dX10_skin_61 rfl rfl rfl ?_
      refine g_getR dX10_skin_62 ff_X10_40 rfl (k0 hL) (r0_4 hL) rfl ?_
      refine g_aload_n dX10_skin_65 rfl rfl rfl ?_
      refine g_getR dX10_skin_66 ff_X10_58 rfl (k0 hL) (r0_8 hL) rfl ?_
      refine g_iload_n dX10_skin_69 rfl rfl rfl ?_
      refine g_iconst (v := 0) dX10_skin_70 (by decide) rfl ?_
      refine g_aload_n dX10_skin_71 rfl rfl rfl ?_
      refine g_getR dX10_skin_72 ff_X10_19 rfl (k0 hL) (r0_1 hL) rfl ?_
      refine g_iload_n dX10_skin_75 rfl rfl rfl ?_
      refine g_callVdi (ci := 8) dX10_skin_76 lm_X10_320 mv_X8_weightOf (c_weightOf (d := d) hx hL (dset_lt hT 25 k 0) hT.2.1 hT.2.2.1) rfl rfl (k3 hL) rfl rfl (Nat.le_of_ble_eq_true rfl) (gFit_room (by omega)) rfl ?_
      refine g_iload_n dX10_skin_79 rfl rfl rfl ?_
      refine g_callSdi dX10_skin_80 lm_X10_269 mv_J6_bitCount_0f7a4 (c_bitCount (d := d) hx) rfl rfl (Nat.le_of_ble_eq_true rfl) (gFit_room (by omega)) rfl ?_
      refine g_callVq (ci := 0) dX10_skin_83 lm_X10_323 mv_X0_readIn (c_readIn_now (d := d) hx hL hC mk) rfl rfl (k20 hL) rfl rfl (Nat.le_of_ble_eq_true rfl) (gFit_room (by omega)) rfl (fun v M2 hQ => ?_)
      obtain ⟨rfl, hf⟩ := hQ
      exact g_iret dX10_skin_86 rfl rfl (⟨by first | rfl | assumption | exact gFr.rf | grind [ib], by first | rfl | assumption | exact gFr.rf | grind [ib]⟩)
    by_cases e25_2 : w = 2
    · rw [e25_2]
      refine g_tableIn (off := 62) (tgt := 87) dX10_skin_25 (by decide) (by decide) (by decide) (by decide) ?_
      refine g_aload_n dX10_skin_87 rfl rfl rfl ?_
      refine g_getR dX10_skin_88 ff_X10_40 rfl (k0 hL) (r0_4 hL) rfl ?_
      refine g_aload_n dX10_skin_91 rfl rfl rfl ?_
      refine g_getR dX10_skin_92 ff_X10_58 rfl (k0 hL) (r0_8 hL) rfl ?_
      refine g_iload_n dX10_skin_95 rfl rfl rfl ?_
      refine g_iload_n dX10_skin_96 rfl rfl rfl ?_
      refine g_callVq (ci := 0) dX10_skin_97 lm_X10_242 mv_X0_isGuilty (c_gub (d := d) hx hL hT hC gFr.rf mk (dset_lt hT 25 k 0)) rfl rfl (k20 hL) rfl rfl (Nat.le_of_ble_eq_true rfl) (gFit_room (by omega)) rfl (fun v M2 hQ => ?_)
      obtain ⟨rfl, hf⟩ := hQ
      refine g_ieq (tgt := 107) dX10_skin_100 (by decide) rfl (fun h100 => ?_) (fun h100 => ?_)
      · refine g_iconst (v := 0) dX10_skin_107 (by decide) rfl ?_
        exact g_iret dX10_skin_108 rfl rfl (⟨by first | rfl | assumption | exact gFr.rf | grind [ib], by first | rfl | assumption | exact gFr.rf | grind [ib]⟩)
      · refine g_iconst (v := 1) dX10_skin_103 (by decide) rfl ?_
        refine g_goto (tgt := 108) dX10_skin_104 (by decide) ?_
        exact g_iret dX10_skin_108 rfl rfl (⟨by first | rfl | assumption | exact gFr.rf | grind [ib], by first | rfl | assumption | exact gFr.rf | grind [ib]⟩)
    refine g_tableOut (tgt := 109) dX10_skin_25 (swo 0 3 (by decide) (fun k hk => match k, hk with | 0, _ => e25_0 | 1, _ => e25_1 | 2, _ => e25_2 | (k + 3), hk => absurd hk (by omega))) (by decide) ?_
    refine g_ldcw dX10_skin_109 lq_X10_301 rfl ?_
    exact g_iret dX10_skin_112 rfl rfl (⟨by first | rfl | assumption | exact gFr.rf | grind [ib], by first | rfl | assumption | exact gFr.rf | grind [ib]⟩)
  · refine g_ldcw dX10_skin_11 lq_X10_301 rfl ?_
    exact g_iret dX10_skin_14 rfl rfl (⟨by first | rfl | assumption | exact gFr.rf | grind [ib], by first | rfl | assumption | exact gFr.rf | grind [ib]⟩)
end G5
