theorem swo (lo n : Nat) {w : Int32} (hl : lo + n < 2 ^ 31) (h : ∀ k, k < n → ¬ w = nI (lo + k)) : w.toInt < (lo : Int) ∨ ((lo + n : Nat) : Int) - 1 < w.toInt := by
  by_cases h0 : w < 0
  · have := Int32.lt_iff_toInt_lt.mp h0
    have e : (0 : Int32).toInt = 0 := rfl
    omega
  · obtain ⟨j, hj, rfl⟩ := nI_of h0
    rw [nI_toInt hj]
    by_cases h1 : j < lo
    · omega
    · by_cases h2 : j < lo + n
      · exact absurd (by rw [show lo + (j - lo) = j by omega]) (h (j - lo) (by omega))
      · omega
theorem nI_sub {a b : Nat} (h : b ≤ a) : nI a - nI b = nI (a - b) := by
  obtain ⟨c, rfl⟩ : ∃ c, a = c + b := ⟨a - b, by omega⟩
  rw [← nI_add, Nat.add_sub_cancel, Int32.add_sub_cancel]
theorem nI_nn {n : Nat} (h : n < 2 ^ 31) : 0 ≤ nI n := (qle 0 n rfl rfl (by decide) h).mpr (Nat.zero_le _)
section G5
variable {X : gX} {M : gM} {d : Nat}
set_option maxRecDepth 20000 in
theorem c_skin (hx : gXok X) (hL : gLay M) (hT : TownOK M) (hl : LeftOK M 25) {EV : EVt} (hC : CourtSem M EV) {x w : Int32} :
    gPos X (d + 5) yX10_skin cX10_skin 4 (some .int) [.ref 0, .int x, .int w] M (fun v M2 => v = some (.int (if inP M x then (if w = 0 then nI (heft M (dset M 25 (tn x) 0)) else if w = 1 then rd EV (nI (heft M (dset M 25 (tn x) 0))) (gmi M 5 (tn x)) (imin 99 (gmi M 25 (tn x) + 0)) (ibc (nI (dset M 25 (tn x) 0))) (gmi M 25 66 + 0) (gmi M 25 (6 + tn x)) else if w = 2 then ib (gub M EV (tn x) (dset M 25 (tn x) 0) = true) else -1000000) else -1000000)) ∧ gFr scr0 M M2) := by
  refine gMet.of hx (by decide) (Nat.le_of_ble_eq_true rfl) ?_
  refine g_aload_n dX10_skin_0 rfl rfl rfl ?_
  refine g_getR dX10_skin_1 ff_X10_19 rfl (k0 hL) (r0_1 hL) rfl ?_
  refine g_iload_n dX10_skin_4 rfl rfl rfl ?_
  refine g_callVdi (ci := 8) dX10_skin_5 lm_X10_158 mv_X8_hasPerson (c_hasPerson (d := d) hx hL) rfl rfl (k3 hL) rfl rfl (Nat.le_of_ble_eq_true rfl) (gFit_room (by omega)) rfl ?_
  refine g_ine (tgt := 15) dX10_skin_8 (by decide) rfl (fun h8 => ?_) (fun h8 => ?_)
  · rw [if_pos h8]
    obtain ⟨ex_, lk⟩ := in_row hT.1.1 (by have := hT.1.2; omega) (h8)
    have mk := Nat.lt_of_lt_of_le lk hT.1.2
    generalize gk : tn x = k at *
    subst ex_
    refine g_aload_n dX10_skin_15 rfl rfl rfl ?_
    refine g_getR dX10_skin_16 ff_X10_58 rfl (k0 hL) (r0_8 hL) rfl ?_
    refine g_iload_n dX10_skin_19 rfl rfl rfl ?_
    refine g_callVdi (ci := 4) dX10_skin_20 lm_X10_239 mv_X4_deedsOf (c_deedsOf_now (d := d) hx hL hT hl mk) rfl rfl (k24 hL) rfl rfl (Nat.le_of_ble_eq_true rfl) (gFit_room (by omega)) rfl ?_
    refine g_istore_n dX10_skin_23 rfl (by decide) rfl ?_
    refine g_iload_n dX10_skin_24 rfl rfl rfl ?_
    by_cases e25_0 : w = 0
    · rw [e25_0]
      refine g_tableIn (off := 27) (tgt := 52) dX10_skin_25 (by decide) (by decide) (by decide) (by decide) ?_
      refine g_aload_n dX10_skin_52 rfl rfl rfl ?_
      refine g_getR dX10_skin_53 ff_X10_19 rfl (k0 hL) (r0_1 hL) rfl ?_
      refine g_iload_n dX10_skin_56 rfl rfl rfl ?_
      refine g_callVdi (ci := 8) dX10_skin_57 lm_X10_320 mv_X8_weightOf (c_weightOf (d := d) hx hL (dset_lt hT 25 k 0) hT.2.1 hT.2.2.1) rfl rfl (k3 hL) rfl rfl (Nat.le_of_ble_eq_true rfl) (gFit_room (by omega)) rfl ?_
      exact g_iret dX10_skin_60 rfl rfl (⟨by first | rfl | assumption | exact gFr.rf | grind [ib], by first | rfl | assumption | exact gFr.rf | grind [ib]⟩)
    by_cases e25_1 : w = 1
    · rw [e25_1]
      refine g_tableIn (off := 36) (tgt := 61) dX10_skin_25 (by decide) (by decide) (by decide) (by decide) ?_
      refine g_aload_n dX10_skin_61 rfl rfl rfl ?_
      refine g_getR dX10_skin_62 ff_X10_40 rfl (k0 hL) (r0_4 hL) rfl ?_
      refine g_aload_n dX10_skin_65 rfl rfl rfl ?_
      refine g_getR dX10_skin_66 ff_X10_58 rfl (k0 hL) (r0_8 hL) rfl ?_
      refine g_iload_n dX10_skin_69 rfl rfl rfl ?_
      refine g_iconst (v := 0) dX10_skin_70 (by decide) rfl ?_
      refine g_aload_n dX10_skin_71 rfl rfl rfl ?_
      refine g_getR dX10_skin_72 ff_X10_19 rfl (k0 hL) (r0_1 hL) rfl ?_
      refine g_iload_n dX10_skin_75 rfl rfl rfl ?_
      refine g_callVdi (ci := 8) dX10_skin_76 lm_X10_320 mv_X8_weightOf (c_weightOf (d := d) hx hL (dset_lt hT 25 k 0) hT.2.1 hT.2.2.1) rfl rfl (k3 hL) rfl rfl (Nat.le_of_ble_eq_true rfl) (gFit_room (by omega)) rfl ?_
      refine g_iload_n dX10_skin_79 rfl rfl rfl ?_
      refine g_callSdi dX10_skin_80 lm_X10_269 mv_J6_bitCount_0f7a4 (c_bitCount (d := d) hx) rfl rfl (Nat.le_of_ble_eq_true rfl) (gFit_room (by omega)) rfl ?_
      refine g_callVq (ci := 0) dX10_skin_83 lm_X10_323 mv_X0_readIn (c_readIn_now (d := d) hx hL hC mk) rfl rfl (k20 hL) rfl rfl (Nat.le_of_ble_eq_true rfl) (gFit_room (by omega)) rfl (fun v M2 hQ => ?_)
      obtain ⟨rfl, hf⟩ := hQ
      exact g_iret dX10_skin_86 rfl rfl (⟨by first | rfl | assumption | exact gFr.rf | grind [ib], by first | rfl | assumption | exact gFr.rf | grind [ib]⟩)
    by_cases e25_2 : w = 2
    · rw [e25_2]
      refine g_tableIn (off := 62) (tgt := 87) dX10_skin_25 (by decide) (by decide) (by decide) (by decide) ?_
      refine g_aload_n dX10_skin_87 rfl rfl rfl ?_
      refine g_getR dX10_skin_88 ff_X10_40 rfl (k0 hL) (r0_4 hL) rfl ?_
      refine g_aload_n dX10_skin_91 rfl rfl rfl ?_
      refine g_getR dX10_skin_92 ff_X10_58 rfl (k0 hL) (r0_8 hL) rfl ?_
      refine g_iload_n dX10_skin_95 rfl rfl rfl ?_
      refine g_iload_n dX10_skin_96 rfl rfl rfl ?_
      refine g_callVq (ci := 0) dX10_skin_97 lm_X10_242 mv_X0_isGuilty (c_gub (d := d) hx hL hT hC gFr.rf mk (dset_lt hT 25 k 0)) rfl rfl (k20 hL) rfl rfl (Nat.le_of_ble_eq_true rfl) (gFit_room (by omega)) rfl (fun v M2 hQ => ?_)
      obtain ⟨rfl, hf⟩ := hQ
      refine g_ieq (tgt := 107) dX10_skin_100 (by decide) rfl (fun h100 => ?_) (fun h100 => ?_)
      · refine g_iconst (v := 0) dX10_skin_107 (by decide) rfl ?_
        exact g_iret dX10_skin_108 rfl rfl (⟨by first | rfl | assumption | exact gFr.rf | grind [ib], by first | rfl | assumption | exact gFr.rf | grind [ib]⟩)
      · refine g_iconst (v := 1) dX10_skin_103 (by decide) rfl ?_
        refine g_goto (tgt := 108) dX10_skin_104 (by decide) ?_
        exact g_iret dX10_skin_108 rfl rfl (⟨by first | rfl | assumption | exact gFr.rf | grind [ib], by first | rfl | assumption | exact gFr.rf | grind [ib]⟩)
    refine g_tableOut (tgt := 109) dX10_skin_25 (swo 0 3 (by decide) (fun k hk => match k, hk with | 0, _ => e25_0 | 1, _ => e25_1 | 2, _ => e25_2 | (k + 3), hk => absurd hk (by omega))) (by decide) ?_
    refine g_ldcw dX10_skin_109 lq_X10_301 rfl ?_
    exact g_iret dX10_skin_112 rfl rfl (⟨by first | rfl | assumption | exact gFr.rf | grind [ib], by first | rfl | assumption | exact gFr.rf | grind [ib]⟩)
  · refine g_ldcw dX10_skin_11 lq_X10_301 rfl ?_
    exact g_iret dX10_skin_14 rfl rfl (⟨by first | rfl | assumption | exact gFr.rf | grind [ib], by first | rfl | assumption | exact gFr.rf | grind [ib]⟩)
set_option maxRecDepth 20000 in
theorem c_logged (hx : gXok X) (hL : gLay M) {i w D : Nat} (hD : gmi M 25 66 = nI D) (hd : D ≤ 999) (hi : i < D) (hw : w < 3) : gDet X (d + 0) yX4_logged cX4_logged 4 (some .int) [.ref 24, .int (nI i), .int (nI w)] M (some (.int (gmi M 26 ((D - 1 - i) % 128 * 3 + w)))) M := by
  refine gMet.of hx (by decide) (Nat.le_of_ble_eq_true rfl) ?_
  have e1 : gmi M 25 66 - 1 - nI i = nI (D - 1 - i) := by rw [hD, nI_m1 (by omega), nI_sub (by omega)]
  refine g_aload_n dX4_logged_0 rfl rfl rfl ?_
  refine g_getR dX4_logged_1 ff_X4_11 rfl (k24 hL) (r24_1 hL) rfl ?_
  refine g_bipush (v := 66) dX4_logged_4 (by decide) rfl ?_
  refine g_iald (i := 66) dX4_logged_6 (k25 hL) (l25 hL) (by (try simp only [nI_lit, pk_mul, nI_add, Nat.zero_add]); exact nI_toInt (by omega)) (by omega) rfl ?_
  refine g_iconst (v := 1) dX4_logged_7 (by decide) rfl ?_
  refine g_isub dX4_logged_8 rfl ?_
  refine g_iload_n dX4_logged_9 rfl rfl rfl ?_
  refine g_isub dX4_logged_10 rfl ?_
  rw [e1]
  refine g_istore_n dX4_logged_11 rfl (by decide) rfl ?_
  refine g_iload_n dX4_logged_12 rfl rfl rfl ?_
  refine g_if_ge (tgt := 20) dX4_logged_13 (by decide) rfl (fun _ => ?_) (fun h_ => absurd (nI_nn (by omega)) h_)
  refine g_aload_n dX4_logged_20 rfl rfl rfl ?_
  refine g_getR dX4_logged_21 ff_X4_15 rfl (k24 hL) (r24_2 hL) rfl ?_
  refine g_iload_n dX4_logged_24 rfl rfl rfl ?_
  refine g_sipush (v := 128) dX4_logged_25 (by decide) rfl ?_
  refine g_irem dX4_logged_28 (by decide) rfl ?_
  rw [show (128 : Int32) = nI 128 from rfl, pk_rem (by omega) (by omega) (by omega)]
  refine g_iconst (v := 3) dX4_logged_29 (by decide) rfl ?_
  refine g_imul dX4_logged_30 rfl ?_
  refine g_iload_n dX4_logged_31 rfl rfl rfl ?_
  refine g_iadd dX4_logged_32 rfl ?_
  refine g_iald (i := ((D-1-i)%128*3+w)) dX4_logged_33 (k26 hL) (l26 hL) (by (try simp only [nI_lit, pk_mul, nI_add, Nat.zero_add]); exact nI_toInt (by omega)) (by omega) rfl ?_
  exact g_iret dX4_logged_34 rfl rfl (⟨by first | rfl | assumption | exact gFr.rf | grind [ib], by first | rfl | assumption | exact gFr.rf | grind [ib]⟩)
set_option maxRecDepth 20000 in
theorem c_log (hx : gXok X) (hL : gLay M) {D : Nat} (hD : gmi M 25 66 = nI D) (hd : D ≤ 999) {x z : Int32} : gDet X (d + 2) yX10_log cX10_log 3 (some .int) [.ref 0, .int x, .int z] M (some (.int (if (¬ x < 0 ∧ x < nI (min 60 D)) ∧ ¬ z < 0 ∧ z ≤ 2 then gmi M 26 ((D - 1 - tn x) % 128 * 3 + tn z) else -1))) M := by
  have em : imin 60 (gmi M 25 66) = nI (min 60 D) := by
    rw [hD]
    unfold imin
    rw [show (60 : Int32) = nI 60 from rfl]
    by_cases h : D < 60
    · rw [if_pos ((qlt D 60 rfl rfl (by omega) (by omega)).mpr h), Nat.min_eq_right (by omega)]
    · rw [if_neg (fun q => h ((qlt D 60 rfl rfl (by omega) (by omega)).mp q)), Nat.min_eq_left (by omega)]
  refine gMet.of hx (by decide) (Nat.le_of_ble_eq_true rfl) ?_
  refine g_iload_n dX10_log_0 rfl rfl rfl ?_
  refine g_if_lt (tgt := 24) dX10_log_1 (by decide) rfl (fun h1 => ?_) (fun h1 => ?_)
  · refine g_iconst (v := -1) dX10_log_24 (by decide) rfl ?_
    exact g_iret dX10_log_25 rfl rfl (⟨by first | rfl | assumption | exact gFr.rf | grind [ib], by first | rfl | assumption | exact gFr.rf | grind [ib]⟩)
  · refine g_iload_n dX10_log_4 rfl rfl rfl ?_
    refine g_aload_n dX10_log_5 rfl rfl rfl ?_
    refine g_getR dX10_log_6 ff_X10_58 rfl (k0 hL) (r0_8 hL) rfl ?_
    refine g_callVdi (ci := 4) dX10_log_9 lm_X10_290 mv_X4_logLength (c_logLength (d := d) hx hL) rfl rfl (k24 hL) rfl rfl (Nat.le_of_ble_eq_true rfl) (gFit_room (by omega)) rfl ?_
    rw [em]
    refine g_icmp_ge (tgt := 24) dX10_log_12 (by decide) rfl (fun h12 => ?_) (fun h12 => ?_)
    · refine g_iconst (v := -1) dX10_log_24 (by decide) rfl ?_
      exact g_iret dX10_log_25 rfl rfl (⟨by first | rfl | assumption | exact gFr.rf | grind [ib], by first | rfl | assumption | exact gFr.rf | grind [ib]⟩)
    · refine g_iload_n dX10_log_15 rfl rfl rfl ?_
      refine g_if_lt (tgt := 24) dX10_log_16 (by decide) rfl (fun h16 => ?_) (fun h16 => ?_)
      · refine g_iconst (v := -1) dX10_log_24 (by decide) rfl ?_
        exact g_iret dX10_log_25 rfl rfl (⟨by first | rfl | assumption | exact gFr.rf | grind [ib], by first | rfl | assumption | exact gFr.rf | grind [ib]⟩)
      · refine g_iload_n dX10_log_19 rfl rfl rfl ?_
        refine g_iconst (v := 2) dX10_log_20 (by decide) rfl ?_
        refine g_icmp_le (tgt := 26) dX10_log_21 (by decide) rfl (fun h21 => ?_) (fun h21 => ?_)
        · have hc : (¬ x < 0 ∧ x < nI (min 60 D)) ∧ ¬ z < 0 ∧ z ≤ 2 := ⟨⟨h1, Int32.not_le.mp h12⟩, h16, h21⟩
          rw [if_pos hc]
          obtain ⟨ex, lk⟩ := in_row (n := min 60 D) rfl (by omega) ⟨Int32.not_lt.mp h1, Int32.not_le.mp h12⟩
          obtain ⟨ez, lz⟩ := in_row (x := z) (b := 3) (n := 3) rfl (by omega) ⟨Int32.not_lt.mp h16, Int32.lt_of_le_of_lt h21 (by decide)⟩
          generalize hk : tn x = k at ex lk
          generalize hkz : tn z = kz at ez lz
          subst ex ez
          refine g_aload_n dX10_log_26 rfl rfl rfl ?_
          refine g_getR dX10_log_27 ff_X10_58 rfl (k0 hL) (r0_8 hL) rfl ?_
          refine g_iload_n dX10_log_30 rfl rfl rfl ?_
          refine g_iload_n dX10_log_31 rfl rfl rfl ?_
          refine g_callVdi (ci := 4) dX10_log_32 lm_X10_293 mv_X4_logged (c_logged (d := d) hx hL hD hd (show k < D by omega) lz) rfl rfl (k24 hL) rfl rfl (Nat.le_of_ble_eq_true rfl) (gFit_room (by omega)) rfl ?_
          exact g_iret dX10_log_35 rfl rfl (⟨by first | rfl | assumption | exact gFr.rf | grind [ib], by first | rfl | assumption | exact gFr.rf | grind [ib]⟩)
        · refine g_iconst (v := -1) dX10_log_24 (by decide) rfl ?_
          exact g_iret dX10_log_25 rfl rfl (⟨by first | rfl | assumption | exact gFr.rf | grind [ib], by first | rfl | assumption | exact gFr.rf | grind [ib]⟩)
def countV (M : gM) (w : Int32) : Int32 := if w = 0 then gmi M 3 7 else if w = 1 then gmi M 3 8 else if w = 2 then gmi M 20 3 else if w = 3 then gmi M 0 6 else if w = 4 then gmi M 1 1 else if w = 5 then gmi M 20 4 else if w = 6 then gmi M 25 66 else if w = 7 then gmi M 25 65 else if w = 8 then gmi M 25 62 else if w = 9 then gmi M 25 63 else if w = 10 then gmi M 25 64 else if w = 11 then gmi M 0 15 else if w = 12 then gmi M 75 5 else if w = 13 then imin 60 (gmi M 25 66) else if w = 14 then gmi M 33 1 else -1000000
set_option maxRecDepth 20000 in
theorem c_countOfLife (hx : gXok X) (hL : gLay M) {w : Int32} : gDet X (d + 2) yX10_countOfLife cX10_countOfLife 2 (some .int) [.ref 0, .int w] M (some (.int (if w = 6 then gmi M 25 66 else if w = 7 then gmi M 25 65 else if w = 8 then gmi M 25 62 else if w = 9 then gmi M 25 63 else if w = 10 then gmi M 25 64 else if w = 13 then imin 60 (gmi M 25 66) else -1000000))) M := by
  refine gMet.of hx (by decide) (Nat.le_of_ble_eq_true rfl) ?_
  refine g_iload_n dX10_countOfLife_0 rfl rfl rfl ?_
  by_cases e1_6 : w = 6
  · rw [e1_6]
    refine g_tableIn (off := 47) (tgt := 48) dX10_countOfLife_1 (by decide) (by decide) (by decide) (by decide) ?_
    refine g_aload_n dX10_countOfLife_48 rfl rfl rfl ?_
    refine g_getR dX10_countOfLife_49 ff_X10_58 rfl (k0 hL) (r0_8 hL) rfl ?_
    refine g_bipush (v := 66) dX10_countOfLife_52 (by decide) rfl ?_
    refine g_callVdi (ci := 4) dX10_countOfLife_54 lm_X10_254 mv_X4_get (c_get_now (d := d) (i := 66) hx hL (by decide)) rfl rfl (k24 hL) rfl rfl (Nat.le_of_ble_eq_true rfl) (gFit_room (by omega)) rfl ?_
    exact g_iret dX10_countOfLife_57 rfl rfl (⟨by first | rfl | assumption | exact gFr.rf | grind [ib], by first | rfl | assumption | exact gFr.rf | grind [ib]⟩)
  by_cases e1_7 : w = 7
  · rw [e1_7]
    refine g_tableIn (off := 57) (tgt := 58) dX10_countOfLife_1 (by decide) (by decide) (by decide) (by decide) ?_
    refine g_aload_n dX10_countOfLife_58 rfl rfl rfl ?_
    refine g_getR dX10_countOfLife_59 ff_X10_58 rfl (k0 hL) (r0_8 hL) rfl ?_
    refine g_bipush (v := 65) dX10_countOfLife_62 (by decide) rfl ?_
    refine g_callVdi (ci := 4) dX10_countOfLife_64 lm_X10_254 mv_X4_get (c_get_now (d := d) (i := 65) hx hL (by decide)) rfl rfl (k24 hL) rfl rfl (Nat.le_of_ble_eq_true rfl) (gFit_room (by omega)) rfl ?_
    exact g_iret dX10_countOfLife_67 rfl rfl (⟨by first | rfl | assumption | exact gFr.rf | grind [ib], by first | rfl | assumption | exact gFr.rf | grind [ib]⟩)
  by_cases e1_8 : w = 8
  · rw [e1_8]
    refine g_tableIn (off := 67) (tgt := 68) dX10_countOfLife_1 (by decide) (by decide) (by decide) (by decide) ?_
    refine g_aload_n dX10_countOfLife_68 rfl rfl rfl ?_
    refine g_getR dX10_countOfLife_69 ff_X10_58 rfl (k0 hL) (r0_8 hL) rfl ?_
    refine g_bipush (v := 62) dX10_countOfLife_72 (by decide) rfl ?_
    refine g_callVdi (ci := 4) dX10_countOfLife_74 lm_X10_254 mv_X4_get (c_get_now (d := d) (i := 62) hx hL (by decide)) rfl rfl (k24 hL) rfl rfl (Nat.le_of_ble_eq_true rfl) (gFit_room (by omega)) rfl ?_
    exact g_iret dX10_countOfLife_77 rfl rfl (⟨by first | rfl | assumption | exact gFr.rf | grind [ib], by first | rfl | assumption | exact gFr.rf | grind [ib]⟩)
  by_cases e1_9 : w = 9
  · rw [e1_9]
    refine g_tableIn (off := 77) (tgt := 78) dX10_countOfLife_1 (by decide) (by decide) (by decide) (by decide) ?_
    refine g_aload_n dX10_countOfLife_78 rfl rfl rfl ?_
    refine g_getR dX10_countOfLife_79 ff_X10_58 rfl (k0 hL) (r0_8 hL) rfl ?_
    refine g_bipush (v := 63) dX10_countOfLife_82 (by decide) rfl ?_
    refine g_callVdi (ci := 4) dX10_countOfLife_84 lm_X10_254 mv_X4_get (c_get_now (d := d) (i := 63) hx hL (by decide)) rfl rfl (k24 hL) rfl rfl (Nat.le_of_ble_eq_true rfl) (gFit_room (by omega)) rfl ?_
    exact g_iret dX10_countOfLife_87 rfl rfl (⟨by first | rfl | assumption | exact gFr.rf | grind [ib], by first | rfl | assumption | exact gFr.rf | grind [ib]⟩)
  by_cases e1_10 : w = 10
  · rw [e1_10]
    refine g_tableIn (off := 87) (tgt := 88) dX10_countOfLife_1 (by decide) (by decide) (by decide) (by decide) ?_
    refine g_aload_n dX10_countOfLife_88 rfl rfl rfl ?_
    refine g_getR dX10_countOfLife_89 ff_X10_58 rfl (k0 hL) (r0_8 hL) rfl ?_
    refine g_bipush (v := 64) dX10_countOfLife_92 (by decide) rfl ?_
    refine g_callVdi (ci := 4) dX10_countOfLife_94 lm_X10_254 mv_X4_get (c_get_now (d := d) (i := 64) hx hL (by decide)) rfl rfl (k24 hL) rfl rfl (Nat.le_of_ble_eq_true rfl) (gFit_room (by omega)) rfl ?_
    exact g_iret dX10_countOfLife_97 rfl rfl (⟨by first | rfl | assumption | exact gFr.rf | grind [ib], by first | rfl | assumption | exact gFr.rf | grind [ib]⟩)
  by_cases e1_11 : w = 11
  · rw [e1_11]
    refine g_tableIn (off := 105) (tgt := 106) dX10_countOfLife_1 (by decide) (by decide) (by decide) (by decide) ?_
    refine g_ldcw dX10_countOfLife_106 lq_X10_301 rfl ?_
    exact g_iret dX10_countOfLife_109 rfl rfl (⟨by first | rfl | assumption | exact gFr.rf | grind [ib], by first | rfl | assumption | exact gFr.rf | grind [ib]⟩)
  by_cases e1_12 : w = 12
  · rw [e1_12]
    refine g_tableIn (off := 105) (tgt := 106) dX10_countOfLife_1 (by decide) (by decide) (by decide) (by decide) ?_
    refine g_ldcw dX10_countOfLife_106 lq_X10_301 rfl ?_
    exact g_iret dX10_countOfLife_109 rfl rfl (⟨by first | rfl | assumption | exact gFr.rf | grind [ib], by first | rfl | assumption | exact gFr.rf | grind [ib]⟩)
  by_cases e1_13 : w = 13
  · rw [e1_13]
    refine g_tableIn (off := 97) (tgt := 98) dX10_countOfLife_1 (by decide) (by decide) (by decide) (by decide) ?_
    refine g_aload_n dX10_countOfLife_98 rfl rfl rfl ?_
    refine g_getR dX10_countOfLife_99 ff_X10_58 rfl (k0 hL) (r0_8 hL) rfl ?_
    refine g_callVdi (ci := 4) dX10_countOfLife_102 lm_X10_290 mv_X4_logLength (c_logLength (d := d) hx hL) rfl rfl (k24 hL) rfl rfl (Nat.le_of_ble_eq_true rfl) (gFit_room (by omega)) rfl ?_
    exact g_iret dX10_countOfLife_105 rfl rfl (⟨by first | rfl | assumption | exact gFr.rf | grind [ib], by first | rfl | assumption | exact gFr.rf | grind [ib]⟩)
  refine g_tableOut (tgt := 106) dX10_countOfLife_1 (swo 6 8 (by decide) (fun k hk => match k, hk with | 0, _ => e1_6 | 1, _ => e1_7 | 2, _ => e1_8 | 3, _ => e1_9 | 4, _ => e1_10 | 5, _ => e1_11 | 6, _ => e1_12 | 7, _ => e1_13 | (k + 8), hk => absurd hk (by omega))) (by decide) ?_
  refine g_ldcw dX10_countOfLife_106 lq_X10_301 rfl ?_
  exact g_iret dX10_countOfLife_109 rfl rfl (⟨by first | rfl | assumption | exact gFr.rf | grind [ib], by first | rfl | assumption | exact gFr.rf | grind [ib]⟩)
set_option maxRecDepth 20000 in
theorem c_count (hx : gXok X) (hL : gLay M) {w : Int32} : gDet X (d + 3) yX10_count cX10_count 2 (some .int) [.ref 0, .int w] M (some (.int (countV M w))) M := by
  refine gMet.of hx (by decide) (Nat.le_of_ble_eq_true rfl) ?_
  unfold countV
  refine g_iload_n dX10_count_0 rfl rfl rfl ?_
  by_cases e1_0 : w = 0
  · rw [e1_0]
    refine g_tableIn (off := 75) (tgt := 76) dX10_count_1 (by decide) (by decide) (by decide) (by decide) ?_
    refine g_aload_n dX10_count_76 rfl rfl rfl ?_
    refine g_getR dX10_count_77 ff_X10_19 rfl (k0 hL) (r0_1 hL) rfl ?_
    refine g_getI dX10_count_80 ff_X10_141 rfl (k3 hL) rfl ?_
    exact g_iret dX10_count_83 rfl rfl (⟨by first | rfl | assumption | exact gFr.rf | grind [ib], by first | rfl | assumption | exact gFr.rf | grind [ib]⟩)
  by_cases e1_1 : w = 1
  · rw [e1_1]
    refine g_tableIn (off := 83) (tgt := 84) dX10_count_1 (by decide) (by decide) (by decide) (by decide) ?_
    refine g_aload_n dX10_count_84 rfl rfl rfl ?_
    refine g_getR dX10_count_85 ff_X10_19 rfl (k0 hL) (r0_1 hL) rfl ?_
    refine g_getI dX10_count_88 ff_X10_283 rfl (k3 hL) rfl ?_
    exact g_iret dX10_count_91 rfl rfl (⟨by first | rfl | assumption | exact gFr.rf | grind [ib], by first | rfl | assumption | exact gFr.rf | grind [ib]⟩)
  by_cases e1_2 : w = 2
  · rw [e1_2]
    refine g_tableIn (off := 91) (tgt := 92) dX10_count_1 (by decide) (by decide) (by decide) (by decide) ?_
    refine g_aload_n dX10_count_92 rfl rfl rfl ?_
    refine g_getR dX10_count_93 ff_X10_40 rfl (k0 hL) (r0_4 hL) rfl ?_
    refine g_getI dX10_count_96 ff_X10_144 rfl (k20 hL) rfl ?_
    exact g_iret dX10_count_99 rfl rfl (⟨by first | rfl | assumption | exact gFr.rf | grind [ib], by first | rfl | assumption | exact gFr.rf | grind [ib]⟩)
  by_cases e1_3 : w = 3
  · rw [e1_3]
    refine g_tableIn (off := 99) (tgt := 100) dX10_count_1 (by decide) (by decide) (by decide) (by decide) ?_
    refine g_aload_n dX10_count_100 rfl rfl rfl ?_
    refine g_getI dX10_count_101 ff_X10_155 rfl (k0 hL) rfl ?_
    exact g_iret dX10_count_104 rfl rfl (⟨by first | rfl | assumption | exact gFr.rf | grind [ib], by first | rfl | assumption | exact gFr.rf | grind [ib]⟩)
  by_cases e1_4 : w = 4
  · rw [e1_4]
    refine g_tableIn (off := 104) (tgt := 105) dX10_count_1 (by decide) (by decide) (by decide) (by decide) ?_
    refine g_aload_n dX10_count_105 rfl rfl rfl ?_
    refine g_getR dX10_count_106 ff_X10_10 rfl (k0 hL) (r0_0 hL) rfl ?_
    refine g_getI dX10_count_109 ff_X10_99 rfl (k1 hL) rfl ?_
    exact g_iret dX10_count_112 rfl rfl (⟨by first | rfl | assumption | exact gFr.rf | grind [ib], by first | rfl | assumption | exact gFr.rf | grind [ib]⟩)
  by_cases e1_5 : w = 5
  · rw [e1_5]
    refine g_tableIn (off := 112) (tgt := 113) dX10_count_1 (by decide) (by decide) (by decide) (by decide) ?_
    refine g_aload_n dX10_count_113 rfl rfl rfl ?_
    refine g_getR dX10_count_114 ff_X10_40 rfl (k0 hL) (r0_4 hL) rfl ?_
    refine g_getI dX10_count_117 ff_X10_401 rfl (k20 hL) rfl ?_
    exact g_iret dX10_count_120 rfl rfl (⟨by first | rfl | assumption | exact gFr.rf | grind [ib], by first | rfl | assumption | exact gFr.rf | grind [ib]⟩)
  by_cases e1_6 : w = 6
  · rw [e1_6]
    refine g_tableIn (off := 141) (tgt := 142) dX10_count_1 (by decide) (by decide) (by decide) (by decide) ?_
    refine g_aload_n dX10_count_142 rfl rfl rfl ?_
    refine g_iload_n dX10_count_143 rfl rfl rfl ?_
    refine g_callVdi (ci := 10) dX10_count_144 lm_X10_407 mv_X10_countOfLife (c_countOfLife (d := d) hx hL) rfl rfl (k0 hL) rfl rfl (Nat.le_of_ble_eq_true rfl) (gFit_room (by omega)) rfl ?_
    exact g_iret dX10_count_147 rfl rfl (⟨by first | rfl | assumption | exact gFr.rf | grind [ib], by first | rfl | assumption | exact gFr.rf | grind [ib]⟩)
  by_cases e1_7 : w = 7
  · rw [e1_7]
    refine g_tableIn (off := 141) (tgt := 142) dX10_count_1 (by decide) (by decide) (by decide) (by decide) ?_
    refine g_aload_n dX10_count_142 rfl rfl rfl ?_
    refine g_iload_n dX10_count_143 rfl rfl rfl ?_
    refine g_callVdi (ci := 10) dX10_count_144 lm_X10_407 mv_X10_countOfLife (c_countOfLife (d := d) hx hL) rfl rfl (k0 hL) rfl rfl (Nat.le_of_ble_eq_true rfl) (gFit_room (by omega)) rfl ?_
    exact g_iret dX10_count_147 rfl rfl (⟨by first | rfl | assumption | exact gFr.rf | grind [ib], by first | rfl | assumption | exact gFr.rf | grind [ib]⟩)
  by_cases e1_8 : w = 8
  · rw [e1_8]
    refine g_tableIn (off := 141) (tgt := 142) dX10_count_1 (by decide) (by decide) (by decide) (by decide) ?_
    refine g_aload_n dX10_count_142 rfl rfl rfl ?_
    refine g_iload_n dX10_count_143 rfl rfl rfl ?_
    refine g_callVdi (ci := 10) dX10_count_144 lm_X10_407 mv_X10_countOfLife (c_countOfLife (d := d) hx hL) rfl rfl (k0 hL) rfl rfl (Nat.le_of_ble_eq_true rfl) (gFit_room (by omega)) rfl ?_
    exact g_iret dX10_count_147 rfl rfl (⟨by first | rfl | assumption | exact gFr.rf | grind [ib], by first | rfl | assumption | exact gFr.rf | grind [ib]⟩)
  by_cases e1_9 : w = 9
  · rw [e1_9]
    refine g_tableIn (off := 141) (tgt := 142) dX10_count_1 (by decide) (by decide) (by decide) (by decide) ?_
    refine g_aload_n dX10_count_142 rfl rfl rfl ?_
    refine g_iload_n dX10_count_143 rfl rfl rfl ?_
    refine g_callVdi (ci := 10) dX10_count_144 lm_X10_407 mv_X10_countOfLife (c_countOfLife (d := d) hx hL) rfl rfl (k0 hL) rfl rfl (Nat.le_of_ble_eq_true rfl) (gFit_room (by omega)) rfl ?_
    exact g_iret dX10_count_147 rfl rfl (⟨by first | rfl | assumption | exact gFr.rf | grind [ib], by first | rfl | assumption | exact gFr.rf | grind [ib]⟩)
  by_cases e1_10 : w = 10
  · rw [e1_10]
    refine g_tableIn (off := 141) (tgt := 142) dX10_count_1 (by decide) (by decide) (by decide) (by decide) ?_
    refine g_aload_n dX10_count_142 rfl rfl rfl ?_
    refine g_iload_n dX10_count_143 rfl rfl rfl ?_
    refine g_callVdi (ci := 10) dX10_count_144 lm_X10_407 mv_X10_countOfLife (c_countOfLife (d := d) hx hL) rfl rfl (k0 hL) rfl rfl (Nat.le_of_ble_eq_true rfl) (gFit_room (by omega)) rfl ?_
    exact g_iret dX10_count_147 rfl rfl (⟨by first | rfl | assumption | exact gFr.rf | grind [ib], by first | rfl | assumption | exact gFr.rf | grind [ib]⟩)
  by_cases e1_11 : w = 11
  · rw [e1_11]
    refine g_tableIn (off := 120) (tgt := 121) dX10_count_1 (by decide) (by decide) (by decide) (by decide) ?_
    refine g_aload_n dX10_count_121 rfl rfl rfl ?_
    refine g_getI dX10_count_122 ff_X10_91 rfl (k0 hL) rfl ?_
    exact g_iret dX10_count_125 rfl rfl (⟨by first | rfl | assumption | exact gFr.rf | grind [ib], by first | rfl | assumption | exact gFr.rf | grind [ib]⟩)
  by_cases e1_12 : w = 12
  · rw [e1_12]
    refine g_tableIn (off := 125) (tgt := 126) dX10_count_1 (by decide) (by decide) (by decide) (by decide) ?_
    refine g_aload_n dX10_count_126 rfl rfl rfl ?_
    refine g_getR dX10_count_127 ff_X10_80 rfl (k0 hL) (r0_13 hL) rfl ?_
    refine g_getI dX10_count_130 ff_X10_347 rfl (k75 hL) rfl ?_
    exact g_iret dX10_count_133 rfl rfl (⟨by first | rfl | assumption | exact gFr.rf | grind [ib], by first | rfl | assumption | exact gFr.rf | grind [ib]⟩)
  by_cases e1_13 : w = 13
  · rw [e1_13]
    refine g_tableIn (off := 141) (tgt := 142) dX10_count_1 (by decide) (by decide) (by decide) (by decide) ?_
    refine g_aload_n dX10_count_142 rfl rfl rfl ?_
    refine g_iload_n dX10_count_143 rfl rfl rfl ?_
    refine g_callVdi (ci := 10) dX10_count_144 lm_X10_407 mv_X10_countOfLife (c_countOfLife (d := d) hx hL) rfl rfl (k0 hL) rfl rfl (Nat.le_of_ble_eq_true rfl) (gFit_room (by omega)) rfl ?_
    exact g_iret dX10_count_147 rfl rfl (⟨by first | rfl | assumption | exact gFr.rf | grind [ib], by first | rfl | assumption | exact gFr.rf | grind [ib]⟩)
  by_cases e1_14 : w = 14
  · rw [e1_14]
    refine g_tableIn (off := 133) (tgt := 134) dX10_count_1 (by decide) (by decide) (by decide) (by decide) ?_
    refine g_aload_n dX10_count_134 rfl rfl rfl ?_
    refine g_getR dX10_count_135 ff_X10_71 rfl (k0 hL) (r0_12 hL) rfl ?_
    refine g_getI dX10_count_138 ff_X10_404 rfl (k33 hL) rfl ?_
    exact g_iret dX10_count_141 rfl rfl (⟨by first | rfl | assumption | exact gFr.rf | grind [ib], by first | rfl | assumption | exact gFr.rf | grind [ib]⟩)
  refine g_tableOut (tgt := 142) dX10_count_1 (swo 0 15 (by decide) (fun k hk => match k, hk with | 0, _ => e1_0 | 1, _ => e1_1 | 2, _ => e1_2 | 3, _ => e1_3 | 4, _ => e1_4 | 5, _ => e1_5 | 6, _ => e1_6 | 7, _ => e1_7 | 8, _ => e1_8 | 9, _ => e1_9 | 10, _ => e1_10 | 11, _ => e1_11 | 12, _ => e1_12 | 13, _ => e1_13 | 14, _ => e1_14 | (k + 15), hk => absurd hk (by omega))) (by decide) ?_
  refine g_aload_n dX10_count_142 rfl rfl rfl ?_
  refine g_iload_n dX10_count_143 rfl rfl rfl ?_
  refine g_callVdi (ci := 10) dX10_count_144 lm_X10_407 mv_X10_countOfLife (c_countOfLife (d := d) hx hL) rfl rfl (k0 hL) rfl rfl (Nat.le_of_ble_eq_true rfl) (gFit_room (by omega)) rfl ?_
  exact g_iret dX10_count_147 rfl rfl (⟨by first | rfl | assumption | exact gFr.rf | grind [ib], by first | rfl | assumption | exact gFr.rf | grind [ib]⟩)
set_option maxRecDepth 20000 in
theorem c_image (hx : gXok X) (hL : gLay M) : gDet X (d + 2) yX10_image cX10_image 1 (some .int) [.ref 0] M (some (.int (if gmi M 3 7 = 0 then -1 else gmi M 25 66))) (if gmi M 3 7 = 0 then M else gwI (gwF (gwF M 31 (va_cpy (gmi M 25) (gmi M 31) 0 0 67)) 32 (va_cpy (gmi M 26) (gmi M 32) 0 0 384)) 0 11 1) := by
  refine gMet.of hx (by decide) (Nat.le_of_ble_eq_true rfl) ?_
  refine g_aload_n dX10_image_0 rfl rfl rfl ?_
  refine g_callVdi (ci := 10) dX10_image_1 lm_X10_250 mv_X10_noTown (c_noTown (d := d) hx hL) rfl rfl (k0 hL) rfl rfl (Nat.le_of_ble_eq_true rfl) (gFit_room (by omega)) rfl ?_
  refine g_ieq (tgt := 9) dX10_image_4 (by decide) rfl (fun h4 => ?_) (fun h4 => ?_)
  · refine g_aload_n dX10_image_9 rfl rfl rfl ?_
    refine g_getR dX10_image_10 ff_X10_65 rfl (k0 hL) (r0_10 hL) rfl ?_
    refine g_aload_n dX10_image_13 rfl rfl rfl ?_
    refine g_getR dX10_image_14 ff_X10_58 rfl (k0 hL) (r0_8 hL) rfl ?_
    refine g_callVdv (ci := 4) dX10_image_17 lm_X10_309 mv_X4_copy (c_copy_kn (d := d) hx hL) rfl rfl (k30 hL) rfl rfl (Nat.le_of_ble_eq_true rfl) (gFit_room (by omega)) rfl ?_
    refine g_aload_n dX10_image_20 rfl rfl rfl ?_
    refine g_iconst (v := 1) dX10_image_21 (by decide) rfl ?_
    refine g_putI dX10_image_22 fp_X10_137 rfl rfl rfl (k0 (gLay_F (gLay_F hL))) rfl ?_
    refine g_aload_n dX10_image_25 rfl rfl rfl ?_
    refine g_getR dX10_image_26 ff_X10_58 rfl (k0 (gLay_I (gLay_F (gLay_F hL)))) (r0_8 (gLay_I (gLay_F (gLay_F hL)))) rfl ?_
    refine g_bipush (v := 66) dX10_image_29 (by decide) rfl ?_
    refine g_callVdi (ci := 4) dX10_image_31 lm_X10_254 mv_X4_get (c_get_now (d := d) (i := 66) hx (gLay_I (gLay_F (gLay_F hL))) (by decide)) rfl rfl (k24 (gLay_I (gLay_F (gLay_F hL)))) rfl rfl (Nat.le_of_ble_eq_true rfl) (gFit_room (by omega)) rfl ?_
    exact g_iret dX10_image_34 rfl rfl (⟨by rw [if_neg h4]; rfl, by rw [if_neg h4]⟩)
  · refine g_iconst (v := -1) dX10_image_7 (by decide) rfl ?_
    exact g_iret dX10_image_8 rfl rfl (⟨by first | rfl | assumption | exact gFr.rf | grind [ib], by first | rfl | assumption | exact gFr.rf | grind [ib]⟩)
set_option maxRecDepth 20000 in
theorem c_back (hx : gXok X) (hL : gLay M) : gDet X (d + 2) yX10_back cX10_back 1 (some .int) [.ref 0] M (some (.int (if gmi M 0 11 = 0 then -1 else va_cpy (gmi M 31) (gmi M 25) 0 0 67 66))) (if gmi M 0 11 = 0 then M else gwI (gwF (gwF M 25 (va_cpy (gmi M 31) (gmi M 25) 0 0 67)) 26 (va_cpy (gmi M 32) (gmi M 26) 0 0 384)) 33 1 0) := by
  refine gMet.of hx (by decide) (Nat.le_of_ble_eq_true rfl) ?_
  refine g_aload_n dX10_back_0 rfl rfl rfl ?_
  refine g_getI dX10_back_1 ff_X10_137 rfl (k0 hL) rfl ?_
  refine g_if_ne (tgt := 9) dX10_back_4 (by decide) rfl (fun h4 => ?_) (fun h4 => ?_)
  · refine g_aload_n dX10_back_9 rfl rfl rfl ?_
    refine g_getR dX10_back_10 ff_X10_58 rfl (k0 hL) (r0_8 hL) rfl ?_
    refine g_aload_n dX10_back_13 rfl rfl rfl ?_
    refine g_getR dX10_back_14 ff_X10_65 rfl (k0 hL) (r0_10 hL) rfl ?_
    refine g_callVdv (ci := 4) dX10_back_17 lm_X10_309 mv_X4_copy (c_copy_nk (d := d) hx hL) rfl rfl (k24 hL) rfl rfl (Nat.le_of_ble_eq_true rfl) (gFit_room (by omega)) rfl ?_
    refine g_aload_n dX10_back_20 rfl rfl rfl ?_
    refine g_getR dX10_back_21 ff_X10_71 rfl (k0 (gLay_F (gLay_F hL))) (r0_12 (gLay_F (gLay_F hL))) rfl ?_
    refine g_callVdv (ci := 5) dX10_back_24 lm_X10_133 mv_X5_forget (c_pforget (d := d) hx (gLay_F (gLay_F hL))) rfl rfl (k33 (gLay_F (gLay_F hL))) rfl rfl (Nat.le_of_ble_eq_true rfl) (gFit_room (by omega)) rfl ?_
    refine g_aload_n dX10_back_27 rfl rfl rfl ?_
    refine g_getR dX10_back_28 ff_X10_58 rfl (k0 (gLay_I (gLay_F (gLay_F hL)))) (r0_8 (gLay_I (gLay_F (gLay_F hL)))) rfl ?_
    refine g_bipush (v := 66) dX10_back_31 (by decide) rfl ?_
    refine g_callVdi (ci := 4) dX10_back_33 lm_X10_254 mv_X4_get (c_get_now (d := d) (i := 66) hx (gLay_I (gLay_F (gLay_F hL))) (by decide)) rfl rfl (k24 (gLay_I (gLay_F (gLay_F hL)))) rfl rfl (Nat.le_of_ble_eq_true rfl) (gFit_room (by omega)) rfl ?_
    exact g_iret dX10_back_36 rfl rfl (⟨by rw [if_neg h4]; rfl, by rw [if_neg h4]⟩)
  · refine g_iconst (v := -1) dX10_back_7 (by decide) rfl ?_
    exact g_iret dX10_back_8 rfl rfl (⟨by first | rfl | assumption | exact gFr.rf | grind [ib], by first | rfl | assumption | exact gFr.rf | grind [ib]⟩)
set_option maxRecDepth 20000 in
theorem c_undo (hx : gXok X) (hL : gLay M) (hP : PLay M) (hn : okv M 33 2 39) : gDet X (d + 2) yX10_undo cX10_undo 1 (some .int) [.ref 0] M (some (.int (if gmi M 33 1 = 0 then -1 else gmi M 33 1 - 1))) (if gmi M 33 1 = 0 then M else backM M) := by
  refine gMet.of hx (by decide) (Nat.le_of_ble_eq_true rfl) ?_
  by_cases h0 : gmi M 33 1 = 0
  · rw [if_pos h0, if_pos h0]
    refine g_aload_n dX10_undo_0 rfl rfl rfl ?_
    refine g_getR dX10_undo_1 ff_X10_71 rfl (k0 hL) (r0_12 hL) rfl ?_
    refine g_aload_n dX10_undo_4 rfl rfl rfl ?_
    refine g_getR dX10_undo_5 ff_X10_58 rfl (k0 hL) (r0_8 hL) rfl ?_
    refine g_callVdi (ci := 5) dX10_undo_8 lm_X10_286 mv_X5_takeBack (c_takeBack0 (d := d) hx hL h0) rfl rfl (k33 hL) rfl rfl (Nat.le_of_ble_eq_true rfl) (gFit_room (by omega)) rfl ?_
    exact g_iret dX10_undo_11 rfl rfl (⟨by first | rfl | assumption | exact gFr.rf | grind [ib], by first | rfl | assumption | exact gFr.rf | grind [ib]⟩)
  · rw [if_neg h0, if_neg h0]
    refine g_aload_n dX10_undo_0 rfl rfl rfl ?_
    refine g_getR dX10_undo_1 ff_X10_71 rfl (k0 hL) (r0_12 hL) rfl ?_
    refine g_aload_n dX10_undo_4 rfl rfl rfl ?_
    refine g_getR dX10_undo_5 ff_X10_58 rfl (k0 hL) (r0_8 hL) rfl ?_
    refine g_callVdi (ci := 5) dX10_undo_8 lm_X10_286 mv_X5_takeBack (c_takeBack (d := d) hx hL hP hn h0) rfl rfl (k33 hL) rfl rfl (Nat.le_of_ble_eq_true rfl) (gFit_room (by omega)) rfl ?_
    exact g_iret dX10_undo_11 rfl rfl (⟨by first | rfl | assumption | exact gFr.rf | grind [ib], by first | rfl | assumption | exact gFr.rf | grind [ib]⟩)
theorem trad_lt (hT : TownOK M) (p : Nat) : dset M 25 p 0 < 256 := dset_lt hT 25 p 0
end G5
