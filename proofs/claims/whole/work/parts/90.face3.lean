section H3
variable {X : gX} {Mc M : gM} {d n : Nat} {E : Nat → LE} {EV : EVt} {F : Nat → Int32}
theorem cm1 {c : Nat} (hc : c < 2 ^ 30) {x : Int32} : (0 ≤ x ∧ x ≤ nI c - 1) ↔ (¬ x < 0 ∧ x < nI c) := by
  have hcv : (nI c - 1).toInt = (c : Int) - 1 := by
    by_cases z : c = 0
    · rw [z]; decide
    · rw [nI_m1 (by omega), nI_toInt (by omega)]; omega
  rw [Int32.lt_iff_toInt_lt, Int32.lt_iff_toInt_lt, Int32.le_iff_toInt_le, Int32.le_iff_toInt_le, hcv, nI_toInt (by omega), show (0 : Int32).toInt = 0 from rfl]
  omega
set_option maxRecDepth 20000 in
theorem r_log (hx : gXok X) (hL : gLay M) {e : Nat → Int32} {D : Nat} (hl : LogR (gmi M 113) D e) {x z : Int32} : gDet X (d + 1) yX11_log cX11_log 3 (some .int) [.ref 100, .int x, .int z] M (some (.int (if (¬ x < 0 ∧ x < nI (min 60 D)) ∧ ¬ z < 0 ∧ z ≤ 2 then e ((D - 1 - tn x) % 128 * 3 + tn z) else -1))) (gwI M 100 0 0) := by
  have e113 : gmi (gwI M 100 0 0) 113 = gmi M 113 := gmi_In _ _ _ (by decide)
  refine gMet.of hx (by decide) (Nat.le_of_ble_eq_true rfl) ?_
  obtain ⟨h67, hl2⟩ := id hl
  have hmin : min 60 D ≤ 60 := Nat.min_le_left _ _
  by_cases hi : ¬ x < 0 ∧ x < nI (min 60 D)
  · obtain ⟨ex, lx⟩ := in_row (n := min 60 D) rfl (by omega) ⟨Int32.not_lt.mp hi.1, hi.2⟩
    by_cases hz : 0 ≤ z ∧ z ≤ 2
    · rw [if_pos ⟨hi, Int32.not_lt.mpr hz.1, hz.2⟩]
      obtain ⟨ez, lz⟩ := le_row (m := 2) (by decide) hz
      have hv := hl2 (tn x) lx (tn z) (by omega)
      rw [← hv]
      generalize tn x = i at *
      generalize tn z = q at *
      subst ex ez
      clear hl hl2 hv
      generalize min 60 D = c at *
      refine g_aload_n dX11_log_0 rfl rfl rfl ?_
      refine g_iconst (v := 0) dX11_log_1 (by decide) rfl ?_
      refine g_putI dX11_log_2 fp_X11_90 rfl rfl rfl (k100 hL) rfl ?_
      refine g_iload_n dX11_log_5 rfl rfl rfl ?_
      refine g_i2l dX11_log_6 rfl ?_
      refine g_lconst (v := 0) dX11_log_7 (by decide) rfl ?_
      refine g_aload_n dX11_log_8 rfl rfl rfl ?_
      refine g_getR dX11_log_9 ff_X11_61 rfl (k100 (gLay_I hL)) (r100_32 (gLay_I hL)) rfl ?_
      refine g_bipush (v := 67) dX11_log_12 (by decide) rfl ?_
      refine g_iald (i := 67) dX11_log_14 (k113 (gLay_I hL)) (l113 (gLay_I hL)) rfl (by decide) rfl ?_
      rw [e113, h67]
      refine g_iconst (v := 1) dX11_log_15 (by decide) rfl ?_
      refine g_isub dX11_log_16 rfl ?_
      refine g_i2l dX11_log_17 rfl ?_
      refine g_callSdi dX11_log_18 lm_X11_211 mv_X11_isIn (r_isIn (d := d) (l := 0) (h := nI c - 1) hx rfl (by decide) rfl) rfl rfl (Nat.le_of_ble_eq_true rfl) (gFit_room (by omega)) rfl ?_
      rw [ib_t ((cm1 (by omega)).mpr hi)]
      refine g_if_eq (tgt := 62) dX11_log_21 (by decide) rfl (fun h_ => absurd h_ (by decide)) (fun _ => ?_)
      refine g_iload_n dX11_log_24 rfl rfl rfl ?_
      refine g_i2l dX11_log_25 rfl ?_
      refine g_lconst (v := 0) dX11_log_26 (by decide) rfl ?_
      refine g_ldc2 dX11_log_27 lq_X11_266 rfl ?_
      refine g_callSdi dX11_log_30 lm_X11_211 mv_X11_isIn (r_isIn (d := d) (l := 0) (h := 2) hx rfl (by decide) (by decide)) rfl rfl (Nat.le_of_ble_eq_true rfl) (gFit_room (by omega)) rfl ?_
      rw [ib_t hz]
      refine g_if_eq (tgt := 62) dX11_log_33 (by decide) rfl (fun h_ => absurd h_ (by decide)) (fun _ => ?_)
      refine g_aload_n dX11_log_36 rfl rfl rfl ?_
      refine g_getR dX11_log_37 ff_X11_61 rfl (k100 (gLay_I hL)) (r100_32 (gLay_I hL)) rfl ?_
      refine g_bipush (v := 68) dX11_log_40 (by decide) rfl ?_
      refine g_iconst (v := 3) dX11_log_42 (by decide) rfl ?_
      refine g_aload_n dX11_log_43 rfl rfl rfl ?_
      refine g_getR dX11_log_44 ff_X11_61 rfl (k100 (gLay_I hL)) (r100_32 (gLay_I hL)) rfl ?_
      refine g_bipush (v := 67) dX11_log_47 (by decide) rfl ?_
      refine g_iald (i := 67) dX11_log_49 (k113 (gLay_I hL)) (l113 (gLay_I hL)) rfl (by decide) rfl ?_
      rw [e113, h67]
      refine g_iconst (v := 1) dX11_log_50 (by decide) rfl ?_
      refine g_isub dX11_log_51 rfl ?_
      refine g_iload_n dX11_log_52 rfl rfl rfl ?_
      refine g_isub dX11_log_53 rfl ?_
      rw [nI_m1 (by omega), pk_sub (by omega)]
      refine g_imul dX11_log_54 rfl ?_
      refine g_iadd dX11_log_55 rfl ?_
      refine g_iload_n dX11_log_56 rfl rfl rfl ?_
      refine g_iadd dX11_log_57 rfl ?_
      rw [show (68 : Int32) = nI 68 from rfl, show (3 : Int32) = nI 3 from rfl, pk_mul, nI_add, nI_add]
      refine g_iald (i := (68 + 3 * (c - 1 - i) + q)) dX11_log_58 (k113 (gLay_I hL)) (l113 (gLay_I hL)) (nI_toInt (by omega)) (by omega) rfl ?_
      refine g_goto (tgt := 63) dX11_log_59 (by decide) ?_
      rw [e113]
      exact g_iret dX11_log_63 rfl (by first | rfl | exact b01 | exact nb01 hv01) (⟨rfl, rfl⟩)
    · rw [if_neg (fun q => hz ⟨Int32.not_lt.mp q.2.1, q.2.2⟩)]
      refine g_aload_n dX11_log_0 rfl rfl rfl ?_
      refine g_iconst (v := 0) dX11_log_1 (by decide) rfl ?_
      refine g_putI dX11_log_2 fp_X11_90 rfl rfl rfl (k100 hL) rfl ?_
      refine g_iload_n dX11_log_5 rfl rfl rfl ?_
      refine g_i2l dX11_log_6 rfl ?_
      refine g_lconst (v := 0) dX11_log_7 (by decide) rfl ?_
      refine g_aload_n dX11_log_8 rfl rfl rfl ?_
      refine g_getR dX11_log_9 ff_X11_61 rfl (k100 (gLay_I hL)) (r100_32 (gLay_I hL)) rfl ?_
      refine g_bipush (v := 67) dX11_log_12 (by decide) rfl ?_
      refine g_iald (i := 67) dX11_log_14 (k113 (gLay_I hL)) (l113 (gLay_I hL)) rfl (by decide) rfl ?_
      rw [e113, h67]
      refine g_iconst (v := 1) dX11_log_15 (by decide) rfl ?_
      refine g_isub dX11_log_16 rfl ?_
      refine g_i2l dX11_log_17 rfl ?_
      refine g_callSdi dX11_log_18 lm_X11_211 mv_X11_isIn (r_isIn (d := d) (l := 0) (h := nI (min 60 D) - 1) hx rfl (by decide) rfl) rfl rfl (Nat.le_of_ble_eq_true rfl) (gFit_room (by omega)) rfl ?_
      rw [ib_t ((cm1 (by omega)).mpr hi)]
      refine g_if_eq (tgt := 62) dX11_log_21 (by decide) rfl (fun h_ => absurd h_ (by decide)) (fun _ => ?_)
      refine g_iload_n dX11_log_24 rfl rfl rfl ?_
      refine g_i2l dX11_log_25 rfl ?_
      refine g_lconst (v := 0) dX11_log_26 (by decide) rfl ?_
      refine g_ldc2 dX11_log_27 lq_X11_266 rfl ?_
      refine g_callSdi dX11_log_30 lm_X11_211 mv_X11_isIn (r_isIn (d := d) (l := 0) (h := 2) hx rfl (by decide) (by decide)) rfl rfl (Nat.le_of_ble_eq_true rfl) (gFit_room (by omega)) rfl ?_
      rw [ib_f hz]
      refine g_if_eq (tgt := 62) dX11_log_33 (by decide) rfl (fun _ => ?_) (fun h_ => absurd (by decide) h_)
      refine g_iconst (v := -1) dX11_log_62 (by decide) rfl ?_
      exact g_iret dX11_log_63 rfl (by first | rfl | exact b01 | exact nb01 hv01) (⟨by first | rfl | assumption | exact gFr.rf | grind [ib], by first | rfl | assumption | exact gFr.rf | grind [ib]⟩)
  · rw [if_neg (fun q => hi q.1)]
    refine g_aload_n dX11_log_0 rfl rfl rfl ?_
    refine g_iconst (v := 0) dX11_log_1 (by decide) rfl ?_
    refine g_putI dX11_log_2 fp_X11_90 rfl rfl rfl (k100 hL) rfl ?_
    refine g_iload_n dX11_log_5 rfl rfl rfl ?_
    refine g_i2l dX11_log_6 rfl ?_
    refine g_lconst (v := 0) dX11_log_7 (by decide) rfl ?_
    refine g_aload_n dX11_log_8 rfl rfl rfl ?_
    refine g_getR dX11_log_9 ff_X11_61 rfl (k100 (gLay_I hL)) (r100_32 (gLay_I hL)) rfl ?_
    refine g_bipush (v := 67) dX11_log_12 (by decide) rfl ?_
    refine g_iald (i := 67) dX11_log_14 (k113 (gLay_I hL)) (l113 (gLay_I hL)) rfl (by decide) rfl ?_
    rw [e113, h67]
    refine g_iconst (v := 1) dX11_log_15 (by decide) rfl ?_
    refine g_isub dX11_log_16 rfl ?_
    refine g_i2l dX11_log_17 rfl ?_
    refine g_callSdi dX11_log_18 lm_X11_211 mv_X11_isIn (r_isIn (d := d) (l := 0) (h := nI (min 60 D) - 1) hx rfl (by decide) rfl) rfl rfl (Nat.le_of_ble_eq_true rfl) (gFit_room (by omega)) rfl ?_
    rw [ib_f (fun z => hi ((cm1 (by omega)).mp z))]
    refine g_if_eq (tgt := 62) dX11_log_21 (by decide) rfl (fun _ => ?_) (fun h_ => absurd (by decide) h_)
    refine g_iconst (v := -1) dX11_log_62 (by decide) rfl ?_
    exact g_iret dX11_log_63 rfl (by first | rfl | exact b01 | exact nb01 hv01) (⟨by first | rfl | assumption | exact gFr.rf | grind [ib], by first | rfl | assumption | exact gFr.rf | grind [ib]⟩)
/-- weeks -/
def RWk (Mc M : gM) : Prop := gmi M 100 30 = gmi Mc 0 6 ∧ okv Mc 0 6 4 ∧ ∀ k, k < tv Mc 0 6 → okv Mc (300 + 5 * k) 3 16 ∧ gmi M 112 k = gmi Mc (300 + 5 * k) 3 ∧ ∀ i, i < tv Mc (300 + 5 * k) 3 → gmi M 111 (3 * (16 * k + i)) = gmi Mc (300 + 5 * k + 1) i ∧ gmi M 111 (3 * (16 * k + i) + 1) = gmi Mc (300 + 5 * k + 2) i ∧ gmi M 111 (3 * (16 * k + i) + 2) = gmi Mc (300 + 5 * k + 3) i
theorem r_isPlan (hx : gXok X) (hL : gLay M) (hW : RWk Mc M) {x : Int32} : gDet X (d + 0) yX11_isPlan cX11_isPlan 2 (some .boolean) [.ref 100, .int x] M (some (.int (ib (inW Mc x)))) M := by
  refine gMet.of hx (by decide) (Nat.le_of_ble_eq_true rfl) ?_
  refine g_iload_n dX11_isPlan_0 rfl rfl rfl ?_
  refine g_if_lt (tgt := 16) dX11_isPlan_1 (by decide) rfl (fun h1 => ?_) (fun h1 => ?_)
  · have hr : ¬ inW Mc x := by first | exact fun q => Int32.not_lt.mpr q.1 h1 | exact fun q => Int32.not_lt.mpr h9 q.2
    refine g_iconst (v := 0) dX11_isPlan_16 (by decide) rfl ?_
    exact g_iret dX11_isPlan_17 rfl (by first | rfl | exact b01 | exact nb01 hv01) (⟨by first | rw [ib_t hr] | rw [ib_f hr], rfl⟩)
  · refine g_iload_n dX11_isPlan_4 rfl rfl rfl ?_
    refine g_aload_n dX11_isPlan_5 rfl rfl rfl ?_
    refine g_getI dX11_isPlan_6 ff_X11_280 rfl (k100 hL) rfl ?_
    rw [hW.1]
    refine g_icmp_ge (tgt := 16) dX11_isPlan_9 (by decide) rfl (fun h9 => ?_) (fun h9 => ?_)
    · have hr : ¬ inW Mc x := by first | exact fun q => Int32.not_lt.mpr q.1 h1 | exact fun q => Int32.not_lt.mpr h9 q.2
      refine g_iconst (v := 0) dX11_isPlan_16 (by decide) rfl ?_
      exact g_iret dX11_isPlan_17 rfl (by first | rfl | exact b01 | exact nb01 hv01) (⟨by first | rw [ib_t hr] | rw [ib_f hr], rfl⟩)
    · have hr : inW Mc x := ⟨Int32.not_lt.mp h1, Int32.not_le.mp h9⟩
      refine g_iconst (v := 1) dX11_isPlan_12 (by decide) rfl ?_
      refine g_goto (tgt := 17) dX11_isPlan_13 (by decide) ?_
      exact g_iret dX11_isPlan_17 rfl (by first | rfl | exact b01 | exact nb01 hv01) (⟨by first | rw [ib_t hr] | rw [ib_f hr], rfl⟩)
theorem RWk.wf {j : Nat} {v : Int32} (h : RWk Mc M) (hj : j ≠ 30) : RWk Mc (gwI M 100 j v) := by
  unfold RWk
  rw [gmi_I, va_up_ne _ _ hj.symm, gmi_In _ _ _ (show 112 ≠ 100 by decide), gmi_In _ _ _ (show 111 ≠ 100 by decide)]
  exact h
set_option maxRecDepth 20000 in
theorem r_step (hx : gXok X) (hL : gLay M) (hW : RWk Mc M) {x i w : Int32} : gDet X (d + 1) yX11_step cX11_step 4 (some .int) [.ref 100, .int x, .int i, .int w] M (some (.int (if inW Mc x ∧ inS Mc (tn x) i then (if w = 0 then gmi Mc (300 + 5 * tn x + 1) (tn i) else if w = 1 then gmi Mc (300 + 5 * tn x + 2) (tn i) else if w = 2 then gmi Mc (300 + 5 * tn x + 3) (tn i) else -1000000) else -1000000))) (gwI M 100 0 0) := by
  have hW1 := hW.wf (j := 0) (v := 0) (by decide)
  refine gMet.of hx (by decide) (Nat.le_of_ble_eq_true rfl) ?_
  by_cases hp : inW Mc x
  · obtain ⟨ex, lx⟩ := in_row hW.2.1.1 (by have := hW.2.1.2; omega) hp
    have m4 := Nat.lt_of_lt_of_le lx hW.2.1.2
    obtain ⟨ol, e112, hrow⟩ := hW1.2.2 (tn x) lx
    generalize tn x = k at *
    subst ex
    have e112' : gmi (gwI M 100 0 0) 112 k = nI (tv Mc (300 + 5 * k) 3) := e112.trans ol.1
    have hl16 := ol.2
    by_cases hi : inS Mc k i
    · obtain ⟨ei, li⟩ := in_row ol.1 (by omega) hi
      rw [if_pos ⟨hp, hi⟩]
      have hq := hrow (tn i) li
      have hi2 : 0 ≤ i ∧ i ≤ nI (tv Mc (300 + 5 * k) 3) - 1 := (cm1 (by omega)).mpr ⟨Int32.not_lt.mpr hi.1, by rw [← ol.1]; exact hi.2⟩
      generalize tn i = j at *
      subst ei
      by_cases hw : 0 ≤ w ∧ w ≤ 2
      · obtain ⟨ew, lw⟩ := le_row (m := 2) (by decide) hw
        have hres : gmi (gwI M 100 0 0) 111 (3 * (16 * k + j) + tn w) = (if w = 0 then gmi Mc (300 + 5 * k + 1) j else if w = 1 then gmi Mc (300 + 5 * k + 2) j else if w = 2 then gmi Mc (300 + 5 * k + 3) j else -1000000) := by
          rcases (show tn w = 0 ∨ tn w = 1 ∨ tn w = 2 by omega) with z | z | z
          · rw [z] at ew ⊢; rw [ew, if_pos (by decide)]; exact hq.1
          · rw [z] at ew ⊢; rw [ew, if_neg (by decide), if_pos (by decide)]; exact hq.2.1
          · rw [z] at ew ⊢; rw [ew, if_neg (by decide), if_neg (by decide), if_pos (by decide)]; exact hq.2.2
        rw [← hres]
        refine g_aload_n dX11_step_0 rfl rfl rfl ?_
        refine g_iconst (v := 0) dX11_step_1 (by decide) rfl ?_
        refine g_putI dX11_step_2 fp_X11_90 rfl rfl rfl (k100 hL) rfl ?_
        refine g_aload_n dX11_step_5 rfl rfl rfl ?_
        refine g_iload_n dX11_step_6 rfl rfl rfl ?_
        refine g_callVdi (ci := 11) dX11_step_7 lm_X11_406 mv_X11_isPlan (r_isPlan (d := d) hx (gLay_I hL) hW1) rfl rfl (k100 (gLay_I hL)) rfl rfl (Nat.le_of_ble_eq_true rfl) (gFit_room (by omega)) rfl ?_
        rw [ib_t hp]
        refine g_if_eq (tgt := 61) dX11_step_10 (by decide) rfl (fun h_ => absurd h_ (by decide)) (fun _ => ?_)
        refine g_iload_n dX11_step_13 rfl rfl rfl ?_
        refine g_i2l dX11_step_14 rfl ?_
        refine g_lconst (v := 0) dX11_step_15 (by decide) rfl ?_
        refine g_aload_n dX11_step_16 rfl rfl rfl ?_
        refine g_getR dX11_step_17 ff_X11_58 rfl (k100 (gLay_I hL)) (r100_25 (gLay_I hL)) rfl ?_
        refine g_iload_n dX11_step_20 rfl rfl rfl ?_
        refine g_iald (i := k) dX11_step_21 (k112 (gLay_I hL)) (l112 (gLay_I hL)) (nI_toInt (by omega)) (by omega) rfl ?_
        rw [e112']
        refine g_iconst (v := 1) dX11_step_22 (by decide) rfl ?_
        refine g_isub dX11_step_23 rfl ?_
        refine g_i2l dX11_step_24 rfl ?_
        refine g_callSdi dX11_step_25 lm_X11_211 mv_X11_isIn (r_isIn (d := d) (l := 0) (h := nI (tv Mc (300 + 5 * k) 3) - 1) hx rfl (by decide) rfl) rfl rfl (Nat.le_of_ble_eq_true rfl) (gFit_room (by omega)) rfl ?_
        rw [ib_t hi2]
        refine g_if_eq (tgt := 61) dX11_step_28 (by decide) rfl (fun h_ => absurd h_ (by decide)) (fun _ => ?_)
        refine g_iload_n dX11_step_31 rfl rfl rfl ?_
        refine g_i2l dX11_step_32 rfl ?_
        refine g_lconst (v := 0) dX11_step_33 (by decide) rfl ?_
        refine g_ldc2 dX11_step_34 lq_X11_266 rfl ?_
        refine g_callSdi dX11_step_37 lm_X11_211 mv_X11_isIn (r_isIn (d := d) (l := 0) (h := 2) hx rfl (by decide) (by decide)) rfl rfl (Nat.le_of_ble_eq_true rfl) (gFit_room (by omega)) rfl ?_
        rw [ib_t hw]
        refine g_if_eq (tgt := 61) dX11_step_40 (by decide) rfl (fun h_ => absurd h_ (by decide)) (fun _ => ?_)
        refine g_aload_n dX11_step_43 rfl rfl rfl ?_
        refine g_getR dX11_step_44 ff_X11_55 rfl (k100 (gLay_I hL)) (r100_24 (gLay_I hL)) rfl ?_
        refine g_iconst (v := 3) dX11_step_47 (by decide) rfl ?_
        refine g_bipush (v := 16) dX11_step_48 (by decide) rfl ?_
        refine g_iload_n dX11_step_50 rfl rfl rfl ?_
        refine g_imul dX11_step_51 rfl ?_
        refine g_iload_n dX11_step_52 rfl rfl rfl ?_
        refine g_iadd dX11_step_53 rfl ?_
        refine g_imul dX11_step_54 rfl ?_
        refine g_iload_n dX11_step_55 rfl rfl rfl ?_
        refine g_iadd dX11_step_56 rfl ?_
        rw [ew, show (3 : Int32) = nI 3 from rfl, show (16 : Int32) = nI 16 from rfl, pk_mul, nI_add, pk_mul, nI_add, ← ew]
        refine g_iald (i := (3 * (16 * k + j) + tn w)) dX11_step_57 (k111 (gLay_I hL)) (l111 (gLay_I hL)) (nI_toInt (by omega)) (by omega) rfl ?_
        refine g_goto (tgt := 64) dX11_step_58 (by decide) ?_
        exact g_iret dX11_step_64 rfl (by first | rfl | exact b01 | exact nb01 hv01) (⟨by first | rfl | assumption | exact gFr.rf | grind [ib], by first | rfl | assumption | exact gFr.rf | grind [ib]⟩)
      · rw [if_neg (fun z => hw (by rw [z]; decide)), if_neg (fun z => hw (by rw [z]; decide)), if_neg (fun z => hw (by rw [z]; decide))]
        refine g_aload_n dX11_step_0 rfl rfl rfl ?_
        refine g_iconst (v := 0) dX11_step_1 (by decide) rfl ?_
        refine g_putI dX11_step_2 fp_X11_90 rfl rfl rfl (k100 hL) rfl ?_
        refine g_aload_n dX11_step_5 rfl rfl rfl ?_
        refine g_iload_n dX11_step_6 rfl rfl rfl ?_
        refine g_callVdi (ci := 11) dX11_step_7 lm_X11_406 mv_X11_isPlan (r_isPlan (d := d) hx (gLay_I hL) hW1) rfl rfl (k100 (gLay_I hL)) rfl rfl (Nat.le_of_ble_eq_true rfl) (gFit_room (by omega)) rfl ?_
        rw [ib_t hp]
        refine g_if_eq (tgt := 61) dX11_step_10 (by decide) rfl (fun h_ => absurd h_ (by decide)) (fun _ => ?_)
        refine g_iload_n dX11_step_13 rfl rfl rfl ?_
        refine g_i2l dX11_step_14 rfl ?_
        refine g_lconst (v := 0) dX11_step_15 (by decide) rfl ?_
        refine g_aload_n dX11_step_16 rfl rfl rfl ?_
        refine g_getR dX11_step_17 ff_X11_58 rfl (k100 (gLay_I hL)) (r100_25 (gLay_I hL)) rfl ?_
        refine g_iload_n dX11_step_20 rfl rfl rfl ?_
        refine g_iald (i := k) dX11_step_21 (k112 (gLay_I hL)) (l112 (gLay_I hL)) (nI_toInt (by omega)) (by omega) rfl ?_
        rw [e112']
        refine g_iconst (v := 1) dX11_step_22 (by decide) rfl ?_
        refine g_isub dX11_step_23 rfl ?_
        refine g_i2l dX11_step_24 rfl ?_
        refine g_callSdi dX11_step_25 lm_X11_211 mv_X11_isIn (r_isIn (d := d) (l := 0) (h := nI (tv Mc (300 + 5 * k) 3) - 1) hx rfl (by decide) rfl) rfl rfl (Nat.le_of_ble_eq_true rfl) (gFit_room (by omega)) rfl ?_
        rw [ib_t hi2]
        refine g_if_eq (tgt := 61) dX11_step_28 (by decide) rfl (fun h_ => absurd h_ (by decide)) (fun _ => ?_)
        refine g_iload_n dX11_step_31 rfl rfl rfl ?_
        refine g_i2l dX11_step_32 rfl ?_
        refine g_lconst (v := 0) dX11_step_33 (by decide) rfl ?_
        refine g_ldc2 dX11_step_34 lq_X11_266 rfl ?_
        refine g_callSdi dX11_step_37 lm_X11_211 mv_X11_isIn (r_isIn (d := d) (l := 0) (h := 2) hx rfl (by decide) (by decide)) rfl rfl (Nat.le_of_ble_eq_true rfl) (gFit_room (by omega)) rfl ?_
        rw [ib_f hw]
        refine g_if_eq (tgt := 61) dX11_step_40 (by decide) rfl (fun _ => ?_) (fun h_ => absurd (by decide) h_)
        refine g_ldcw dX11_step_61 lq_X11_409 rfl ?_
        exact g_iret dX11_step_64 rfl (by first | rfl | exact b01 | exact nb01 hv01) (⟨by first | rfl | assumption | exact gFr.rf | grind [ib], by first | rfl | assumption | exact gFr.rf | grind [ib]⟩)
    · rw [if_neg (fun q => hi q.2)]
      have hi2 : ¬ (0 ≤ i ∧ i ≤ nI (tv Mc (300 + 5 * k) 3) - 1) := fun z => hi (by have := (cm1 (by omega)).mp z; exact ⟨Int32.not_lt.mp this.1, by rw [ol.1]; exact this.2⟩)
      refine g_aload_n dX11_step_0 rfl rfl rfl ?_
      refine g_iconst (v := 0) dX11_step_1 (by decide) rfl ?_
      refine g_putI dX11_step_2 fp_X11_90 rfl rfl rfl (k100 hL) rfl ?_
      refine g_aload_n dX11_step_5 rfl rfl rfl ?_
      refine g_iload_n dX11_step_6 rfl rfl rfl ?_
      refine g_callVdi (ci := 11) dX11_step_7 lm_X11_406 mv_X11_isPlan (r_isPlan (d := d) hx (gLay_I hL) hW1) rfl rfl (k100 (gLay_I hL)) rfl rfl (Nat.le_of_ble_eq_true rfl) (gFit_room (by omega)) rfl ?_
      rw [ib_t hp]
      refine g_if_eq (tgt := 61) dX11_step_10 (by decide) rfl (fun h_ => absurd h_ (by decide)) (fun _ => ?_)
      refine g_iload_n dX11_step_13 rfl rfl rfl ?_
      refine g_i2l dX11_step_14 rfl ?_
      refine g_lconst (v := 0) dX11_step_15 (by decide) rfl ?_
      refine g_aload_n dX11_step_16 rfl rfl rfl ?_
      refine g_getR dX11_step_17 ff_X11_58 rfl (k100 (gLay_I hL)) (r100_25 (gLay_I hL)) rfl ?_
      refine g_iload_n dX11_step_20 rfl rfl rfl ?_
      refine g_iald (i := k) dX11_step_21 (k112 (gLay_I hL)) (l112 (gLay_I hL)) (nI_toInt (by omega)) (by omega) rfl ?_
      rw [e112']
      refine g_iconst (v := 1) dX11_step_22 (by decide) rfl ?_
      refine g_isub dX11_step_23 rfl ?_
      refine g_i2l dX11_step_24 rfl ?_
      refine g_callSdi dX11_step_25 lm_X11_211 mv_X11_isIn (r_isIn (d := d) (l := 0) (h := nI (tv Mc (300 + 5 * k) 3) - 1) hx rfl (by decide) rfl) rfl rfl (Nat.le_of_ble_eq_true rfl) (gFit_room (by omega)) rfl ?_
      rw [ib_f hi2]
      refine g_if_eq (tgt := 61) dX11_step_28 (by decide) rfl (fun _ => ?_) (fun h_ => absurd (by decide) h_)
      refine g_ldcw dX11_step_61 lq_X11_409 rfl ?_
      exact g_iret dX11_step_64 rfl (by first | rfl | exact b01 | exact nb01 hv01) (⟨by first | rfl | assumption | exact gFr.rf | grind [ib], by first | rfl | assumption | exact gFr.rf | grind [ib]⟩)
  · rw [if_neg (fun q => hp q.1)]
    refine g_aload_n dX11_step_0 rfl rfl rfl ?_
    refine g_iconst (v := 0) dX11_step_1 (by decide) rfl ?_
    refine g_putI dX11_step_2 fp_X11_90 rfl rfl rfl (k100 hL) rfl ?_
    refine g_aload_n dX11_step_5 rfl rfl rfl ?_
    refine g_iload_n dX11_step_6 rfl rfl rfl ?_
    refine g_callVdi (ci := 11) dX11_step_7 lm_X11_406 mv_X11_isPlan (r_isPlan (d := d) hx (gLay_I hL) hW1) rfl rfl (k100 (gLay_I hL)) rfl rfl (Nat.le_of_ble_eq_true rfl) (gFit_room (by omega)) rfl ?_
    rw [ib_f hp]
    refine g_if_eq (tgt := 61) dX11_step_10 (by decide) rfl (fun _ => ?_) (fun h_ => absurd (by decide) h_)
    refine g_ldcw dX11_step_61 lq_X11_409 rfl ?_
    exact g_iret dX11_step_64 rfl (by first | rfl | exact b01 | exact nb01 hv01) (⟨by first | rfl | assumption | exact gFr.rf | grind [ib], by first | rfl | assumption | exact gFr.rf | grind [ib]⟩)
set_option maxRecDepth 20000 in
theorem r_seen (hx : gXok X) (h0 : R0 Mc M n E EV) {c : Nat} (hc : gmi M 100 44 = nI c) (h10 : c ≤ 10) {x b g : Int32} (hg : g = 0 ∨ g = 1) : gDet X (d + 1) yX11_seen cX11_seen 4 (some .int) [.ref 100, .int x, .int b, .int g] M (some (.int (if inP Mc x ∧ ¬ b < 0 ∧ ¬ 99 < b ∧ ¬ nI c = 10 then nI (c + 1) else -1))) (if inP Mc x ∧ ¬ b < 0 ∧ ¬ 99 < b ∧ ¬ nI c = 10 then gwI (gwI (gwI (gwI (gwI M 100 0 0) 118 (3 * c) x) 118 (3 * c + 1) b) 118 (3 * c + 2) g) 100 44 (nI (c + 1)) else gwI M 100 0 0) := by
  have hL := h0.1.1
  have h1 := h0.th (v := 0)
  have e44 : gmi (gwI M 100 0 0) 100 44 = nI c := by rw [gmi_I, va_up_ne _ _ (by decide)]; exact hc
  refine gMet.of hx (by decide) (Nat.le_of_ble_eq_true rfl) ?_
  by_cases hp : inP Mc x
  · by_cases hb : 0 ≤ b ∧ b ≤ 99
    · by_cases h9 : nI c = 10
      · rw [if_neg (fun q => q.2.2.2 h9), if_neg (fun q => q.2.2.2 h9)]
        refine g_aload_n dX11_seen_0 rfl rfl rfl ?_
        refine g_iconst (v := 0) dX11_seen_1 (by decide) rfl ?_
        refine g_putI dX11_seen_2 fp_X11_90 rfl rfl rfl (k100 hL) rfl ?_
        refine g_aload_n dX11_seen_5 rfl rfl rfl ?_
        refine g_iload_n dX11_seen_6 rfl rfl rfl ?_
        refine g_callVdi (ci := 11) dX11_seen_7 lm_X11_342 mv_X11_isPerson (h1.isP (d := d) hx) rfl rfl (k100 (gLay_I hL)) rfl rfl (Nat.le_of_ble_eq_true rfl) (gFit_room (by omega)) rfl ?_
        rw [ib_t hp]
        refine g_if_eq (tgt := 34) dX11_seen_10 (by decide) rfl (fun h_ => absurd h_ (by decide)) (fun _ => ?_)
        refine g_iload_n dX11_seen_13 rfl rfl rfl ?_
        refine g_i2l dX11_seen_14 rfl ?_
        refine g_lconst (v := 0) dX11_seen_15 (by decide) rfl ?_
        refine g_ldc2 dX11_seen_16 lq_X11_437 rfl ?_
        refine g_callSdi dX11_seen_19 lm_X11_211 mv_X11_isIn (r_isIn (d := d) (l := 0) (h := 99) hx rfl (by decide) (by decide)) rfl rfl (Nat.le_of_ble_eq_true rfl) (gFit_room (by omega)) rfl ?_
        rw [ib_t hb]
        refine g_if_eq (tgt := 34) dX11_seen_22 (by decide) rfl (fun h_ => absurd h_ (by decide)) (fun _ => ?_)
        refine g_aload_n dX11_seen_25 rfl rfl rfl ?_
        refine g_getI dX11_seen_26 ff_X11_291 rfl (k100 (gLay_I hL)) rfl ?_
        refine g_bipush (v := 10) dX11_seen_29 (by decide) rfl ?_
        rw [e44]
        refine g_icmp_ne (tgt := 36) dX11_seen_31 (by decide) rfl (fun h_ => absurd (h9) h_) (fun _ => ?_)
        refine g_iconst (v := -1) dX11_seen_34 (by decide) rfl ?_
        exact g_iret dX11_seen_35 rfl (by first | rfl | exact b01 | exact nb01 hv01) (⟨by first | rfl | assumption | exact gFr.rf | grind [ib], by first | rfl | assumption | exact gFr.rf | grind [ib]⟩)
      · have hc9 : c < 10 := by
          by_cases z : c = 10
          · exact absurd (by rw [z]; rfl) h9
          · omega
        rw [if_pos ⟨hp, Int32.not_lt.mpr hb.1, Int32.not_lt.mpr hb.2, h9⟩, if_pos ⟨hp, Int32.not_lt.mpr hb.1, Int32.not_lt.mpr hb.2, h9⟩]
        rcases hg with rfl | rfl
        · refine g_aload_n dX11_seen_0 rfl rfl rfl ?_
          refine g_iconst (v := 0) dX11_seen_1 (by decide) rfl ?_
          refine g_putI dX11_seen_2 fp_X11_90 rfl rfl rfl (k100 hL) rfl ?_
          refine g_aload_n dX11_seen_5 rfl rfl rfl ?_
          refine g_iload_n dX11_seen_6 rfl rfl rfl ?_
          refine g_callVdi (ci := 11) dX11_seen_7 lm_X11_342 mv_X11_isPerson (h1.isP (d := d) hx) rfl rfl (k100 (gLay_I hL)) rfl rfl (Nat.le_of_ble_eq_true rfl) (gFit_room (by omega)) rfl ?_
          rw [ib_t hp]
          refine g_if_eq (tgt := 34) dX11_seen_10 (by decide) rfl (fun h_ => absurd h_ (by decide)) (fun _ => ?_)
          refine g_iload_n dX11_seen_13 rfl rfl rfl ?_
          refine g_i2l dX11_seen_14 rfl ?_
          refine g_lconst (v := 0) dX11_seen_15 (by decide) rfl ?_
          refine g_ldc2 dX11_seen_16 lq_X11_437 rfl ?_
          refine g_callSdi dX11_seen_19 lm_X11_211 mv_X11_isIn (r_isIn (d := d) (l := 0) (h := 99) hx rfl (by decide) (by decide)) rfl rfl (Nat.le_of_ble_eq_true rfl) (gFit_room (by omega)) rfl ?_
          rw [ib_t hb]
          refine g_if_eq (tgt := 34) dX11_seen_22 (by decide) rfl (fun h_ => absurd h_ (by decide)) (fun _ => ?_)
          refine g_aload_n dX11_seen_25 rfl rfl rfl ?_
          refine g_getI dX11_seen_26 ff_X11_291 rfl (k100 (gLay_I hL)) rfl ?_
          refine g_bipush (v := 10) dX11_seen_29 (by decide) rfl ?_
          rw [e44]
          refine g_icmp_ne (tgt := 36) dX11_seen_31 (by decide) rfl (fun _ => ?_) (fun h_ => absurd h_ (h9))
          refine g_aload_n dX11_seen_36 rfl rfl rfl ?_
          refine g_getR dX11_seen_37 ff_X11_84 rfl (k100 (gLay_I hL)) (r100_43 (gLay_I hL)) rfl ?_
          refine g_iconst (v := 3) dX11_seen_40 (by decide) rfl ?_
          refine g_aload_n dX11_seen_41 rfl rfl rfl ?_
          refine g_getI dX11_seen_42 ff_X11_291 rfl (k100 (gLay_I hL)) rfl ?_
          refine g_imul dX11_seen_45 rfl ?_
          refine g_iload_n dX11_seen_46 rfl rfl rfl ?_
          rw [e44, show (3 : Int32) = nI 3 from rfl, pk_mul]
          refine g_iast (i := (3 * c)) dX11_seen_47 (k118 (gLay_I hL)) (l118 (gLay_I hL)) (nI_toInt (by omega)) (by omega) rfl ?_
          refine g_aload_n dX11_seen_48 rfl rfl rfl ?_
          refine g_getR dX11_seen_49 ff_X11_84 rfl (k100 (gLay_I (gLay_I hL))) (r100_43 (gLay_I (gLay_I hL))) rfl ?_
          refine g_iconst (v := 3) dX11_seen_52 (by decide) rfl ?_
          refine g_aload_n dX11_seen_53 rfl rfl rfl ?_
          refine g_getI dX11_seen_54 ff_X11_291 rfl (k100 (gLay_I (gLay_I hL))) rfl ?_
          refine g_imul dX11_seen_57 rfl ?_
          refine g_iconst (v := 1) dX11_seen_58 (by decide) rfl ?_
          refine g_iadd dX11_seen_59 rfl ?_
          refine g_iload_n dX11_seen_60 rfl rfl rfl ?_
          rw [gmi_In _ _ _ (show 100 ≠ 118 by decide), e44, show (3 : Int32) = nI 3 from rfl, show (1 : Int32) = nI 1 from rfl, pk_mul, nI_add]
          refine g_iast (i := (3 * c + 1)) dX11_seen_61 (k118 (gLay_I (gLay_I hL))) (l118 (gLay_I (gLay_I hL))) (nI_toInt (by omega)) (by omega) rfl ?_
          refine g_aload_n dX11_seen_62 rfl rfl rfl ?_
          refine g_getR dX11_seen_63 ff_X11_84 rfl (k100 (gLay_I (gLay_I (gLay_I hL)))) (r100_43 (gLay_I (gLay_I (gLay_I hL)))) rfl ?_
          refine g_iconst (v := 3) dX11_seen_66 (by decide) rfl ?_
          refine g_aload_n dX11_seen_67 rfl rfl rfl ?_
          refine g_getI dX11_seen_68 ff_X11_291 rfl (k100 (gLay_I (gLay_I (gLay_I hL)))) rfl ?_
          refine g_imul dX11_seen_71 rfl ?_
          refine g_iconst (v := 2) dX11_seen_72 (by decide) rfl ?_
          refine g_iadd dX11_seen_73 rfl ?_
          refine g_iload_n dX11_seen_74 rfl rfl rfl ?_
          refine g_if_eq (tgt := 82) dX11_seen_75 (by decide) rfl (fun _ => ?_) (fun h_ => absurd (by decide) h_)
          refine g_iconst (v := 0) dX11_seen_82 (by decide) rfl ?_
          rw [gmi_In _ _ _ (show 100 ≠ 118 by decide), gmi_In _ _ _ (show 100 ≠ 118 by decide), e44, show (3 : Int32) = nI 3 from rfl, show (2 : Int32) = nI 2 from rfl, pk_mul, nI_add]
          refine g_iast (i := (3 * c + 2)) dX11_seen_83 (k118 (gLay_I (gLay_I (gLay_I hL)))) (l118 (gLay_I (gLay_I (gLay_I hL)))) (nI_toInt (by omega)) (by omega) rfl ?_
          refine g_aload_n dX11_seen_84 rfl rfl rfl ?_
          refine g_dup dX11_seen_85 rfl rfl ?_
          refine g_getI dX11_seen_86 ff_X11_291 rfl (k100 (gLay_I (gLay_I (gLay_I (gLay_I hL))))) rfl ?_
          refine g_iconst (v := 1) dX11_seen_89 (by decide) rfl ?_
          refine g_iadd dX11_seen_90 rfl ?_
          rw [gmi_In _ _ _ (show 100 ≠ 118 by decide), gmi_In _ _ _ (show 100 ≠ 118 by decide), gmi_In _ _ _ (show 100 ≠ 118 by decide), e44, nI_1]
          refine g_putI dX11_seen_91 fp_X11_291 rfl rfl rfl (k100 (gLay_I (gLay_I (gLay_I (gLay_I hL))))) rfl ?_
          refine g_aload_n dX11_seen_94 rfl rfl rfl ?_
          refine g_getI dX11_seen_95 ff_X11_291 rfl (k100 (gLay_I (gLay_I (gLay_I (gLay_I (gLay_I hL)))))) rfl ?_
          rw [gmi_I, va_up_self]
          exact g_iret dX11_seen_98 rfl (by first | rfl | exact b01 | exact nb01 hv01) (⟨by first | rfl | assumption | exact gFr.rf | grind [ib], by first | rfl | assumption | exact gFr.rf | grind [ib]⟩)
        · refine g_aload_n dX11_seen_0 rfl rfl rfl ?_
          refine g_iconst (v := 0) dX11_seen_1 (by decide) rfl ?_
          refine g_putI dX11_seen_2 fp_X11_90 rfl rfl rfl (k100 hL) rfl ?_
          refine g_aload_n dX11_seen_5 rfl rfl rfl ?_
          refine g_iload_n dX11_seen_6 rfl rfl rfl ?_
          refine g_callVdi (ci := 11) dX11_seen_7 lm_X11_342 mv_X11_isPerson (h1.isP (d := d) hx) rfl rfl (k100 (gLay_I hL)) rfl rfl (Nat.le_of_ble_eq_true rfl) (gFit_room (by omega)) rfl ?_
          rw [ib_t hp]
          refine g_if_eq (tgt := 34) dX11_seen_10 (by decide) rfl (fun h_ => absurd h_ (by decide)) (fun _ => ?_)
          refine g_iload_n dX11_seen_13 rfl rfl rfl ?_
          refine g_i2l dX11_seen_14 rfl ?_
          refine g_lconst (v := 0) dX11_seen_15 (by decide) rfl ?_
          refine g_ldc2 dX11_seen_16 lq_X11_437 rfl ?_
          refine g_callSdi dX11_seen_19 lm_X11_211 mv_X11_isIn (r_isIn (d := d) (l := 0) (h := 99) hx rfl (by decide) (by decide)) rfl rfl (Nat.le_of_ble_eq_true rfl) (gFit_room (by omega)) rfl ?_
          rw [ib_t hb]
          refine g_if_eq (tgt := 34) dX11_seen_22 (by decide) rfl (fun h_ => absurd h_ (by decide)) (fun _ => ?_)
          refine g_aload_n dX11_seen_25 rfl rfl rfl ?_
          refine g_getI dX11_seen_26 ff_X11_291 rfl (k100 (gLay_I hL)) rfl ?_
          refine g_bipush (v := 10) dX11_seen_29 (by decide) rfl ?_
          rw [e44]
          refine g_icmp_ne (tgt := 36) dX11_seen_31 (by decide) rfl (fun _ => ?_) (fun h_ => absurd h_ (h9))
          refine g_aload_n dX11_seen_36 rfl rfl rfl ?_
          refine g_getR dX11_seen_37 ff_X11_84 rfl (k100 (gLay_I hL)) (r100_43 (gLay_I hL)) rfl ?_
          refine g_iconst (v := 3) dX11_seen_40 (by decide) rfl ?_
          refine g_aload_n dX11_seen_41 rfl rfl rfl ?_
          refine g_getI dX11_seen_42 ff_X11_291 rfl (k100 (gLay_I hL)) rfl ?_
          refine g_imul dX11_seen_45 rfl ?_
          refine g_iload_n dX11_seen_46 rfl rfl rfl ?_
          rw [e44, show (3 : Int32) = nI 3 from rfl, pk_mul]
          refine g_iast (i := (3 * c)) dX11_seen_47 (k118 (gLay_I hL)) (l118 (gLay_I hL)) (nI_toInt (by omega)) (by omega) rfl ?_
          refine g_aload_n dX11_seen_48 rfl rfl rfl ?_
          refine g_getR dX11_seen_49 ff_X11_84 rfl (k100 (gLay_I (gLay_I hL))) (r100_43 (gLay_I (gLay_I hL))) rfl ?_
          refine g_iconst (v := 3) dX11_seen_52 (by decide) rfl ?_
          refine g_aload_n dX11_seen_53 rfl rfl rfl ?_
          refine g_getI dX11_seen_54 ff_X11_291 rfl (k100 (gLay_I (gLay_I hL))) rfl ?_
          refine g_imul dX11_seen_57 rfl ?_
          refine g_iconst (v := 1) dX11_seen_58 (by decide) rfl ?_
          refine g_iadd dX11_seen_59 rfl ?_
          refine g_iload_n dX11_seen_60 rfl rfl rfl ?_
          rw [gmi_In _ _ _ (show 100 ≠ 118 by decide), e44, show (3 : Int32) = nI 3 from rfl, show (1 : Int32) = nI 1 from rfl, pk_mul, nI_add]
          refine g_iast (i := (3 * c + 1)) dX11_seen_61 (k118 (gLay_I (gLay_I hL))) (l118 (gLay_I (gLay_I hL))) (nI_toInt (by omega)) (by omega) rfl ?_
          refine g_aload_n dX11_seen_62 rfl rfl rfl ?_
          refine g_getR dX11_seen_63 ff_X11_84 rfl (k100 (gLay_I (gLay_I (gLay_I hL)))) (r100_43 (gLay_I (gLay_I (gLay_I hL)))) rfl ?_
          refine g_iconst (v := 3) dX11_seen_66 (by decide) rfl ?_
          refine g_aload_n dX11_seen_67 rfl rfl rfl ?_
          refine g_getI dX11_seen_68 ff_X11_291 rfl (k100 (gLay_I (gLay_I (gLay_I hL)))) rfl ?_
          refine g_imul dX11_seen_71 rfl ?_
          refine g_iconst (v := 2) dX11_seen_72 (by decide) rfl ?_
          refine g_iadd dX11_seen_73 rfl ?_
          refine g_iload_n dX11_seen_74 rfl rfl rfl ?_
          refine g_if_eq (tgt := 82) dX11_seen_75 (by decide) rfl (fun h_ => absurd h_ (by decide)) (fun _ => ?_)
          refine g_iconst (v := 1) dX11_seen_78 (by decide) rfl ?_
          refine g_goto (tgt := 83) dX11_seen_79 (by decide) ?_
          rw [gmi_In _ _ _ (show 100 ≠ 118 by decide), gmi_In _ _ _ (show 100 ≠ 118 by decide), e44, show (3 : Int32) = nI 3 from rfl, show (2 : Int32) = nI 2 from rfl, pk_mul, nI_add]
          refine g_iast (i := (3 * c + 2)) dX11_seen_83 (k118 (gLay_I (gLay_I (gLay_I hL)))) (l118 (gLay_I (gLay_I (gLay_I hL)))) (nI_toInt (by omega)) (by omega) rfl ?_
          refine g_aload_n dX11_seen_84 rfl rfl rfl ?_
          refine g_dup dX11_seen_85 rfl rfl ?_
          refine g_getI dX11_seen_86 ff_X11_291 rfl (k100 (gLay_I (gLay_I (gLay_I (gLay_I hL))))) rfl ?_
          refine g_iconst (v := 1) dX11_seen_89 (by decide) rfl ?_
          refine g_iadd dX11_seen_90 rfl ?_
          rw [gmi_In _ _ _ (show 100 ≠ 118 by decide), gmi_In _ _ _ (show 100 ≠ 118 by decide), gmi_In _ _ _ (show 100 ≠ 118 by decide), e44, nI_1]
          refine g_putI dX11_seen_91 fp_X11_291 rfl rfl rfl (k100 (gLay_I (gLay_I (gLay_I (gLay_I hL))))) rfl ?_
          refine g_aload_n dX11_seen_94 rfl rfl rfl ?_
          refine g_getI dX11_seen_95 ff_X11_291 rfl (k100 (gLay_I (gLay_I (gLay_I (gLay_I (gLay_I hL)))))) rfl ?_
          rw [gmi_I, va_up_self]
          exact g_iret dX11_seen_98 rfl (by first | rfl | exact b01 | exact nb01 hv01) (⟨by first | rfl | assumption | exact gFr.rf | grind [ib], by first | rfl | assumption | exact gFr.rf | grind [ib]⟩)
    · rw [if_neg (fun q => hb ⟨Int32.not_lt.mp q.2.1, Int32.not_lt.mp q.2.2.1⟩), if_neg (fun q => hb ⟨Int32.not_lt.mp q.2.1, Int32.not_lt.mp q.2.2.1⟩)]
      refine g_aload_n dX11_seen_0 rfl rfl rfl ?_
      refine g_iconst (v := 0) dX11_seen_1 (by decide) rfl ?_
      refine g_putI dX11_seen_2 fp_X11_90 rfl rfl rfl (k100 hL) rfl ?_
      refine g_aload_n dX11_seen_5 rfl rfl rfl ?_
      refine g_iload_n dX11_seen_6 rfl rfl rfl ?_
      refine g_callVdi (ci := 11) dX11_seen_7 lm_X11_342 mv_X11_isPerson (h1.isP (d := d) hx) rfl rfl (k100 (gLay_I hL)) rfl rfl (Nat.le_of_ble_eq_true rfl) (gFit_room (by omega)) rfl ?_
      rw [ib_t hp]
      refine g_if_eq (tgt := 34) dX11_seen_10 (by decide) rfl (fun h_ => absurd h_ (by decide)) (fun _ => ?_)
      refine g_iload_n dX11_seen_13 rfl rfl rfl ?_
      refine g_i2l dX11_seen_14 rfl ?_
      refine g_lconst (v := 0) dX11_seen_15 (by decide) rfl ?_
      refine g_ldc2 dX11_seen_16 lq_X11_437 rfl ?_
      refine g_callSdi dX11_seen_19 lm_X11_211 mv_X11_isIn (r_isIn (d := d) (l := 0) (h := 99) hx rfl (by decide) (by decide)) rfl rfl (Nat.le_of_ble_eq_true rfl) (gFit_room (by omega)) rfl ?_
      rw [ib_f hb]
      refine g_if_eq (tgt := 34) dX11_seen_22 (by decide) rfl (fun _ => ?_) (fun h_ => absurd (by decide) h_)
      refine g_iconst (v := -1) dX11_seen_34 (by decide) rfl ?_
      exact g_iret dX11_seen_35 rfl (by first | rfl | exact b01 | exact nb01 hv01) (⟨by first | rfl | assumption | exact gFr.rf | grind [ib], by first | rfl | assumption | exact gFr.rf | grind [ib]⟩)
  · rw [if_neg (fun q => hp q.1), if_neg (fun q => hp q.1)]
    refine g_aload_n dX11_seen_0 rfl rfl rfl ?_
    refine g_iconst (v := 0) dX11_seen_1 (by decide) rfl ?_
    refine g_putI dX11_seen_2 fp_X11_90 rfl rfl rfl (k100 hL) rfl ?_
    refine g_aload_n dX11_seen_5 rfl rfl rfl ?_
    refine g_iload_n dX11_seen_6 rfl rfl rfl ?_
    refine g_callVdi (ci := 11) dX11_seen_7 lm_X11_342 mv_X11_isPerson (h1.isP (d := d) hx) rfl rfl (k100 (gLay_I hL)) rfl rfl (Nat.le_of_ble_eq_true rfl) (gFit_room (by omega)) rfl ?_
    rw [ib_f hp]
    refine g_if_eq (tgt := 34) dX11_seen_10 (by decide) rfl (fun _ => ?_) (fun h_ => absurd (by decide) h_)
    refine g_iconst (v := -1) dX11_seen_34 (by decide) rfl ?_
    exact g_iret dX11_seen_35 rfl (by first | rfl | exact b01 | exact nb01 hv01) (⟨by first | rfl | assumption | exact gFr.rf | grind [ib], by first | rfl | assumption | exact gFr.rf | grind [ib]⟩)
end H3
