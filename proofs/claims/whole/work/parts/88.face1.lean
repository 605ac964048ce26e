/-! the reference's face -/
theorem le_row {x : Int32} {m : Nat} (hm : m < 2 ^ 30) (h : 0 ≤ x ∧ x ≤ nI m) : x = nI (tn x) ∧ tn x ≤ m := by
  have := in_row (x := x) (b := nI (m + 1)) (n := m + 1) rfl (by omega) ⟨h.1, Int32.lt_iff_toInt_lt.mpr (by have := Int32.le_iff_toInt_le.mp h.2; rw [nI_toInt (by omega)] at this ⊢; omega)⟩
  exact ⟨this.1, by omega⟩
section H1
variable {X : gX} {Mc M : gM} {d n : Nat} {E : Nat → LE} {EV : EVt} {F : Nat → Int32}
theorem R0.wf {j : Nat} {v : Int32} (h0 : R0 Mc M n E EV) (h1 : j ≠ 7) (h2 : j ≠ 26) (h3 : j ≠ 27) (h4 : j ≠ 34) : R0 Mc (gwI M 100 j v) n E EV := by
  have hS : Nt (fun c => c = 1000 + j) := ⟨by omega, by omega, by omega, by omega, by omega, by omega, by omega, by omega, by omega⟩
  have hf : xFr (fun c => c = 1000 + j) M (gwI M 100 j v) := xFr.wf rfl
  exact h0.x hf hS (h0.1.x hf hS rfl (gmi_In _ _ _ (by decide)))
theorem R0.th {v : Int32} (h0 : R0 Mc M n E EV) : R0 Mc (gwI M 100 0 v) n E EV := h0.wf (by decide) (by decide) (by decide) (by decide)
theorem RowR.wf {w j : Nat} {v : Int32} (h : RowR M w F) (hw : w ≠ 100) : RowR (gwI M 100 j v) w F := fun k hk => by rw [gmi_In _ _ _ hw]; exact h k hk
theorem r_thrown (hx : gXok X) (hL : gLay M) : gDet X (d + 0) yX11_thrown cX11_thrown 1 (some .int) [.ref 100] M (some (.int (gmi M 100 0))) M := by
  refine gMet.of hx (by decide) (Nat.le_of_ble_eq_true rfl) ?_
  refine g_aload_n dX11_thrown_0 rfl rfl rfl ?_
  refine g_getI dX11_thrown_1 ff_X11_90 rfl (k100 hL) rfl ?_
  exact g_iret dX11_thrown_4 rfl (by first | rfl | exact b01 | exact nb01 hv01) (⟨by first | rfl | assumption | exact gFr.rf | grind [ib], by first | rfl | assumption | exact gFr.rf | grind [ib]⟩)
set_option maxRecDepth 20000 in
theorem r_deed (hx : gXok X) (h0 : R0 Mc M n E EV) {x w : Int32} : gDet X (d + 1) yX11_deed cX11_deed 3 (some .int) [.ref 100, .int x, .int w] M (some (.int (if inD Mc x then (if w = 0 then gmi Mc 7 (tn x) else if w = 1 then gmi Mc 8 (tn x) else if w = 2 then gmi Mc 9 (tn x) else -1) else -1))) (gwI M 100 0 0) := by
  have hL := h0.1.1
  have h1 := h0.th (v := 0)
  have hT := h0.2.1
  refine gMet.of hx (by decide) (Nat.le_of_ble_eq_true rfl) ?_
  by_cases hd : inD Mc x
  · rw [if_pos hd]
    obtain ⟨ex, lx⟩ := in_row hT.2.1.1 (by have := hT.2.1.2; omega) hd
    have m8 := Nat.lt_of_lt_of_le lx hT.2.1.2
    have hi := h1.2.2.2.2.2.1 (tn x) lx
    generalize tn x = k at *
    by_cases hw : 0 ≤ w ∧ w ≤ 2
    · obtain ⟨ew, lw⟩ := le_row (m := 2) (by decide) hw
      have hres : gmi (gwI M 100 0 0) 109 (3 * k + tn w) = (if w = 0 then gmi Mc 7 k else if w = 1 then gmi Mc 8 k else if w = 2 then gmi Mc 9 k else -1) := by
        rcases (show tn w = 0 ∨ tn w = 1 ∨ tn w = 2 by omega) with z | z | z
        · rw [z] at ew ⊢; rw [ew, if_pos (by decide)]; exact hi.1
        · rw [z] at ew ⊢; rw [ew, if_neg (by decide), if_pos (by decide)]; exact hi.2.1
        · rw [z] at ew ⊢; rw [ew, if_neg (by decide), if_neg (by decide), if_pos (by decide)]; exact hi.2.2
      rw [← hres]
      refine g_aload_n dX11_deed_0 rfl rfl rfl ?_
      refine g_iconst (v := 0) dX11_deed_1 (by decide) rfl ?_
      refine g_putI dX11_deed_2 fp_X11_90 rfl rfl rfl (k100 hL) rfl ?_
      refine g_aload_n dX11_deed_5 rfl rfl rfl ?_
      refine g_iload_n dX11_deed_6 rfl rfl rfl ?_
      refine g_callVdi (ci := 11) dX11_deed_7 lm_X11_347 mv_X11_isDeed (h1.isD (d := d) hx) rfl rfl (k100 (gLay_I hL)) rfl rfl (Nat.le_of_ble_eq_true rfl) (gFit_room (by omega)) rfl ?_
      rw [ib_t hd]
      refine g_if_eq (tgt := 38) dX11_deed_10 (by decide) rfl (fun h_ => absurd h_ (by decide)) (fun _ => ?_)
      refine g_iload_n dX11_deed_13 rfl rfl rfl ?_
      refine g_i2l dX11_deed_14 rfl ?_
      refine g_lconst (v := 0) dX11_deed_15 (by decide) rfl ?_
      refine g_ldc2 dX11_deed_16 lq_X11_266 rfl ?_
      refine g_callSdi dX11_deed_19 lm_X11_211 mv_X11_isIn (r_isIn (d := d) (l := 0) (h := 2) hx rfl (by decide) (by decide)) rfl rfl (Nat.le_of_ble_eq_true rfl) (gFit_room (by omega)) rfl ?_
      rw [ib_t hw]
      refine g_if_eq (tgt := 38) dX11_deed_22 (by decide) rfl (fun h_ => absurd h_ (by decide)) (fun _ => ?_)
      refine g_aload_n dX11_deed_25 rfl rfl rfl ?_
      refine g_getR dX11_deed_26 ff_X11_49 rfl (k100 (gLay_I hL)) (r100_22 (gLay_I hL)) rfl ?_
      refine g_iconst (v := 3) dX11_deed_29 (by decide) rfl ?_
      refine g_iload_n dX11_deed_30 rfl rfl rfl ?_
      refine g_imul dX11_deed_31 rfl ?_
      refine g_iload_n dX11_deed_32 rfl rfl rfl ?_
      refine g_iadd dX11_deed_33 rfl ?_
      rw [ex, ew, show (3 : Int32) = nI 3 from rfl, pk_mul, nI_add, ← ew]
      refine g_iald (i := (3 * k + tn w)) dX11_deed_34 (k109 (gLay_I hL)) (l109 (gLay_I hL)) (nI_toInt (by omega)) (by omega) rfl ?_
      refine g_goto (tgt := 39) dX11_deed_35 (by decide) ?_
      exact g_iret dX11_deed_39 rfl (by first | rfl | exact b01 | exact nb01 hv01) (⟨by first | rfl | assumption | exact gFr.rf | grind [ib], by first | rfl | assumption | exact gFr.rf | grind [ib]⟩)
    · rw [if_neg (fun z => hw (by rw [z]; decide)), if_neg (fun z => hw (by rw [z]; decide)), if_neg (fun z => hw (by rw [z]; decide))]
      refine g_aload_n dX11_deed_0 rfl rfl rfl ?_
      refine g_iconst (v := 0) dX11_deed_1 (by decide) rfl ?_
      refine g_putI dX11_deed_2 fp_X11_90 rfl rfl rfl (k100 hL) rfl ?_
      refine g_aload_n dX11_deed_5 rfl rfl rfl ?_
      refine g_iload_n dX11_deed_6 rfl rfl rfl ?_
      refine g_callVdi (ci := 11) dX11_deed_7 lm_X11_347 mv_X11_isDeed (h1.isD (d := d) hx) rfl rfl (k100 (gLay_I hL)) rfl rfl (Nat.le_of_ble_eq_true rfl) (gFit_room (by omega)) rfl ?_
      rw [ib_t hd]
      refine g_if_eq (tgt := 38) dX11_deed_10 (by decide) rfl (fun h_ => absurd h_ (by decide)) (fun _ => ?_)
      refine g_iload_n dX11_deed_13 rfl rfl rfl ?_
      refine g_i2l dX11_deed_14 rfl ?_
      refine g_lconst (v := 0) dX11_deed_15 (by decide) rfl ?_
      refine g_ldc2 dX11_deed_16 lq_X11_266 rfl ?_
      refine g_callSdi dX11_deed_19 lm_X11_211 mv_X11_isIn (r_isIn (d := d) (l := 0) (h := 2) hx rfl (by decide) (by decide)) rfl rfl (Nat.le_of_ble_eq_true rfl) (gFit_room (by omega)) rfl ?_
      rw [ib_f hw]
      refine g_if_eq (tgt := 38) dX11_deed_22 (by decide) rfl (fun _ => ?_) (fun h_ => absurd (by decide) h_)
      refine g_iconst (v := -1) dX11_deed_38 (by decide) rfl ?_
      exact g_iret dX11_deed_39 rfl (by first | rfl | exact b01 | exact nb01 hv01) (⟨by first | rfl | assumption | exact gFr.rf | grind [ib], by first | rfl | assumption | exact gFr.rf | grind [ib]⟩)
  · rw [if_neg hd]
    refine g_aload_n dX11_deed_0 rfl rfl rfl ?_
    refine g_iconst (v := 0) dX11_deed_1 (by decide) rfl ?_
    refine g_putI dX11_deed_2 fp_X11_90 rfl rfl rfl (k100 hL) rfl ?_
    refine g_aload_n dX11_deed_5 rfl rfl rfl ?_
    refine g_iload_n dX11_deed_6 rfl rfl rfl ?_
    refine g_callVdi (ci := 11) dX11_deed_7 lm_X11_347 mv_X11_isDeed (h1.isD (d := d) hx) rfl rfl (k100 (gLay_I hL)) rfl rfl (Nat.le_of_ble_eq_true rfl) (gFit_room (by omega)) rfl ?_
    rw [ib_f hd]
    refine g_if_eq (tgt := 38) dX11_deed_10 (by decide) rfl (fun _ => ?_) (fun h_ => absurd (by decide) h_)
    refine g_iconst (v := -1) dX11_deed_38 (by decide) rfl ?_
    exact g_iret dX11_deed_39 rfl (by first | rfl | exact b01 | exact nb01 hv01) (⟨by first | rfl | assumption | exact gFr.rf | grind [ib], by first | rfl | assumption | exact gFr.rf | grind [ib]⟩)
set_option maxRecDepth 20000 in
theorem r_left (hx : gXok X) (h0 : R0 Mc M n E EV) (hN : RowR M 113 F) {x z : Int32} : gDet X (d + 1) yX11_left cX11_left 3 (some .int) [.ref 100, .int x, .int z] M (some (.int (if inP Mc x ∧ inD Mc z then F (12 + tn x * 8 + tn z) else -1))) (gwI M 100 0 0) := by
  have hL := h0.1.1
  have h1 := h0.th (v := 0)
  have hT := h0.2.1
  refine gMet.of hx (by decide) (Nat.le_of_ble_eq_true rfl) ?_
  by_cases hp : inP Mc x
  · by_cases hd : inD Mc z
    · rw [if_pos ⟨hp, hd⟩]
      obtain ⟨ex, lx⟩ := in_row hT.1.1 (by have := hT.1.2; omega) hp
      obtain ⟨ez, lz⟩ := in_row hT.2.1.1 (by have := hT.2.1.2; omega) hd
      have hl := r_left0 (d := d) hx h1.1.1 (Or.inl rfl) (hN.wf (j := 0) (v := 0) (by decide)) (Nat.lt_of_lt_of_le lx hT.1.2) (Nat.lt_of_lt_of_le lz hT.2.1.2)
      rw [← ex, ← ez] at hl
      refine g_aload_n dX11_left_0 rfl rfl rfl ?_
      refine g_iconst (v := 0) dX11_left_1 (by decide) rfl ?_
      refine g_putI dX11_left_2 fp_X11_90 rfl rfl rfl (k100 hL) rfl ?_
      refine g_aload_n dX11_left_5 rfl rfl rfl ?_
      refine g_iload_n dX11_left_6 rfl rfl rfl ?_
      refine g_callVdi (ci := 11) dX11_left_7 lm_X11_342 mv_X11_isPerson (h1.isP (d := d) hx) rfl rfl (k100 (gLay_I hL)) rfl rfl (Nat.le_of_ble_eq_true rfl) (gFit_room (by omega)) rfl ?_
      rw [ib_t hp]
      refine g_if_eq (tgt := 33) dX11_left_10 (by decide) rfl (fun h_ => absurd h_ (by decide)) (fun _ => ?_)
      refine g_aload_n dX11_left_13 rfl rfl rfl ?_
      refine g_iload_n dX11_left_14 rfl rfl rfl ?_
      refine g_callVdi (ci := 11) dX11_left_15 lm_X11_347 mv_X11_isDeed (h1.isD (d := d) hx) rfl rfl (k100 (gLay_I hL)) rfl rfl (Nat.le_of_ble_eq_true rfl) (gFit_room (by omega)) rfl ?_
      rw [ib_t hd]
      refine g_if_eq (tgt := 33) dX11_left_18 (by decide) rfl (fun h_ => absurd h_ (by decide)) (fun _ => ?_)
      refine g_aload_n dX11_left_21 rfl rfl rfl ?_
      refine g_getR dX11_left_22 ff_X11_61 rfl (k100 (gLay_I hL)) (r100_32 (gLay_I hL)) rfl ?_
      refine g_iload_n dX11_left_25 rfl rfl rfl ?_
      refine g_iload_n dX11_left_26 rfl rfl rfl ?_
      refine g_callSdi dX11_left_27 lm_X11_300 mv_X11_left0 (hl) rfl rfl (Nat.le_of_ble_eq_true rfl) (gFit_room (by omega)) rfl ?_
      refine g_goto (tgt := 34) dX11_left_30 (by decide) ?_
      exact g_iret dX11_left_34 rfl (by first | rfl | exact b01 | exact nb01 hv01) (⟨by first | rfl | assumption | exact gFr.rf | grind [ib], by first | rfl | assumption | exact gFr.rf | grind [ib]⟩)
    · rw [if_neg (fun q => hd q.2)]
      refine g_aload_n dX11_left_0 rfl rfl rfl ?_
      refine g_iconst (v := 0) dX11_left_1 (by decide) rfl ?_
      refine g_putI dX11_left_2 fp_X11_90 rfl rfl rfl (k100 hL) rfl ?_
      refine g_aload_n dX11_left_5 rfl rfl rfl ?_
      refine g_iload_n dX11_left_6 rfl rfl rfl ?_
      refine g_callVdi (ci := 11) dX11_left_7 lm_X11_342 mv_X11_isPerson (h1.isP (d := d) hx) rfl rfl (k100 (gLay_I hL)) rfl rfl (Nat.le_of_ble_eq_true rfl) (gFit_room (by omega)) rfl ?_
      rw [ib_t hp]
      refine g_if_eq (tgt := 33) dX11_left_10 (by decide) rfl (fun h_ => absurd h_ (by decide)) (fun _ => ?_)
      refine g_aload_n dX11_left_13 rfl rfl rfl ?_
      refine g_iload_n dX11_left_14 rfl rfl rfl ?_
      refine g_callVdi (ci := 11) dX11_left_15 lm_X11_347 mv_X11_isDeed (h1.isD (d := d) hx) rfl rfl (k100 (gLay_I hL)) rfl rfl (Nat.le_of_ble_eq_true rfl) (gFit_room (by omega)) rfl ?_
      rw [ib_f hd]
      refine g_if_eq (tgt := 33) dX11_left_18 (by decide) rfl (fun _ => ?_) (fun h_ => absurd (by decide) h_)
      refine g_iconst (v := -1) dX11_left_33 (by decide) rfl ?_
      exact g_iret dX11_left_34 rfl (by first | rfl | exact b01 | exact nb01 hv01) (⟨by first | rfl | assumption | exact gFr.rf | grind [ib], by first | rfl | assumption | exact gFr.rf | grind [ib]⟩)
  · rw [if_neg (fun q => hp q.1)]
    refine g_aload_n dX11_left_0 rfl rfl rfl ?_
    refine g_iconst (v := 0) dX11_left_1 (by decide) rfl ?_
    refine g_putI dX11_left_2 fp_X11_90 rfl rfl rfl (k100 hL) rfl ?_
    refine g_aload_n dX11_left_5 rfl rfl rfl ?_
    refine g_iload_n dX11_left_6 rfl rfl rfl ?_
    refine g_callVdi (ci := 11) dX11_left_7 lm_X11_342 mv_X11_isPerson (h1.isP (d := d) hx) rfl rfl (k100 (gLay_I hL)) rfl rfl (Nat.le_of_ble_eq_true rfl) (gFit_room (by omega)) rfl ?_
    rw [ib_f hp]
    refine g_if_eq (tgt := 33) dX11_left_10 (by decide) rfl (fun _ => ?_) (fun h_ => absurd (by decide) h_)
    refine g_iconst (v := -1) dX11_left_33 (by decide) rfl ?_
    exact g_iret dX11_left_34 rfl (by first | rfl | exact b01 | exact nb01 hv01) (⟨by first | rfl | assumption | exact gFr.rf | grind [ib], by first | rfl | assumption | exact gFr.rf | grind [ib]⟩)
set_option maxRecDepth 20000 in
theorem r_law (hx : gXok X) (h0 : R0 Mc M n E EV) {x : Int32} : gDet X (d + 1) yX11_law cX11_law 2 (some .boolean) [.ref 100, .int x] M (some (.int (ib (¬ x < -1 ∧ x < nI n)))) (if ¬ x < -1 ∧ x < nI n then gwI (gwI M 100 0 0) 100 34 x else gwI M 100 0 0) := by
  have hL := h0.1.1
  have hn := h0.1.2.1.2.1
  have e7 : gmi (gwI M 100 0 0) 100 7 = nI n := by rw [gmi_I, va_up_ne _ _ (by decide)]; exact h0.1.2.1.1
  refine gMet.of hx (by decide) (Nat.le_of_ble_eq_true rfl) ?_
  have hcv : (nI n - 1).toInt = (n : Int) - 1 := by
    by_cases z : n = 0
    · rw [z]; decide
    · rw [nI_m1 (by omega), nI_toInt (by omega)]; omega
  have heq : (x = -1 ∨ (0 ≤ x ∧ x ≤ nI n - 1)) ↔ (¬ x < -1 ∧ x < nI n) := by
    rw [Int32.lt_iff_toInt_lt, Int32.lt_iff_toInt_lt, Int32.le_iff_toInt_le, Int32.le_iff_toInt_le, hcv, nI_toInt (by omega), ← Int32.toInt_inj, show (-1 : Int32).toInt = -1 from rfl, show (0 : Int32).toInt = 0 from rfl]
    omega
  by_cases hc : ¬ x < -1 ∧ x < nI n
  · rw [if_pos hc, ib_t hc]
    have hc2 := heq.mpr hc
    refine g_aload_n dX11_law_0 rfl rfl rfl ?_
    refine g_iconst (v := 0) dX11_law_1 (by decide) rfl ?_
    refine g_putI dX11_law_2 fp_X11_90 rfl rfl rfl (k100 hL) rfl ?_
    refine g_iload_n dX11_law_5 rfl rfl rfl ?_
    refine g_iconst (v := -1) dX11_law_6 (by decide) rfl ?_
    refine g_icmp_eq (tgt := 28) dX11_law_7 (by decide) rfl (fun h7 => ?_) (fun h7 => ?_)
    · refine g_aload_n dX11_law_28 rfl rfl rfl ?_
      refine g_iload_n dX11_law_29 rfl rfl rfl ?_
      refine g_putI dX11_law_30 fp_X11_67 rfl rfl rfl (k100 (gLay_I hL)) rfl ?_
      refine g_iconst (v := 1) dX11_law_33 (by decide) rfl ?_
      exact g_iret dX11_law_34 rfl (by first | rfl | exact b01 | exact nb01 hv01) (⟨by first | rfl | assumption | exact gFr.rf | grind [ib], by first | rfl | assumption | exact gFr.rf | grind [ib]⟩)
    · refine g_iload_n dX11_law_10 rfl rfl rfl ?_
      refine g_i2l dX11_law_11 rfl ?_
      refine g_lconst (v := 0) dX11_law_12 (by decide) rfl ?_
      refine g_aload_n dX11_law_13 rfl rfl rfl ?_
      refine g_getI dX11_law_14 ff_X11_277 rfl (k100 (gLay_I hL)) rfl ?_
      refine g_iconst (v := 1) dX11_law_17 (by decide) rfl ?_
      refine g_isub dX11_law_18 rfl ?_
      refine g_i2l dX11_law_19 rfl ?_
      rw [e7]
      refine g_callSdi dX11_law_20 lm_X11_211 mv_X11_isIn (r_isIn (d := d) (l := 0) (h := nI n - 1) hx rfl (by decide) rfl) rfl rfl (Nat.le_of_ble_eq_true rfl) (gFit_room (by omega)) rfl ?_
      rw [ib_t (hc2.resolve_left h7)]
      refine g_if_ne (tgt := 28) dX11_law_23 (by decide) rfl (fun _ => ?_) (fun h_ => absurd h_ (by decide))
      refine g_aload_n dX11_law_28 rfl rfl rfl ?_
      refine g_iload_n dX11_law_29 rfl rfl rfl ?_
      refine g_putI dX11_law_30 fp_X11_67 rfl rfl rfl (k100 (gLay_I hL)) rfl ?_
      refine g_iconst (v := 1) dX11_law_33 (by decide) rfl ?_
      exact g_iret dX11_law_34 rfl (by first | rfl | exact b01 | exact nb01 hv01) (⟨by first | rfl | assumption | exact gFr.rf | grind [ib], by first | rfl | assumption | exact gFr.rf | grind [ib]⟩)
  · rw [if_neg hc, ib_f hc]
    have hc2 := fun z => hc (heq.mp z)
    refine g_aload_n dX11_law_0 rfl rfl rfl ?_
    refine g_iconst (v := 0) dX11_law_1 (by decide) rfl ?_
    refine g_putI dX11_law_2 fp_X11_90 rfl rfl rfl (k100 hL) rfl ?_
    refine g_iload_n dX11_law_5 rfl rfl rfl ?_
    refine g_iconst (v := -1) dX11_law_6 (by decide) rfl ?_
    refine g_icmp_eq (tgt := 28) dX11_law_7 (by decide) rfl (fun h_ => absurd h_ (fun z => hc2 (Or.inl z))) (fun _ => ?_)
    refine g_iload_n dX11_law_10 rfl rfl rfl ?_
    refine g_i2l dX11_law_11 rfl ?_
    refine g_lconst (v := 0) dX11_law_12 (by decide) rfl ?_
    refine g_aload_n dX11_law_13 rfl rfl rfl ?_
    refine g_getI dX11_law_14 ff_X11_277 rfl (k100 (gLay_I hL)) rfl ?_
    refine g_iconst (v := 1) dX11_law_17 (by decide) rfl ?_
    refine g_isub dX11_law_18 rfl ?_
    refine g_i2l dX11_law_19 rfl ?_
    rw [e7]
    refine g_callSdi dX11_law_20 lm_X11_211 mv_X11_isIn (r_isIn (d := d) (l := 0) (h := nI n - 1) hx rfl (by decide) rfl) rfl rfl (Nat.le_of_ble_eq_true rfl) (gFit_room (by omega)) rfl ?_
    rw [ib_f (fun z => hc2 (Or.inr z))]
    refine g_if_ne (tgt := 28) dX11_law_23 (by decide) rfl (fun h_ => absurd (by decide) h_) (fun _ => ?_)
    refine g_iconst (v := 0) dX11_law_26 (by decide) rfl ?_
    exact g_iret dX11_law_27 rfl (by first | rfl | exact b01 | exact nb01 hv01) (⟨by first | rfl | assumption | exact gFr.rf | grind [ib], by first | rfl | assumption | exact gFr.rf | grind [ib]⟩)
set_option maxRecDepth 20000 in
theorem r_rumour (hx : gXok X) (hL : gLay M) {x : Int32} : gDet X (d + 1) yX11_rumour cX11_rumour 2 (some .boolean) [.ref 100, .int x] M (some (.int (ib (¬ x < 0 ∧ ¬ 9 < x ∧ ¬ x = gmi M 100 35)))) (if ¬ x < 0 ∧ ¬ 9 < x ∧ ¬ x = gmi M 100 35 then gwI (gwI M 100 0 0) 100 35 x else gwI M 100 0 0) := by
  have e35 : gmi (gwI M 100 0 0) 100 35 = gmi M 100 35 := by rw [gmi_I, va_up_ne _ _ (by decide)]
  refine gMet.of hx (by decide) (Nat.le_of_ble_eq_true rfl) ?_
  by_cases hc : ¬ x < 0 ∧ ¬ 9 < x ∧ ¬ x = gmi M 100 35
  · rw [if_pos hc, ib_t hc]
    refine g_aload_n dX11_rumour_0 rfl rfl rfl ?_
    refine g_iconst (v := 0) dX11_rumour_1 (by decide) rfl ?_
    refine g_putI dX11_rumour_2 fp_X11_90 rfl rfl rfl (k100 hL) rfl ?_
    refine g_iload_n dX11_rumour_5 rfl rfl rfl ?_
    refine g_i2l dX11_rumour_6 rfl ?_
    refine g_lconst (v := 0) dX11_rumour_7 (by decide) rfl ?_
    refine g_ldc2 dX11_rumour_8 lq_X11_308 rfl ?_
    refine g_callSdi dX11_rumour_11 lm_X11_211 mv_X11_isIn (r_isIn (d := d) (l := 0) (h := 9) hx rfl (by decide) (by decide)) rfl rfl (Nat.le_of_ble_eq_true rfl) (gFit_room (by omega)) rfl ?_
    rw [ib_t ⟨Int32.not_lt.mp hc.1, Int32.not_lt.mp hc.2.1⟩]
    refine g_if_eq (tgt := 25) dX11_rumour_14 (by decide) rfl (fun h_ => absurd h_ (by decide)) (fun _ => ?_)
    refine g_iload_n dX11_rumour_17 rfl rfl rfl ?_
    refine g_aload_n dX11_rumour_18 rfl rfl rfl ?_
    refine g_getI dX11_rumour_19 ff_X11_71 rfl (k100 (gLay_I hL)) rfl ?_
    rw [e35]
    refine g_icmp_ne (tgt := 27) dX11_rumour_22 (by decide) rfl (fun _ => ?_) (fun h_ => absurd h_ (hc.2.2))
    refine g_aload_n dX11_rumour_27 rfl rfl rfl ?_
    refine g_iload_n dX11_rumour_28 rfl rfl rfl ?_
    refine g_putI dX11_rumour_29 fp_X11_71 rfl rfl rfl (k100 (gLay_I hL)) rfl ?_
    refine g_iconst (v := 1) dX11_rumour_32 (by decide) rfl ?_
    exact g_iret dX11_rumour_33 rfl (by first | rfl | exact b01 | exact nb01 hv01) (⟨by first | rfl | assumption | exact gFr.rf | grind [ib], by first | rfl | assumption | exact gFr.rf | grind [ib]⟩)
  · rw [if_neg hc, ib_f hc]
    by_cases hi : 0 ≤ x ∧ x ≤ 9
    · refine g_aload_n dX11_rumour_0 rfl rfl rfl ?_
      refine g_iconst (v := 0) dX11_rumour_1 (by decide) rfl ?_
      refine g_putI dX11_rumour_2 fp_X11_90 rfl rfl rfl (k100 hL) rfl ?_
      refine g_iload_n dX11_rumour_5 rfl rfl rfl ?_
      refine g_i2l dX11_rumour_6 rfl ?_
      refine g_lconst (v := 0) dX11_rumour_7 (by decide) rfl ?_
      refine g_ldc2 dX11_rumour_8 lq_X11_308 rfl ?_
      refine g_callSdi dX11_rumour_11 lm_X11_211 mv_X11_isIn (r_isIn (d := d) (l := 0) (h := 9) hx rfl (by decide) (by decide)) rfl rfl (Nat.le_of_ble_eq_true rfl) (gFit_room (by omega)) rfl ?_
      rw [ib_t hi]
      refine g_if_eq (tgt := 25) dX11_rumour_14 (by decide) rfl (fun h_ => absurd h_ (by decide)) (fun _ => ?_)
      refine g_iload_n dX11_rumour_17 rfl rfl rfl ?_
      refine g_aload_n dX11_rumour_18 rfl rfl rfl ?_
      refine g_getI dX11_rumour_19 ff_X11_71 rfl (k100 (gLay_I hL)) rfl ?_
      rw [e35]
      refine g_icmp_ne (tgt := 27) dX11_rumour_22 (by decide) rfl (fun h_ => absurd (Decidable.by_contra (fun z => hc ⟨Int32.not_lt.mpr hi.1, Int32.not_lt.mpr hi.2, z⟩)) h_) (fun _ => ?_)
      refine g_iconst (v := 0) dX11_rumour_25 (by decide) rfl ?_
      exact g_iret dX11_rumour_26 rfl (by first | rfl | exact b01 | exact nb01 hv01) (⟨by first | rfl | assumption | exact gFr.rf | grind [ib], by first | rfl | assumption | exact gFr.rf | grind [ib]⟩)
    · refine g_aload_n dX11_rumour_0 rfl rfl rfl ?_
      refine g_iconst (v := 0) dX11_rumour_1 (by decide) rfl ?_
      refine g_putI dX11_rumour_2 fp_X11_90 rfl rfl rfl (k100 hL) rfl ?_
      refine g_iload_n dX11_rumour_5 rfl rfl rfl ?_
      refine g_i2l dX11_rumour_6 rfl ?_
      refine g_lconst (v := 0) dX11_rumour_7 (by decide) rfl ?_
      refine g_ldc2 dX11_rumour_8 lq_X11_308 rfl ?_
      refine g_callSdi dX11_rumour_11 lm_X11_211 mv_X11_isIn (r_isIn (d := d) (l := 0) (h := 9) hx rfl (by decide) (by decide)) rfl rfl (Nat.le_of_ble_eq_true rfl) (gFit_room (by omega)) rfl ?_
      rw [ib_f hi]
      refine g_if_eq (tgt := 25) dX11_rumour_14 (by decide) rfl (fun _ => ?_) (fun h_ => absurd (by decide) h_)
      refine g_iconst (v := 0) dX11_rumour_25 (by decide) rfl ?_
      exact g_iret dX11_rumour_26 rfl (by first | rfl | exact b01 | exact nb01 hv01) (⟨by first | rfl | assumption | exact gFr.rf | grind [ib], by first | rfl | assumption | exact gFr.rf | grind [ib]⟩)
theorem r_end (hx : gXok X) (hL : gLay M) {x : Int32} : gDet X (d + 0) yX11_end cX11_end 2 (some .boolean) [.ref 100, .int x] M (some (.int (ib (¬ x < 0 ∧ x ≤ gmi M 100 6)))) (if ¬ x < 0 ∧ x ≤ gmi M 100 6 then gwI (gwI M 100 0 0) 100 6 x else gwI M 100 0 0) := by
  have e6 : gmi (gwI M 100 0 0) 100 6 = gmi M 100 6 := by rw [gmi_I, va_up_ne _ _ (by decide)]
  refine gMet.of hx (by decide) (Nat.le_of_ble_eq_true rfl) ?_
  by_cases hc : ¬ x < 0 ∧ x ≤ gmi M 100 6
  · rw [if_pos hc, ib_t hc]
    refine g_aload_n dX11_end_0 rfl rfl rfl ?_
    refine g_iconst (v := 0) dX11_end_1 (by decide) rfl ?_
    refine g_putI dX11_end_2 fp_X11_90 rfl rfl rfl (k100 hL) rfl ?_
    refine g_iload_n dX11_end_5 rfl rfl rfl ?_
    refine g_if_lt (tgt := 17) dX11_end_6 (by decide) rfl (fun h_ => absurd h_ (hc.1)) (fun _ => ?_)
    refine g_iload_n dX11_end_9 rfl rfl rfl ?_
    refine g_aload_n dX11_end_10 rfl rfl rfl ?_
    refine g_getI dX11_end_11 ff_X11_103 rfl (k100 (gLay_I hL)) rfl ?_
    rw [e6]
    refine g_icmp_le (tgt := 19) dX11_end_14 (by decide) rfl (fun _ => ?_) (fun h_ => absurd (hc.2) h_)
    refine g_aload_n dX11_end_19 rfl rfl rfl ?_
    refine g_iload_n dX11_end_20 rfl rfl rfl ?_
    refine g_putI dX11_end_21 fp_X11_103 rfl rfl rfl (k100 (gLay_I hL)) rfl ?_
    refine g_iconst (v := 1) dX11_end_24 (by decide) rfl ?_
    exact g_iret dX11_end_25 rfl (by first | rfl | exact b01 | exact nb01 hv01) (⟨by first | rfl | assumption | exact gFr.rf | grind [ib], by first | rfl | assumption | exact gFr.rf | grind [ib]⟩)
  · rw [if_neg hc, ib_f hc]
    refine g_aload_n dX11_end_0 rfl rfl rfl ?_
    refine g_iconst (v := 0) dX11_end_1 (by decide) rfl ?_
    refine g_putI dX11_end_2 fp_X11_90 rfl rfl rfl (k100 hL) rfl ?_
    refine g_iload_n dX11_end_5 rfl rfl rfl ?_
    refine g_if_lt (tgt := 17) dX11_end_6 (by decide) rfl (fun h6 => ?_) (fun h6 => ?_)
    · refine g_iconst (v := 0) dX11_end_17 (by decide) rfl ?_
      exact g_iret dX11_end_18 rfl (by first | rfl | exact b01 | exact nb01 hv01) (⟨by first | rfl | assumption | exact gFr.rf | grind [ib], by first | rfl | assumption | exact gFr.rf | grind [ib]⟩)
    · refine g_iload_n dX11_end_9 rfl rfl rfl ?_
      refine g_aload_n dX11_end_10 rfl rfl rfl ?_
      refine g_getI dX11_end_11 ff_X11_103 rfl (k100 (gLay_I hL)) rfl ?_
      rw [e6]
      refine g_icmp_le (tgt := 19) dX11_end_14 (by decide) rfl (fun h_ => absurd h_ (fun z => hc ⟨h6, z⟩)) (fun _ => ?_)
      refine g_iconst (v := 0) dX11_end_17 (by decide) rfl ?_
      exact g_iret dX11_end_18 rfl (by first | rfl | exact b01 | exact nb01 hv01) (⟨by first | rfl | assumption | exact gFr.rf | grind [ib], by first | rfl | assumption | exact gFr.rf | grind [ib]⟩)
end H1
