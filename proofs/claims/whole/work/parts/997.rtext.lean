section H29
variable {X : gX} {M : gM} {d : Nat} {T : Nat → Nat} {L i w p n : Nat} {S : Nat → Prop}
def scT0 : Nat → Prop := fun c => scT c ∨ c = 1000
def scQ0 : Nat → Prop := fun c => scQ c ∨ c = 1000
theorem TapeR.th (h : TapeR M T L) : TapeR (gwI M 100 0 0) T L := ⟨by rw [gmi_I, va_up_ne _ _ (by decide)]; exact h.1, h.2.1, fun k hk => by rw [gmi_In _ _ _ (by decide)]; exact h.2.2 k hk⟩
theorem TapeR.z {M2 : gM} (h : TapeR M T L) (hf : zFr S M M2) (h1 : ¬ S 101) (h2 : ¬ S 1006) : TapeR M2 T L := ⟨by rw [hf.1.2.2.2.2.2.2 6 (by decide) (by decide) h2]; exact h.1, h.2.1, fun k hk => by rw [hf.1.2.2.2.2.2.1 101 (by decide) (by decide) (by decide) h1]; exact h.2.2 k hk⟩
set_option maxRecDepth 20000 in
theorem r_fault0 (hx : gXok X) (hZ : gSt X) (hL : gLay M) (hT : TapeR M T L) : gPos X (d + 8) yX11_fault cX11_fault 2 (some .int) [.ref 100, .int 0] M (fun v M2 => v = some (.int (fl0 T L)) ∧ zFr scT0 M M2 ∧ (townOK T L = true → RdT M2 (townP T L).2.2)) := by
  have hM : gLay (gwI M 100 0 0) := gLay_I hL
  have h0 : zFr scT0 M (gwI M 100 0 0) := zFr.wf (Or.inr rfl)
  refine gMet.of hx (by decide) (Nat.le_of_ble_eq_true rfl) ?_
  refine g_aload_n dX11_fault_0 rfl rfl rfl ?_
  refine g_iconst (v := 0) dX11_fault_1 (by decide) rfl ?_
  refine g_putI dX11_fault_2 fp_X11_90 rfl rfl rfl (k100 hL) rfl ?_
  refine g_iload_n dX11_fault_5 rfl rfl rfl ?_
  refine g_i2l dX11_fault_6 rfl ?_
  refine g_lconst (v := 0) dX11_fault_7 (by decide) rfl ?_
  refine g_ldc2 dX11_fault_8 lq_X11_266 rfl ?_
  refine g_callSdi dX11_fault_11 lm_X11_211 mv_X11_isIn (r_isIn (d := d + 7) (x := 0) (l := 0) (h := 2) hx (by decide) (by decide) (by decide)) rfl rfl (Nat.le_of_ble_eq_true rfl) (gFit_room (by omega)) rfl ?_
  rw [ib_t (by decide)]
  refine g_if_ne (tgt := 20) dX11_fault_14 (by decide) rfl (fun _ => ?_) (fun h_ => absurd h_ (by decide))
  refine g_iload_n dX11_fault_20 rfl rfl rfl ?_
  refine g_if_ne (tgt := 28) dX11_fault_21 (by decide) rfl (fun h_ => absurd (rfl) h_) (fun _ => ?_)
  refine g_aload_n dX11_fault_24 rfl rfl rfl ?_
  refine g_callVq (ci := 11) dX11_fault_25 lm_X11_268 mv_X11_readTown (r_readTown (d := d) hx hZ hM hT.th) rfl rfl (k100 (gLay_I hL)) rfl rfl (Nat.le_of_ble_eq_true rfl) (gFit_room (by omega)) rfl (fun v M2 hQ => ?_)
  obtain ⟨rfl, hf⟩ := hQ
  refine g_iload_n dX11_fault_28 rfl rfl rfl ?_
  refine g_iconst (v := 1) dX11_fault_29 (by decide) rfl ?_
  refine g_icmp_ne (tgt := 46) dX11_fault_30 (by decide) rfl (fun _ => ?_) (fun h_ => absurd h_ (by decide))
  refine g_iload_n dX11_fault_46 rfl rfl rfl ?_
  refine g_iconst (v := 2) dX11_fault_47 (by decide) rfl ?_
  refine g_icmp_ne (tgt := 55) dX11_fault_48 (by decide) rfl (fun _ => ?_) (fun h_ => absurd h_ (by decide))
  refine g_aload_n dX11_fault_55 rfl rfl rfl ?_
  refine g_getI dX11_fault_56 ff_X11_122 rfl (k100 (hf.1.1.lay hM)) rfl ?_
  rw [hf.2.1]
  exact g_iret dX11_fault_59 rfl (by first | rfl | exact b01 | exact nb01 hv01) (⟨rfl, h0.tr (hf.1.mono (fun c q => Or.inl q)), hf.2.2⟩)
set_option maxRecDepth 20000 in
theorem r_fault1 (hx : gXok X) (hZ : gSt X) (hL : gLay M) (hT : TapeR M T L) : gPos X (d + 32) yX11_fault cX11_fault 2 (some .int) [.ref 100, .int 1] M (fun v M2 => v = some (.int (lawV T L)) ∧ zFr (fun c => c = 1000) M M2) := by
  have hM : gLay (gwI M 100 0 0) := gLay_I hL
  have h0 : zFr (fun c => c = 1000) M (gwI M 100 0 0) := zFr.wf rfl
  have e6 := hT.th.1
  refine gMet.of hx (by decide) (Nat.le_of_ble_eq_true rfl) ?_
  refine g_aload_n dX11_fault_0 rfl rfl rfl ?_
  refine g_iconst (v := 0) dX11_fault_1 (by decide) rfl ?_
  refine g_putI dX11_fault_2 fp_X11_90 rfl rfl rfl (k100 hL) rfl ?_
  refine g_iload_n dX11_fault_5 rfl rfl rfl ?_
  refine g_i2l dX11_fault_6 rfl ?_
  refine g_lconst (v := 0) dX11_fault_7 (by decide) rfl ?_
  refine g_ldc2 dX11_fault_8 lq_X11_266 rfl ?_
  refine g_callSdi dX11_fault_11 lm_X11_211 mv_X11_isIn (r_isIn (d := d + 31) (x := 1) (l := 0) (h := 2) hx (by decide) (by decide) (by decide)) rfl rfl (Nat.le_of_ble_eq_true rfl) (gFit_room (by omega)) rfl ?_
  rw [ib_t (by decide)]
  refine g_if_ne (tgt := 20) dX11_fault_14 (by decide) rfl (fun _ => ?_) (fun h_ => absurd h_ (by decide))
  refine g_iload_n dX11_fault_20 rfl rfl rfl ?_
  refine g_if_ne (tgt := 28) dX11_fault_21 (by decide) rfl (fun _ => ?_) (fun h_ => absurd h_ (by decide))
  refine g_iload_n dX11_fault_28 rfl rfl rfl ?_
  refine g_iconst (v := 1) dX11_fault_29 (by decide) rfl ?_
  refine g_icmp_ne (tgt := 46) dX11_fault_30 (by decide) rfl (fun h_ => absurd (rfl) h_) (fun _ => ?_)
  refine g_aload_n dX11_fault_33 rfl rfl rfl ?_
  refine g_aload_n dX11_fault_34 rfl rfl rfl ?_
  refine g_getR dX11_fault_35 ff_X11_9 rfl (k100 (gLay_I hL)) (r100_1 (gLay_I hL)) rfl ?_
  refine g_iconst (v := 0) dX11_fault_38 (by decide) rfl ?_
  refine g_aload_n dX11_fault_39 rfl rfl rfl ?_
  refine g_getI dX11_fault_40 ff_X11_103 rfl (k100 (gLay_I hL)) rfl ?_
  rw [e6]
  refine g_callVq (ci := 11) dX11_fault_43 lm_X11_271 mv_X11_goThrough (r_goThrough (d := d) (lt := fun s => gmi (gwI M 100 0 0) 104 (lch s)) hx hZ hM (hT.th.tx hM) (fun _ _ => rfl)) rfl rfl (k100 (gLay_I hL)) rfl rfl (Nat.le_of_ble_eq_true rfl) (gFit_room (by omega)) rfl (fun v M2 hQ => ?_)
  obtain ⟨rfl, hf⟩ := hQ
  refine g_iload_n dX11_fault_46 rfl rfl rfl ?_
  refine g_iconst (v := 2) dX11_fault_47 (by decide) rfl ?_
  refine g_icmp_ne (tgt := 55) dX11_fault_48 (by decide) rfl (fun _ => ?_) (fun h_ => absurd h_ (by decide))
  refine g_aload_n dX11_fault_55 rfl rfl rfl ?_
  refine g_getI dX11_fault_56 ff_X11_122 rfl (k100 (hf.1.lay hM)) rfl ?_
  rw [hf.2.1]
  exact g_iret dX11_fault_59 rfl (by first | rfl | exact b01 | exact nb01 hv01) (⟨rfl, h0.tr hf.1.z⟩)
set_option maxRecDepth 20000 in
theorem r_fault2 (hx : gXok X) (hZ : gSt X) (hL : gLay M) (hT : TapeR M T L) : gPos X (d + 7) yX11_fault cX11_fault 2 (some .int) [.ref 100, .int 2] M (fun v M2 => v = some (.int (fl2 T L)) ∧ zFr scQ0 M M2 ∧ WkS M M2 ∧ (weekOK T L = true → WkR M2 (weekP T L).2.2.1 (weekP T L).2.2.2)) := by
  have hM : gLay (gwI M 100 0 0) := gLay_I hL
  have h0 : zFr scQ0 M (gwI M 100 0 0) := zFr.wf (Or.inr rfl)
  refine gMet.of hx (by decide) (Nat.le_of_ble_eq_true rfl) ?_
  refine g_aload_n dX11_fault_0 rfl rfl rfl ?_
  refine g_iconst (v := 0) dX11_fault_1 (by decide) rfl ?_
  refine g_putI dX11_fault_2 fp_X11_90 rfl rfl rfl (k100 hL) rfl ?_
  refine g_iload_n dX11_fault_5 rfl rfl rfl ?_
  refine g_i2l dX11_fault_6 rfl ?_
  refine g_lconst (v := 0) dX11_fault_7 (by decide) rfl ?_
  refine g_ldc2 dX11_fault_8 lq_X11_266 rfl ?_
  refine g_callSdi dX11_fault_11 lm_X11_211 mv_X11_isIn (r_isIn (d := d + 6) (x := 2) (l := 0) (h := 2) hx (by decide) (by decide) (by decide)) rfl rfl (Nat.le_of_ble_eq_true rfl) (gFit_room (by omega)) rfl ?_
  rw [ib_t (by decide)]
  refine g_if_ne (tgt := 20) dX11_fault_14 (by decide) rfl (fun _ => ?_) (fun h_ => absurd h_ (by decide))
  refine g_iload_n dX11_fault_20 rfl rfl rfl ?_
  refine g_if_ne (tgt := 28) dX11_fault_21 (by decide) rfl (fun _ => ?_) (fun h_ => absurd h_ (by decide))
  refine g_iload_n dX11_fault_28 rfl rfl rfl ?_
  refine g_iconst (v := 1) dX11_fault_29 (by decide) rfl ?_
  refine g_icmp_ne (tgt := 46) dX11_fault_30 (by decide) rfl (fun _ => ?_) (fun h_ => absurd h_ (by decide))
  refine g_iload_n dX11_fault_46 rfl rfl rfl ?_
  refine g_iconst (v := 2) dX11_fault_47 (by decide) rfl ?_
  refine g_icmp_ne (tgt := 55) dX11_fault_48 (by decide) rfl (fun h_ => absurd (rfl) h_) (fun _ => ?_)
  refine g_aload_n dX11_fault_51 rfl rfl rfl ?_
  refine g_callVq (ci := 11) dX11_fault_52 lm_X11_274 mv_X11_readPlan (r_readPlan (d := d) hx hZ hM hT.th) rfl rfl (k100 (gLay_I hL)) rfl rfl (Nat.le_of_ble_eq_true rfl) (gFit_room (by omega)) rfl (fun v M2 hQ => ?_)
  obtain ⟨rfl, hf⟩ := hQ
  refine g_aload_n dX11_fault_55 rfl rfl rfl ?_
  refine g_getI dX11_fault_56 ff_X11_122 rfl (k100 (hf.1.1.lay hM)) rfl ?_
  rw [hf.2.2.1]
  exact g_iret dX11_fault_59 rfl (by first | rfl | exact b01 | exact nb01 hv01) (⟨rfl, h0.tr (hf.1.mono (fun c q => Or.inl q)), ⟨fun q hq => by rw [hf.2.1.1 q hq, gmi_In _ _ _ (by decide)], fun q hq => by rw [hf.2.1.2 q hq, gmi_In _ _ _ (by decide)]⟩, hf.2.2.2⟩)
theorem not02 {x : Int32} (h0 : ¬ x = 0) (h1 : ¬ x = 1) (h2 : ¬ x = 2) : ¬ (0 ≤ x ∧ x ≤ 2) := fun ⟨a, b⟩ => by
  obtain ⟨e, l⟩ := in_row (x := x) (b := 3) (n := 3) rfl (by decide) ⟨a, Int32.lt_of_le_of_lt b (by decide)⟩
  rcases (show tn x = 0 ∨ tn x = 1 ∨ tn x = 2 by omega) with z | z | z
  · rw [z] at e; exact h0 e
  · rw [z] at e; exact h1 e
  · rw [z] at e; exact h2 e
set_option maxRecDepth 20000 in
theorem r_faultN (hx : gXok X) (hL : gLay M) {x : Int32} (h0 : ¬ x = 0) (h1 : ¬ x = 1) (h2 : ¬ x = 2) : gDet X (d + 1) yX11_fault cX11_fault 2 (some .int) [.ref 100, .int x] M (some (.int (-2))) (gwI M 100 0 0) := by
  refine gMet.of hx (by decide) (Nat.le_of_ble_eq_true rfl) ?_
  refine g_aload_n dX11_fault_0 rfl rfl rfl ?_
  refine g_iconst (v := 0) dX11_fault_1 (by decide) rfl ?_
  refine g_putI dX11_fault_2 fp_X11_90 rfl rfl rfl (k100 hL) rfl ?_
  refine g_iload_n dX11_fault_5 rfl rfl rfl ?_
  refine g_i2l dX11_fault_6 rfl ?_
  refine g_lconst (v := 0) dX11_fault_7 (by decide) rfl ?_
  refine g_ldc2 dX11_fault_8 lq_X11_266 rfl ?_
  refine g_callSdi dX11_fault_11 lm_X11_211 mv_X11_isIn (r_isIn (d := d) (x := x) (l := 0) (h := 2) hx rfl (by decide) (by decide)) rfl rfl (Nat.le_of_ble_eq_true rfl) (gFit_room (by omega)) rfl ?_
  rw [ib_f (not02 h0 h1 h2)]
  refine g_if_ne (tgt := 20) dX11_fault_14 (by decide) rfl (fun h_ => absurd (by decide) h_) (fun _ => ?_)
  refine g_bipush (v := -2) dX11_fault_17 (by decide) rfl ?_
  exact g_iret dX11_fault_19 rfl (by first | rfl | exact b01 | exact nb01 hv01) (⟨rfl, rfl⟩)
set_option maxRecDepth 20000 in
theorem r_textN (hx : gXok X) (hL : gLay M) {x : Int32} (h0 : ¬ x = 0) (h1 : ¬ x = 1) (h2 : ¬ x = 2) : gDet X (d + 1) yX11_text cX11_text 4 (some .int) [.ref 100, .int x] M (some (.int (-1))) (gwI M 100 0 0) := by
  refine gMet.of hx (by decide) (Nat.le_of_ble_eq_true rfl) ?_
  refine g_aload_n dX11_text_0 rfl rfl rfl ?_
  refine g_iconst (v := 0) dX11_text_1 (by decide) rfl ?_
  refine g_putI dX11_text_2 fp_X11_90 rfl rfl rfl (k100 hL) rfl ?_
  refine g_iload_n dX11_text_5 rfl rfl rfl ?_
  refine g_i2l dX11_text_6 rfl ?_
  refine g_lconst (v := 0) dX11_text_7 (by decide) rfl ?_
  refine g_ldc2 dX11_text_8 lq_X11_266 rfl ?_
  refine g_callSdi dX11_text_11 lm_X11_211 mv_X11_isIn (r_isIn (d := d) (x := x) (l := 0) (h := 2) hx rfl (by decide) (by decide)) rfl rfl (Nat.le_of_ble_eq_true rfl) (gFit_room (by omega)) rfl ?_
  rw [ib_f (not02 h0 h1 h2)]
  refine g_if_eq (tgt := 52) dX11_text_14 (by decide) rfl (fun _ => ?_) (fun h_ => absurd (by decide) h_)
  refine g_iconst (v := -1) dX11_text_52 (by decide) rfl ?_
  exact g_iret dX11_text_53 rfl (by first | rfl | exact b01 | exact nb01 hv01) (⟨rfl, rfl⟩)
set_option maxRecDepth 20000 in
theorem r_text14 (hx : gXok X) (hL : gLay M) (hn : gmi M 100 7 = 4) : gDet X (d + 1) yX11_text cX11_text 4 (some .int) [.ref 100, .int 1] M (some (.int (-1))) (gwI M 100 0 0) := by
  have e7 : gmi (gwI M 100 0 0) 100 7 = 4 := by rw [gmi_I, va_up_ne _ _ (by decide)]; exact hn
  refine gMet.of hx (by decide) (Nat.le_of_ble_eq_true rfl) ?_
  refine g_aload_n dX11_text_0 rfl rfl rfl ?_
  refine g_iconst (v := 0) dX11_text_1 (by decide) rfl ?_
  refine g_putI dX11_text_2 fp_X11_90 rfl rfl rfl (k100 hL) rfl ?_
  refine g_iload_n dX11_text_5 rfl rfl rfl ?_
  refine g_i2l dX11_text_6 rfl ?_
  refine g_lconst (v := 0) dX11_text_7 (by decide) rfl ?_
  refine g_ldc2 dX11_text_8 lq_X11_266 rfl ?_
  refine g_callSdi dX11_text_11 lm_X11_211 mv_X11_isIn (r_isIn (d := d) (x := 1) (l := 0) (h := 2) hx (by decide) (by decide) (by decide)) rfl rfl (Nat.le_of_ble_eq_true rfl) (gFit_room (by omega)) rfl ?_
  rw [ib_t (by decide)]
  refine g_if_eq (tgt := 52) dX11_text_14 (by decide) rfl (fun h_ => absurd h_ (by decide)) (fun _ => ?_)
  refine g_iload_n dX11_text_17 rfl rfl rfl ?_
  refine g_iconst (v := 1) dX11_text_18 (by decide) rfl ?_
  refine g_icmp_ne (tgt := 30) dX11_text_19 (by decide) rfl (fun h_ => absurd (rfl) h_) (fun _ => ?_)
  refine g_aload_n dX11_text_22 rfl rfl rfl ?_
  refine g_getI dX11_text_23 ff_X11_277 rfl (k100 (gLay_I hL)) rfl ?_
  refine g_iconst (v := 4) dX11_text_26 (by decide) rfl ?_
  rw [e7]
  refine g_icmp_eq (tgt := 52) dX11_text_27 (by decide) rfl (fun _ => ?_) (fun h_ => absurd (rfl) h_)
  refine g_iconst (v := -1) dX11_text_52 (by decide) rfl ?_
  exact g_iret dX11_text_53 rfl (by first | rfl | exact b01 | exact nb01 hv01) (⟨rfl, rfl⟩)
set_option maxRecDepth 20000 in
theorem r_text24 (hx : gXok X) (hL : gLay M) (hn : gmi M 100 30 = 4) : gDet X (d + 1) yX11_text cX11_text 4 (some .int) [.ref 100, .int 2] M (some (.int (-1))) (gwI M 100 0 0) := by
  have e7 : gmi (gwI M 100 0 0) 100 30 = 4 := by rw [gmi_I, va_up_ne _ _ (by decide)]; exact hn
  refine gMet.of hx (by decide) (Nat.le_of_ble_eq_true rfl) ?_
  refine g_aload_n dX11_text_0 rfl rfl rfl ?_
  refine g_iconst (v := 0) dX11_text_1 (by decide) rfl ?_
  refine g_putI dX11_text_2 fp_X11_90 rfl rfl rfl (k100 hL) rfl ?_
  refine g_iload_n dX11_text_5 rfl rfl rfl ?_
  refine g_i2l dX11_text_6 rfl ?_
  refine g_lconst (v := 0) dX11_text_7 (by decide) rfl ?_
  refine g_ldc2 dX11_text_8 lq_X11_266 rfl ?_
  refine g_callSdi dX11_text_11 lm_X11_211 mv_X11_isIn (r_isIn (d := d) (x := 2) (l := 0) (h := 2) hx (by decide) (by decide) (by decide)) rfl rfl (Nat.le_of_ble_eq_true rfl) (gFit_room (by omega)) rfl ?_
  rw [ib_t (by decide)]
  refine g_if_eq (tgt := 52) dX11_text_14 (by decide) rfl (fun h_ => absurd h_ (by decide)) (fun _ => ?_)
  refine g_iload_n dX11_text_17 rfl rfl rfl ?_
  refine g_iconst (v := 1) dX11_text_18 (by decide) rfl ?_
  refine g_icmp_ne (tgt := 30) dX11_text_19 (by decide) rfl (fun _ => ?_) (fun h_ => absurd h_ (by decide))
  refine g_iload_n dX11_text_30 rfl rfl rfl ?_
  refine g_iconst (v := 2) dX11_text_31 (by decide) rfl ?_
  refine g_icmp_ne (tgt := 43) dX11_text_32 (by decide) rfl (fun h_ => absurd (rfl) h_) (fun _ => ?_)
  refine g_aload_n dX11_text_35 rfl rfl rfl ?_
  refine g_getI dX11_text_36 ff_X11_280 rfl (k100 (gLay_I hL)) rfl ?_
  refine g_iconst (v := 4) dX11_text_39 (by decide) rfl ?_
  rw [e7]
  refine g_icmp_eq (tgt := 52) dX11_text_40 (by decide) rfl (fun _ => ?_) (fun h_ => absurd (rfl) h_)
  refine g_iconst (v := -1) dX11_text_52 (by decide) rfl ?_
  exact g_iret dX11_text_53 rfl (by first | rfl | exact b01 | exact nb01 hv01) (⟨rfl, rfl⟩)
def scL : Nat → Prop := fun c => c = 102 ∨ c = 103 ∨ c = 1006 ∨ c = 1007 ∨ c = 1000
/-- a law is kept -/
def TxL (M M2 : gM) (n : Nat) (L : Nat) : Prop := zFr scL M M2 ∧ gmi M2 100 6 = 0 ∧ gmi M2 100 7 = nI (n + 1) ∧ gmi M2 103 n = nI L ∧ (∀ q, q ≠ n → gmi M2 103 q = gmi M 103 q) ∧ (∀ k, k < L → gmi M2 102 (240 * n + k) = gmi M 101 k) ∧ ∀ q, q < 240 * n → gmi M2 102 q = gmi M 102 q
theorem lawV_ok (h2 : L ≤ 240) : (lawV T L = -1) ↔ lawOK T L = true := by
  unfold lawV
  have hle := lawAt_le (T := T) (L := L)
  by_cases h : lawOK T L = true
  · rw [if_pos h]; exact ⟨fun _ => h, fun _ => rfl⟩
  · rw [if_neg h]; exact ⟨fun z => absurd z (neg1 (by omega)), fun z => absurd z h⟩
theorem fl0_ok (h2 : L ≤ 240) : (fl0 T L = -1) ↔ townOK T L = true := by
  unfold fl0
  have hle := townAt_le (T := T) (L := L)
  by_cases h : townOK T L = true
  · rw [if_pos h]; exact ⟨fun _ => h, fun _ => rfl⟩
  · rw [if_neg h]; exact ⟨fun z => absurd z (neg1 (by omega)), fun z => absurd z h⟩
theorem fl2_ok (h2 : L ≤ 240) : (fl2 T L = -1) ↔ weekOK T L = true := by
  unfold fl2
  have hle := weekAt_le (T := T) (L := L)
  by_cases h : weekOK T L = true
  · rw [if_pos h]; exact ⟨fun _ => h, fun _ => rfl⟩
  · rw [if_neg h]; exact ⟨fun z => absurd z (neg1 (by omega)), fun z => absurd z h⟩
set_option maxRecDepth 20000 in
set_option maxHeartbeats 1000000 in
theorem r_text1 (hx : gXok X) (hZ : gSt X) (hL : gLay M) (hT : TapeR M T L) (hn : gmi M 100 7 = nI n) (h4 : n < 4) : gPos X (d + 33) yX11_text cX11_text 4 (some .int) [.ref 100, .int 1] M (fun v M2 => v = some (.int (if lawOK T L then nI n else -1)) ∧ (¬ lawOK T L = true → zFr (fun c => c = 1000) M M2) ∧ (lawOK T L = true → TxL M M2 n L)) := by
  have h240 := hT.2.1
  have e7 : gmi (gwI M 100 0 0) 100 7 = nI n := by rw [gmi_I, va_up_ne _ _ (by decide)]; exact hn
  have h0 : zFr (fun c => c = 1000) M (gwI M 100 0 0) := zFr.wf rfl
  refine gMet.of hx (by decide) (Nat.le_of_ble_eq_true rfl) ?_
  refine g_aload_n dX11_text_0 rfl rfl rfl ?_
  refine g_iconst (v := 0) dX11_text_1 (by decide) rfl ?_
  refine g_putI dX11_text_2 fp_X11_90 rfl rfl rfl (k100 hL) rfl ?_
  refine g_iload_n dX11_text_5 rfl rfl rfl ?_
  refine g_i2l dX11_text_6 rfl ?_
  refine g_lconst (v := 0) dX11_text_7 (by decide) rfl ?_
  refine g_ldc2 dX11_text_8 lq_X11_266 rfl ?_
  refine g_callSdi dX11_text_11 lm_X11_211 mv_X11_isIn (r_isIn (d := d + 32) (x := 1) (l := 0) (h := 2) hx (by decide) (by decide) (by decide)) rfl rfl (Nat.le_of_ble_eq_true rfl) (gFit_room (by omega)) rfl ?_
  rw [ib_t (by decide)]
  refine g_if_eq (tgt := 52) dX11_text_14 (by decide) rfl (fun h_ => absurd h_ (by decide)) (fun _ => ?_)
  refine g_iload_n dX11_text_17 rfl rfl rfl ?_
  refine g_iconst (v := 1) dX11_text_18 (by decide) rfl ?_
  refine g_icmp_ne (tgt := 30) dX11_text_19 (by decide) rfl (fun h_ => absurd (rfl) h_) (fun _ => ?_)
  refine g_aload_n dX11_text_22 rfl rfl rfl ?_
  refine g_getI dX11_text_23 ff_X11_277 rfl (k100 (gLay_I hL)) rfl ?_
  refine g_iconst (v := 4) dX11_text_26 (by decide) rfl ?_
  rw [e7]
  refine g_icmp_eq (tgt := 52) dX11_text_27 (by decide) rfl (fun h_ => absurd h_ (fun z => absurd ((nI_eq (a := n) (b := 4) (by omega) (by decide)).mp z) (by omega))) (fun _ => ?_)
  refine g_iload_n dX11_text_30 rfl rfl rfl ?_
  refine g_iconst (v := 2) dX11_text_31 (by decide) rfl ?_
  refine g_icmp_ne (tgt := 43) dX11_text_32 (by decide) rfl (fun _ => ?_) (fun h_ => absurd h_ (by decide))
  refine g_aload_n dX11_text_43 rfl rfl rfl ?_
  refine g_iload_n dX11_text_44 rfl rfl rfl ?_
  refine g_callVq (ci := 11) dX11_text_45 lm_X11_283 mv_X11_fault (r_fault1 (d := d) hx hZ (gLay_I hL) hT.th) rfl rfl (k100 (gLay_I hL)) rfl rfl (Nat.le_of_ble_eq_true rfl) (gFit_room (by omega)) rfl (fun v M1 hQ => ?_)
  obtain ⟨rfl, hf1⟩ := hQ
  have hz1 := h0.tr hf1
  have hL1 := hz1.1.lay hL
  have hT1 := hT.z hz1 (by decide) (by decide)
  have e71 : gmi M1 100 7 = nI n := by rw [hz1.1.2.2.2.2.2.2 7 (by decide) (by decide) (by decide)]; exact hn
  have e102 : gmi M1 102 = gmi M 102 := hz1.1.2.2.2.2.2.1 102 (by decide) (by decide) (by decide) (by decide)
  have e103 : gmi M1 103 = gmi M 103 := hz1.1.2.2.2.2.2.1 103 (by decide) (by decide) (by decide) (by decide)
  have e101 : gmi M1 101 = gmi M 101 := hz1.1.2.2.2.2.2.1 101 (by decide) (by decide) (by decide) (by decide)
  by_cases hok : lawOK T L = true
  · have hlv := (lawV_ok h240).mpr hok
    rw [hlv, if_pos hok]
    have hz2 : zFr scL M (gwI M1 100 6 0) := (hz1.mono (fun c q => Or.inr (Or.inr (Or.inr (Or.inr q))))).tr (zFr.wf (Or.inr (Or.inr (Or.inl rfl))))
    refine g_iconst (v := -1) dX11_text_48 (by decide) rfl ?_
    refine g_icmp_eq (tgt := 54) dX11_text_49 (by decide) rfl (fun _ => ?_) (fun h_ => absurd (rfl) h_)
    refine g_aload_n dX11_text_54 rfl rfl rfl ?_
    refine g_getI dX11_text_55 ff_X11_103 rfl (k100 hL1) rfl ?_
    rw [hT1.1]
    refine g_istore_n dX11_text_58 rfl (by decide) rfl ?_
    refine g_aload_n dX11_text_59 rfl rfl rfl ?_
    refine g_iconst (v := 0) dX11_text_60 (by decide) rfl ?_
    refine g_putI dX11_text_61 fp_X11_103 rfl rfl rfl (k100 hL1) rfl ?_
    refine g_iload_n dX11_text_64 rfl rfl rfl ?_
    refine g_iconst (v := 1) dX11_text_65 (by decide) rfl ?_
    refine g_icmp_ne (tgt := 130) dX11_text_66 (by decide) rfl (fun h_ => absurd (rfl) h_) (fun _ => ?_)
    refine g_iconst (v := 0) dX11_text_69 (by decide) rfl ?_
    refine g_istore_n dX11_text_70 rfl (by decide) rfl ?_
    refine g_loopM (fun j => [(0, .ref 100), (1, .int 1), (2, .int (nI L)), (3, .int (nI j))]) (fun j M2 => zFr scL M M2 ∧ gmi M2 100 6 = 0 ∧ gmi M2 100 7 = nI n ∧ gmi M2 103 = gmi M 103 ∧ gmi M2 101 = gmi M 101 ∧ (∀ k, k < j → gmi M2 102 (240 * n + k) = gmi M 101 k) ∧ ∀ q, q < 240 * n → gmi M2 102 q = gmi M 102 q) L 0 (Nat.zero_le _) ⟨rfl, rfl, rfl, rfl, trivial⟩ ⟨hz2, by rw [gmi_I, va_up_self], by rw [gmi_I, va_up_ne _ _ (by decide)]; exact e71, by rw [gmi_In _ _ _ (by decide)]; exact e103, by rw [gmi_In _ _ _ (by decide)]; exact e101, fun k hk => absurd hk (by omega), fun q _ => by rw [gmi_In _ _ _ (by decide), e102]⟩ (fun M2 hI => ?_) (fun j M2 _ hj hI ih => ?_)
    · obtain ⟨z2, a6, a7, a103, a101, v1, v2⟩ := hI
      have hL2 := z2.1.lay hL
      have b7 : gmi (gwI M2 103 n (nI L)) 100 7 = nI n := by rw [gmi_In _ _ _ (by decide)]; exact a7
      refine g_iload_n dX11_text_71 rfl rfl rfl ?_
      refine g_iload_n dX11_text_72 rfl rfl rfl ?_
      refine g_icmp_ge (tgt := 103) dX11_text_73 (by decide) rfl (fun _ => ?_) (fun h_ => absurd (nI_le (Nat.le_refl _) (by omega)) h_)
      refine g_aload_n dX11_text_103 rfl rfl rfl ?_
      refine g_getR dX11_text_104 ff_X11_16 rfl (k100 hL2) (r100_3 hL2) rfl ?_
      refine g_aload_n dX11_text_107 rfl rfl rfl ?_
      refine g_getI dX11_text_108 ff_X11_277 rfl (k100 hL2) rfl ?_
      rw [a7]
      refine g_iload_n dX11_text_111 rfl rfl rfl ?_
      refine g_iast (i := n) dX11_text_112 (k103 hL2) (l103 hL2) (nI_toInt (by omega)) (by omega) rfl ?_
      refine g_aload_n dX11_text_113 rfl rfl rfl ?_
      refine g_dup dX11_text_114 rfl rfl ?_
      refine g_getI dX11_text_115 ff_X11_277 rfl (k100 (gLay_I hL2)) rfl ?_
      rw [b7]
      refine g_iconst (v := 1) dX11_text_118 (by decide) rfl ?_
      refine g_iadd dX11_text_119 rfl ?_
      rw [nI_1]
      refine g_putI dX11_text_120 fp_X11_277 rfl rfl rfl (k100 (gLay_I hL2)) rfl ?_
      refine g_aload_n dX11_text_123 rfl rfl rfl ?_
      refine g_getI dX11_text_124 ff_X11_277 rfl (k100 (gLay_I (gLay_I hL2))) rfl ?_
      rw [gmi_I, va_up_self]
      refine g_iconst (v := 1) dX11_text_127 (by decide) rfl ?_
      refine g_isub dX11_text_128 rfl ?_
      rw [nI_pred]
      exact g_iret dX11_text_129 rfl (by first | rfl | exact b01 | exact nb01 hv01) (⟨rfl, fun z => absurd hok z, fun _ => ⟨(z2.tr ((kFr.wc (S := scL) (M := M2) (c := 103) (k := n) (v := nI L) (Or.inr (Or.inl rfl)) (by decide)).z (by unfold scL; decide) (by unfold scL; decide))).tr (zFr.wf (Or.inr (Or.inr (Or.inr (Or.inl rfl))))), by rw [gmi_I, va_up_ne _ _ (by decide), gmi_In _ _ _ (by decide)]; exact a6, by rw [gmi_I, va_up_self], by rw [gmi_In _ _ _ (by decide), gmi_I, va_up_self], fun q hq => by rw [gmi_In _ _ _ (by decide), gmi_I, va_up_ne _ _ hq, a103], fun k hk => by rw [gmi_In _ _ _ (by decide), gmi_In _ _ _ (by decide)]; exact v1 k hk, fun q hq => by rw [gmi_In _ _ _ (by decide), gmi_In _ _ _ (by decide)]; exact v2 q hq⟩⟩)
    · obtain ⟨z2, a6, a7, a103, a101, v1, v2⟩ := hI
      have hL2 := z2.1.lay hL
      have hby := (hT.2.2 j hj).1
      refine g_iload_n dX11_text_71 rfl rfl rfl ?_
      refine g_iload_n dX11_text_72 rfl rfl rfl ?_
      refine g_icmp_ge (tgt := 103) dX11_text_73 (by decide) rfl (fun h_ => absurd h_ (nI_ge hj (by omega))) (fun _ => ?_)
      refine g_aload_n dX11_text_76 rfl rfl rfl ?_
      refine g_getR dX11_text_77 ff_X11_13 rfl (k100 hL2) (r100_2 hL2) rfl ?_
      refine g_sipush (v := 240) dX11_text_80 (by decide) rfl ?_
      refine g_aload_n dX11_text_83 rfl rfl rfl ?_
      refine g_getI dX11_text_84 ff_X11_277 rfl (k100 hL2) rfl ?_
      rw [a7, show (240 : Int32) = nI 240 from rfl]
      refine g_imul dX11_text_87 rfl ?_
      rw [pk_mul]
      refine g_iload_n dX11_text_88 rfl rfl rfl ?_
      refine g_iadd dX11_text_89 rfl ?_
      rw [nI_add]
      refine g_aload_n dX11_text_90 rfl rfl rfl ?_
      refine g_getR dX11_text_91 ff_X11_9 rfl (k100 hL2) (r100_1 hL2) rfl ?_
      refine g_iload_n dX11_text_94 rfl rfl rfl ?_
      refine g_bald (i := j) dX11_text_95 (k101 hL2) (l101 hL2) (nI_toInt (by omega)) (by omega) rfl ?_
      rw [a101, hby]
      refine g_bast (i := (240 * n + j)) dX11_text_96 (k102 hL2) (l102 hL2) (nI_toInt (by omega)) (by omega) rfl ?_
      rw [pk_vb, ← hby]
      refine g_iincV (c := 1) dX11_text_97 rfl (by decide) (by decide) rfl ?_
      refine g_goto (tgt := 71) dX11_text_100 (by decide) ?_
      refine g_go (ih _ ⟨z2.tr ((kFr.wc (S := scL) (Or.inl rfl) (by decide)).z (by unfold scL; decide) (by unfold scL; decide)), by rw [gmi_In _ _ _ (by decide)]; exact a6, by rw [gmi_In _ _ _ (by decide)]; exact a7, by rw [gmi_In _ _ _ (by decide)]; exact a103, by rw [gmi_In _ _ _ (by decide)]; exact a101, fun k hk => ?_, fun q hq => by rw [gmi_I, va_up_ne _ _ (by omega)]; exact v2 q hq⟩) ⟨rfl, rfl, rfl, by rw [← nI_1 j]; rfl, trivial⟩
      rw [gmi_I]
      by_cases e : k = j
      · subst e; rw [va_up_self]
      · rw [va_up_ne _ _ (by omega)]; exact v1 k (by omega)
  · have hlv : ¬ lawV T L = -1 := fun z => hok ((lawV_ok h240).mp z)
    rw [if_neg hok]
    refine g_iconst (v := -1) dX11_text_48 (by decide) rfl ?_
    refine g_icmp_eq (tgt := 54) dX11_text_49 (by decide) rfl (fun h_ => absurd h_ (hlv)) (fun _ => ?_)
    refine g_iconst (v := -1) dX11_text_52 (by decide) rfl ?_
    exact g_iret dX11_text_53 rfl (by first | rfl | exact b01 | exact nb01 hv01) (⟨rfl, fun _ => hz1, fun z => absurd z hok⟩)
def scW2 : Nat → Prop := fun c => c = 111 ∨ c = 112 ∨ c = 1006 ∨ c = 1030 ∨ c = 1000
/-- a week is kept -/
def TxW (M M2 : gM) (n c : Nat) (dt : Nat → SD) : Prop := zFr scW2 M M2 ∧ gmi M2 100 6 = 0 ∧ gmi M2 100 30 = nI (n + 1) ∧ gmi M2 112 n = nI c ∧ c ≤ 16 ∧ (∀ q, q < n → gmi M2 112 q = gmi M 112 q) ∧ (∀ i, i < c → gmi M2 111 (3 * (16 * n + i)) = nI (dt i).1 ∧ gmi M2 111 (3 * (16 * n + i) + 1) = (dt i).2.1 ∧ gmi M2 111 (3 * (16 * n + i) + 2) = (dt i).2.2) ∧ ∀ q, q < 48 * n → gmi M2 111 q = gmi M 111 q
theorem scW26 : ¬ scW2 116 := by unfold scW2; decide
theorem scW24 : ¬ scW2 104 := by unfold scW2; decide
set_option maxRecDepth 20000 in
set_option maxHeartbeats 1000000 in
theorem r_text2 (hx : gXok X) (hZ : gSt X) (hL : gLay M) (hT : TapeR M T L) (hn : gmi M 100 30 = nI n) (h4 : n < 4) : gPos X (d + 8) yX11_text cX11_text 4 (some .int) [.ref 100, .int 2] M (fun v M2 => v = some (.int (if weekOK T L then nI n else -1)) ∧ (¬ weekOK T L = true → zFr scQ0 M M2 ∧ WkS M M2) ∧ (weekOK T L = true → TxW M M2 n (weekP T L).2.2.1 (weekP T L).2.2.2)) := by
  have h240 := hT.2.1
  have e7 : gmi (gwI M 100 0 0) 100 30 = nI n := by rw [gmi_I, va_up_ne _ _ (by decide)]; exact hn
  have h0 : zFr scQ0 M (gwI M 100 0 0) := zFr.wf (Or.inr rfl)
  refine gMet.of hx (by decide) (Nat.le_of_ble_eq_true rfl) ?_
  refine g_aload_n dX11_text_0 rfl rfl rfl ?_
  refine g_iconst (v := 0) dX11_text_1 (by decide) rfl ?_
  refine g_putI dX11_text_2 fp_X11_90 rfl rfl rfl (k100 hL) rfl ?_
  refine g_iload_n dX11_text_5 rfl rfl rfl ?_
  refine g_i2l dX11_text_6 rfl ?_
  refine g_lconst (v := 0) dX11_text_7 (by decide) rfl ?_
  refine g_ldc2 dX11_text_8 lq_X11_266 rfl ?_
  refine g_callSdi dX11_text_11 lm_X11_211 mv_X11_isIn (r_isIn (d := d + 7) (x := 2) (l := 0) (h := 2) hx (by decide) (by decide) (by decide)) rfl rfl (Nat.le_of_ble_eq_true rfl) (gFit_room (by omega)) rfl ?_
  rw [ib_t (by decide)]
  refine g_if_eq (tgt := 52) dX11_text_14 (by decide) rfl (fun h_ => absurd h_ (by decide)) (fun _ => ?_)
  refine g_iload_n dX11_text_17 rfl rfl rfl ?_
  refine g_iconst (v := 1) dX11_text_18 (by decide) rfl ?_
  refine g_icmp_ne (tgt := 30) dX11_text_19 (by decide) rfl (fun _ => ?_) (fun h_ => absurd h_ (by decide))
  refine g_iload_n dX11_text_30 rfl rfl rfl ?_
  refine g_iconst (v := 2) dX11_text_31 (by decide) rfl ?_
  refine g_icmp_ne (tgt := 43) dX11_text_32 (by decide) rfl (fun h_ => absurd (rfl) h_) (fun _ => ?_)
  refine g_aload_n dX11_text_35 rfl rfl rfl ?_
  refine g_getI dX11_text_36 ff_X11_280 rfl (k100 (gLay_I hL)) rfl ?_
  refine g_iconst (v := 4) dX11_text_39 (by decide) rfl ?_
  rw [e7]
  refine g_icmp_eq (tgt := 52) dX11_text_40 (by decide) rfl (fun h_ => absurd h_ (fun z => absurd ((nI_eq (a := n) (b := 4) (by omega) (by decide)).mp z) (by omega))) (fun _ => ?_)
  refine g_aload_n dX11_text_43 rfl rfl rfl ?_
  refine g_iload_n dX11_text_44 rfl rfl rfl ?_
  refine g_callVq (ci := 11) dX11_text_45 lm_X11_283 mv_X11_fault (r_fault2 (d := d) hx hZ (gLay_I hL) hT.th) rfl rfl (k100 (gLay_I hL)) rfl rfl (Nat.le_of_ble_eq_true rfl) (gFit_room (by omega)) rfl (fun v M1 hQ => ?_)
  obtain ⟨rfl, hf1, hs1, hw1⟩ := hQ
  have hz1 := h0.tr hf1
  have hL1 := hz1.1.lay hL
  have hT1 := hT.z hz1 (by unfold scQ0 scQ; decide) (by unfold scQ0 scQ; decide)
  have e71 : gmi M1 100 30 = nI n := by rw [hz1.1.2.2.2.2.2.2 30 (by decide) (by decide) (by unfold scQ0 scQ; decide)]; exact hn
  have hs2 : WkS M M1 := ⟨fun q hq => by rw [hs1.1 q hq, gmi_In _ _ _ (by decide)], fun q hq => by rw [hs1.2 q hq, gmi_In _ _ _ (by decide)]⟩
  by_cases hok : weekOK T L = true
  · have hlv := (fl2_ok h240).mpr hok
    have hwr := hw1 hok
    rw [hlv, if_pos hok]
    generalize (weekP T L).2.2.1 = cw at *
    generalize (weekP T L).2.2.2 = dt at *
    obtain ⟨w4, w16, wv⟩ := hwr
    have hz2 : zFr scW2 M (gwI M1 100 6 0) := (hz1.mono (fun c q => q.elim (fun y => y.elim Or.inl (fun z => Or.inr (Or.inl z))) (fun y => Or.inr (Or.inr (Or.inr (Or.inr y)))))).tr (zFr.wf (Or.inr (Or.inr (Or.inl rfl))))
    refine g_iconst (v := -1) dX11_text_48 (by decide) rfl ?_
    refine g_icmp_eq (tgt := 54) dX11_text_49 (by decide) rfl (fun _ => ?_) (fun h_ => absurd (rfl) h_)
    refine g_aload_n dX11_text_54 rfl rfl rfl ?_
    refine g_getI dX11_text_55 ff_X11_103 rfl (k100 hL1) rfl ?_
    refine g_istore_n dX11_text_58 rfl (by decide) rfl ?_
    refine g_aload_n dX11_text_59 rfl rfl rfl ?_
    refine g_iconst (v := 0) dX11_text_60 (by decide) rfl ?_
    refine g_putI dX11_text_61 fp_X11_103 rfl rfl rfl (k100 hL1) rfl ?_
    refine g_iload_n dX11_text_64 rfl rfl rfl ?_
    refine g_iconst (v := 1) dX11_text_65 (by decide) rfl ?_
    refine g_icmp_ne (tgt := 130) dX11_text_66 (by decide) rfl (fun _ => ?_) (fun h_ => absurd h_ (by decide))
    refine g_iload_n dX11_text_130 rfl rfl rfl ?_
    refine g_iconst (v := 2) dX11_text_131 (by decide) rfl ?_
    refine g_icmp_ne (tgt := 205) dX11_text_132 (by decide) rfl (fun h_ => absurd (rfl) h_) (fun _ => ?_)
    refine g_iconst (v := 0) dX11_text_135 (by decide) rfl ?_
    refine g_istore_n dX11_text_136 rfl (by decide) rfl ?_
    refine g_loopM (fun j => [(0, .ref 100), (1, .int 2), (3, .int (nI j))]) (fun j M2 => zFr scW2 M M2 ∧ gmi M2 100 6 = 0 ∧ gmi M2 100 30 = nI n ∧ gmi M2 112 = gmi M1 112 ∧ (∀ k, k < j → gmi M2 111 (48 * n + k) = gmi M1 111 (192 + k)) ∧ ∀ q, q < 48 * n ∨ 192 ≤ q → gmi M2 111 q = gmi M1 111 q) 48 0 (Nat.zero_le _) ⟨rfl, rfl, rfl, trivial⟩ ⟨hz2, by rw [gmi_I, va_up_self], by rw [gmi_I, va_up_ne _ _ (by decide)]; exact e71, by rw [gmi_In _ _ _ (by decide)], fun k hk => absurd hk (by omega), fun q _ => by rw [gmi_In _ _ _ (by decide)]⟩ (fun M2 hI => ?_) (fun j M2 _ hj hI ih => ?_)
    · obtain ⟨z2, a6, a30, a112, v1, v2⟩ := hI
      have hL2 := z2.1.lay hL
      have b30 : gmi (gwI M2 112 n (nI cw)) 100 30 = nI n := by rw [gmi_In _ _ _ (by decide)]; exact a30
      have c4 : gmi M2 112 4 = nI cw := by rw [a112]; exact w4
      refine g_iload_n dX11_text_137 rfl rfl rfl ?_
      refine g_bipush (v := 48) dX11_text_138 (by decide) rfl ?_
      refine g_icmp_ge (tgt := 173) dX11_text_140 (by decide) rfl (fun _ => ?_) (fun h_ => absurd (nI_le (a := 48) (Nat.le_refl _) (by decide)) h_)
      refine g_aload_n dX11_text_173 rfl rfl rfl ?_
      refine g_getR dX11_text_174 ff_X11_58 rfl (k100 hL2) (r100_25 hL2) rfl ?_
      refine g_aload_n dX11_text_177 rfl rfl rfl ?_
      refine g_getI dX11_text_178 ff_X11_280 rfl (k100 hL2) rfl ?_
      rw [a30]
      refine g_aload_n dX11_text_181 rfl rfl rfl ?_
      refine g_getR dX11_text_182 ff_X11_58 rfl (k100 hL2) (r100_25 hL2) rfl ?_
      refine g_iconst (v := 4) dX11_text_185 (by decide) rfl ?_
      refine g_iald (i := 4) dX11_text_186 (k112 hL2) (l112 hL2) rfl (by decide) rfl ?_
      rw [c4]
      refine g_iast (i := n) dX11_text_187 (k112 hL2) (l112 hL2) (nI_toInt (by omega)) (by omega) rfl ?_
      refine g_aload_n dX11_text_188 rfl rfl rfl ?_
      refine g_dup dX11_text_189 rfl rfl ?_
      refine g_getI dX11_text_190 ff_X11_280 rfl (k100 (gLay_I hL2)) rfl ?_
      rw [b30]
      refine g_iconst (v := 1) dX11_text_193 (by decide) rfl ?_
      refine g_iadd dX11_text_194 rfl ?_
      rw [nI_1]
      refine g_putI dX11_text_195 fp_X11_280 rfl rfl rfl (k100 (gLay_I hL2)) rfl ?_
      refine g_aload_n dX11_text_198 rfl rfl rfl ?_
      refine g_getI dX11_text_199 ff_X11_280 rfl (k100 (gLay_I (gLay_I hL2))) rfl ?_
      rw [gmi_I, va_up_self]
      refine g_iconst (v := 1) dX11_text_202 (by decide) rfl ?_
      refine g_isub dX11_text_203 rfl ?_
      rw [nI_pred]
      refine g_iret dX11_text_204 rfl rfl ⟨rfl, fun z => absurd hok z, fun _ => ⟨(z2.tr ((kFr.wc (S := scW2) (M := M2) (c := 112) (k := n) (v := nI cw) (Or.inr (Or.inl rfl)) (by decide)).z scW26 scW24)).tr (zFr.wf (Or.inr (Or.inr (Or.inr (Or.inl rfl))))), by rw [gmi_I, va_up_ne _ _ (by decide), gmi_In _ _ _ (by decide)]; exact a6, by rw [gmi_I, va_up_self], by rw [gmi_In _ _ _ (by decide), gmi_I, va_up_self], w16, fun q hq => by rw [gmi_In _ _ _ (by decide), gmi_I, va_up_ne _ _ (by omega), a112]; exact hs2.2 q (by omega), fun i hi => ?_, fun q hq => by rw [gmi_In _ _ _ (by decide), gmi_In _ _ _ (by decide), v2 q (Or.inl hq)]; exact hs2.1 q (by omega)⟩⟩
      rw [gmi_In _ _ _ (by decide), gmi_In _ _ _ (by decide)]
      have q0 := v1 (3 * i) (by omega)
      have q1 := v1 (3 * i + 1) (by omega)
      have q2 := v1 (3 * i + 2) (by omega)
      rw [show 3 * (16 * n + i) = 48 * n + 3 * i by omega, show 48 * n + 3 * i + 1 = 48 * n + (3 * i + 1) by omega, show 48 * n + 3 * i + 2 = 48 * n + (3 * i + 2) by omega, q0, q1, q2, show 192 + 3 * i = 3 * (64 + i) by omega, show 192 + (3 * i + 1) = 3 * (64 + i) + 1 by omega, show 192 + (3 * i + 2) = 3 * (64 + i) + 2 by omega]
      exact wv i hi
    · obtain ⟨z2, a6, a30, a112, v1, v2⟩ := hI
      have hL2 := z2.1.lay hL
      refine g_iload_n dX11_text_137 rfl rfl rfl ?_
      refine g_bipush (v := 48) dX11_text_138 (by decide) rfl ?_
      refine g_icmp_ge (tgt := 173) dX11_text_140 (by decide) rfl (fun h_ => absurd h_ (nI_ge (b := 48) hj (by decide))) (fun _ => ?_)
      refine g_aload_n dX11_text_143 rfl rfl rfl ?_
      refine g_getR dX11_text_144 ff_X11_55 rfl (k100 hL2) (r100_24 hL2) rfl ?_
      refine g_bipush (v := 48) dX11_text_147 (by decide) rfl ?_
      refine g_aload_n dX11_text_149 rfl rfl rfl ?_
      refine g_getI dX11_text_150 ff_X11_280 rfl (k100 hL2) rfl ?_
      rw [a30, show (48 : Int32) = nI 48 from rfl]
      refine g_imul dX11_text_153 rfl ?_
      rw [pk_mul]
      refine g_iload_n dX11_text_154 rfl rfl rfl ?_
      refine g_iadd dX11_text_155 rfl ?_
      rw [nI_add]
      refine g_aload_n dX11_text_156 rfl rfl rfl ?_
      refine g_getR dX11_text_157 ff_X11_55 rfl (k100 hL2) (r100_24 hL2) rfl ?_
      refine g_sipush (v := 192) dX11_text_160 (by decide) rfl ?_
      refine g_iload_n dX11_text_163 rfl rfl rfl ?_
      refine g_iadd dX11_text_164 rfl ?_
      rw [show (192 : Int32) = nI 192 from rfl, nI_add]
      refine g_iald (i := (192 + j)) dX11_text_165 (k111 hL2) (l111 hL2) (nI_toInt (by omega)) (by omega) rfl ?_
      rw [v2 (192 + j) (Or.inr (by omega))]
      refine g_iast (i := (48 * n + j)) dX11_text_166 (k111 hL2) (l111 hL2) (nI_toInt (by omega)) (by omega) rfl ?_
      refine g_iincV (c := 1) dX11_text_167 rfl (by decide) (by decide) rfl ?_
      refine g_goto (tgt := 137) dX11_text_170 (by decide) ?_
      refine g_go (ih _ ⟨z2.tr ((kFr.wc (S := scW2) (Or.inl rfl) (by decide)).z scW26 scW24), by rw [gmi_In _ _ _ (by decide)]; exact a6, by rw [gmi_In _ _ _ (by decide)]; exact a30, by rw [gmi_In _ _ _ (by decide)]; exact a112, fun k hk => ?_, fun q hq => by rw [gmi_I, va_up_ne _ _ (by omega)]; exact v2 q hq⟩) ⟨rfl, rfl, by rw [← nI_1 j]; rfl, trivial⟩
      rw [gmi_I]
      by_cases e : k = j
      · subst e; rw [va_up_self]
      · rw [va_up_ne _ _ (by omega)]; exact v1 k (by omega)
  · have hlv : ¬ fl2 T L = -1 := fun z => hok ((fl2_ok h240).mp z)
    rw [if_neg hok]
    refine g_iconst (v := -1) dX11_text_48 (by decide) rfl ?_
    refine g_icmp_eq (tgt := 54) dX11_text_49 (by decide) rfl (fun h_ => absurd h_ (hlv)) (fun _ => ?_)
    refine g_iconst (v := -1) dX11_text_52 (by decide) rfl ?_
    exact g_iret dX11_text_53 rfl (by first | rfl | exact b01 | exact nb01 hv01) (⟨rfl, fun _ => ⟨hz1, hs2⟩, fun z => absurd z hok⟩)
end H29
