/-! the class's cells (in Mc) and the reference's (in M) -/
def RTn (Mc M : gM) : Prop := gmi M 100 26 = gmi Mc 3 7 ∧ gmi M 100 27 = gmi Mc 3 8 ∧ (∀ p, p < tv Mc 3 7 → gmi M 107 (3 * p) = gmi Mc 4 p ∧ gmi M 107 (3 * p + 1) = gmi Mc 5 p ∧ gmi M 107 (3 * p + 2) = gmi Mc 6 p) ∧ (∀ e, e < tv Mc 3 8 → gmi M 109 (3 * e) = gmi Mc 7 e ∧ gmi M 109 (3 * e + 1) = gmi Mc 8 e ∧ gmi M 109 (3 * e + 2) = gmi Mc 9 e) ∧ gmi M 105 0 = gmi Mc 3 9 ∧ gmi M 105 1 = gmi Mc 3 10
/-- where the class keeps what the reference keeps at k -/
def cix (k : Nat) : Nat := if k < 60 then (if k % 10 = 0 then k / 10 else if k % 10 = 1 then 6 + k / 10 else 12 + k / 10 * 8 + (k % 10 - 2)) else if k = 60 then 60 else if k = 66 then 61 else k + 1
def RowR (M : gM) (w : Nat) (F : Nat → Int32) : Prop := ∀ k, k < 67 → gmi M w k = F (cix k)
def R0 (Mc M : gM) (n : Nat) (E : Nat → LE) (EV : EVt) : Prop := RQ M n E EV ∧ TownOK Mc ∧ RTn Mc M
theorem cix_inj : ∀ i, i < 67 → ∀ k, k < 67 → cix i = cix k → i = k := by decide +kernel
section G2
variable {X : gX} {Mc M : gM} {d n : Nat} {E : Nat → LE} {EV : EVt}
theorem RTn.fr {M2 : gM} (h : RTn Mc M) (hf : qFr M M2) : RTn Mc M2 := by
  unfold RTn
  rw [hf.2.2.2.2.2 26 (by decide) (by decide), hf.2.2.2.2.2 27 (by decide) (by decide), hf.2.2.2.2.1 107 (by decide) (by decide) (by decide), hf.2.2.2.2.1 109 (by decide) (by decide) (by decide), hf.2.2.2.2.1 105 (by decide) (by decide) (by decide)]
  exact h
theorem R0.fr {M2 : gM} (h : R0 Mc M n E EV) (hf : qFr M M2) (hq : RQ M2 n E EV) : R0 Mc M2 n E EV := ⟨hq, h.2.1, h.2.2.fr hf⟩
theorem RowR.fr {M2 : gM} {w : Nat} {F : Nat → Int32} (h : RowR M w F) (hf : qFr M M2) (hw : w = 113 ∨ w = 114) : RowR M2 w F := fun k hk => by rw [hf.2.2.2.2.1 w (by omega) (by omega) (by omega)]; exact h k hk
theorem RowR.up {w i : Nat} {F : Nat → Int32} {v : Int32} (h : RowR M w F) (hi : i < 67) : RowR (gwI M w i v) w (va_up F (cix i) v) := fun k hk => by
  rw [gmi_I]
  by_cases e : k = i
  · rw [e, va_up_self, va_up_self]
  · rw [va_up_ne _ _ e, va_up_ne _ _ (fun q => e (cix_inj k hk i hi q))]; exact h k hk
theorem cix_b : ∀ p, p < 6 → cix (10 * p) = p := by decide +kernel
theorem cix_s : ∀ p, p < 6 → cix (10 * p + 1) = 6 + p := by decide +kernel
theorem cix_l : ∀ p, p < 6 → ∀ e, e < 8 → cix (10 * p + 2 + e) = 12 + p * 8 + e := by decide +kernel
theorem wlay {w : Nat} (hL : gLay M) (hw : w = 113 ∨ w = 114) : gkd M w = 32 ∧ gln M w = 248 := by
  rcases hw with rfl | rfl
  · exact ⟨k113 hL, l113 hL⟩
  · exact ⟨k114 hL, l114 hL⟩
theorem r_isIn (hx : gXok X) {a lo hi : Int64} {x l h : Int32} (ha : a = x.toInt64) (hl : lo = l.toInt64) (hh : hi = h.toInt64) : gDet X (d + 0) yX11_isIn cX11_isIn 6 (some .boolean) [.long a, .long lo, .long hi] M (some (.int (ib (l ≤ x ∧ x ≤ h)))) M := by
  subst ha hl hh
  refine gMet.of hx (by decide) (Nat.le_of_ble_eq_true rfl) ?_
  have e1 := (lg_lt x.toInt64 l.toInt64).trans (i64_lt x l)
  have e2 := (lg_gt x.toInt64 h.toInt64).trans (i64_lt h x)
  refine g_lload_n dX11_isIn_0 rfl rfl rfl ?_
  refine g_lload_n dX11_isIn_1 rfl rfl rfl ?_
  refine g_lcmp dX11_isIn_2 rfl ?_
  refine g_if_lt (tgt := 17) dX11_isIn_3 (by decide) rfl (fun h3 => ?_) (fun h3 => ?_)
  · refine g_iconst (v := 0) dX11_isIn_17 (by decide) rfl ?_
    exact g_iret dX11_isIn_18 rfl (by first | rfl | exact b01 | exact nb01 hv01) (⟨by first | rw [ib_f (fun q => Int32.not_lt.mpr q.1 (e1.mp h3))] | rw [ib_f (fun q => Int32.not_lt.mpr q.2 (e2.mp h10))] | rw [ib_t ⟨Int32.not_lt.mp (fun q => h3 (e1.mpr q)), Int32.not_lt.mp (fun q => h10 (e2.mpr q))⟩], rfl⟩)
  · refine g_lload_n dX11_isIn_6 rfl rfl rfl ?_
    refine g_lload dX11_isIn_7 rfl rfl ?_
    refine g_lcmp dX11_isIn_9 rfl ?_
    refine g_if_gt (tgt := 17) dX11_isIn_10 (by decide) rfl (fun h10 => ?_) (fun h10 => ?_)
    · refine g_iconst (v := 0) dX11_isIn_17 (by decide) rfl ?_
      exact g_iret dX11_isIn_18 rfl (by first | rfl | exact b01 | exact nb01 hv01) (⟨by first | rw [ib_f (fun q => Int32.not_lt.mpr q.1 (e1.mp h3))] | rw [ib_f (fun q => Int32.not_lt.mpr q.2 (e2.mp h10))] | rw [ib_t ⟨Int32.not_lt.mp (fun q => h3 (e1.mpr q)), Int32.not_lt.mp (fun q => h10 (e2.mpr q))⟩], rfl⟩)
    · refine g_iconst (v := 1) dX11_isIn_13 (by decide) rfl ?_
      refine g_goto (tgt := 18) dX11_isIn_14 (by decide) ?_
      exact g_iret dX11_isIn_18 rfl (by first | rfl | exact b01 | exact nb01 hv01) (⟨by first | rw [ib_f (fun q => Int32.not_lt.mpr q.1 (e1.mp h3))] | rw [ib_f (fun q => Int32.not_lt.mpr q.2 (e2.mp h10))] | rw [ib_t ⟨Int32.not_lt.mp (fun q => h3 (e1.mpr q)), Int32.not_lt.mp (fun q => h10 (e2.mpr q))⟩], rfl⟩)
theorem r_has (hx : gXok X) {b k : Nat} (hb : b < 2 ^ 31) (hk : k < 32) : gDet X (d + 0) yX11_has cX11_has 2 (some .boolean) [.int (nI b), .int (nI k)] M (some (.int (ib (b.testBit k = true)))) M := by
  refine gMet.of hx (by decide) (Nat.le_of_ble_eq_true rfl) ?_
  have e := bt_is1 hb hk
  refine g_iload_n dX11_has_0 rfl rfl rfl ?_
  refine g_iload_n dX11_has_1 rfl rfl rfl ?_
  refine g_ishr dX11_has_2 rfl ?_
  refine g_iconst (v := 1) dX11_has_3 (by decide) rfl ?_
  refine g_iand dX11_has_4 rfl ?_
  refine g_iconst (v := 1) dX11_has_5 (by decide) rfl ?_
  refine g_icmp_ne (tgt := 13) dX11_has_6 (by decide) rfl (fun h6 => ?_) (fun h6 => ?_)
  · refine g_iconst (v := 0) dX11_has_13 (by decide) rfl ?_
    exact g_iret dX11_has_14 rfl (by first | rfl | exact b01 | exact nb01 hv01) (⟨by first | rw [ib_t (e.mp h6)] | rw [ib_f (fun q => h6 (e.mpr q))], rfl⟩)
  · refine g_iconst (v := 1) dX11_has_9 (by decide) rfl ?_
    refine g_goto (tgt := 14) dX11_has_10 (by decide) ?_
    exact g_iret dX11_has_14 rfl (by first | rfl | exact b01 | exact nb01 hv01) (⟨by first | rw [ib_t (e.mp h6)] | rw [ib_f (fun q => h6 (e.mpr q))], rfl⟩)
theorem r_isPerson (hx : gXok X) (hL : gLay M) {x : Int32} : gDet X (d + 0) yX11_isPerson cX11_isPerson 2 (some .boolean) [.ref 100, .int x] M (some (.int (ib (¬ x < 0 ∧ x < gmi M 100 26)))) M := by
  refine gMet.of hx (by decide) (Nat.le_of_ble_eq_true rfl) ?_
  refine g_iload_n dX11_isPerson_0 rfl rfl rfl ?_
  refine g_if_lt (tgt := 16) dX11_isPerson_1 (by decide) rfl (fun h1 => ?_) (fun h1 => ?_)
  · have hr : ¬ (¬ x < 0 ∧ x < gmi M 100 26) := by first | exact fun q => q.1 h1 | exact fun q => Int32.not_lt.mpr h9 q.2
    refine g_iconst (v := 0) dX11_isPerson_16 (by decide) rfl ?_
    exact g_iret dX11_isPerson_17 rfl (by first | rfl | exact b01 | exact nb01 hv01) (⟨by first | rw [ib_t hr] | rw [ib_f hr], rfl⟩)
  · refine g_iload_n dX11_isPerson_4 rfl rfl rfl ?_
    refine g_aload_n dX11_isPerson_5 rfl rfl rfl ?_
    refine g_getI dX11_isPerson_6 ff_X11_285 rfl (k100 hL) rfl ?_
    refine g_icmp_ge (tgt := 16) dX11_isPerson_9 (by decide) rfl (fun h9 => ?_) (fun h9 => ?_)
    · have hr : ¬ (¬ x < 0 ∧ x < gmi M 100 26) := by first | exact fun q => q.1 h1 | exact fun q => Int32.not_lt.mpr h9 q.2
      refine g_iconst (v := 0) dX11_isPerson_16 (by decide) rfl ?_
      exact g_iret dX11_isPerson_17 rfl (by first | rfl | exact b01 | exact nb01 hv01) (⟨by first | rw [ib_t hr] | rw [ib_f hr], rfl⟩)
    · have hr : (¬ x < 0 ∧ x < gmi M 100 26) := ⟨h1, Int32.not_le.mp h9⟩
      refine g_iconst (v := 1) dX11_isPerson_12 (by decide) rfl ?_
      refine g_goto (tgt := 17) dX11_isPerson_13 (by decide) ?_
      exact g_iret dX11_isPerson_17 rfl (by first | rfl | exact b01 | exact nb01 hv01) (⟨by first | rw [ib_t hr] | rw [ib_f hr], rfl⟩)
theorem r_isDeed (hx : gXok X) (hL : gLay M) {x : Int32} : gDet X (d + 0) yX11_isDeed cX11_isDeed 2 (some .boolean) [.ref 100, .int x] M (some (.int (ib (¬ x < 0 ∧ x < gmi M 100 27)))) M := by
  refine gMet.of hx (by decide) (Nat.le_of_ble_eq_true rfl) ?_
  refine g_iload_n dX11_isDeed_0 rfl rfl rfl ?_
  refine g_if_lt (tgt := 16) dX11_isDeed_1 (by decide) rfl (fun h1 => ?_) (fun h1 => ?_)
  · have hr : ¬ (¬ x < 0 ∧ x < gmi M 100 27) := by first | exact fun q => q.1 h1 | exact fun q => Int32.not_lt.mpr h9 q.2
    refine g_iconst (v := 0) dX11_isDeed_16 (by decide) rfl ?_
    exact g_iret dX11_isDeed_17 rfl (by first | rfl | exact b01 | exact nb01 hv01) (⟨by first | rw [ib_t hr] | rw [ib_f hr], rfl⟩)
  · refine g_iload_n dX11_isDeed_4 rfl rfl rfl ?_
    refine g_aload_n dX11_isDeed_5 rfl rfl rfl ?_
    refine g_getI dX11_isDeed_6 ff_X11_288 rfl (k100 hL) rfl ?_
    refine g_icmp_ge (tgt := 16) dX11_isDeed_9 (by decide) rfl (fun h9 => ?_) (fun h9 => ?_)
    · have hr : ¬ (¬ x < 0 ∧ x < gmi M 100 27) := by first | exact fun q => q.1 h1 | exact fun q => Int32.not_lt.mpr h9 q.2
      refine g_iconst (v := 0) dX11_isDeed_16 (by decide) rfl ?_
      exact g_iret dX11_isDeed_17 rfl (by first | rfl | exact b01 | exact nb01 hv01) (⟨by first | rw [ib_t hr] | rw [ib_f hr], rfl⟩)
    · have hr : (¬ x < 0 ∧ x < gmi M 100 27) := ⟨h1, Int32.not_le.mp h9⟩
      refine g_iconst (v := 1) dX11_isDeed_12 (by decide) rfl ?_
      refine g_goto (tgt := 17) dX11_isDeed_13 (by decide) ?_
      exact g_iret dX11_isDeed_17 rfl (by first | rfl | exact b01 | exact nb01 hv01) (⟨by first | rw [ib_t hr] | rw [ib_f hr], rfl⟩)
theorem r_left0 (hx : gXok X) (hL : gLay M) {w p e : Nat} (hw : w = 113 ∨ w = 114) {F : Nat → Int32} (hR : RowR M w F) (hp : p < 6) (he : e < 8) : gDet X (d + 0) yX11_left0 cX11_left0 3 (some .int) [.ref w, .int (nI p), .int (nI e)] M (some (.int (F (12 + p * 8 + e)))) M := by
  obtain ⟨k_w, l_w⟩ := wlay hL hw
  refine gMet.of hx (by decide) (Nat.le_of_ble_eq_true rfl) ?_
  refine g_aload_n dX11_left0_0 rfl rfl rfl ?_
  refine g_bipush (v := 10) dX11_left0_1 (by decide) rfl ?_
  refine g_iload_n dX11_left0_3 rfl rfl rfl ?_
  refine g_imul dX11_left0_4 rfl ?_
  refine g_iconst (v := 2) dX11_left0_5 (by decide) rfl ?_
  refine g_iadd dX11_left0_6 rfl ?_
  refine g_iload_n dX11_left0_7 rfl rfl rfl ?_
  refine g_iadd dX11_left0_8 rfl ?_
  rw [show (10 : Int32) = nI 10 from rfl, show (2 : Int32) = nI 2 from rfl, pk_mul, nI_add, nI_add]
  refine g_iald (i := (10 * p + 2 + e)) dX11_left0_9 (k_w) (l_w) (nI_toInt (by omega)) (by omega) rfl ?_
  rw [hR _ (by omega), cix_l p hp e he]
  exact g_iret dX11_left0_10 rfl (by first | rfl | exact b01 | exact nb01 hv01) (⟨by first | rfl | assumption | exact gFr.rf | grind [ib], by first | rfl | assumption | exact gFr.rf | grind [ib]⟩)
set_option maxRecDepth 20000 in
theorem r_setOf (hx : gXok X) (h0 : R0 Mc M n E EV) {w p : Nat} (hw : w = 113 ∨ w = 114) {F : Nat → Int32} (hR : RowR M w F) (hF : LeftF F) (hp : p < 6) : gDet X (d + 1) yX11_setOf cX11_setOf 5 (some .int) [.ref 100, .ref w, .int (nI p)] M (some (.int (nI (dsF F (tv Mc 3 8) p 0)))) M := by
  have hL := h0.1.1
  have hD := h0.2.1.2.1
  have h8 := hD.2
  have e27 : gmi M 100 27 = nI (tv Mc 3 8) := h0.2.2.2.1.trans hD.1
  refine gMet.of hx (by decide) (Nat.le_of_ble_eq_true rfl) ?_
  unfold dsF
  refine g_iconst (v := 0) dX11_setOf_0 (by decide) rfl ?_
  refine g_istore_n dX11_setOf_1 rfl (by decide) rfl ?_
  refine g_iconst (v := 0) dX11_setOf_2 (by decide) rfl ?_
  refine g_istore dX11_setOf_3 (by decide) rfl ?_
  refine g_loop (fun i => [(0, .ref 100), (1, .ref w), (2, .int (nI p)), (3, .int (nI (bsum (fun e => decide (0 < tn (F (12 + p * 8 + e)))) i))), (4, .int (nI i))]) (fun _ => M) (tv Mc 3 8) 0 (by omega) ⟨rfl, rfl, rfl, rfl, rfl, trivial⟩ rfl ?_ (fun i _ hi ih => ?_)
  · refine g_iload dX11_setOf_5 rfl rfl ?_
    refine g_aload_n dX11_setOf_7 rfl rfl rfl ?_
    refine g_getI dX11_setOf_8 ff_X11_288 rfl (k100 hL) rfl ?_
    rw [e27]
    refine g_icmp_ge (tgt := 41) dX11_setOf_11 (by decide) rfl (fun _ => ?_) (fun h_ => absurd (nI_le (Nat.le_refl _) (by omega)) h_)
    refine g_iload_n dX11_setOf_41 rfl rfl rfl ?_
    exact g_iret dX11_setOf_42 rfl (by first | rfl | exact b01 | exact nb01 hv01) (⟨by first | rfl | assumption | exact gFr.rf | grind [ib], by first | rfl | assumption | exact gFr.rf | grind [ib]⟩)
  · obtain ⟨v, hv, hv9⟩ := hF (12 + p * 8 + i) (by omega) (by omega)
    have hlt := bsum_lt (fun e => decide (0 < tn (F (12 + p * 8 + e)))) i
    have htn : tn (F (12 + p * 8 + i)) = v := by rw [hv]; exact tn_nI (by omega)
    refine g_iload dX11_setOf_5 rfl rfl ?_
    refine g_aload_n dX11_setOf_7 rfl rfl rfl ?_
    refine g_getI dX11_setOf_8 ff_X11_288 rfl (k100 hL) rfl ?_
    rw [e27]
    refine g_icmp_ge (tgt := 41) dX11_setOf_11 (by decide) rfl (fun h_ => absurd h_ (nI_ge hi (by omega))) (fun _ => ?_)
    refine g_iload_n dX11_setOf_14 rfl rfl rfl ?_
    refine g_aload_n dX11_setOf_15 rfl rfl rfl ?_
    refine g_iload_n dX11_setOf_16 rfl rfl rfl ?_
    refine g_iload dX11_setOf_17 rfl rfl ?_
    refine g_callSdi dX11_setOf_19 lm_X11_300 mv_X11_left0 (r_left0 (d := d) hx hL hw hR hp (show i < 8 by omega)) rfl rfl (Nat.le_of_ble_eq_true rfl) (gFit_room (by omega)) rfl ?_
    rw [hv]
    refine g_if_le (tgt := 32) dX11_setOf_22 (by decide) rfl (fun h22 => ?_) (fun h22 => ?_)
    · refine g_iconst (v := 0) dX11_setOf_32 (by decide) rfl ?_
      refine g_ior dX11_setOf_33 rfl ?_
      refine g_istore_n dX11_setOf_34 rfl (by decide) rfl ?_
      refine g_iincV (c := 1) dX11_setOf_35 rfl (by decide) (by decide) rfl ?_
      refine g_goto (tgt := 5) dX11_setOf_38 (by decide) ?_
      refine g_go ih ⟨rfl, rfl, rfl, ?_, by rw [← nI_1]; rfl, trivial⟩
      first
        | (show some (Value.int (nI (bsum (fun e => decide (0 < tn (F (12 + p * 8 + e)))) i) ||| ((1 : Int32) <<< (nI i &&& 31)))) = some (Value.int (nI (bsum (fun e => decide (0 < tn (F (12 + p * 8 + e)))) i + (if decide (0 < tn (F (12 + p * 8 + i))) then 2 ^ i else 0))))
           rw [bt_or hlt (by omega), htn, decide_eq_true (Nat.pos_of_ne_zero (fun q => h22 (by rw [q]; decide)))]
           rfl)
        | (show some (Value.int (nI (bsum (fun e => decide (0 < tn (F (12 + p * 8 + e)))) i) ||| 0)) = some (Value.int (nI (bsum (fun e => decide (0 < tn (F (12 + p * 8 + e)))) i + (if decide (0 < tn (F (12 + p * 8 + i))) then 2 ^ i else 0))))
           have hz : v = 0 := Nat.eq_zero_of_not_pos (fun q => nI_nle q (by omega) h22)
           rw [htn, hz, show (0 : Int32) = nI 0 from rfl, fa_or, Nat.or_zero]
           rfl)
    · refine g_iconst (v := 1) dX11_setOf_25 (by decide) rfl ?_
      refine g_iload dX11_setOf_26 rfl rfl ?_
      refine g_ishl dX11_setOf_28 rfl ?_
      refine g_goto (tgt := 33) dX11_setOf_29 (by decide) ?_
      refine g_ior dX11_setOf_33 rfl ?_
      refine g_istore_n dX11_setOf_34 rfl (by decide) rfl ?_
      refine g_iincV (c := 1) dX11_setOf_35 rfl (by decide) (by decide) rfl ?_
      refine g_goto (tgt := 5) dX11_setOf_38 (by decide) ?_
      refine g_go ih ⟨rfl, rfl, rfl, ?_, by rw [← nI_1]; rfl, trivial⟩
      first
        | (show some (Value.int (nI (bsum (fun e => decide (0 < tn (F (12 + p * 8 + e)))) i) ||| ((1 : Int32) <<< (nI i &&& 31)))) = some (Value.int (nI (bsum (fun e => decide (0 < tn (F (12 + p * 8 + e)))) i + (if decide (0 < tn (F (12 + p * 8 + i))) then 2 ^ i else 0))))
           rw [bt_or hlt (by omega), htn, decide_eq_true (Nat.pos_of_ne_zero (fun q => h22 (by rw [q]; decide)))]
           rfl)
        | (show some (Value.int (nI (bsum (fun e => decide (0 < tn (F (12 + p * 8 + e)))) i) ||| 0)) = some (Value.int (nI (bsum (fun e => decide (0 < tn (F (12 + p * 8 + e)))) i + (if decide (0 < tn (F (12 + p * 8 + i))) then 2 ^ i else 0))))
           have hz : v = 0 := Nat.eq_zero_of_not_pos (fun q => nI_nle q (by omega) h22)
           rw [htn, hz, show (0 : Int32) = nI 0 from rfl, fa_or, Nat.or_zero]
           rfl)
set_option maxRecDepth 20000 in
theorem r_sumOf (hx : gXok X) (h0 : R0 Mc M n E EV) {b c z : Nat} (hb : b < 256) (hc : c = 7 ∧ z = 0 ∨ c = 8 ∧ z = 1) : gDet X (d + 1) yX11_sumOf cX11_sumOf 5 (some .int) [.ref 100, .int (nI b), .int (nI z)] M (some (.int (nI (ssum b (tv Mc c) (tv Mc 3 8))))) M := by
  have hL := h0.1.1
  have hD := h0.2.1.2.1
  have h8 := hD.2
  have e27 : gmi M 100 27 = nI (tv Mc 3 8) := h0.2.2.2.1.trans hD.1
  refine gMet.of hx (by decide) (Nat.le_of_ble_eq_true rfl) ?_
  have hz : z ≤ 1 := by omega
  have hv : ∀ i, i < tv Mc 3 8 → gmi M 109 (3 * i + z) = nI (tv Mc c i) ∧ tv Mc c i ≤ 9 := by
    intro i hi
    have hq := h0.2.2.2.2.2.1 i hi
    rcases hc with ⟨rfl, rfl⟩ | ⟨rfl, rfl⟩
    · have := h0.2.1.2.2.1 i (by omega)
      exact ⟨hq.1.trans this.1, this.2⟩
    · have := h0.2.1.2.2.2.1 i (by omega)
      exact ⟨hq.2.1.trans this.1, this.2⟩
  refine g_iconst (v := 0) dX11_sumOf_0 (by decide) rfl ?_
  refine g_istore_n dX11_sumOf_1 rfl (by decide) rfl ?_
  refine g_iconst (v := 0) dX11_sumOf_2 (by decide) rfl ?_
  refine g_istore dX11_sumOf_3 (by decide) rfl ?_
  refine g_loop (fun i => [(0, .ref 100), (1, .int (nI b)), (2, .int (nI z)), (3, .int (nI (ssum b (tv Mc c) i))), (4, .int (nI i))]) (fun _ => M) (tv Mc 3 8) 0 (by omega) ⟨rfl, rfl, rfl, rfl, rfl, trivial⟩ rfl ?_ (fun i _ hi ih => ?_)
  · refine g_iload dX11_sumOf_5 rfl rfl ?_
    refine g_aload_n dX11_sumOf_7 rfl rfl rfl ?_
    refine g_getI dX11_sumOf_8 ff_X11_288 rfl (k100 hL) rfl ?_
    rw [e27]
    refine g_icmp_ge (tgt := 47) dX11_sumOf_11 (by decide) rfl (fun _ => ?_) (fun h_ => absurd (nI_le (Nat.le_refl _) (by omega)) h_)
    refine g_iload_n dX11_sumOf_47 rfl rfl rfl ?_
    exact g_iret dX11_sumOf_48 rfl (by first | rfl | exact b01 | exact nb01 hv01) (⟨by first | rfl | assumption | exact gFr.rf | grind [ib], by first | rfl | assumption | exact gFr.rf | grind [ib]⟩)
  · obtain ⟨hv1, hv2⟩ := hv i hi
    have es : ssum b (tv Mc c) (i + 1) = ssum b (tv Mc c) i + (if b.testBit i then tv Mc c i else 0) := rfl
    refine g_iload dX11_sumOf_5 rfl rfl ?_
    refine g_aload_n dX11_sumOf_7 rfl rfl rfl ?_
    refine g_getI dX11_sumOf_8 ff_X11_288 rfl (k100 hL) rfl ?_
    rw [e27]
    refine g_icmp_ge (tgt := 47) dX11_sumOf_11 (by decide) rfl (fun h_ => absurd h_ (nI_ge hi (by omega))) (fun _ => ?_)
    refine g_iload_n dX11_sumOf_14 rfl rfl rfl ?_
    refine g_iload_n dX11_sumOf_15 rfl rfl rfl ?_
    refine g_iload dX11_sumOf_16 rfl rfl ?_
    refine g_callSdi dX11_sumOf_18 lm_X11_223 mv_X11_has (r_has (d := d) hx (show b < 2 ^ 31 by omega) (show i < 32 by omega)) rfl rfl (Nat.le_of_ble_eq_true rfl) (gFit_room (by omega)) rfl ?_
    refine g_ieq (tgt := 38) dX11_sumOf_21 (by decide) rfl (fun h21 => ?_) (fun h21 => ?_)
    · refine g_iconst (v := 0) dX11_sumOf_38 (by decide) rfl ?_
      refine g_iadd dX11_sumOf_39 rfl ?_
      refine g_istore_n dX11_sumOf_40 rfl (by decide) rfl ?_
      refine g_iincV (c := 1) dX11_sumOf_41 rfl (by decide) (by decide) rfl ?_
      refine g_goto (tgt := 5) dX11_sumOf_44 (by decide) ?_
      refine g_go ih ⟨rfl, rfl, rfl, ?_, by rw [← nI_1]; rfl, trivial⟩
      first
        | (show some (Value.int (nI (ssum b (tv Mc c) i) + nI (tv Mc c i))) = _
           rw [nI_add, es, if_pos h21])
        | (show some (Value.int (nI (ssum b (tv Mc c) i) + 0)) = _
           rw [Int32.add_zero, es, if_neg h21]; rfl)
    · refine g_aload_n dX11_sumOf_24 rfl rfl rfl ?_
      refine g_getR dX11_sumOf_25 ff_X11_49 rfl (k100 hL) (r100_22 hL) rfl ?_
      refine g_iconst (v := 3) dX11_sumOf_28 (by decide) rfl ?_
      refine g_iload dX11_sumOf_29 rfl rfl ?_
      refine g_imul dX11_sumOf_31 rfl ?_
      refine g_iload_n dX11_sumOf_32 rfl rfl rfl ?_
      refine g_iadd dX11_sumOf_33 rfl ?_
      rw [show (3 : Int32) = nI 3 from rfl, pk_mul, nI_add]
      refine g_iald (i := (3 * i + z)) dX11_sumOf_34 (k109 hL) (l109 hL) (nI_toInt (by omega)) (by omega) rfl ?_
      rw [hv1]
      refine g_goto (tgt := 39) dX11_sumOf_35 (by decide) ?_
      refine g_iadd dX11_sumOf_39 rfl ?_
      refine g_istore_n dX11_sumOf_40 rfl (by decide) rfl ?_
      refine g_iincV (c := 1) dX11_sumOf_41 rfl (by decide) (by decide) rfl ?_
      refine g_goto (tgt := 5) dX11_sumOf_44 (by decide) ?_
      refine g_go ih ⟨rfl, rfl, rfl, ?_, by rw [← nI_1]; rfl, trivial⟩
      first
        | (show some (Value.int (nI (ssum b (tv Mc c) i) + nI (tv Mc c i))) = _
           rw [nI_add, es, if_pos h21])
        | (show some (Value.int (nI (ssum b (tv Mc c) i) + 0)) = _
           rw [Int32.add_zero, es, if_neg h21]; rfl)
end G2
