section H22
variable {X : gX} {M : gM} {d : Nat}
theorem shv_s : ∀ i, i < 4 → ((shv i &&& 31).toBitVec.smod 32).toNat = 24 - 8 * i := by decide
theorem ti_nat (x : Int32) : x.toInt = (x.toBitVec.toNat : Int) ∨ x.toInt = (x.toBitVec.toNat : Int) - 4294967296 := by
  have h := BitVec.toInt_eq_toNat_cond x.toBitVec
  rw [Int32.toInt_toBitVec] at h
  split at h
  · exact Or.inl h
  · exact Or.inr h
theorem wb_s (w : Int32) {i : Nat} (hi : i < 4) : w >>> (shv i &&& 31) &&& 255 = nI (wb w (24 - 8 * i)) := by
  rw [pk_and _ (m := 255) 8 (by decide)]
  have h := pk_shr w (shv i &&& 31) _ (shv_s i hi)
  rw [Int.shiftRight_eq_div_pow] at h
  congr 1
  unfold wb
  have a := ti_nat w
  have b := ti_nat (w >>> (shv i &&& 31))
  generalize (w >>> (shv i &&& 31)).toBitVec.toNat = p at *
  generalize (w >>> (shv i &&& 31)).toInt = q at *
  generalize w.toBitVec.toNat = n at *
  generalize w.toInt = m at *
  match i, hi with
  | 0, _ => omega
  | 1, _ => omega
  | 2, _ => omega
  | 3, _ => omega
theorem wb_b (w : Int32) {i : Nat} (hi : i < 4) : (w >>> (shv i &&& 31)).toInt8.toInt32 = (nI (wb w (24 - 8 * i))).toInt8.toInt32 := by rw [← wb_s w hi, fa_byte_low]
set_option maxRecDepth 20000 in
theorem r_bytesIn (hx : gXok X) {w : Int32} : gDet X (d + 0) yX11_bytesIn cX11_bytesIn 3 (some .int) [.int w] M (some (.int (nI (nb w 4)))) M := by
  refine gMet.of hx (by decide) (Nat.le_of_ble_eq_true rfl) ?_
  refine g_iconst (v := 0) dX11_bytesIn_0 (by decide) rfl ?_
  refine g_istore_n dX11_bytesIn_1 rfl (by decide) rfl ?_
  refine g_bipush (v := 24) dX11_bytesIn_2 (by decide) rfl ?_
  refine g_istore_n dX11_bytesIn_4 rfl (by decide) rfl ?_
  refine g_loop (fun i => [(0, .int w), (1, .int (nI (nb w i))), (2, .int (shv i))]) (fun _ => M) 4 0 (Nat.zero_le _) ⟨rfl, rfl, rfl, trivial⟩ rfl ?_ (fun i _ hi ih => ?_)
  · refine g_iload_n dX11_bytesIn_5 rfl rfl rfl ?_
    refine g_if_lt (tgt := 33) dX11_bytesIn_6 (by decide) rfl (fun _ => ?_) (fun h_ => absurd (by decide) h_)
    refine g_iload_n dX11_bytesIn_33 rfl rfl rfl ?_
    exact g_iret dX11_bytesIn_34 rfl (by first | rfl | exact b01 | exact nb01 hv01) (⟨by first | rfl | assumption | exact gFr.rf | grind [ib], by first | rfl | assumption | exact gFr.rf | grind [ib]⟩)
  · have hsh := shv_ok i hi
    have e1 : ∀ b, decide (wb w (24 - 8 * i) ≠ 0) = b → nb w (i + 1) = nb w i + (if b then 1 else 0) := fun b hb => by rw [← hb]; rfl
    have hw := wb_lt w (24 - 8 * i)
    refine g_iload_n dX11_bytesIn_5 rfl rfl rfl ?_
    refine g_if_lt (tgt := 33) dX11_bytesIn_6 (by decide) rfl (fun h_ => absurd h_ (hsh.2.1)) (fun _ => ?_)
    refine g_iload_n dX11_bytesIn_9 rfl rfl rfl ?_
    refine g_iload_n dX11_bytesIn_10 rfl rfl rfl ?_
    refine g_iload_n dX11_bytesIn_11 rfl rfl rfl ?_
    refine g_ishr dX11_bytesIn_12 rfl ?_
    refine g_sipush (v := 255) dX11_bytesIn_13 (by decide) rfl ?_
    refine g_iand dX11_bytesIn_16 rfl ?_
    rw [wb_s w hi]
    refine g_if_eq (tgt := 24) dX11_bytesIn_17 (by decide) rfl (fun h17 => ?_) (fun h17 => ?_)
    · have e := e1 false (decide_eq_false (fun q => q ((qeq _ 0 rfl rfl (by omega) (by omega)).mp h17)))
      refine g_iconst (v := 0) dX11_bytesIn_24 (by decide) rfl ?_
      refine g_iadd dX11_bytesIn_25 rfl ?_
      rw [Int32.add_zero]
      refine g_istore_n dX11_bytesIn_26 rfl (by decide) rfl ?_
      refine g_iincV (c := -8) dX11_bytesIn_27 rfl (by decide) (by decide) rfl ?_
      refine g_goto (tgt := 5) dX11_bytesIn_30 (by decide) ?_
      exact g_go ih ⟨rfl, by rw [e]; rfl, by rw [← hsh.2.2]; rfl, trivial⟩
    · have e := e1 true (decide_eq_true (fun q => h17 (by rw [q]; rfl)))
      refine g_iconst (v := 1) dX11_bytesIn_20 (by decide) rfl ?_
      refine g_goto (tgt := 25) dX11_bytesIn_21 (by decide) ?_
      refine g_iadd dX11_bytesIn_25 rfl ?_
      refine g_istore_n dX11_bytesIn_26 rfl (by decide) rfl ?_
      refine g_iincV (c := -8) dX11_bytesIn_27 rfl (by decide) (by decide) rfl ?_
      refine g_goto (tgt := 5) dX11_bytesIn_30 (by decide) ?_
      exact g_go ih ⟨rfl, by rw [e, if_pos rfl, ← nI_1]; rfl, by rw [← hsh.2.2]; rfl, trivial⟩
/-- the reference's tape -/
def TapeR (M : gM) (T : Nat → Nat) (L : Nat) : Prop := gmi M 100 6 = nI L ∧ L ≤ 240 ∧ ∀ i, i < L → gmi M 101 i = (nI (T i)).toInt8.toInt32 ∧ 0 < T i ∧ T i < 256
def TfR (M M2 : gM) (q : (Nat → Nat) × Nat) : Prop := gFr (fun c => c = 100 ∨ c = 101) M M2 ∧ TapeR M2 q.1 q.2 ∧ ∀ k, k ≠ 6 → k ≠ 0 → gmi M2 100 k = gmi M 100 k
set_option maxRecDepth 20000 in
set_option maxHeartbeats 1000000 in
theorem r_put (hx : gXok X) {w : Int32} {q : (Nat → Nat) × Nat} {M0 : gM} (hL : gLay M) (h : TfR M M0 q) (hr : q.2 + nb w 4 ≤ 240) : gPos X (d + 0) yX11_put cX11_put 3 none [.ref 100, .int w] M0 (fun v M2 => v = none ∧ TfR M M2 (adW w q 4)) := by
  have hL0 := hL
  refine gMet.of hx (by decide) (Nat.le_of_ble_eq_true rfl) ?_
  refine g_bipush (v := 24) dX11_put_0 (by decide) rfl ?_
  refine g_istore_n dX11_put_2 rfl (by decide) rfl ?_
  refine g_loopM (fun i => [(0, .ref 100), (1, .int w), (2, .int (shv i))]) (fun i M1 => TfR M M1 (adW w q i)) 4 0 (Nat.zero_le _) ⟨rfl, rfl, rfl, trivial⟩ h (fun M1 hI => ?_) (fun i M1 _ hi hI ih => ?_)
  · refine g_iload_n dX11_put_3 rfl rfl rfl ?_
    refine g_if_lt (tgt := 49) dX11_put_4 (by decide) rfl (fun _ => ?_) (fun h_ => absurd (by decide) h_)
    exact g_vret dX11_put_49 rfl (⟨by first | rfl | assumption | exact gFr.rf | grind [ib], by first | rfl | assumption | exact gFr.rf | grind [ib]⟩)
  · have hsh := shv_ok i hi
    have hw := wb_lt w (24 - 8 * i)
    have hm := nb_mono w (show i + 1 ≤ 4 by omega)
    have hl := adW_len w q i
    have hl1 := adW_len w q (i + 1)
    have e1 : adW w q (i + 1) = ad1 (adW w q i) (wb w (24 - 8 * i)) := rfl
    unfold ad1 at e1
    have hbb := wb_b w hi
    have hbs := wb_s w hi
    generalize hb : wb w (24 - 8 * i) = b at *
    have hnx : ∀ M2, TfR M M2 (adW w q (i + 1)) → gW X (gRoom (d + 0) 0 0) (gZ X gN0 0 0 (fun v M2 => v = none ∧ TfR M M2 (adW w q 4))) gN0 yX11_put cX11_put 3 none 43 [(0, .ref 100), (1, .int w), (2, .int (shv i))] [] M2 0 0 := by
      intro M2 h2
      refine g_iincV (c := -8) dX11_put_43 rfl (by decide) (by decide) rfl ?_
      refine g_goto (tgt := 3) dX11_put_46 (by decide) ?_
      exact g_go (ih M2 h2) ⟨rfl, rfl, by rw [← hsh.2.2]; rfl, trivial⟩
    have hL1 := hI.1.lay hL0
    refine g_iload_n dX11_put_3 rfl rfl rfl ?_
    refine g_if_lt (tgt := 49) dX11_put_4 (by decide) rfl (fun h_ => absurd h_ (hsh.2.1)) (fun _ => ?_)
    refine g_iload_n dX11_put_7 rfl rfl rfl ?_
    refine g_iload_n dX11_put_8 rfl rfl rfl ?_
    refine g_ishr dX11_put_9 rfl ?_
    refine g_sipush (v := 255) dX11_put_10 (by decide) rfl ?_
    refine g_iand dX11_put_13 rfl ?_
    rw [hbs]
    refine g_if_ne (tgt := 20) dX11_put_14 (by decide) rfl (fun h14 => ?_) (fun h14 => ?_)
    · rw [if_neg (fun z => h14 (by rw [z]; rfl))] at e1
      have hlt : (adW w q i).2 < 240 := by rw [e1] at hl1; dsimp only at hl1; omega
      refine g_aload_n dX11_put_20 rfl rfl rfl ?_
      refine g_getR dX11_put_21 ff_X11_9 rfl (k100 hL1) (r100_1 hL1) rfl ?_
      refine g_aload_n dX11_put_24 rfl rfl rfl ?_
      refine g_getI dX11_put_25 ff_X11_103 rfl (k100 hL1) rfl ?_
      refine g_iload_n dX11_put_28 rfl rfl rfl ?_
      refine g_iload_n dX11_put_29 rfl rfl rfl ?_
      refine g_ishr dX11_put_30 rfl ?_
      refine g_i2b dX11_put_31 rfl ?_
      rw [hI.2.1.1]
      generalize hk : (adW w q i).2 = k at *
      refine g_bast (i := k) dX11_put_32 (k101 hL1) (l101 hL1) (by (try simp only [nI_lit, pk_mul, nI_add, Nat.zero_add]); exact nI_toInt (by omega)) (by omega) rfl ?_
      rw [pk_vb, hbb]
      refine g_aload_n dX11_put_33 rfl rfl rfl ?_
      refine g_dup dX11_put_34 rfl rfl ?_
      refine g_getI dX11_put_35 ff_X11_103 rfl (k100 (gLay_I hL1)) rfl ?_
      refine g_iconst (v := 1) dX11_put_38 (by decide) rfl ?_
      refine g_iadd dX11_put_39 rfl ?_
      rw [gmi_In _ _ _ (show (100 : Nat) ≠ 101 by decide), hI.2.1.1, hk, nI_1]
      refine g_putI dX11_put_40 fp_X11_103 rfl rfl rfl (k100 (gLay_I hL1)) rfl ?_
      refine g_go (hnx _ ⟨(hI.1.tr (gFr.wI (Or.inr rfl))).tr (gFr.wI (Or.inl rfl)), ?_, fun j hj h0 => by rw [gmi_I, va_up_ne _ _ hj, gmi_In _ _ _ (by decide)]; exact hI.2.2 j hj h0⟩) ⟨rfl, rfl, rfl, trivial⟩
      rw [e1]
      refine ⟨by rw [gmi_I, va_up_self], by show k + 1 ≤ 240; omega, fun j hj => ?_⟩
      dsimp only at hj ⊢
      rw [gmi_In _ _ _ (by decide), gmi_I]
      by_cases e : j = k
      · subst e
        rw [va_up_self, va_up_self]
        exact ⟨rfl, Nat.pos_of_ne_zero (fun z => h14 (by rw [z]; rfl)), hw⟩
      · rw [va_up_ne _ _ e, va_up_ne _ _ e]
        exact hI.2.1.2.2 j (by rw [hk]; omega)
    · refine g_goto (tgt := 43) dX11_put_17 (by decide) ?_
      rw [if_pos ((qeq _ 0 rfl rfl (by omega) (by omega)).mp h14)] at e1
      exact g_go (hnx M1 (by rw [e1]; exact hI)) ⟨rfl, rfl, rfl, trivial⟩
set_option maxRecDepth 20000 in
set_option maxHeartbeats 1000000 in
theorem r_feed (hx : gXok X) (hL : gLay M) {T : Nat → Nat} {L : Nat} (hT : TapeR M T L) {a b c e f : Int32} : gPos X (d + 1) yX11_feed cX11_feed 6 (some .int) [.ref 100, .int a, .int b, .int c, .int e, .int f] M (fun v M2 => v = some (.int (if L + feedN a b c e f ≤ 240 then nI (feedQ (T, L) a b c e f).2 else -1)) ∧ (if L + feedN a b c e f ≤ 240 then TfR M M2 (feedQ (T, L) a b c e f) else M2 = gwI M 100 0 0)) := by
  have h240 := hT.2.1
  have hL0 := hL
  have h4 : ∀ w, nb w 4 ≤ 4 := fun w => fb_ct_le _ _
  have ha := h4 a
  have hb := h4 b
  have hc := h4 c
  have he := h4 e
  have hff := h4 f
  refine gMet.of hx (by decide) (Nat.le_of_ble_eq_true rfl) ?_
  unfold feedN
  have l1 := adW_len a (T, L) 4
  have l2 := adW_len b (adW a (T, L) 4) 4
  have l3 := adW_len c (adW b (adW a (T, L) 4) 4) 4
  have l4 := adW_len e (adW c (adW b (adW a (T, L) 4) 4) 4) 4
  have hT0 : TfR M (gwI M 100 0 0) (T, L) := ⟨gFr.wI (Or.inl rfl), ⟨by rw [gmi_I, va_up_ne _ _ (by decide)]; exact hT.1, hT.2.1, fun i hi => by rw [gmi_In _ _ _ (by decide)]; exact hT.2.2 i hi⟩, fun k h6 h0 => by rw [gmi_I, va_up_ne _ _ h0]⟩
  have e6 : gmi (gwI M 100 0 0) 100 6 = nI L := hT0.2.1.1
  dsimp only at l1
  refine g_aload_n dX11_feed_0 rfl rfl rfl ?_
  refine g_iconst (v := 0) dX11_feed_1 (by decide) rfl ?_
  refine g_putI dX11_feed_2 fp_X11_90 rfl rfl rfl (k100 hL) rfl ?_
  refine g_aload_n dX11_feed_5 rfl rfl rfl ?_
  refine g_getI dX11_feed_6 ff_X11_103 rfl (k100 (gLay_I hL)) rfl ?_
  rw [e6]
  refine g_iload_n dX11_feed_9 rfl rfl rfl ?_
  refine g_callSdi dX11_feed_10 lm_X11_105 mv_X11_bytesIn (r_bytesIn (d := d) hx) rfl rfl (Nat.le_of_ble_eq_true rfl) (gFit_room (by omega)) rfl ?_
  refine g_iadd dX11_feed_13 rfl ?_
  refine g_iload_n dX11_feed_14 rfl rfl rfl ?_
  refine g_callSdi dX11_feed_15 lm_X11_105 mv_X11_bytesIn (r_bytesIn (d := d) hx) rfl rfl (Nat.le_of_ble_eq_true rfl) (gFit_room (by omega)) rfl ?_
  refine g_iadd dX11_feed_18 rfl ?_
  refine g_iload_n dX11_feed_19 rfl rfl rfl ?_
  refine g_callSdi dX11_feed_20 lm_X11_105 mv_X11_bytesIn (r_bytesIn (d := d) hx) rfl rfl (Nat.le_of_ble_eq_true rfl) (gFit_room (by omega)) rfl ?_
  refine g_iadd dX11_feed_23 rfl ?_
  refine g_iload dX11_feed_24 rfl rfl ?_
  refine g_callSdi dX11_feed_26 lm_X11_105 mv_X11_bytesIn (r_bytesIn (d := d) hx) rfl rfl (Nat.le_of_ble_eq_true rfl) (gFit_room (by omega)) rfl ?_
  refine g_iadd dX11_feed_29 rfl ?_
  refine g_iload dX11_feed_30 rfl rfl ?_
  refine g_callSdi dX11_feed_32 lm_X11_105 mv_X11_bytesIn (r_bytesIn (d := d) hx) rfl rfl (Nat.le_of_ble_eq_true rfl) (gFit_room (by omega)) rfl ?_
  refine g_iadd dX11_feed_35 rfl ?_
  refine g_sipush (v := 240) dX11_feed_36 (by decide) rfl ?_
  rw [nI_add, nI_add, nI_add, nI_add, nI_add]
  refine g_icmp_le (tgt := 44) dX11_feed_39 (by decide) rfl (fun h39 => ?_) (fun h39 => ?_)
  · have hyes : L + (nb a 4 + nb b 4 + nb c 4 + nb e 4 + nb f 4) ≤ 240 := by
      rw [show (240 : Int32) = nI 240 from rfl, nI_leI (by omega) (by decide)] at h39
      omega
    rw [if_pos hyes]
    refine g_aload_n dX11_feed_44 rfl rfl rfl ?_
    refine g_iload_n dX11_feed_45 rfl rfl rfl ?_
    refine g_callVq (ci := 11) dX11_feed_46 lm_X11_109 mv_X11_put (r_put (d := d) hx hL0 hT0 (by dsimp only; omega)) rfl rfl (k100 (gLay_I hL)) rfl rfl (Nat.le_of_ble_eq_true rfl) (gFit_room (by omega)) rfl (fun v M2 hQ => ?_)
    obtain ⟨rfl, q1⟩ := hQ
    refine g_aload_n dX11_feed_49 rfl rfl rfl ?_
    refine g_iload_n dX11_feed_50 rfl rfl rfl ?_
    refine g_callVq (ci := 11) dX11_feed_51 lm_X11_109 mv_X11_put (r_put (d := d) hx hL0 q1 (by omega)) rfl rfl (k100 (q1.1.lay hL0)) rfl rfl (Nat.le_of_ble_eq_true rfl) (gFit_room (by omega)) rfl (fun v M3 hQ => ?_)
    obtain ⟨rfl, q2⟩ := hQ
    refine g_aload_n dX11_feed_54 rfl rfl rfl ?_
    refine g_iload_n dX11_feed_55 rfl rfl rfl ?_
    refine g_callVq (ci := 11) dX11_feed_56 lm_X11_109 mv_X11_put (r_put (d := d) hx hL0 q2 (by omega)) rfl rfl (k100 (q2.1.lay hL0)) rfl rfl (Nat.le_of_ble_eq_true rfl) (gFit_room (by omega)) rfl (fun v M4 hQ => ?_)
    obtain ⟨rfl, q3⟩ := hQ
    refine g_aload_n dX11_feed_59 rfl rfl rfl ?_
    refine g_iload dX11_feed_60 rfl rfl ?_
    refine g_callVq (ci := 11) dX11_feed_62 lm_X11_109 mv_X11_put (r_put (d := d) hx hL0 q3 (by omega)) rfl rfl (k100 (q3.1.lay hL0)) rfl rfl (Nat.le_of_ble_eq_true rfl) (gFit_room (by omega)) rfl (fun v M5 hQ => ?_)
    obtain ⟨rfl, q4⟩ := hQ
    refine g_aload_n dX11_feed_65 rfl rfl rfl ?_
    refine g_iload dX11_feed_66 rfl rfl ?_
    refine g_callVq (ci := 11) dX11_feed_68 lm_X11_109 mv_X11_put (r_put (d := d) hx hL0 q4 (by omega)) rfl rfl (k100 (q4.1.lay hL0)) rfl rfl (Nat.le_of_ble_eq_true rfl) (gFit_room (by omega)) rfl (fun v M6 hQ => ?_)
    obtain ⟨rfl, q5⟩ := hQ
    refine g_aload_n dX11_feed_71 rfl rfl rfl ?_
    refine g_getI dX11_feed_72 ff_X11_103 rfl (k100 (q5.1.lay hL0)) rfl ?_
    rw [q5.2.1.1]
    exact g_iret dX11_feed_75 rfl rfl ⟨rfl, by rw [if_pos hyes]; exact q5⟩
  · have hno : ¬ L + (nb a 4 + nb b 4 + nb c 4 + nb e 4 + nb f 4) ≤ 240 := fun y => h39 (by rw [show (240 : Int32) = nI 240 from rfl]; exact nI_le (by omega) (by decide))
    refine g_iconst (v := -1) dX11_feed_42 (by decide) rfl ?_
    exact g_iret dX11_feed_43 rfl (by first | rfl | exact b01 | exact nb01 hv01) (⟨by rw [if_neg hno], by rw [if_neg hno]⟩)
end H22
