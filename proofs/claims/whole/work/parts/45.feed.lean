section F0
variable {X : gX} {M : gM} {d : Nat}
/-- a byte of a word -/
def wb (w : Int32) (s : Nat) : Nat := w.toBitVec.toNat / 2 ^ s % 256
theorem wb_lt (w : Int32) (s : Nat) : wb w s < 256 := Nat.mod_lt _ (by decide)
def shv (i : Nat) : Int32 := 24 - 8 * nI i
theorem shv_ok : ∀ i, i < 4 → (((shv i).toUInt32 &&& Int32.toUInt32 31).toBitVec % 32).toNat = 24 - 8 * i ∧ ¬ shv i < 0 ∧ shv i + (-8) = shv (i + 1) := by decide
theorem wb_u (w : Int32) {i : Nat} (hi : i < 4) : (w.toUInt32 >>> ((shv i).toUInt32 &&& Int32.toUInt32 31)).toInt32 &&& 255 = nI (wb w (24 - 8 * i)) := by
  rw [pk_and _ (m := 255) 8 (by decide), pk_ushr _ _ _ (shv_ok i hi).1]
  rfl
/-- how many bytes a word has that are not nought -/
def nb (w : Int32) (i : Nat) : Nat := fb_ct (fun k => decide (wb w (24 - 8 * k) ≠ 0)) i
set_option maxRecDepth 20000 in
theorem c_bytesIn (hx : gXok X) {w : Int32} : gDet X (d + 0) yX7_bytesIn cX7_bytesIn 3 (some .int) [.int w] M (some (.int (nI (nb w 4)))) M := by
  refine gMet.of hx (by decide) (Nat.le_of_ble_eq_true rfl) ?_
  refine g_iconst (v := 0) dX7_bytesIn_0 (by decide) rfl ?_
  refine g_istore_n dX7_bytesIn_1 rfl (by decide) rfl ?_
  refine g_bipush (v := 24) dX7_bytesIn_2 (by decide) rfl ?_
  refine g_istore_n dX7_bytesIn_4 rfl (by decide) rfl ?_
  refine g_loop (fun i => [(0, .int w), (1, .int (nI (nb w i))), (2, .int (shv i))]) (fun _ => M) 4 0 (Nat.zero_le _) ⟨rfl, rfl, rfl, trivial⟩ rfl ?_ (fun i _ hi ih => ?_)
  · refine g_iload_n dX7_bytesIn_5 rfl rfl rfl ?_
    refine g_if_lt (tgt := 28) dX7_bytesIn_6 (by decide) rfl (fun _ => ?_) (fun h_ => absurd (by decide) h_)
    refine g_iload_n dX7_bytesIn_28 rfl rfl rfl ?_
    exact g_iret dX7_bytesIn_29 rfl (by first | rfl | exact b01) (⟨by first | rfl | assumption | exact gFr.rf | grind [ib], by first | rfl | assumption | exact gFr.rf | grind [ib]⟩)
  · have hsh := shv_ok i hi
    have e1 : ∀ b, decide (wb w (24 - 8 * i) ≠ 0) = b → nb w (i + 1) = nb w i + (if b then 1 else 0) := fun b hb => by rw [← hb]; rfl
    have hw := wb_lt w (24 - 8 * i)
    refine g_iload_n dX7_bytesIn_5 rfl rfl rfl ?_
    refine g_if_lt (tgt := 28) dX7_bytesIn_6 (by decide) rfl (fun h_ => absurd h_ (hsh.2.1)) (fun _ => ?_)
    refine g_iload_n dX7_bytesIn_9 rfl rfl rfl ?_
    refine g_iload_n dX7_bytesIn_10 rfl rfl rfl ?_
    refine g_iushr dX7_bytesIn_11 rfl ?_
    refine g_sipush (v := 255) dX7_bytesIn_12 (by decide) rfl ?_
    refine g_iand dX7_bytesIn_15 rfl ?_
    rw [wb_u w hi]
    refine g_if_eq (tgt := 22) dX7_bytesIn_16 (by decide) rfl (fun h16 => ?_) (fun h16 => ?_)
    · have e := e1 false (decide_eq_false (fun q => q ((qeq _ 0 rfl rfl (by omega) (by omega)).mp h16)))
      refine g_iincV (c := -8) dX7_bytesIn_22 rfl (by decide) (by decide) rfl ?_
      refine g_goto (tgt := 5) dX7_bytesIn_25 (by decide) ?_
      exact g_go ih ⟨rfl, by rw [e]; rfl, by rw [← hsh.2.2]; rfl, trivial⟩
    · have e := e1 true (decide_eq_true (fun q => h16 (by rw [q]; rfl)))
      refine g_iincV (c := 1) dX7_bytesIn_19 rfl (by decide) (by decide) rfl ?_
      refine g_iincV (c := -8) dX7_bytesIn_22 rfl (by decide) (by decide) rfl ?_
      refine g_goto (tgt := 5) dX7_bytesIn_25 (by decide) ?_
      exact g_go ih ⟨rfl, by rw [e, if_pos rfl, ← nI_1]; rfl, by rw [← hsh.2.2]; rfl, trivial⟩
def ad1 (q : (Nat → Nat) × Nat) (b : Nat) : (Nat → Nat) × Nat := if b = 0 then q else (va_up q.1 q.2 b, q.2 + 1)
def adW (w : Int32) (q : (Nat → Nat) × Nat) : Nat → (Nat → Nat) × Nat
  | 0 => q
  | i + 1 => ad1 (adW w q i) (wb w (24 - 8 * i))
theorem adW_len (w : Int32) (q : (Nat → Nat) × Nat) : ∀ i, (adW w q i).2 = q.2 + nb w i
  | 0 => rfl
  | i + 1 => by
    show (ad1 (adW w q i) (wb w (24 - 8 * i))).2 = q.2 + (nb w i + (if decide (wb w (24 - 8 * i) ≠ 0) = true then 1 else 0))
    unfold ad1
    by_cases h : wb w (24 - 8 * i) = 0
    · rw [if_pos h, adW_len w q i, if_neg (by rw [decide_eq_true_iff]; exact fun q => q h)]; rfl
    · rw [if_neg h, if_pos (decide_eq_true h)]
      show (adW w q i).2 + 1 = _
      rw [adW_len w q i]
      omega
/-- the tape's signs have changed, not where a reader is -/
def Tf (M M2 : gM) (q : (Nat → Nat) × Nat) : Prop := gFr (fun c => c = 1 ∨ c = 2) M M2 ∧ TapeC M2 q.1 q.2 ∧ ∀ k, k ≠ 1 → gmi M2 1 k = gmi M 1 k
theorem nb_mono (w : Int32) {i j : Nat} (h : i ≤ j) : nb w i ≤ nb w j := fb_ct_mono _ h
theorem nar_ch : ∀ n, n < 256 → vp_nar .char ((nI n).toUInt32 % 65536).toInt32 = nI n := by decide +kernel
set_option maxRecDepth 20000 in
set_option maxHeartbeats 1000000 in
theorem c_addW (hx : gXok X) {w : Int32} {q : (Nat → Nat) × Nat} {M0 : gM} (hL : gLay M) (h : Tf M M0 q) (hr : q.2 + nb w 4 ≤ 240) : gPos X (d + 0) yX7_add cX7_add 4 none [.ref 1, .int w] M0 (fun v M2 => v = none ∧ Tf M M2 (adW w q 4)) := by
  have hL0 := hL
  refine gMet.of hx (by decide) (Nat.le_of_ble_eq_true rfl) ?_
  refine g_bipush (v := 24) dX7_add_0 (by decide) rfl ?_
  refine g_istore_n dX7_add_2 rfl (by decide) rfl ?_
  refine g_loopM (fun i => [(0, .ref 1), (1, .int w), (2, .int (shv i))]) (fun i M1 => Tf M M1 (adW w q i)) 4 0 (Nat.zero_le _) ⟨rfl, rfl, rfl, trivial⟩ h (fun M1 hI => ?_) (fun i M1 _ hi hI ih => ?_)
  · refine g_iload_n dX7_add_3 rfl rfl rfl ?_
    refine g_if_lt (tgt := 56) dX7_add_4 (by decide) rfl (fun _ => ?_) (fun h_ => absurd (by decide) h_)
    exact g_vret dX7_add_56 rfl (⟨by first | rfl | assumption | exact gFr.rf | grind [ib], by first | rfl | assumption | exact gFr.rf | grind [ib]⟩)
  · have hsh := shv_ok i hi
    have hw := wb_lt w (24 - 8 * i)
    have hm := nb_mono w (show i + 1 ≤ 4 by omega)
    have hl := adW_len w q i
    have hl1 := adW_len w q (i + 1)
    have e1 : adW w q (i + 1) = ad1 (adW w q i) (wb w (24 - 8 * i)) := rfl
    unfold ad1 at e1
    generalize hb : wb w (24 - 8 * i) = b at *
    have hnx : ∀ M2, Tf M M2 (adW w q (i + 1)) → gW X (gRoom (d + 0) 0 0) (gZ X gN0 0 0 (fun v M2 => v = none ∧ Tf M M2 (adW w q 4))) gN0 yX7_add cX7_add 4 none 50 [(0, .ref 1), (1, .int w), (2, .int (shv i)), (3, .int (nI b))] [] M2 0 0 := by
      intro M2 h2
      refine g_iincV (c := -8) dX7_add_50 rfl (by decide) (by decide) rfl ?_
      refine g_goto (tgt := 3) dX7_add_53 (by decide) ?_
      exact g_go (ih M2 h2) ⟨rfl, rfl, by rw [← hsh.2.2]; rfl, trivial⟩
    have hL1 := hI.1.lay hL0
    refine g_iload_n dX7_add_3 rfl rfl rfl ?_
    refine g_if_lt (tgt := 56) dX7_add_4 (by decide) rfl (fun h_ => absurd h_ (hsh.2.1)) (fun _ => ?_)
    refine g_iload_n dX7_add_7 rfl rfl rfl ?_
    refine g_iload_n dX7_add_8 rfl rfl rfl ?_
    refine g_iushr dX7_add_9 rfl ?_
    refine g_sipush (v := 255) dX7_add_10 (by decide) rfl ?_
    refine g_iand dX7_add_13 rfl ?_
    rw [wb_u w hi, hb]
    refine g_istore_n dX7_add_14 rfl (by decide) rfl ?_
    refine g_iload_n dX7_add_15 rfl rfl rfl ?_
    refine g_if_eq (tgt := 50) dX7_add_16 (by decide) rfl (fun h16 => ?_) (fun h16 => ?_)
    · rw [if_pos ((qeq _ 0 rfl rfl (by omega) (by omega)).mp h16)] at e1
      exact g_go (hnx M1 (by rw [e1]; exact hI)) ⟨rfl, rfl, rfl, rfl, trivial⟩
    · rw [if_neg (fun z => h16 (by rw [z]; rfl))] at e1
      have hlt : (adW w q i).2 < 240 := by rw [e1] at hl1; dsimp only at hl1; omega
      refine g_aload_n dX7_add_19 rfl rfl rfl ?_
      refine g_getI dX7_add_20 ff_X7_15 rfl (k1 hL1) rfl ?_
      refine g_sipush (v := 240) dX7_add_23 (by decide) rfl ?_
      rw [hI.2.1.1]
      refine g_icmp_ge (tgt := 50) dX7_add_26 (by decide) rfl (fun h_ => absurd h_ (nI_ge (b := 240) hlt (by decide))) (fun _ => ?_)
      refine g_aload_n dX7_add_29 rfl rfl rfl ?_
      refine g_getR dX7_add_30 ff_X7_9 rfl (k1 hL1) (r1_0 hL1) rfl ?_
      refine g_aload_n dX7_add_33 rfl rfl rfl ?_
      refine g_getI dX7_add_34 ff_X7_15 rfl (k1 hL1) rfl ?_
      refine g_iload_n dX7_add_37 rfl rfl rfl ?_
      refine g_i2c dX7_add_38 rfl ?_
      rw [hI.2.1.1]
      generalize hk : (adW w q i).2 = k at *
      refine g_cast (i := k) dX7_add_39 (k2 hL1) (l2 hL1) (by (try simp only [nI_lit, pk_mul, nI_add, Nat.zero_add]); exact nI_toInt (by omega)) (by omega) rfl ?_
      rw [nar_ch b (by omega)]
      refine g_aload_n dX7_add_40 rfl rfl rfl ?_
      refine g_dup dX7_add_41 rfl rfl ?_
      refine g_getI dX7_add_42 ff_X7_15 rfl (k1 (gLay_I hL1)) rfl ?_
      refine g_iconst (v := 1) dX7_add_45 (by decide) rfl ?_
      refine g_iadd dX7_add_46 rfl ?_
      rw [gmi_In _ _ _ (show (1 : Nat) ≠ 2 by decide), hI.2.1.1, hk, nI_1]
      refine g_putI dX7_add_47 fp_X7_15 rfl rfl rfl (k1 (gLay_I hL1)) rfl ?_
      refine g_go (hnx _ ⟨(hI.1.tr (gFr.wI (Or.inr rfl))).tr (gFr.wI (Or.inl rfl)), ?_, fun j hj => by rw [gmi_I, va_up_ne _ _ hj, gmi_In _ _ _ (by decide)]; exact hI.2.2 j hj⟩) ⟨rfl, rfl, rfl, rfl, trivial⟩
      rw [e1]
      refine ⟨by rw [gmi_I, va_up_self], by show k + 1 ≤ 240; omega, fun j hj => ?_⟩
      dsimp only at hj ⊢
      rw [gmi_In _ _ _ (by decide), gmi_I]
      by_cases e : j = k
      · subst e
        rw [va_up_self, va_up_self]
        exact ⟨rfl, Nat.pos_of_ne_zero (fun z => h16 (by rw [z]; rfl)), hw⟩
      · rw [va_up_ne _ _ e, va_up_ne _ _ e]
        exact hI.2.1.2.2 j (by rw [hk]; omega)
def feedQ (q : (Nat → Nat) × Nat) (a b c e f : Int32) : (Nat → Nat) × Nat := adW f (adW e (adW c (adW b (adW a q 4) 4) 4) 4) 4
def feedN (a b c e f : Int32) : Nat := nb a 4 + nb b 4 + nb c 4 + nb e 4 + nb f 4
set_option maxRecDepth 20000 in
set_option maxHeartbeats 1000000 in
theorem c_feed (hx : gXok X) (hL : gLay M) {T : Nat → Nat} {L : Nat} (hT : TapeC M T L) {a b c e f : Int32} : gPos X (d + 1) yX10_feed cX10_feed 7 (some .int) [.ref 0, .int a, .int b, .int c, .int e, .int f] M (fun v M2 => v = some (.int (if L + feedN a b c e f ≤ 240 then nI (feedQ (T, L) a b c e f).2 else -1)) ∧ (if L + feedN a b c e f ≤ 240 then Tf M M2 (feedQ (T, L) a b c e f) else M2 = M)) := by
  have h240 := hT.2.1
  have hL0 := hL
  have h4 : ∀ w, nb w 4 ≤ 4 := fun w => fb_ct_le _ _
  have ha := h4 a
  have hb := h4 b
  have hc := h4 c
  have he := h4 e
  have hff := h4 f
  refine gMet.of hx (by decide) (Nat.le_of_ble_eq_true rfl) ?_
  unfold feedN
  have l1 := adW_len a (T, L) 4
  have l2 := adW_len b (adW a (T, L) 4) 4
  have l3 := adW_len c (adW b (adW a (T, L) 4) 4) 4
  have l4 := adW_len e (adW c (adW b (adW a (T, L) 4) 4) 4) 4
  have hT0 : Tf M M (T, L) := ⟨gFr.rf, hT, fun _ _ => rfl⟩
  dsimp only at l1
  refine g_iload_n dX10_feed_0 rfl rfl rfl ?_
  refine g_callSdi dX10_feed_1 lm_X10_95 mv_X7_bytesIn (c_bytesIn (d := d) hx) rfl rfl (Nat.le_of_ble_eq_true rfl) (gFit_room (by omega)) rfl ?_
  refine g_iload_n dX10_feed_4 rfl rfl rfl ?_
  refine g_callSdi dX10_feed_5 lm_X10_95 mv_X7_bytesIn (c_bytesIn (d := d) hx) rfl rfl (Nat.le_of_ble_eq_true rfl) (gFit_room (by omega)) rfl ?_
  refine g_iadd dX10_feed_8 rfl ?_
  refine g_iload_n dX10_feed_9 rfl rfl rfl ?_
  refine g_callSdi dX10_feed_10 lm_X10_95 mv_X7_bytesIn (c_bytesIn (d := d) hx) rfl rfl (Nat.le_of_ble_eq_true rfl) (gFit_room (by omega)) rfl ?_
  refine g_iadd dX10_feed_13 rfl ?_
  refine g_iload dX10_feed_14 rfl rfl ?_
  refine g_callSdi dX10_feed_16 lm_X10_95 mv_X7_bytesIn (c_bytesIn (d := d) hx) rfl rfl (Nat.le_of_ble_eq_true rfl) (gFit_room (by omega)) rfl ?_
  refine g_iadd dX10_feed_19 rfl ?_
  refine g_iload dX10_feed_20 rfl rfl ?_
  refine g_callSdi dX10_feed_22 lm_X10_95 mv_X7_bytesIn (c_bytesIn (d := d) hx) rfl rfl (Nat.le_of_ble_eq_true rfl) (gFit_room (by omega)) rfl ?_
  refine g_iadd dX10_feed_25 rfl ?_
  rw [nI_add, nI_add, nI_add, nI_add]
  refine g_istore dX10_feed_26 (by decide) rfl ?_
  refine g_aload_n dX10_feed_28 rfl rfl rfl ?_
  refine g_getR dX10_feed_29 ff_X10_10 rfl (k0 hL) (r0_0 hL) rfl ?_
  refine g_getI dX10_feed_32 ff_X10_99 rfl (k1 hL) rfl ?_
  refine g_iload dX10_feed_35 rfl rfl ?_
  refine g_iadd dX10_feed_37 rfl ?_
  rw [hT.1, nI_add]
  refine g_sipush (v := 240) dX10_feed_38 (by decide) rfl ?_
  refine g_icmp_le (tgt := 46) dX10_feed_41 (by decide) rfl (fun h41 => ?_) (fun h41 => ?_)
  · have hyes : L + (nb a 4 + nb b 4 + nb c 4 + nb e 4 + nb f 4) ≤ 240 := (qle _ 240 rfl rfl (by omega) (by omega)).mp h41
    rw [if_pos hyes]
    refine g_aload_n dX10_feed_46 rfl rfl rfl ?_
    refine g_getR dX10_feed_47 ff_X10_10 rfl (k0 hL) (r0_0 hL) rfl ?_
    refine g_iload_n dX10_feed_50 rfl rfl rfl ?_
    refine g_callVq (ci := 7) dX10_feed_51 lm_X10_102 mv_X7_add (c_addW (d := d) hx hL0 hT0 (by dsimp only; omega)) rfl rfl (k1 hL) rfl rfl (Nat.le_of_ble_eq_true rfl) (gFit_room (by omega)) rfl (fun v M2 hQ => ?_)
    obtain ⟨rfl, hf⟩ := hQ
    have hf1 := hf
    refine g_aload_n dX10_feed_54 rfl rfl rfl ?_
    refine g_getR dX10_feed_55 ff_X10_10 rfl (k0 (hf1.1.lay hL0)) (r0_0 (hf1.1.lay hL0)) rfl ?_
    refine g_iload_n dX10_feed_58 rfl rfl rfl ?_
    refine g_callVq (ci := 7) dX10_feed_59 lm_X10_102 mv_X7_add (c_addW (d := d) hx hL0 hf1 (by omega)) rfl rfl (k1 (hf1.1.lay hL0)) rfl rfl (Nat.le_of_ble_eq_true rfl) (gFit_room (by omega)) rfl (fun v M2 hQ => ?_)
    obtain ⟨rfl, hf⟩ := hQ
    have hf2 := hf
    refine g_aload_n dX10_feed_62 rfl rfl rfl ?_
    refine g_getR dX10_feed_63 ff_X10_10 rfl (k0 (hf2.1.lay hL0)) (r0_0 (hf2.1.lay hL0)) rfl ?_
    refine g_iload_n dX10_feed_66 rfl rfl rfl ?_
    refine g_callVq (ci := 7) dX10_feed_67 lm_X10_102 mv_X7_add (c_addW (d := d) hx hL0 hf2 (by omega)) rfl rfl (k1 (hf2.1.lay hL0)) rfl rfl (Nat.le_of_ble_eq_true rfl) (gFit_room (by omega)) rfl (fun v M2 hQ => ?_)
    obtain ⟨rfl, hf⟩ := hQ
    have hf3 := hf
    refine g_aload_n dX10_feed_70 rfl rfl rfl ?_
    refine g_getR dX10_feed_71 ff_X10_10 rfl (k0 (hf3.1.lay hL0)) (r0_0 (hf3.1.lay hL0)) rfl ?_
    refine g_iload dX10_feed_74 rfl rfl ?_
    refine g_callVq (ci := 7) dX10_feed_76 lm_X10_102 mv_X7_add (c_addW (d := d) hx hL0 hf3 (by omega)) rfl rfl (k1 (hf3.1.lay hL0)) rfl rfl (Nat.le_of_ble_eq_true rfl) (gFit_room (by omega)) rfl (fun v M2 hQ => ?_)
    obtain ⟨rfl, hf⟩ := hQ
    have hf4 := hf
    refine g_aload_n dX10_feed_79 rfl rfl rfl ?_
    refine g_getR dX10_feed_80 ff_X10_10 rfl (k0 (hf4.1.lay hL0)) (r0_0 (hf4.1.lay hL0)) rfl ?_
    refine g_iload dX10_feed_83 rfl rfl ?_
    refine g_callVq (ci := 7) dX10_feed_85 lm_X10_102 mv_X7_add (c_addW (d := d) hx hL0 hf4 (by omega)) rfl rfl (k1 (hf4.1.lay hL0)) rfl rfl (Nat.le_of_ble_eq_true rfl) (gFit_room (by omega)) rfl (fun v M2 hQ => ?_)
    obtain ⟨rfl, hf⟩ := hQ
    have hf5 := hf
    refine g_aload_n dX10_feed_88 rfl rfl rfl ?_
    refine g_getR dX10_feed_89 ff_X10_10 rfl (k0 (hf5.1.lay hL0)) (r0_0 (hf5.1.lay hL0)) rfl ?_
    refine g_getI dX10_feed_92 ff_X10_99 rfl (k1 (hf5.1.lay hL0)) rfl ?_
    exact g_iret dX10_feed_95 rfl (by first | rfl | exact b01) (⟨by rw [hf5.2.1.1]; rfl, by rw [if_pos hyes]; exact hf5⟩)
  · have hno : ¬ (L + (nb a 4 + nb b 4 + nb c 4 + nb e 4 + nb f 4) ≤ 240) := fun q => h41 ((qle _ 240 rfl rfl (by omega) (by omega)).mpr q)
    rw [if_neg hno]
    refine g_iconst (v := -1) dX10_feed_44 (by decide) rfl ?_
    exact g_iret dX10_feed_45 rfl (by first | rfl | exact b01) (⟨rfl, by rw [if_neg hno]⟩)
end F0
