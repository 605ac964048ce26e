section ST2
variable {X : gX} {M : gM} {d : Nat}
theorem sL_le : ∀ i, i < 8 → sLen.getD i 0 ≤ 10 := by decide
def sB (i k : Nat) : Int32 := (sByt.getD i []).getD k 0
theorem sB_ok : ∀ i, i < 8 → ∀ k, k < 10 → ((sB i k &&& 255).toUInt32 % 65536).toInt32 = sB i k ∧ narrow .char (.int (sB i k)) = .int (sB i k) := by decide +kernel
def sC (i k : Nat) : Nat := (sB i k).toNatClampNeg
theorem sC_ok : ∀ i, i < 8 → ∀ k, k < 10 → sB i k = nI (sC i k) ∧ sC i k < 128 := by decide +kernel
theorem by_ok : ∀ t, t < 256 → (nI t).toInt8.toInt32 = if t < 128 then nI t else nI t - nI 256 := by decide +kernel
theorem ch_ok : ∀ t, t < 256 → ((nI t).toUInt32 % 65536).toInt32 = nI t := by decide +kernel
set_option maxRecDepth 20000 in
theorem c_isLatin1 (hx : gXok X) (hZ : gSt X) {i : Nat} (hi : i < 8) : gDet X (d + 0) yJ0_isLatin1_aae02 cJ0_isLatin1_aae02 1 (some .boolean) [.ref (5010 + i)] M (some (.int 1)) M := by
  refine gMet.ofF hx (by decide +kernel) (Nat.le_of_ble_eq_true rfl) ?_
  refine g_getsI (v := 1) dJ0_isLatin1_aae02_0 lo_J0_38 (fun U hU => (hZ U hU).2.2.2.2.1) rfl ?_
  refine g_if_eq (tgt := 17) dJ0_isLatin1_aae02_3 (by decide) rfl (fun h_ => absurd h_ (by decide)) (fun _ => ?_)
  refine g_aload_n dJ0_isLatin1_aae02_6 rfl rfl rfl ?_
  refine g_strC dJ0_isLatin1_aae02_7 lo_J0_15 hZ hi rfl ?_
  refine g_if_ne (tgt := 17) dJ0_isLatin1_aae02_10 (by decide) rfl (fun h_ => absurd (by decide) h_) (fun _ => ?_)
  refine g_iconst (v := 1) dJ0_isLatin1_aae02_13 (by decide) rfl ?_
  refine g_goto (tgt := 18) dJ0_isLatin1_aae02_14 (by decide) ?_
  exact g_iret dJ0_isLatin1_aae02_18 rfl (by first | rfl | exact b01) (⟨by first | rfl | assumption | exact gFr.rf | grind [ib], by first | rfl | assumption | exact gFr.rf | grind [ib]⟩)
theorem c_coder (hx : gXok X) (hZ : gSt X) {i : Nat} (hi : i < 8) : gDet X (d + 0) yJ0_coder_7d493 cJ0_coder_7d493 1 (some .byte) [.ref (5010 + i)] M (some (.int 0)) M := by
  refine gMet.ofF hx (by decide +kernel) (Nat.le_of_ble_eq_true rfl) ?_
  refine g_getsI (v := 1) dJ0_coder_7d493_0 lo_J0_38 (fun U hU => (hZ U hU).2.2.2.2.1) rfl ?_
  refine g_if_eq (tgt := 13) dJ0_coder_7d493_3 (by decide) rfl (fun h_ => absurd h_ (by decide)) (fun _ => ?_)
  refine g_aload_n dJ0_coder_7d493_6 rfl rfl rfl ?_
  refine g_strC dJ0_coder_7d493_7 lo_J0_15 hZ hi rfl ?_
  refine g_goto (tgt := 14) dJ0_coder_7d493_10 (by decide) ?_
  exact g_iret dJ0_coder_7d493_14 rfl (by first | rfl | exact b01) (⟨by first | rfl | assumption | exact gFr.rf | grind [ib], by first | rfl | assumption | exact gFr.rf | grind [ib]⟩)
set_option maxRecDepth 20000 in
theorem c_slen (hx : gXok X) (hZ : gSt X) {i : Nat} (hi : i < 8) : gDet X (d + 1) yJ0_length_8abf5 cJ0_length_8abf5 1 (some .int) [.ref (5010 + i)] M (some (.int (nI (sLen.getD i 0)))) M := by
  have hl := sL_le i hi
  refine gMet.ofF hx (by decide +kernel) (Nat.le_of_ble_eq_true rfl) ?_
  refine g_aload_n dJ0_length_8abf5_0 rfl rfl rfl ?_
  refine g_strV dJ0_length_8abf5_1 lo_J0_9 hZ hi rfl ?_
  refine g_strL dJ0_length_8abf5_4 hZ hi rfl ?_
  refine g_aload_n dJ0_length_8abf5_5 rfl rfl rfl ?_
  refine g_callU dJ0_length_8abf5_6 lm_J0_335 mv_J0_coder_7d493 (c_coder (d := d) hx hZ hi) hZ hi rfl rfl rfl (Nat.le_of_ble_eq_true rfl) (gFit_room (by omega)) rfl ?_
  refine g_ishr dJ0_length_8abf5_9 rfl ?_
  rw [show (0 : Int32) = nI 0 from rfl, bt_shr (by omega) (by omega), Nat.pow_zero, Nat.div_one]
  exact g_iret dJ0_length_8abf5_10 rfl (by first | rfl | exact b01) (⟨by first | rfl | assumption | exact gFr.rf | grind [ib], by first | rfl | assumption | exact gFr.rf | grind [ib]⟩)
set_option maxRecDepth 20000 in
theorem c_ckIx3 (hx : gXok X) {k n : Nat} (hk : k < n) (hn : n < 2 ^ 31) {v : Value} (hv : v = .null ∨ v = .ref 5004) : gDet X (d + 0) yJ3_checkIndex_8e157 cJ3_checkIndex_8e157 3 (some .int) [.int (nI k), .int (nI n), v] M (some (.int (nI k))) M := by
  rcases hv with rfl | rfl
  · refine gMet.ofF hx (by decide +kernel) (Nat.le_of_ble_eq_true rfl) ?_
    refine g_iload_n dJ3_checkIndex_8e157_0 rfl rfl rfl ?_
    refine g_if_lt (tgt := 9) dJ3_checkIndex_8e157_1 (by decide) rfl (fun h_ => absurd h_ (nI_pos (by omega))) (fun _ => ?_)
    refine g_iload_n dJ3_checkIndex_8e157_4 rfl rfl rfl ?_
    refine g_iload_n dJ3_checkIndex_8e157_5 rfl rfl rfl ?_
    refine g_icmp_lt (tgt := 16) dJ3_checkIndex_8e157_6 (by decide) rfl (fun _ => ?_) (fun h_ => absurd (nI_lt hk hn) h_)
    refine g_iload_n dJ3_checkIndex_8e157_16 rfl rfl rfl ?_
    exact g_iret dJ3_checkIndex_8e157_17 rfl (by first | rfl | exact b01) (⟨by first | rfl | assumption | exact gFr.rf | grind [ib], by first | rfl | assumption | exact gFr.rf | grind [ib]⟩)
  · refine gMet.ofF hx (by decide +kernel) (Nat.le_of_ble_eq_true rfl) ?_
    refine g_iload_n dJ3_checkIndex_8e157_0 rfl rfl rfl ?_
    refine g_if_lt (tgt := 9) dJ3_checkIndex_8e157_1 (by decide) rfl (fun h_ => absurd h_ (nI_pos (by omega))) (fun _ => ?_)
    refine g_iload_n dJ3_checkIndex_8e157_4 rfl rfl rfl ?_
    refine g_iload_n dJ3_checkIndex_8e157_5 rfl rfl rfl ?_
    refine g_icmp_lt (tgt := 16) dJ3_checkIndex_8e157_6 (by decide) rfl (fun _ => ?_) (fun h_ => absurd (nI_lt hk hn) h_)
    refine g_iload_n dJ3_checkIndex_8e157_16 rfl rfl rfl ?_
    exact g_iret dJ3_checkIndex_8e157_17 rfl (by first | rfl | exact b01) (⟨by first | rfl | assumption | exact gFr.rf | grind [ib], by first | rfl | assumption | exact gFr.rf | grind [ib]⟩)
set_option maxRecDepth 20000 in
theorem c_ckIx (hx : gXok X) (hZ : gSt X) {k n : Nat} (hk : k < n) (hn : n < 2 ^ 31) : gDet X (d + 1) yJ0_checkIndex_df160 cJ0_checkIndex_df160 2 none [.int (nI k), .int (nI n)] M none M := by
  refine gMet.ofF hx (by decide +kernel) (Nat.le_of_ble_eq_true rfl) ?_
  refine g_iload_n dJ0_checkIndex_df160_0 rfl rfl rfl ?_
  refine g_iload_n dJ0_checkIndex_df160_1 rfl rfl rfl ?_
  refine g_getsQ (b := 5004) dJ0_checkIndex_df160_2 lo_J0_1053 (fun U hU => (hZ U hU).2.2.2.2.2.1) (by decide) rfl (fun v hv => ?_)
  refine g_callSdi dJ0_checkIndex_df160_5 lm_J0_1059 mv_J3_checkIndex_8e157 (c_ckIx3 (d := d) hx hk hn hv) rfl rfl (Nat.le_of_ble_eq_true rfl) (gFit_room (by omega)) rfl ?_
  refine g_pop dJ0_checkIndex_df160_8 rfl rfl ?_
  exact g_vret dJ0_checkIndex_df160_9 rfl (⟨by first | rfl | assumption | exact gFr.rf | grind [ib], by first | rfl | assumption | exact gFr.rf | grind [ib]⟩)
set_option maxRecDepth 20000 in
theorem c_chAt1 (hx : gXok X) (hZ : gSt X) {i k : Nat} (hi : i < 8) (hk : k < sLen.getD i 0) : gDet X (d + 2) yJ1_charAt_3b067 cJ1_charAt_3b067 2 (some .char) [.ref (5020 + i), .int (nI k)] M (some (.int (sB i k))) M := by
  have hl := sL_le i hi
  have hb := sB_ok i hi k (by omega)
  refine gMet.ofF hx (by decide +kernel) (Nat.le_of_ble_eq_true rfl) ?_
  refine g_iload_n dJ1_charAt_3b067_0 rfl rfl rfl ?_
  refine g_aload_n dJ1_charAt_3b067_1 rfl rfl rfl ?_
  refine g_strL dJ1_charAt_3b067_2 hZ hi rfl ?_
  refine g_callSdv dJ1_charAt_3b067_3 lm_J1_9 mv_J0_checkIndex_df160 (c_ckIx (d := d) hx hZ hk (by omega)) rfl rfl (Nat.le_of_ble_eq_true rfl) (gFit_room (by omega)) rfl ?_
  refine g_aload_n dJ1_charAt_3b067_6 rfl rfl rfl ?_
  refine g_iload_n dJ1_charAt_3b067_7 rfl rfl rfl ?_
  refine g_strB dJ1_charAt_3b067_8 hZ hi (nI_toInt (by omega)) hk rfl ?_
  refine g_sipush (v := 255) dJ1_charAt_3b067_9 (by decide) rfl ?_
  refine g_iand dJ1_charAt_3b067_12 rfl ?_
  refine g_i2c dJ1_charAt_3b067_13 rfl ?_
  rw [show ((((sByt.getD i []).getD k 0) &&& 255).toUInt32 % 65536).toInt32 = sB i k from hb.1]
  exact g_iret dJ1_charAt_3b067_14 rfl hb.2 ⟨rfl, rfl⟩
set_option maxRecDepth 20000 in
theorem c_charAt (hx : gXok X) (hZ : gSt X) {i k : Nat} (hi : i < 8) (hk : k < sLen.getD i 0) : gDet X (d + 3) yJ0_charAt_5068e cJ0_charAt_5068e 2 (some .char) [.ref (5010 + i), .int (nI k)] M (some (.int (sB i k))) M := by
  have hl := sL_le i hi
  have hb := sB_ok i hi k (by omega)
  refine gMet.ofF hx (by decide +kernel) (Nat.le_of_ble_eq_true rfl) ?_
  refine g_aload_n dJ0_charAt_5068e_0 rfl rfl rfl ?_
  refine g_callU dJ0_charAt_5068e_1 lm_J0_492 mv_J0_isLatin1_aae02 (c_isLatin1 (d := d) hx hZ hi) hZ hi rfl rfl rfl (Nat.le_of_ble_eq_true rfl) (gFit_room (by omega)) rfl ?_
  refine g_if_eq (tgt := 16) dJ0_charAt_5068e_4 (by decide) rfl (fun h_ => absurd h_ (by decide)) (fun _ => ?_)
  refine g_aload_n dJ0_charAt_5068e_7 rfl rfl rfl ?_
  refine g_strV dJ0_charAt_5068e_8 lo_J0_9 hZ hi rfl ?_
  refine g_iload_n dJ0_charAt_5068e_11 rfl rfl rfl ?_
  refine g_callSdi dJ0_charAt_5068e_12 lm_J0_495 mv_J1_charAt_3b067 (c_chAt1 (d := d) hx hZ hi hk) rfl rfl (Nat.le_of_ble_eq_true rfl) (gFit_room (by omega)) rfl ?_
  exact g_iret dJ0_charAt_5068e_15 rfl hb.2 ⟨rfl, rfl⟩
set_option maxRecDepth 20000 in
theorem c_canEnc (hx : gXok X) {t : Nat} (ht : t < 256) : gDet X (d + 0) yJ1_canEncode_9a6ad cJ1_canEncode_9a6ad 1 (some .boolean) [.int (nI t)] M (some (.int 1)) M := by
  refine gMet.ofF hx (by decide +kernel) (Nat.le_of_ble_eq_true rfl) ?_
  refine g_iload_n dJ1_canEncode_9a6ad_0 rfl rfl rfl ?_
  refine g_if_lt (tgt := 15) dJ1_canEncode_9a6ad_1 (by decide) rfl (fun h_ => absurd h_ (nI_pos (by omega))) (fun _ => ?_)
  refine g_iload_n dJ1_canEncode_9a6ad_4 rfl rfl rfl ?_
  refine g_sipush (v := 255) dJ1_canEncode_9a6ad_5 (by decide) rfl ?_
  refine g_icmp_gt (tgt := 15) dJ1_canEncode_9a6ad_8 (by decide) rfl (fun h_ => absurd h_ (fun q => absurd ((qlt 255 t rfl rfl (by decide) (by omega)).mp q) (by omega))) (fun _ => ?_)
  refine g_iconst (v := 1) dJ1_canEncode_9a6ad_11 (by decide) rfl ?_
  refine g_goto (tgt := 16) dJ1_canEncode_9a6ad_12 (by decide) ?_
  exact g_iret dJ1_canEncode_9a6ad_16 rfl (by first | rfl | exact b01) (⟨by first | rfl | assumption | exact gFr.rf | grind [ib], by first | rfl | assumption | exact gFr.rf | grind [ib]⟩)
/-- where a sign stands in a String constant -/
def sIx (i t : Nat) : Int32 := sfrom (fun j => decide (sC i j ≠ t)) (sLen.getD i 0) 0
theorem by_eq {i j t : Nat} (hi : i < 8) (hj : j < 10) (ht : t < 256) : (sB i j = (nI t).toInt8.toInt32) ↔ sC i j = t := by
  obtain ⟨e, h⟩ := sC_ok i hi j hj
  rw [by_ok t ht, e]
  by_cases h2 : t < 128
  · rw [if_pos h2, nI_eq (by omega) (by omega)]
  · rw [if_neg h2]
    exact ⟨fun q => absurd (show nI (sC i j) < 0 by rw [q]; exact pk_sneg (by decide) ht) (nI_pos (by omega)), fun q => by omega⟩
set_option maxRecDepth 20000 in
set_option maxHeartbeats 1000000 in
theorem c_ixCh (hx : gXok X) (hZ : gSt X) {i t : Nat} (hi : i < 8) (ht : t < 256) : gDet X (d + 0) yJ1_indexOfChar_4cfef cJ1_indexOfChar_4cfef 6 (some .int) [.ref (5020 + i), .int (nI t), .int 0, .int (nI (sLen.getD i 0))] M (some (.int (sIx i t))) M := by
  have hl := sL_le i hi
  refine gMet.ofF hx (by decide +kernel) (Nat.le_of_ble_eq_true rfl) ?_
  refine g_iload_n dJ1_indexOfChar_4cfef_0 rfl rfl rfl ?_
  refine g_i2b dJ1_indexOfChar_4cfef_1 rfl ?_
  refine g_istore dJ1_indexOfChar_4cfef_2 (by decide) rfl ?_
  refine g_iload_n dJ1_indexOfChar_4cfef_4 rfl rfl rfl ?_
  refine g_istore dJ1_indexOfChar_4cfef_5 (by decide) rfl ?_
  refine g_loopM (fun k => [(0, .ref (5020 + i)), (1, .int (nI t)), (3, .int (nI (sLen.getD i 0))), (4, .int (nI t).toInt8.toInt32), (5, .int (nI k))]) (fun k M1 => M1 = M ∧ ∀ j, j < k → decide (sC i j ≠ t) = true) (sLen.getD i 0) 0 (Nat.zero_le _) ⟨rfl, rfl, rfl, rfl, rfl, trivial⟩ ⟨rfl, fun j hj => absurd hj (by omega)⟩ (fun M1 hI => ?_) (fun k M1 _ hk hI ih => ?_)
  · obtain ⟨rfl, hA⟩ := hI
    refine g_iload dJ1_indexOfChar_4cfef_7 rfl rfl ?_
    refine g_iload_n dJ1_indexOfChar_4cfef_9 rfl rfl rfl ?_
    refine g_icmp_ge (tgt := 31) dJ1_indexOfChar_4cfef_10 (by decide) rfl (fun _ => ?_) (fun h_ => absurd (nI_le (Nat.le_refl _) (by omega)) h_)
    refine g_iconst (v := -1) dJ1_indexOfChar_4cfef_31 (by decide) rfl ?_
    exact g_iret dJ1_indexOfChar_4cfef_32 rfl (by first | rfl | exact b01) (⟨by unfold sIx; rw [sfrom_none hA], rfl⟩)
  · obtain ⟨rfl, hA⟩ := hI
    refine g_iload dJ1_indexOfChar_4cfef_7 rfl rfl ?_
    refine g_iload_n dJ1_indexOfChar_4cfef_9 rfl rfl rfl ?_
    refine g_icmp_ge (tgt := 31) dJ1_indexOfChar_4cfef_10 (by decide) rfl (fun h_ => absurd h_ (nI_ge hk (by omega))) (fun _ => ?_)
    refine g_aload_n dJ1_indexOfChar_4cfef_13 rfl rfl rfl ?_
    refine g_iload dJ1_indexOfChar_4cfef_14 rfl rfl ?_
    refine g_strB dJ1_indexOfChar_4cfef_16 hZ hi (nI_toInt (by omega)) hk rfl ?_
    rw [show (sByt.getD i []).getD k 0 = sB i k from rfl]
    refine g_iload dJ1_indexOfChar_4cfef_17 rfl rfl ?_
    refine g_icmp_ne (tgt := 25) dJ1_indexOfChar_4cfef_19 (by decide) rfl (fun h19 => ?_) (fun h19 => ?_)
    · refine g_iincV (c := 1) dJ1_indexOfChar_4cfef_25 rfl (by decide) (by decide) rfl ?_
      refine g_goto (tgt := 7) dJ1_indexOfChar_4cfef_28 (by decide) ?_
      refine g_go (ih M1 ⟨rfl, fun j hj => ?_⟩) ⟨rfl, rfl, rfl, rfl, by rw [← nI_1 k]; rfl, trivial⟩
      by_cases e : j = k
      · rw [e]; exact decide_eq_true (fun q => h19 ((by_eq hi (by omega) ht).mpr q))
      · exact hA j (by omega)
    · refine g_iload dJ1_indexOfChar_4cfef_22 rfl rfl ?_
      exact g_iret dJ1_indexOfChar_4cfef_24 rfl (by first | rfl | exact b01) (⟨by unfold sIx; rw [sfrom_at hk hA (decide_eq_false (fun q => q ((by_eq hi (by omega) ht).mp h19)))], rfl⟩)
theorem imin_le {a b : Int32} (h : a ≤ b) : imin a b = a := by
  unfold imin
  rw [if_neg (Int32.not_lt.mpr h)]
set_option maxRecDepth 20000 in
theorem c_ix1 (hx : gXok X) (hZ : gSt X) {i t : Nat} (hi : i < 8) (ht : t < 256) : gDet X (d + 1) yJ1_indexOf_4cfef cJ1_indexOf_4cfef 4 (some .int) [.ref (5020 + i), .int (nI t), .int 0, .int (nI (sLen.getD i 0))] M (some (.int (sIx i t))) M := by
  have hl := sL_le i hi
  have hl0 : ∀ i, i < 8 → 0 < sLen.getD i 0 := by decide
  have hl1 := hl0 i hi
  refine gMet.ofF hx (by decide +kernel) (Nat.le_of_ble_eq_true rfl) ?_
  refine g_iload_n dJ1_indexOf_4cfef_0 rfl rfl rfl ?_
  refine g_callSdi dJ1_indexOf_4cfef_1 lm_J1_88 mv_J1_canEncode_9a6ad (c_canEnc (d := d) hx ht) rfl rfl (Nat.le_of_ble_eq_true rfl) (gFit_room (by omega)) rfl ?_
  refine g_if_ne (tgt := 9) dJ1_indexOf_4cfef_4 (by decide) rfl (fun _ => ?_) (fun h_ => absurd h_ (by decide))
  refine g_iload_n dJ1_indexOf_4cfef_9 rfl rfl rfl ?_
  refine g_iconst (v := 0) dJ1_indexOf_4cfef_10 (by decide) rfl ?_
  refine g_callSdi dJ1_indexOf_4cfef_11 lm_J1_92 mv_J9_max_7cf53 (c_max (d := d) hx) rfl rfl (Nat.le_of_ble_eq_true rfl) (gFit_room (by omega)) rfl ?_
  rw [show imax 0 0 = 0 from rfl]
  refine g_istore_n dJ1_indexOf_4cfef_14 rfl (by decide) rfl ?_
  refine g_iload_n dJ1_indexOf_4cfef_15 rfl rfl rfl ?_
  refine g_aload_n dJ1_indexOf_4cfef_16 rfl rfl rfl ?_
  refine g_strL dJ1_indexOf_4cfef_17 hZ hi rfl ?_
  refine g_callSdi dJ1_indexOf_4cfef_18 lm_J1_38 mv_J9_min_7cf53 (c_min (d := d) hx) rfl rfl (Nat.le_of_ble_eq_true rfl) (gFit_room (by omega)) rfl ?_
  rw [imin_le (Int32.le_refl _)]
  refine g_istore_n dJ1_indexOf_4cfef_21 rfl (by decide) rfl ?_
  refine g_iload_n dJ1_indexOf_4cfef_22 rfl rfl rfl ?_
  refine g_iload_n dJ1_indexOf_4cfef_23 rfl rfl rfl ?_
  refine g_icmp_lt (tgt := 29) dJ1_indexOf_4cfef_24 (by decide) rfl (fun _ => ?_) (fun h_ => absurd ((qlt 0 _ rfl rfl (by decide) (by omega)).mpr hl1) h_)
  refine g_aload_n dJ1_indexOf_4cfef_29 rfl rfl rfl ?_
  refine g_iload_n dJ1_indexOf_4cfef_30 rfl rfl rfl ?_
  refine g_iload_n dJ1_indexOf_4cfef_31 rfl rfl rfl ?_
  refine g_iload_n dJ1_indexOf_4cfef_32 rfl rfl rfl ?_
  refine g_callSdi dJ1_indexOf_4cfef_33 lm_J1_95 mv_J1_indexOfChar_4cfef (c_ixCh (d := d) hx hZ hi ht) rfl rfl (Nat.le_of_ble_eq_true rfl) (gFit_room (by omega)) rfl ?_
  exact g_iret dJ1_indexOf_4cfef_36 rfl (by first | rfl | exact b01) (⟨by first | rfl | assumption | exact gFr.rf | grind [ib], by first | rfl | assumption | exact gFr.rf | grind [ib]⟩)
set_option maxRecDepth 20000 in
theorem c_ix2 (hx : gXok X) (hZ : gSt X) {i t : Nat} (hi : i < 8) (ht : t < 256) : gDet X (d + 2) yJ0_indexOf_7cf53 cJ0_indexOf_7cf53 3 (some .int) [.ref (5010 + i), .int (nI t), .int 0] M (some (.int (sIx i t))) M := by
  refine gMet.ofF hx (by decide +kernel) (Nat.le_of_ble_eq_true rfl) ?_
  refine g_aload_n dJ0_indexOf_7cf53_0 rfl rfl rfl ?_
  refine g_callU dJ0_indexOf_7cf53_1 lm_J0_492 mv_J0_isLatin1_aae02 (c_isLatin1 (d := d) hx hZ hi) hZ hi rfl rfl rfl (Nat.le_of_ble_eq_true rfl) (gFit_room (by omega)) rfl ?_
  refine g_if_eq (tgt := 23) dJ0_indexOf_7cf53_4 (by decide) rfl (fun h_ => absurd h_ (by decide)) (fun _ => ?_)
  refine g_aload_n dJ0_indexOf_7cf53_7 rfl rfl rfl ?_
  refine g_strV dJ0_indexOf_7cf53_8 lo_J0_9 hZ hi rfl ?_
  refine g_iload_n dJ0_indexOf_7cf53_11 rfl rfl rfl ?_
  refine g_iload_n dJ0_indexOf_7cf53_12 rfl rfl rfl ?_
  refine g_aload_n dJ0_indexOf_7cf53_13 rfl rfl rfl ?_
  refine g_callU dJ0_indexOf_7cf53_14 lm_J0_505 mv_J0_length_8abf5 (c_slen (d := d) hx hZ hi) hZ hi rfl rfl rfl (Nat.le_of_ble_eq_true rfl) (gFit_room (by omega)) rfl ?_
  refine g_callSdi dJ0_indexOf_7cf53_17 lm_J0_637 mv_J1_indexOf_4cfef (c_ix1 (d := d) hx hZ hi ht) rfl rfl (Nat.le_of_ble_eq_true rfl) (gFit_room (by omega)) rfl ?_
  refine g_goto (tgt := 36) dJ0_indexOf_7cf53_20 (by decide) ?_
  exact g_iret dJ0_indexOf_7cf53_36 rfl (by first | rfl | exact b01) (⟨by first | rfl | assumption | exact gFr.rf | grind [ib], by first | rfl | assumption | exact gFr.rf | grind [ib]⟩)
set_option maxRecDepth 20000 in
theorem c_indexOf (hx : gXok X) (hZ : gSt X) {i t : Nat} (hi : i < 8) (ht : t < 256) : gDet X (d + 3) yJ0_indexOf_0f7a4 cJ0_indexOf_0f7a4 2 (some .int) [.ref (5010 + i), .int (nI t)] M (some (.int (sIx i t))) M := by
  refine gMet.ofF hx (by decide +kernel) (Nat.le_of_ble_eq_true rfl) ?_
  refine g_aload_n dJ0_indexOf_0f7a4_0 rfl rfl rfl ?_
  refine g_iload_n dJ0_indexOf_0f7a4_1 rfl rfl rfl ?_
  refine g_iconst (v := 0) dJ0_indexOf_0f7a4_2 (by decide) rfl ?_
  refine g_callU dJ0_indexOf_0f7a4_3 lm_J0_633 mv_J0_indexOf_7cf53 (c_ix2 (d := d) hx hZ hi ht) hZ hi rfl rfl rfl (Nat.le_of_ble_eq_true rfl) (gFit_room (by omega)) rfl ?_
  exact g_iret dJ0_indexOf_0f7a4_6 rfl (by first | rfl | exact b01) (⟨by first | rfl | assumption | exact gFr.rf | grind [ib], by first | rfl | assumption | exact gFr.rf | grind [ib]⟩)
end ST2
