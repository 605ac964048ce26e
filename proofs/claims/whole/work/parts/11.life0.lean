section L0
variable {X : gX} {M : gM} {d : Nat}
set_option maxRecDepth 20000 in
theorem c_hasPerson (hx : gXok X) (hL : gLay M) {x : Int32} : gDet X (d + 0) yX8_hasPerson cX8_hasPerson 2 (some .boolean) [.ref 3, .int x] M (some (.int (if 0 ≤ x ∧ x < gmi M 3 7 then 1 else 0))) M := by
  refine gMet.of hx (by decide) (Nat.le_of_ble_eq_true rfl) ?_
  refine g_iload_n dX8_hasPerson_0 rfl rfl rfl ?_
  refine g_if_lt (tgt := 16) dX8_hasPerson_1 (by decide) rfl (fun h1 => ?_) (fun h1 => ?_)
  · refine g_iconst (v := 0) dX8_hasPerson_16 (by decide) rfl ?_
    exact g_iret dX8_hasPerson_17 rfl rfl ⟨by rw [if_neg (fun q => Int32.not_le.mpr h1 q.1)], rfl⟩
  · refine g_iload_n dX8_hasPerson_4 rfl rfl rfl ?_
    refine g_aload_n dX8_hasPerson_5 rfl rfl rfl ?_
    refine g_getI dX8_hasPerson_6 ff_X8_33 rfl (k3 hL) rfl ?_
    refine g_icmp_ge (tgt := 16) dX8_hasPerson_9 (by decide) rfl (fun h9 => ?_) (fun h9 => ?_)
    · refine g_iconst (v := 0) dX8_hasPerson_16 (by decide) rfl ?_
      exact g_iret dX8_hasPerson_17 rfl rfl ⟨by rw [if_neg (fun q => Int32.not_lt.mpr h9 q.2)], rfl⟩
    · refine g_iconst (v := 1) dX8_hasPerson_12 (by decide) rfl ?_
      refine g_goto (tgt := 17) dX8_hasPerson_13 (by decide) ?_
      exact g_iret dX8_hasPerson_17 rfl rfl ⟨by rw [if_pos ⟨Int32.not_lt.mp h1, Int32.not_le.mp h9⟩], rfl⟩
set_option maxRecDepth 20000 in
theorem c_leftOf_now (hx : gXok X) (hL : gLay M) {p e : Nat} (hp : p < 6) (he : e < 8) : gDet X (d + 0) yX4_leftOf cX4_leftOf 3 (some .int) [.ref 24, .int (nI p), .int (nI e)] M (some (.int (gmi M 25 (12 + p * 8 + e)))) M := by
  refine gMet.of hx (by decide) (Nat.le_of_ble_eq_true rfl) ?_
  refine g_aload_n dX4_leftOf_0 rfl rfl rfl ?_
  refine g_getR dX4_leftOf_1 ff_X4_11 rfl (k24 hL) (r24_1 hL) rfl ?_
  refine g_bipush (v := 12) dX4_leftOf_4 (by decide) rfl ?_
  refine g_iload_n dX4_leftOf_6 rfl rfl rfl ?_
  refine g_bipush (v := 8) dX4_leftOf_7 (by decide) rfl ?_
  refine g_imul dX4_leftOf_9 rfl ?_
  refine g_iadd dX4_leftOf_10 rfl ?_
  refine g_iload_n dX4_leftOf_11 rfl rfl rfl ?_
  refine g_iadd dX4_leftOf_12 rfl ?_
  refine g_iald (i := (12 + p * 8 + e)) dX4_leftOf_13 (k25 hL) (l25 hL) (by simp only [fa_lit, pk_mul, nI_add]; exact nI_toInt (by omega)) (by omega) rfl ?_
  exact g_iret dX4_leftOf_14 rfl rfl ⟨rfl, rfl⟩
set_option maxRecDepth 20000 in
theorem c_leftOf_trial (hx : gXok X) (hL : gLay M) {p e : Nat} (hp : p < 6) (he : e < 8) : gDet X (d + 0) yX4_leftOf cX4_leftOf 3 (some .int) [.ref 27, .int (nI p), .int (nI e)] M (some (.int (gmi M 28 (12 + p * 8 + e)))) M := by
  refine gMet.of hx (by decide) (Nat.le_of_ble_eq_true rfl) ?_
  refine g_aload_n dX4_leftOf_0 rfl rfl rfl ?_
  refine g_getR dX4_leftOf_1 ff_X4_11 rfl (k27 hL) (r27_1 hL) rfl ?_
  refine g_bipush (v := 12) dX4_leftOf_4 (by decide) rfl ?_
  refine g_iload_n dX4_leftOf_6 rfl rfl rfl ?_
  refine g_bipush (v := 8) dX4_leftOf_7 (by decide) rfl ?_
  refine g_imul dX4_leftOf_9 rfl ?_
  refine g_iadd dX4_leftOf_10 rfl ?_
  refine g_iload_n dX4_leftOf_11 rfl rfl rfl ?_
  refine g_iadd dX4_leftOf_12 rfl ?_
  refine g_iald (i := (12 + p * 8 + e)) dX4_leftOf_13 (k28 hL) (l28 hL) (by simp only [fa_lit, pk_mul, nI_add]; exact nI_toInt (by omega)) (by omega) rfl ?_
  exact g_iret dX4_leftOf_14 rfl rfl ⟨rfl, rfl⟩
end L0
