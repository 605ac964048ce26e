section W2
variable {X : gX} {M : gM} {d : Nat}
def WeeksOK (M : gM) : Prop := okv M 0 6 4 ∧ ∀ k, k < tv M 0 6 → gmr M 23 k = some (300 + 5 * k) ∧ WkAt M (300 + 5 * k) ∧ okv M (300 + 5 * k) 3 16
abbrev inW (M : gM) (x : Int32) : Prop := 0 ≤ x ∧ x < gmi M 0 6
set_option maxRecDepth 20000 in
theorem c_weekN (hx : gXok X) (hL : gLay M) {x : Int32} (h : ¬ inW M x) : gDet X (d + 0) yX10_weekOf cX10_weekOf 2 (some (.object "GuiltyShave$Week")) [.ref 0, .int x] M (some .null) M := by
  refine gMet.of hx (by decide) (Nat.le_of_ble_eq_true rfl) ?_
  refine g_iload_n dX10_weekOf_0 rfl rfl rfl ?_
  refine g_if_lt (tgt := 21) dX10_weekOf_1 (by decide) rfl (fun h1 => ?_) (fun h1 => ?_)
  · refine g_null dX10_weekOf_21 rfl ?_
    exact g_aret dX10_weekOf_22 rfl (Or.inl ⟨_, rfl⟩) (Or.inl rfl) ⟨rfl, rfl⟩
  · refine g_iload_n dX10_weekOf_4 rfl rfl rfl ?_
    refine g_aload_n dX10_weekOf_5 rfl rfl rfl ?_
    refine g_getI dX10_weekOf_6 ff_X10_155 rfl (k0 hL) rfl ?_
    refine g_icmp_ge (tgt := 21) dX10_weekOf_9 (by decide) rfl (fun h9 => ?_) (fun h9 => ?_)
    · refine g_null dX10_weekOf_21 rfl ?_
      exact g_aret dX10_weekOf_22 rfl (Or.inl ⟨_, rfl⟩) (Or.inl rfl) ⟨rfl, rfl⟩
    · exact absurd ⟨Int32.not_lt.mp h1, Int32.not_le.mp h9⟩ h
set_option maxRecDepth 20000 in
theorem c_weekS (hx : gXok X) (hL : gLay M) (hW : WeeksOK M) {k : Nat} (h : k < tv M 0 6) : gDet X (d + 0) yX10_weekOf cX10_weekOf 2 (some (.object "GuiltyShave$Week")) [.ref 0, .int (nI k)] M (some (.ref (300 + 5 * k))) M := by
  have h4 := hW.1.2
  refine gMet.of hx (by decide) (Nat.le_of_ble_eq_true rfl) ?_
  refine g_iload_n dX10_weekOf_0 rfl rfl rfl ?_
  refine g_if_lt (tgt := 21) dX10_weekOf_1 (by decide) rfl (fun h_ => absurd h_ (nI_pos (by omega))) (fun _ => ?_)
  refine g_iload_n dX10_weekOf_4 rfl rfl rfl ?_
  refine g_aload_n dX10_weekOf_5 rfl rfl rfl ?_
  refine g_getI dX10_weekOf_6 ff_X10_155 rfl (k0 hL) rfl ?_
  refine g_icmp_ge (tgt := 21) dX10_weekOf_9 (by decide) rfl (fun h_ => absurd h_ (by rw [hW.1.1]; exact nI_ge h (by omega))) (fun _ => ?_)
  refine g_aload_n dX10_weekOf_12 rfl rfl rfl ?_
  refine g_getR dX10_weekOf_13 ff_X10_46 rfl (k0 hL) (r0_5 hL) rfl ?_
  refine g_iload_n dX10_weekOf_16 rfl rfl rfl ?_
  refine g_aald6 (i := k) dX10_weekOf_17 (k23 hL) (l23 hL) (by (try simp only [nI_lit, pk_mul, nI_add, Nat.zero_add]); exact nI_toInt (by omega)) (by omega) rfl ?_
  rw [(hW.2 k h).1]
  refine g_goto (tgt := 22) dX10_weekOf_18 (by decide) ?_
  exact g_aret (v := .ref (300 + 5 * k)) dX10_weekOf_22 rfl (Or.inl ⟨_, rfl⟩) (Or.inr ⟨_, rfl⟩) ⟨rfl, rfl⟩
abbrev inS (M : gM) (k : Nat) (x : Int32) : Prop := 0 ≤ x ∧ x < gmi M (300 + 5 * k) 3
set_option maxRecDepth 20000 in
theorem c_stepT (hx : gXok X) (hL : gLay M) (hW : WeeksOK M) {x i w : Int32} : gDet X (d + 1) yX10_step cX10_step 5 (some .int) [.ref 0, .int x, .int i, .int w] M (some (.int (if inW M x ∧ inS M (tn x) i then (if w = 0 then gmi M (300 + 5 * tn x + 1) (tn i) else if w = 1 then gmi M (300 + 5 * tn x + 2) (tn i) else if w = 2 then gmi M (300 + 5 * tn x + 3) (tn i) else -1000000) else -1000000))) M := by
  have h4 := hW.1.2
  refine gMet.of hx (by decide) (Nat.le_of_ble_eq_true rfl) ?_
  by_cases hin : inW M x
  · obtain ⟨ex, lk⟩ := in_row hW.1.1 (by omega) hin
    obtain ⟨hr, ⟨k_a, ⟨k_a1, l_a1⟩, ⟨k_a2, l_a2⟩, ⟨k_a3, l_a3⟩, r_a_0, r_a_1, r_a_2⟩, hlen⟩ := hW.2 _ lk
    have hlen2 := hlen.2
    generalize hk : tn x = k at *
    subst ex
    refine g_aload_n dX10_step_0 rfl rfl rfl ?_
    refine g_iload_n dX10_step_1 rfl rfl rfl ?_
    refine g_callVdr (ci := 10) dX10_step_2 lm_X10_296 mv_X10_weekOf (c_weekS (d := d) hx hL hW lk) rfl rfl (k0 hL) rfl rfl (Nat.le_of_ble_eq_true rfl) (gFit_room (by omega)) rfl ?_
    refine g_astore dX10_step_5 (by decide) rfl ?_
    refine g_aload dX10_step_7 rfl rfl ?_
    refine g_ifnull dX10_step_9 rfl ?_
    refine g_iload_n dX10_step_12 rfl rfl rfl ?_
    refine g_if_lt (tgt := 25) dX10_step_13 (by decide) rfl (fun h13 => ?_) (fun h13 => ?_)
    · rw [if_neg (show ¬ (inW M (nI k) ∧ inS M k i) from fun q => by first | exact absurd h13 (Int32.not_lt.mpr q.2.1) | exact h22 q.2.2)]
      refine g_ldcw dX10_step_25 lq_X10_301 rfl ?_
      exact g_iret dX10_step_28 rfl (by first | rfl | exact b01) (⟨by first | rfl | assumption | exact gFr.rf | grind [ib], by first | rfl | assumption | exact gFr.rf | grind [ib]⟩)
    · refine g_iload_n dX10_step_16 rfl rfl rfl ?_
      refine g_aload dX10_step_17 rfl rfl ?_
      refine g_getI dX10_step_19 ff_X10_300 rfl (k_a) rfl ?_
      refine g_icmp_lt (tgt := 29) dX10_step_22 (by decide) rfl (fun h22 => ?_) (fun h22 => ?_)
      · rw [if_pos (show inW M (nI k) ∧ inS M k i from ⟨hin, Int32.not_lt.mp h13, h22⟩)]
        obtain ⟨ei, li⟩ := in_row hlen.1 (by omega) ⟨Int32.not_lt.mp h13, h22⟩
        generalize hki : tn i = j at *
        subst ei
        refine g_iload_n dX10_step_29 rfl rfl rfl ?_
        by_cases e30_0 : w = 0
        · rw [e30_0]
          refine g_tableIn (off := 26) (tgt := 56) dX10_step_30 (by decide) (by decide) (by decide) (by decide) ?_
          refine g_aload dX10_step_56 rfl rfl ?_
          refine g_getR dX10_step_58 ff_X10_302 rfl (k_a) (r_a_0) rfl ?_
          refine g_iload_n dX10_step_61 rfl rfl rfl ?_
          refine g_iald (i := j) dX10_step_62 (k_a1) (l_a1) (by (try simp only [nI_lit, pk_mul, nI_add, Nat.zero_add]); exact nI_toInt (by omega)) (by omega) rfl ?_
          exact g_iret dX10_step_63 rfl (by first | rfl | exact b01) (⟨by first | rfl | assumption | exact gFr.rf | grind [ib], by first | rfl | assumption | exact gFr.rf | grind [ib]⟩)
        by_cases e30_1 : w = 1
        · rw [e30_1]
          refine g_tableIn (off := 34) (tgt := 64) dX10_step_30 (by decide) (by decide) (by decide) (by decide) ?_
          refine g_aload dX10_step_64 rfl rfl ?_
          refine g_getR dX10_step_66 ff_X10_305 rfl (k_a) (r_a_1) rfl ?_
          refine g_iload_n dX10_step_69 rfl rfl rfl ?_
          refine g_iald (i := j) dX10_step_70 (k_a2) (l_a2) (by (try simp only [nI_lit, pk_mul, nI_add, Nat.zero_add]); exact nI_toInt (by omega)) (by omega) rfl ?_
          exact g_iret dX10_step_71 rfl (by first | rfl | exact b01) (⟨by first | rfl | assumption | exact gFr.rf | grind [ib], by first | rfl | assumption | exact gFr.rf | grind [ib]⟩)
        by_cases e30_2 : w = 2
        · rw [e30_2]
          refine g_tableIn (off := 42) (tgt := 72) dX10_step_30 (by decide) (by decide) (by decide) (by decide) ?_
          refine g_aload dX10_step_72 rfl rfl ?_
          refine g_getR dX10_step_74 ff_X10_307 rfl (k_a) (r_a_2) rfl ?_
          refine g_iload_n dX10_step_77 rfl rfl rfl ?_
          refine g_iald (i := j) dX10_step_78 (k_a3) (l_a3) (by (try simp only [nI_lit, pk_mul, nI_add, Nat.zero_add]); exact nI_toInt (by omega)) (by omega) rfl ?_
          exact g_iret dX10_step_79 rfl (by first | rfl | exact b01) (⟨by first | rfl | assumption | exact gFr.rf | grind [ib], by first | rfl | assumption | exact gFr.rf | grind [ib]⟩)
        refine g_tableOut (tgt := 80) dX10_step_30 (swo 0 3 (by decide) (fun k hk => match k, hk with | 0, _ => e30_0 | 1, _ => e30_1 | 2, _ => e30_2 | (k + 3), hk => absurd hk (by omega))) (by decide) ?_
        refine g_ldcw dX10_step_80 lq_X10_301 rfl ?_
        exact g_iret dX10_step_83 rfl (by first | rfl | exact b01) (⟨by first | rfl | assumption | exact gFr.rf | grind [ib], by first | rfl | assumption | exact gFr.rf | grind [ib]⟩)
      · rw [if_neg (show ¬ (inW M (nI k) ∧ inS M k i) from fun q => by first | exact absurd h13 (Int32.not_lt.mpr q.2.1) | exact h22 q.2.2)]
        refine g_ldcw dX10_step_25 lq_X10_301 rfl ?_
        exact g_iret dX10_step_28 rfl (by first | rfl | exact b01) (⟨by first | rfl | assumption | exact gFr.rf | grind [ib], by first | rfl | assumption | exact gFr.rf | grind [ib]⟩)
  · rw [if_neg (fun q => hin q.1)]
    refine g_aload_n dX10_step_0 rfl rfl rfl ?_
    refine g_iload_n dX10_step_1 rfl rfl rfl ?_
    refine g_callVdr (ci := 10) dX10_step_2 lm_X10_296 mv_X10_weekOf (c_weekN (d := d) hx hL hin) rfl rfl (k0 hL) rfl rfl (Nat.le_of_ble_eq_true rfl) (gFit_room (by omega)) rfl ?_
    refine g_astoreN dX10_step_5 (by decide) rfl ?_
    refine g_aloadN dX10_step_7 rfl rfl ?_
    refine g_ifnullN (tgt := 25) dX10_step_9 (by decide) ?_
    refine g_ldcw dX10_step_25 lq_X10_301 rfl ?_
    exact g_iret dX10_step_28 rfl (by first | rfl | exact b01) (⟨by first | rfl | assumption | exact gFr.rf | grind [ib], by first | rfl | assumption | exact gFr.rf | grind [ib]⟩)
end W2
