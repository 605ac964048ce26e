section R3
variable {X : gX} {M : gM} {d : Nat}
/-- the town has become the draft -/
def Bec (M M2 : gM) : Prop := gFr (fun c => 3 ≤ c ∧ c < 11) M M2 ∧ (∀ k, k < 6 → gmi M2 4 k = gmi M 12 k ∧ gmi M2 5 k = gmi M 13 k ∧ gmi M2 6 k = gmi M 14 k) ∧ (∀ k, k < 8 → gmi M2 7 k = gmi M 15 k ∧ gmi M2 8 k = gmi M 16 k ∧ gmi M2 9 k = gmi M 17 k) ∧ gmi M2 3 7 = gmi M 11 7 ∧ gmi M2 3 8 = gmi M 11 8 ∧ gmi M2 3 9 = gmi M 11 9 ∧ gmi M2 3 10 = gmi M 11 10
theorem cpy0 {f g : Nat → Int32} {n k : Nat} (h : k < n) : va_cpy f g 0 0 n k = f k := by
  rw [pk_cpy_in (Nat.zero_le _) (by omega)]
  congr 1
  omega
set_option maxRecDepth 20000 in
set_option maxHeartbeats 1000000 in
theorem c_become (hx : gXok X) (hL : gLay M) : gPos X (d + 1) yX8_become cX8_become 2 none [.ref 3, .ref 11] M (fun v M2 => v = none ∧ Bec M M2) := by
  refine gMet.of hx (by decide) (Nat.le_of_ble_eq_true rfl) ?_
  refine g_aload_n dX8_become_0 rfl rfl rfl ?_
  refine g_getR dX8_become_1 ff_X8_9 rfl (k11 hL) (r11_0 hL) rfl ?_
  refine g_iconst (v := 0) dX8_become_4 (by decide) rfl ?_
  refine g_aload_n dX8_become_5 rfl rfl rfl ?_
  refine g_getR dX8_become_6 ff_X8_9 rfl (k3 hL) (r3_0 hL) rfl ?_
  refine g_iconst (v := 0) dX8_become_9 (by decide) rfl ?_
  refine g_bipush (v := 6) dX8_become_10 (by decide) rfl ?_
  refine g_copy (i := 0) (j := 0) (n := 6) (a := 12) (b := 4) dX8_become_12 lo_X8_47 (k12 hL) (k4 hL) (l12 hL) (l4 hL) rfl rfl rfl (by decide) (by decide) (Nat.le_of_ble_eq_true rfl) (gFit_room (by omega)) rfl ?_
  refine g_aload_n dX8_become_15 rfl rfl rfl ?_
  refine g_getR dX8_become_16 ff_X8_15 rfl (k11 (gLay_F hL)) (r11_1 (gLay_F hL)) rfl ?_
  refine g_iconst (v := 0) dX8_become_19 (by decide) rfl ?_
  refine g_aload_n dX8_become_20 rfl rfl rfl ?_
  refine g_getR dX8_become_21 ff_X8_15 rfl (k3 (gLay_F hL)) (r3_1 (gLay_F hL)) rfl ?_
  refine g_iconst (v := 0) dX8_become_24 (by decide) rfl ?_
  refine g_bipush (v := 6) dX8_become_25 (by decide) rfl ?_
  refine g_copy (i := 0) (j := 0) (n := 6) (a := 13) (b := 5) dX8_become_27 lo_X8_47 (k13 (gLay_F hL)) (k5 (gLay_F hL)) (l13 (gLay_F hL)) (l5 (gLay_F hL)) rfl rfl rfl (by decide) (by decide) (Nat.le_of_ble_eq_true rfl) (gFit_room (by omega)) rfl ?_
  generalize hM2 : gwF (gwF M 4 (va_cpy (gmi M 12) (gmi M 4) 0 0 6)) 5 _ = M2
  have hL2 : gLay M2 := by rw [← hM2]; exact gLay_F (gLay_F hL)
  have hf2 : gFr (fun c => 3 ≤ c ∧ c < 11) M M2 := by rw [← hM2]; exact (gFr.wF (by decide)).tr (gFr.wF (by decide))
  have hv2 : ∀ k, k < 6 → gmi M2 4 k = gmi M 12 k ∧ gmi M2 5 k = gmi M 13 k := fun k hk => by rw [← hM2, gmi_Fn _ _ (by decide), gmi_F, gmi_F, cpy0 hk, cpy0 hk, gmi_Fn _ _ (by decide)]; exact ⟨rfl, rfl⟩
  refine g_aload_n dX8_become_30 rfl rfl rfl ?_
  refine g_getR dX8_become_31 ff_X8_18 rfl (k11 hL2) (r11_2 hL2) rfl ?_
  refine g_iconst (v := 0) dX8_become_34 (by decide) rfl ?_
  refine g_aload_n dX8_become_35 rfl rfl rfl ?_
  refine g_getR dX8_become_36 ff_X8_18 rfl (k3 hL2) (r3_2 hL2) rfl ?_
  refine g_iconst (v := 0) dX8_become_39 (by decide) rfl ?_
  refine g_bipush (v := 6) dX8_become_40 (by decide) rfl ?_
  refine g_copy (i := 0) (j := 0) (n := 6) (a := 14) (b := 6) dX8_become_42 lo_X8_47 (k14 hL2) (k6 hL2) (l14 hL2) (l6 hL2) rfl rfl rfl (by decide) (by decide) (Nat.le_of_ble_eq_true rfl) (gFit_room (by omega)) rfl ?_
  refine g_aload_n dX8_become_45 rfl rfl rfl ?_
  refine g_getR dX8_become_46 ff_X8_21 rfl (k11 (gLay_F hL2)) (r11_3 (gLay_F hL2)) rfl ?_
  refine g_iconst (v := 0) dX8_become_49 (by decide) rfl ?_
  refine g_aload_n dX8_become_50 rfl rfl rfl ?_
  refine g_getR dX8_become_51 ff_X8_21 rfl (k3 (gLay_F hL2)) (r3_3 (gLay_F hL2)) rfl ?_
  refine g_iconst (v := 0) dX8_become_54 (by decide) rfl ?_
  refine g_bipush (v := 8) dX8_become_55 (by decide) rfl ?_
  refine g_copy (i := 0) (j := 0) (n := 8) (a := 15) (b := 7) dX8_become_57 lo_X8_47 (k15 (gLay_F hL2)) (k7 (gLay_F hL2)) (l15 (gLay_F hL2)) (l7 (gLay_F hL2)) rfl rfl rfl (by decide) (by decide) (Nat.le_of_ble_eq_true rfl) (gFit_room (by omega)) rfl ?_
  generalize hM3 : gwF (gwF M2 6 (va_cpy (gmi M2 14) (gmi M2 6) 0 0 6)) 7 _ = M3
  have hL3 : gLay M3 := by rw [← hM3]; exact gLay_F (gLay_F hL2)
  have hf3 : gFr (fun c => 3 ≤ c ∧ c < 11) M M3 := by rw [← hM3]; exact (hf2.tr (gFr.wF (by decide))).tr (gFr.wF (by decide))
  have hv3 : ∀ k, k < 6 → gmi M3 4 k = gmi M 12 k ∧ gmi M3 5 k = gmi M 13 k ∧ gmi M3 6 k = gmi M 14 k := fun k hk => by rw [← hM3, gm2 (by decide) (by decide), gm2 (by decide) (by decide), gmi_Fn _ _ (show (6 : Nat) ≠ 7 by decide), gmi_F, cpy0 hk, hf2.2.2.2 14 (by decide)]; exact ⟨(hv2 k hk).1, (hv2 k hk).2, rfl⟩
  have hw3 : ∀ k, k < 8 → gmi M3 7 k = gmi M 15 k := fun k hk => by rw [← hM3, gmi_F, cpy0 hk, gmi_Fn _ _ (by decide), hf2.2.2.2 15 (by decide)]
  refine g_aload_n dX8_become_60 rfl rfl rfl ?_
  refine g_getR dX8_become_61 ff_X8_24 rfl (k11 hL3) (r11_4 hL3) rfl ?_
  refine g_iconst (v := 0) dX8_become_64 (by decide) rfl ?_
  refine g_aload_n dX8_become_65 rfl rfl rfl ?_
  refine g_getR dX8_become_66 ff_X8_24 rfl (k3 hL3) (r3_4 hL3) rfl ?_
  refine g_iconst (v := 0) dX8_become_69 (by decide) rfl ?_
  refine g_bipush (v := 8) dX8_become_70 (by decide) rfl ?_
  refine g_copy (i := 0) (j := 0) (n := 8) (a := 16) (b := 8) dX8_become_72 lo_X8_47 (k16 hL3) (k8 hL3) (l16 hL3) (l8 hL3) rfl rfl rfl (by decide) (by decide) (Nat.le_of_ble_eq_true rfl) (gFit_room (by omega)) rfl ?_
  refine g_aload_n dX8_become_75 rfl rfl rfl ?_
  refine g_getR dX8_become_76 ff_X8_27 rfl (k11 (gLay_F hL3)) (r11_5 (gLay_F hL3)) rfl ?_
  refine g_iconst (v := 0) dX8_become_79 (by decide) rfl ?_
  refine g_aload_n dX8_become_80 rfl rfl rfl ?_
  refine g_getR dX8_become_81 ff_X8_27 rfl (k3 (gLay_F hL3)) (r3_5 (gLay_F hL3)) rfl ?_
  refine g_iconst (v := 0) dX8_become_84 (by decide) rfl ?_
  refine g_bipush (v := 8) dX8_become_85 (by decide) rfl ?_
  refine g_copy (i := 0) (j := 0) (n := 8) (a := 17) (b := 9) dX8_become_87 lo_X8_47 (k17 (gLay_F hL3)) (k9 (gLay_F hL3)) (l17 (gLay_F hL3)) (l9 (gLay_F hL3)) rfl rfl rfl (by decide) (by decide) (Nat.le_of_ble_eq_true rfl) (gFit_room (by omega)) rfl ?_
  generalize hM4 : gwF (gwF M3 8 (va_cpy (gmi M3 16) (gmi M3 8) 0 0 8)) 9 _ = M4
  have hL4 : gLay M4 := by rw [← hM4]; exact gLay_F (gLay_F hL3)
  have hf4 : gFr (fun c => 3 ≤ c ∧ c < 11) M M4 := by rw [← hM4]; exact (hf3.tr (gFr.wF (by decide))).tr (gFr.wF (by decide))
  have hv4 : ∀ k, k < 6 → gmi M4 4 k = gmi M 12 k ∧ gmi M4 5 k = gmi M 13 k ∧ gmi M4 6 k = gmi M 14 k := fun k hk => by rw [← hM4, gm2 (by decide) (by decide), gm2 (by decide) (by decide), gm2 (by decide) (by decide)]; exact hv3 k hk
  have hw4 : ∀ k, k < 8 → gmi M4 7 k = gmi M 15 k ∧ gmi M4 8 k = gmi M 16 k ∧ gmi M4 9 k = gmi M 17 k := fun k hk => by rw [← hM4, gm2 (by decide) (by decide), gmi_Fn _ _ (show (8 : Nat) ≠ 9 by decide), gmi_F, gmi_F, cpy0 hk, cpy0 hk, gmi_Fn _ _ (by decide), hf3.2.2.2 16 (by decide), hf3.2.2.2 17 (by decide)]; exact ⟨hw3 k hk, rfl, rfl⟩
  have e11 : gmi M4 11 = gmi M 11 := hf4.2.2.2 11 (by decide)
  refine g_aload_n dX8_become_90 rfl rfl rfl ?_
  refine g_aload_n dX8_become_91 rfl rfl rfl ?_
  refine g_getI dX8_become_92 ff_X8_33 rfl (k11 hL4) rfl ?_
  refine g_putI dX8_become_95 fp_X8_33 rfl rfl rfl (k3 hL4) rfl ?_
  refine g_aload_n dX8_become_98 rfl rfl rfl ?_
  refine g_aload_n dX8_become_99 rfl rfl rfl ?_
  refine g_getI dX8_become_100 ff_X8_37 rfl (k11 (gLay_I hL4)) rfl ?_
  refine g_putI dX8_become_103 fp_X8_37 rfl rfl rfl (k3 (gLay_I hL4)) rfl ?_
  refine g_aload_n dX8_become_106 rfl rfl rfl ?_
  refine g_aload_n dX8_become_107 rfl rfl rfl ?_
  refine g_getI dX8_become_108 ff_X8_53 rfl (k11 (gLay_I (gLay_I hL4))) rfl ?_
  refine g_putI dX8_become_111 fp_X8_53 rfl rfl rfl (k3 (gLay_I (gLay_I hL4))) rfl ?_
  refine g_aload_n dX8_become_114 rfl rfl rfl ?_
  refine g_aload_n dX8_become_115 rfl rfl rfl ?_
  refine g_getI dX8_become_116 ff_X8_56 rfl (k11 (gLay_I (gLay_I (gLay_I hL4)))) rfl ?_
  refine g_putI dX8_become_119 fp_X8_56 rfl rfl rfl (k3 (gLay_I (gLay_I (gLay_I hL4)))) rfl ?_
  exact g_vret dX8_become_122 rfl (⟨rfl, (((hf4.tr (gFr.wI (by decide))).tr (gFr.wI (by decide))).tr (gFr.wI (by decide))).tr (gFr.wI (by decide)), hv4, hw4, by rw [← e11]; rfl, by rw [← e11]; rfl, by rw [← e11]; rfl, by rw [← e11]; rfl⟩)
/-- a row as life begins -/
def begF (M : gM) : Nat → Int32 := va_up (fun k => if k < tv M 3 7 then gmi M 4 k else fillF (gmi M 25) 0 67 k) 65 (gmi M 3 10)
set_option maxRecDepth 20000 in
theorem c_begin (hx : gXok X) (hL : gLay M) (hP : okv M 3 7 6) : gDet X (d + 1) yX4_begin cX4_begin 2 none [.ref 24] M none (gwF M 25 (begF M)) := by
  have h6 := hP.2
  refine gMet.of hx (by decide) (Nat.le_of_ble_eq_true rfl) ?_
  refine g_aload_n dX4_begin_0 rfl rfl rfl ?_
  refine g_getR dX4_begin_1 ff_X4_11 rfl (k24 hL) (r24_1 hL) rfl ?_
  refine g_iconst (v := 0) dX4_begin_4 (by decide) rfl ?_
  refine g_callSdv dX4_begin_5 lm_X4_22 mv_J7_fill_53178 (c_fill (d := d) (n := 67) hx (k25 hL) (l25 hL) (by decide)) rfl rfl (Nat.le_of_ble_eq_true rfl) (gFit_room (by omega)) rfl ?_
  refine g_iconst (v := 0) dX4_begin_8 (by decide) rfl ?_
  refine g_istore_n dX4_begin_9 rfl (by decide) rfl ?_
  refine g_loop (fun i => [(0, .ref 24), (1, .int (nI i))]) (fun i => gwF M 25 (fun k => if k < i then gmi M 4 k else fillF (gmi M 25) 0 67 k)) (tv M 3 7) 0 (Nat.zero_le _) ⟨rfl, rfl, trivial⟩ (by congr 1) ?_ (fun i _ hi ih => ?_)
  · refine g_iload_n dX4_begin_10 rfl rfl rfl ?_
    refine g_aload_n dX4_begin_11 rfl rfl rfl ?_
    refine g_getR dX4_begin_12 ff_X4_18 rfl (k24 (gLay_F hL)) (r24_0 (gLay_F hL)) rfl ?_
    refine g_getI dX4_begin_15 ff_X4_28 rfl (k3 (gLay_F hL)) rfl ?_
    rw [gmi_Fn _ _ (show (3 : Nat) ≠ 25 by decide)]
    refine g_icmp_ge (tgt := 44) dX4_begin_18 (by decide) rfl (fun _ => ?_) (fun h_ => absurd (by rw [hP.1]; exact nI_le (Nat.le_refl _) (by omega)) h_)
    refine g_aload_n dX4_begin_44 rfl rfl rfl ?_
    refine g_getR dX4_begin_45 ff_X4_11 rfl (k24 (gLay_F hL)) (r24_1 (gLay_F hL)) rfl ?_
    refine g_bipush (v := 65) dX4_begin_48 (by decide) rfl ?_
    refine g_aload_n dX4_begin_50 rfl rfl rfl ?_
    refine g_getR dX4_begin_51 ff_X4_18 rfl (k24 (gLay_F hL)) (r24_0 (gLay_F hL)) rfl ?_
    refine g_getI dX4_begin_54 ff_X4_37 rfl (k3 (gLay_F hL)) rfl ?_
    refine g_iast (i := 65) dX4_begin_57 (k25 (gLay_F hL)) (l25 (gLay_F hL)) (by (try simp only [nI_lit, pk_mul, nI_add, Nat.zero_add]); exact nI_toInt (by omega)) (by omega) rfl ?_
    exact g_vret dX4_begin_58 rfl (⟨rfl, by rw [gwI_F, gmi_Fn _ _ (show (3 : Nat) ≠ 25 by decide)]; rfl⟩)
  · refine g_iload_n dX4_begin_10 rfl rfl rfl ?_
    refine g_aload_n dX4_begin_11 rfl rfl rfl ?_
    refine g_getR dX4_begin_12 ff_X4_18 rfl (k24 (gLay_F hL)) (r24_0 (gLay_F hL)) rfl ?_
    refine g_getI dX4_begin_15 ff_X4_28 rfl (k3 (gLay_F hL)) rfl ?_
    rw [gmi_Fn _ _ (show (3 : Nat) ≠ 25 by decide)]
    refine g_icmp_ge (tgt := 44) dX4_begin_18 (by decide) rfl (fun h_ => absurd h_ (by rw [hP.1]; exact nI_ge hi (by omega))) (fun _ => ?_)
    refine g_aload_n dX4_begin_21 rfl rfl rfl ?_
    refine g_getR dX4_begin_22 ff_X4_11 rfl (k24 (gLay_F hL)) (r24_1 (gLay_F hL)) rfl ?_
    refine g_iconst (v := 0) dX4_begin_25 (by decide) rfl ?_
    refine g_iload_n dX4_begin_26 rfl rfl rfl ?_
    refine g_iadd dX4_begin_27 rfl ?_
    refine g_aload_n dX4_begin_28 rfl rfl rfl ?_
    refine g_getR dX4_begin_29 ff_X4_18 rfl (k24 (gLay_F hL)) (r24_0 (gLay_F hL)) rfl ?_
    refine g_getR dX4_begin_32 ff_X4_34 rfl (k3 (gLay_F hL)) (r3_0 (gLay_F hL)) rfl ?_
    refine g_iload_n dX4_begin_35 rfl rfl rfl ?_
    refine g_iald (i := i) dX4_begin_36 (k4 (gLay_F hL)) (l4 (gLay_F hL)) (by (try simp only [nI_lit, pk_mul, nI_add, Nat.zero_add]); exact nI_toInt (by omega)) (by omega) rfl ?_
    rw [gmi_Fn _ _ (show (4 : Nat) ≠ 25 by decide)]
    refine g_iast (i := i) dX4_begin_37 (k25 (gLay_F hL)) (l25 (gLay_F hL)) (by (try simp only [nI_lit, pk_mul, nI_add, Nat.zero_add]); exact nI_toInt (by omega)) (by omega) rfl ?_
    rw [gwI_F, show va_up (fun k => if k < i then gmi M 4 k else fillF (gmi M 25) 0 67 k) i (gmi M 4 i) = (fun k => if k < i + 1 then gmi M 4 k else fillF (gmi M 25) 0 67 k) from by
        funext k
        by_cases e : k = i
        · subst e; rw [va_up_self, if_pos (by omega)]
        · rw [va_up_ne _ _ e]
          by_cases e2 : k < i
          · rw [if_pos e2, if_pos (by omega)]
          · rw [if_neg e2, if_neg (by omega)]]
    refine g_iincV (c := 1) dX4_begin_38 rfl (by decide) (by decide) rfl ?_
    refine g_goto (tgt := 10) dX4_begin_41 (by decide) ?_
    exact g_go ih ⟨rfl, by rw [← nI_1 i]; rfl, trivial⟩
/-- a town has been founded -/
def Fnd (M M2 : gM) : Prop := ∃ M1, Bec M M1 ∧ M2 = gwI (gwI (gwI (gwI (gwF M1 25 (begF M1)) 33 1 0) 75 5 0) 0 11 0) 1 1 0
set_option maxRecDepth 20000 in
theorem c_found (hx : gXok X) (hL : gLay M) {n : Nat} (hn : gmi M 11 7 = nI n) (h6 : n ≤ 6) : gPos X (d + 2) yX10_foundTown cX10_foundTown 1 (some .int) [.ref 0] M (fun v M2 => v = some (.int (nI n)) ∧ Fnd M M2) := by
  refine gMet.of hx (by decide) (Nat.le_of_ble_eq_true rfl) ?_
  refine g_aload_n dX10_foundTown_0 rfl rfl rfl ?_
  refine g_getR dX10_foundTown_1 ff_X10_19 rfl (k0 hL) (r0_1 hL) rfl ?_
  refine g_aload_n dX10_foundTown_4 rfl rfl rfl ?_
  refine g_getR dX10_foundTown_5 ff_X10_23 rfl (k0 hL) (r0_2 hL) rfl ?_
  refine g_callVq (ci := 8) dX10_foundTown_8 lm_X10_127 mv_X8_become (c_become (d := d) hx hL) rfl rfl (k3 hL) rfl rfl (Nat.le_of_ble_eq_true rfl) (gFit_room (by omega)) rfl (fun v M2 hQ => ?_)
  obtain ⟨rfl, hf⟩ := hQ
  have hL1 := hf.1.lay hL
  have hP1 : okv M2 3 7 6 := (okv_of (hf.2.2.2.1.trans hn) h6 (by decide)).1
  refine g_aload_n dX10_foundTown_11 rfl rfl rfl ?_
  refine g_getR dX10_foundTown_12 ff_X10_58 rfl (k0 hL1) (r0_8 hL1) rfl ?_
  refine g_callVdv (ci := 4) dX10_foundTown_15 lm_X10_130 mv_X4_begin (c_begin (d := d) hx hL1 hP1) rfl rfl (k24 hL1) rfl rfl (Nat.le_of_ble_eq_true rfl) (gFit_room (by omega)) rfl ?_
  refine g_aload_n dX10_foundTown_18 rfl rfl rfl ?_
  refine g_getR dX10_foundTown_19 ff_X10_71 rfl (k0 (gLay_F hL1)) (r0_12 (gLay_F hL1)) rfl ?_
  refine g_callVdv (ci := 5) dX10_foundTown_22 lm_X10_133 mv_X5_forget (c_pforget (d := d) hx (gLay_F hL1)) rfl rfl (k33 (gLay_F hL1)) rfl rfl (Nat.le_of_ble_eq_true rfl) (gFit_room (by omega)) rfl ?_
  refine g_aload_n dX10_foundTown_25 rfl rfl rfl ?_
  refine g_getR dX10_foundTown_26 ff_X10_80 rfl (k0 (gLay_I (gLay_F hL1))) (r0_13 (gLay_I (gLay_F hL1))) rfl ?_
  refine g_callVdv (ci := 6) dX10_foundTown_29 lm_X10_136 mv_X6_forget (c_sforget (d := d) hx (gLay_I (gLay_F hL1))) rfl rfl (k75 (gLay_I (gLay_F hL1))) rfl rfl (Nat.le_of_ble_eq_true rfl) (gFit_room (by omega)) rfl ?_
  refine g_aload_n dX10_foundTown_32 rfl rfl rfl ?_
  refine g_iconst (v := 0) dX10_foundTown_33 (by decide) rfl ?_
  refine g_putI dX10_foundTown_34 fp_X10_137 rfl rfl rfl (k0 (gLay_I (gLay_I (gLay_F hL1)))) rfl ?_
  refine g_aload_n dX10_foundTown_37 rfl rfl rfl ?_
  refine g_getR dX10_foundTown_38 ff_X10_10 rfl (k0 (gLay_I (gLay_I (gLay_I (gLay_F hL1))))) (r0_0 (gLay_I (gLay_I (gLay_I (gLay_F hL1))))) rfl ?_
  refine g_iconst (v := 0) dX10_foundTown_41 (by decide) rfl ?_
  refine g_putI dX10_foundTown_42 fp_X10_99 rfl rfl rfl (k1 (gLay_I (gLay_I (gLay_I (gLay_F hL1))))) rfl ?_
  refine g_aload_n dX10_foundTown_45 rfl rfl rfl ?_
  refine g_getR dX10_foundTown_46 ff_X10_19 rfl (k0 (gLay_I (gLay_I (gLay_I (gLay_I (gLay_F hL1)))))) (r0_1 (gLay_I (gLay_I (gLay_I (gLay_I (gLay_F hL1)))))) rfl ?_
  refine g_getI dX10_foundTown_49 ff_X10_141 rfl (k3 (gLay_I (gLay_I (gLay_I (gLay_I (gLay_F hL1)))))) rfl ?_
  exact g_iret dX10_foundTown_52 rfl (by first | rfl | exact b01) (⟨by rw [← hn, ← hf.2.2.2.1]; rfl, _, hf, rfl⟩)
end R3
