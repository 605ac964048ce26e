section F3
variable {X : gX} {M : gM} {d : Nat}
theorem gm2 {M : gM} {a b c : Nat} {f g : Nat → Int32} (h1 : c ≠ a) (h2 : c ≠ b) : gmi (gwF (gwF M a f) b g) c = gmi M c := by rw [gmi_Fn _ _ h2, gmi_Fn _ _ h1]
/-- a row whose first i people are a day older; of the next one the beard (b = 1) and j deeds -/
def ag (f : Nat → Int32) (D i b j : Nat) : Nat → Int32 := fun k => if k < i + b then imin 99 (f k + 1) else if 12 ≤ k ∧ k < 60 ∧ ((k - 12) / 8 < i ∧ (k - 12) % 8 < D ∨ (k - 12) / 8 = i ∧ (k - 12) % 8 < j) then imax 0 (f k - 1) else f k
theorem ag_0 (f : Nat → Int32) (D : Nat) : ag f D 0 0 0 = f := by
  funext k
  unfold ag
  rw [if_neg (by omega), if_neg (by omega)]
theorem ag_b (f : Nat → Int32) {D i : Nat} (hi : i < 6) : va_up (ag f D i 0 0) i (imin 99 (ag f D i 0 0 i + 1)) = ag f D i 1 0 := by
  have e : ag f D i 0 0 i = f i := by unfold ag; rw [if_neg (by omega), if_neg (by omega)]
  funext k
  by_cases h : k = i
  · subst h
    rw [va_up_self, e]
    unfold ag
    rw [if_pos (by omega)]
  · rw [va_up_ne _ _ h]
    unfold ag
    repeat' split
    all_goals first | rfl | (exfalso; omega)
theorem ag_j (f : Nat → Int32) {D i j : Nat} (hi : i < 6) (hj : j < 8) : va_up (ag f D i 1 j) (12 + i * 8 + j) (imax 0 (ag f D i 1 j (12 + i * 8 + j) - 1)) = ag f D i 1 (j + 1) := by
  have e : ag f D i 1 j (12 + i * 8 + j) = f (12 + i * 8 + j) := by unfold ag; rw [if_neg (by omega), if_neg (by omega)]
  funext k
  by_cases h : k = 12 + i * 8 + j
  · subst h
    rw [va_up_self, e]
    unfold ag
    rw [if_neg (by omega), if_pos (by omega)]
  · rw [va_up_ne _ _ h]
    unfold ag
    by_cases h2 : k < i + 1
    · rw [if_pos h2, if_pos h2]
    · rw [if_neg h2, if_neg h2]
      by_cases h3 : 12 ≤ k ∧ k < 60 ∧ ((k - 12) / 8 < i ∧ (k - 12) % 8 < D ∨ (k - 12) / 8 = i ∧ (k - 12) % 8 < j)
      · rw [if_pos h3, if_pos (by omega)]
      · rw [if_neg h3, if_neg (by omega)]
theorem ag_n (f : Nat → Int32) {D i : Nat} : ag f D i 1 D = ag f D (i + 1) 0 0 := by
  funext k
  unfold ag
  repeat' split
  all_goals first | rfl | (exfalso; omega)
/-- the smooth, as bits -/
def smo (M : gM) (r : Nat) : Nat := bsum (fun p => decide (gmi M r p = 0)) (tv M 3 7)
def wishN (M : gM) (r : Nat) : Nat := fb_ct (fun p => (smo M r).testBit p && decide (gmi M 6 p = gmi M r 66 - gmi M r 66 / 7 * 7)) (tv M 3 7)
/-- the row behind a day, the log behind it -/
def dayR (M : gM) (r : Nat) : Nat → Int32 :=
  va_up (va_up (va_up (ag (va_up (gmi M r) 64 (imin 9999 (gmi M r 64 + nI (wishN M r)))) (tv M 3 8) (tv M 3 7) 0 0) 60 0) 61 0) 66 (va_up (va_up (ag (va_up (gmi M r) 64 (imin 9999 (gmi M r 64 + nI (wishN M r)))) (tv M 3 8) (tv M 3 7) 0 0) 60 0) 61 0 66 + 1)
def dayE (M : gM) (r e : Nat) : Nat → Int32 :=
  va_up (va_up (va_up (gmi M e) (tv M r 66 % 128 * 3) (nI (smo M r))) (tv M r 66 % 128 * 3 + 1) (gmi M r 61)) (tv M r 66 % 128 * 3 + 2) (gmi M r 62)
theorem smo_lt (hT : TownOK M) (r : Nat) : smo M r < 64 := Nat.lt_of_lt_of_le (bsum_lt _ _) (Nat.le_trans (bt_pow hT.1.2) (by decide))
set_option maxRecDepth 20000 in
theorem c_passDay_now (hx : gXok X) (hL : gLay M) (hT : TownOK M) (hd : okv M 25 66 999) : gDet X (d + 2) yX4_passDay cX4_passDay 4 none [.ref 24] M none (gwF (gwF M 26 (dayE M 25 26)) 25 (dayR M 25)) := by
  have h6 := hT.1.2
  have h8 := hT.2.1.2
  refine gMet.of hx (by decide) (Nat.le_of_ble_eq_true rfl) ?_
  refine g_aload_n dX4_passDay_0 rfl rfl rfl ?_
  refine g_callVdi (ci := 4) dX4_passDay_1 lm_X4_98 mv_X4_smooth (c_smooth_now (d := d) hx hL hT) rfl rfl (k24 hL) rfl rfl (Nat.le_of_ble_eq_true rfl) (gFit_room (by omega)) rfl ?_
  refine g_istore_n dX4_passDay_4 rfl (by decide) rfl ?_
  refine g_aload_n dX4_passDay_5 rfl rfl rfl ?_
  refine g_iload_n dX4_passDay_6 rfl rfl rfl ?_
  refine g_callVdv (ci := 4) dX4_passDay_7 lm_X4_102 mv_X4_write (c_write_now (d := d) hx hL hd) rfl rfl (k24 hL) rfl rfl (Nat.le_of_ble_eq_true rfl) (gFit_room (by omega)) rfl ?_
  show gW X (gRoom (d + 2) 0 0) _ gN0 yX4_passDay cX4_passDay 4 none 10 _ [] (gwF M 26 (dayE M 25 26)) 0 0
  generalize he : dayE M 25 26 = e'
  refine g_aload_n dX4_passDay_10 rfl rfl rfl ?_
  refine g_getR dX4_passDay_11 ff_X4_11 rfl (k24 (gLay_F hL)) (r24_1 (gLay_F hL)) rfl ?_
  refine g_bipush (v := 64) dX4_passDay_14 (by decide) rfl ?_
  refine g_sipush (v := 9999) dX4_passDay_16 (by decide) rfl ?_
  refine g_aload_n dX4_passDay_19 rfl rfl rfl ?_
  refine g_getR dX4_passDay_20 ff_X4_11 rfl (k24 (gLay_F hL)) (r24_1 (gLay_F hL)) rfl ?_
  refine g_bipush (v := 64) dX4_passDay_23 (by decide) rfl ?_
  refine g_iald (i := 64) dX4_passDay_25 (k25 (gLay_F hL)) (l25 (gLay_F hL)) (by (try simp only [nI_lit, pk_mul, nI_add, Nat.zero_add]); exact nI_toInt (by omega)) (by omega) rfl ?_
  refine g_aload_n dX4_passDay_26 rfl rfl rfl ?_
  refine g_iload_n dX4_passDay_27 rfl rfl rfl ?_
  rw [gmi_Fn _ _ (show 25 ≠ 26 by decide)]
  have hw := c_wishers_now (X := X) (M := gwF M 26 e') (d := d) hx (gLay_F hL) hT (smo_lt hT 25)
  rw [show gmi (gwF M 26 e') 25 = gmi M 25 from gmi_Fn _ _ (by decide), show gmi (gwF M 26 e') 6 = gmi M 6 from gmi_Fn _ _ (by decide)] at hw
  refine g_callVdi (ci := 4) dX4_passDay_28 lm_X4_106 mv_X4_wishersAmong (hw) rfl rfl (k24 (gLay_F hL)) rfl rfl (Nat.le_of_ble_eq_true rfl) (gFit_room (by omega)) rfl ?_
  refine g_iadd dX4_passDay_31 rfl ?_
  refine g_callSdi dX4_passDay_32 lm_X4_80 mv_J9_min_7cf53 (c_min (d := d) hx) rfl rfl (Nat.le_of_ble_eq_true rfl) (gFit_room (by omega)) rfl ?_
  refine g_iast (i := 64) dX4_passDay_35 (k25 (gLay_F hL)) (l25 (gLay_F hL)) (by (try simp only [nI_lit, pk_mul, nI_add, Nat.zero_add]); exact nI_toInt (by omega)) (by omega) rfl ?_
  rw [gwI_def, gmi_Fn _ _ (show 25 ≠ 26 by decide)]
  show gW X (gRoom (d + 2) 0 0) _ gN0 yX4_passDay cX4_passDay 4 none 36 _ [] (gwF (gwF M 26 e') 25 (va_up (gmi M 25) 64 (imin 9999 (gmi M 25 64 + nI (wishN M 25))))) 0 0
  generalize hf : va_up (gmi M 25) 64 (imin 9999 (gmi M 25 64 + nI (wishN M 25))) = f
  refine g_iconst (v := 0) dX4_passDay_36 (by decide) rfl ?_
  refine g_istore_n dX4_passDay_37 rfl (by decide) rfl ?_
  refine g_loop (fun i => [(0, .ref 24), (1, .int (nI (smo M 25))), (2, .int (nI i))]) (fun i => gwF (gwF M 26 e') 25 (ag f (tv M 3 8) i 0 0)) (tv M 3 7) 0 (by omega) ⟨rfl, rfl, rfl, trivial⟩ (by rw [ag_0]) ?_ (fun i _ hi ih => ?_)
  · refine g_iload_n dX4_passDay_38 rfl rfl rfl ?_
    refine g_aload_n dX4_passDay_39 rfl rfl rfl ?_
    refine g_getR dX4_passDay_40 ff_X4_18 rfl (k24 (gLay_F (gLay_F hL))) (r24_0 (gLay_F (gLay_F hL))) rfl ?_
    refine g_getI dX4_passDay_43 ff_X4_28 rfl (k3 (gLay_F (gLay_F hL))) rfl ?_
    rw [gm2 (by decide) (by decide)]
    refine g_icmp_ge (tgt := 112) dX4_passDay_46 (by decide) rfl (fun _ => ?_) (fun h => absurd (by rw [hT.1.1]; exact nI_le (by omega) (by omega)) h)
    refine g_aload_n dX4_passDay_112 rfl rfl rfl ?_
    refine g_getR dX4_passDay_113 ff_X4_11 rfl (k24 (gLay_F (gLay_F hL))) (r24_1 (gLay_F (gLay_F hL))) rfl ?_
    refine g_bipush (v := 60) dX4_passDay_116 (by decide) rfl ?_
    refine g_iconst (v := 0) dX4_passDay_118 (by decide) rfl ?_
    refine g_iast (i := 60) dX4_passDay_119 (k25 (gLay_F (gLay_F hL))) (l25 (gLay_F (gLay_F hL))) (by (try simp only [nI_lit, pk_mul, nI_add, Nat.zero_add]); exact nI_toInt (by omega)) (by omega) rfl ?_
    rw [gwI_F]
    refine g_aload_n dX4_passDay_120 rfl rfl rfl ?_
    refine g_getR dX4_passDay_121 ff_X4_11 rfl (k24 (gLay_F (gLay_F hL))) (r24_1 (gLay_F (gLay_F hL))) rfl ?_
    refine g_bipush (v := 61) dX4_passDay_124 (by decide) rfl ?_
    refine g_iconst (v := 0) dX4_passDay_126 (by decide) rfl ?_
    refine g_iast (i := 61) dX4_passDay_127 (k25 (gLay_F (gLay_F hL))) (l25 (gLay_F (gLay_F hL))) (by (try simp only [nI_lit, pk_mul, nI_add, Nat.zero_add]); exact nI_toInt (by omega)) (by omega) rfl ?_
    rw [gwI_F]
    refine g_aload_n dX4_passDay_128 rfl rfl rfl ?_
    refine g_getR dX4_passDay_129 ff_X4_11 rfl (k24 (gLay_F (gLay_F hL))) (r24_1 (gLay_F (gLay_F hL))) rfl ?_
    refine g_bipush (v := 66) dX4_passDay_132 (by decide) rfl ?_
    refine g_dup2 dX4_passDay_134 rfl rfl rfl ?_
    refine g_iald (i := 66) dX4_passDay_135 (k25 (gLay_F (gLay_F hL))) (l25 (gLay_F (gLay_F hL))) (by (try simp only [nI_lit, pk_mul, nI_add, Nat.zero_add]); exact nI_toInt (by omega)) (by omega) rfl ?_
    refine g_iconst (v := 1) dX4_passDay_136 (by decide) rfl ?_
    refine g_iadd dX4_passDay_137 rfl ?_
    rw [gmi_F]
    refine g_iast (i := 66) dX4_passDay_138 (k25 (gLay_F (gLay_F hL))) (l25 (gLay_F (gLay_F hL))) (by (try simp only [nI_lit, pk_mul, nI_add, Nat.zero_add]); exact nI_toInt (by omega)) (by omega) rfl ?_
    rw [gwI_F]
    exact g_vret dX4_passDay_139 rfl ⟨rfl, by rw [← he, ← hf]; rfl⟩
  · refine g_iload_n dX4_passDay_38 rfl rfl rfl ?_
    refine g_aload_n dX4_passDay_39 rfl rfl rfl ?_
    refine g_getR dX4_passDay_40 ff_X4_18 rfl (k24 (gLay_F (gLay_F hL))) (r24_0 (gLay_F (gLay_F hL))) rfl ?_
    refine g_getI dX4_passDay_43 ff_X4_28 rfl (k3 (gLay_F (gLay_F hL))) rfl ?_
    rw [gm2 (by decide) (by decide)]
    refine g_icmp_ge (tgt := 112) dX4_passDay_46 (by decide) rfl (fun h => absurd h (by rw [hT.1.1]; exact nI_ge (by omega) (by omega))) (fun _ => ?_)
    refine g_aload_n dX4_passDay_49 rfl rfl rfl ?_
    refine g_getR dX4_passDay_50 ff_X4_11 rfl (k24 (gLay_F (gLay_F hL))) (r24_1 (gLay_F (gLay_F hL))) rfl ?_
    refine g_iconst (v := 0) dX4_passDay_53 (by decide) rfl ?_
    refine g_iload_n dX4_passDay_54 rfl rfl rfl ?_
    refine g_iadd dX4_passDay_55 rfl ?_
    refine g_bipush (v := 99) dX4_passDay_56 (by decide) rfl ?_
    refine g_aload_n dX4_passDay_58 rfl rfl rfl ?_
    refine g_iload_n dX4_passDay_59 rfl rfl rfl ?_
    refine g_callVdi (ci := 4) dX4_passDay_60 lm_X4_63 mv_X4_beardOf (c_beardOf_now (d := d) hx (gLay_F (gLay_F hL)) (show i < 6 by omega)) rfl rfl (k24 (gLay_F (gLay_F hL))) rfl rfl (Nat.le_of_ble_eq_true rfl) (gFit_room (by omega)) rfl ?_
    rw [gmi_F]
    refine g_iconst (v := 1) dX4_passDay_63 (by decide) rfl ?_
    refine g_iadd dX4_passDay_64 rfl ?_
    refine g_callSdi dX4_passDay_65 lm_X4_80 mv_J9_min_7cf53 (c_min (d := d) hx) rfl rfl (Nat.le_of_ble_eq_true rfl) (gFit_room (by omega)) rfl ?_
    refine g_iast (i := i) dX4_passDay_68 (k25 (gLay_F (gLay_F hL))) (l25 (gLay_F (gLay_F hL))) (by (try simp only [nI_lit, nI_add, Nat.zero_add]); exact nI_toInt (by omega)) (by omega) rfl ?_
    rw [gwI_F, ag_b f (by omega)]
    refine g_iconst (v := 0) dX4_passDay_69 (by decide) rfl ?_
    refine g_istore_n dX4_passDay_70 rfl (by decide) rfl ?_
    refine g_loop (fun j => [(0, .ref 24), (1, .int (nI (smo M 25))), (2, .int (nI i)), (3, .int (nI j))]) (fun j => gwF (gwF M 26 e') 25 (ag f (tv M 3 8) i 1 j)) (tv M 3 8) 0 (by omega) ⟨rfl, rfl, rfl, rfl, trivial⟩ rfl ?_ (fun j _ hj jh => ?_)
    · refine g_iload_n dX4_passDay_71 rfl rfl rfl ?_
      refine g_aload_n dX4_passDay_72 rfl rfl rfl ?_
      refine g_getR dX4_passDay_73 ff_X4_18 rfl (k24 (gLay_F (gLay_F hL))) (r24_0 (gLay_F (gLay_F hL))) rfl ?_
      refine g_getI dX4_passDay_76 ff_X4_50 rfl (k3 (gLay_F (gLay_F hL))) rfl ?_
      rw [gm2 (by decide) (by decide)]
      refine g_icmp_ge (tgt := 106) dX4_passDay_79 (by decide) rfl (fun _ => ?_) (fun h => absurd (by rw [hT.2.1.1]; exact nI_le (by omega) (by omega)) h)
      refine g_iincV (c := 1) dX4_passDay_106 rfl (by decide) (by decide) rfl ?_
      refine g_goto (tgt := 38) dX4_passDay_109 (by decide) ?_
      rw [ag_n]
      exact g_go ih ⟨rfl, rfl, by rw [← nI_1]; rfl, trivial⟩
    · refine g_iload_n dX4_passDay_71 rfl rfl rfl ?_
      refine g_aload_n dX4_passDay_72 rfl rfl rfl ?_
      refine g_getR dX4_passDay_73 ff_X4_18 rfl (k24 (gLay_F (gLay_F hL))) (r24_0 (gLay_F (gLay_F hL))) rfl ?_
      refine g_getI dX4_passDay_76 ff_X4_50 rfl (k3 (gLay_F (gLay_F hL))) rfl ?_
      rw [gm2 (by decide) (by decide)]
      refine g_icmp_ge (tgt := 106) dX4_passDay_79 (by decide) rfl (fun h => absurd h (by rw [hT.2.1.1]; exact nI_ge (by omega) (by omega))) (fun _ => ?_)
      refine g_aload_n dX4_passDay_82 rfl rfl rfl ?_
      refine g_iload_n dX4_passDay_83 rfl rfl rfl ?_
      refine g_iload_n dX4_passDay_84 rfl rfl rfl ?_
      refine g_iconst (v := 0) dX4_passDay_85 (by decide) rfl ?_
      refine g_aload_n dX4_passDay_86 rfl rfl rfl ?_
      refine g_iload_n dX4_passDay_87 rfl rfl rfl ?_
      refine g_iload_n dX4_passDay_88 rfl rfl rfl ?_
      refine g_callVdi (ci := 4) dX4_passDay_89 lm_X4_53 mv_X4_leftOf (c_leftOf_now (d := d) hx (gLay_F (gLay_F hL)) (show i < 6 by omega) (show j < 8 by omega)) rfl rfl (k24 (gLay_F (gLay_F hL))) rfl rfl (Nat.le_of_ble_eq_true rfl) (gFit_room (by omega)) rfl ?_
      rw [gmi_F]
      refine g_iconst (v := 1) dX4_passDay_92 (by decide) rfl ?_
      refine g_isub dX4_passDay_93 rfl ?_
      refine g_callSdi dX4_passDay_94 lm_X4_95 mv_J9_max_7cf53 (c_max (d := d) hx) rfl rfl (Nat.le_of_ble_eq_true rfl) (gFit_room (by omega)) rfl ?_
      refine g_callVdv (ci := 4) dX4_passDay_97 lm_X4_73 mv_X4_setLeft (c_setLeft_now (d := d) hx (gLay_F (gLay_F hL)) (show i < 6 by omega) (show j < 8 by omega)) rfl rfl (k24 (gLay_F (gLay_F hL))) rfl rfl (Nat.le_of_ble_eq_true rfl) (gFit_room (by omega)) rfl ?_
      rw [gwI_F, ag_j f (by omega) (by omega)]
      refine g_iincV (c := 1) dX4_passDay_100 rfl (by decide) (by decide) rfl ?_
      refine g_goto (tgt := 71) dX4_passDay_103 (by decide) ?_
      exact g_go jh ⟨rfl, rfl, rfl, by rw [← nI_1]; rfl, trivial⟩
set_option maxRecDepth 20000 in
theorem c_passDay_trial (hx : gXok X) (hL : gLay M) (hT : TownOK M) (hd : okv M 28 66 999) : gDet X (d + 2) yX4_passDay cX4_passDay 4 none [.ref 27] M none (gwF (gwF M 29 (dayE M 28 29)) 28 (dayR M 28)) := by
  have h6 := hT.1.2
  have h8 := hT.2.1.2
  refine gMet.of hx (by decide) (Nat.le_of_ble_eq_true rfl) ?_
  refine g_aload_n dX4_passDay_0 rfl rfl rfl ?_
  refine g_callVdi (ci := 4) dX4_passDay_1 lm_X4_98 mv_X4_smooth (c_smooth_trial (d := d) hx hL hT) rfl rfl (k27 hL) rfl rfl (Nat.le_of_ble_eq_true rfl) (gFit_room (by omega)) rfl ?_
  refine g_istore_n dX4_passDay_4 rfl (by decide) rfl ?_
  refine g_aload_n dX4_passDay_5 rfl rfl rfl ?_
  refine g_iload_n dX4_passDay_6 rfl rfl rfl ?_
  refine g_callVdv (ci := 4) dX4_passDay_7 lm_X4_102 mv_X4_write (c_write_trial (d := d) hx hL hd) rfl rfl (k27 hL) rfl rfl (Nat.le_of_ble_eq_true rfl) (gFit_room (by omega)) rfl ?_
  show gW X (gRoom (d + 2) 0 0) _ gN0 yX4_passDay cX4_passDay 4 none 10 _ [] (gwF M 29 (dayE M 28 29)) 0 0
  generalize he : dayE M 28 29 = e'
  refine g_aload_n dX4_passDay_10 rfl rfl rfl ?_
  refine g_getR dX4_passDay_11 ff_X4_11 rfl (k27 (gLay_F hL)) (r27_1 (gLay_F hL)) rfl ?_
  refine g_bipush (v := 64) dX4_passDay_14 (by decide) rfl ?_
  refine g_sipush (v := 9999) dX4_passDay_16 (by decide) rfl ?_
  refine g_aload_n dX4_passDay_19 rfl rfl rfl ?_
  refine g_getR dX4_passDay_20 ff_X4_11 rfl (k27 (gLay_F hL)) (r27_1 (gLay_F hL)) rfl ?_
  refine g_bipush (v := 64) dX4_passDay_23 (by decide) rfl ?_
  refine g_iald (i := 64) dX4_passDay_25 (k28 (gLay_F hL)) (l28 (gLay_F hL)) (by (try simp only [nI_lit, pk_mul, nI_add, Nat.zero_add]); exact nI_toInt (by omega)) (by omega) rfl ?_
  refine g_aload_n dX4_passDay_26 rfl rfl rfl ?_
  refine g_iload_n dX4_passDay_27 rfl rfl rfl ?_
  rw [gmi_Fn _ _ (show 28 ≠ 29 by decide)]
  have hw := c_wishers_trial (X := X) (M := gwF M 29 e') (d := d) hx (gLay_F hL) hT (smo_lt hT 28)
  rw [show gmi (gwF M 29 e') 28 = gmi M 28 from gmi_Fn _ _ (by decide), show gmi (gwF M 29 e') 6 = gmi M 6 from gmi_Fn _ _ (by decide)] at hw
  refine g_callVdi (ci := 4) dX4_passDay_28 lm_X4_106 mv_X4_wishersAmong (hw) rfl rfl (k27 (gLay_F hL)) rfl rfl (Nat.le_of_ble_eq_true rfl) (gFit_room (by omega)) rfl ?_
  refine g_iadd dX4_passDay_31 rfl ?_
  refine g_callSdi dX4_passDay_32 lm_X4_80 mv_J9_min_7cf53 (c_min (d := d) hx) rfl rfl (Nat.le_of_ble_eq_true rfl) (gFit_room (by omega)) rfl ?_
  refine g_iast (i := 64) dX4_passDay_35 (k28 (gLay_F hL)) (l28 (gLay_F hL)) (by (try simp only [nI_lit, pk_mul, nI_add, Nat.zero_add]); exact nI_toInt (by omega)) (by omega) rfl ?_
  rw [gwI_def, gmi_Fn _ _ (show 28 ≠ 29 by decide)]
  show gW X (gRoom (d + 2) 0 0) _ gN0 yX4_passDay cX4_passDay 4 none 36 _ [] (gwF (gwF M 29 e') 28 (va_up (gmi M 28) 64 (imin 9999 (gmi M 28 64 + nI (wishN M 28))))) 0 0
  generalize hf : va_up (gmi M 28) 64 (imin 9999 (gmi M 28 64 + nI (wishN M 28))) = f
  refine g_iconst (v := 0) dX4_passDay_36 (by decide) rfl ?_
  refine g_istore_n dX4_passDay_37 rfl (by decide) rfl ?_
  refine g_loop (fun i => [(0, .ref 27), (1, .int (nI (smo M 28))), (2, .int (nI i))]) (fun i => gwF (gwF M 29 e') 28 (ag f (tv M 3 8) i 0 0)) (tv M 3 7) 0 (by omega) ⟨rfl, rfl, rfl, trivial⟩ (by rw [ag_0]) ?_ (fun i _ hi ih => ?_)
  · refine g_iload_n dX4_passDay_38 rfl rfl rfl ?_
    refine g_aload_n dX4_passDay_39 rfl rfl rfl ?_
    refine g_getR dX4_passDay_40 ff_X4_18 rfl (k27 (gLay_F (gLay_F hL))) (r27_0 (gLay_F (gLay_F hL))) rfl ?_
    refine g_getI dX4_passDay_43 ff_X4_28 rfl (k3 (gLay_F (gLay_F hL))) rfl ?_
    rw [gm2 (by decide) (by decide)]
    refine g_icmp_ge (tgt := 112) dX4_passDay_46 (by decide) rfl (fun _ => ?_) (fun h => absurd (by rw [hT.1.1]; exact nI_le (by omega) (by omega)) h)
    refine g_aload_n dX4_passDay_112 rfl rfl rfl ?_
    refine g_getR dX4_passDay_113 ff_X4_11 rfl (k27 (gLay_F (gLay_F hL))) (r27_1 (gLay_F (gLay_F hL))) rfl ?_
    refine g_bipush (v := 60) dX4_passDay_116 (by decide) rfl ?_
    refine g_iconst (v := 0) dX4_passDay_118 (by decide) rfl ?_
    refine g_iast (i := 60) dX4_passDay_119 (k28 (gLay_F (gLay_F hL))) (l28 (gLay_F (gLay_F hL))) (by (try simp only [nI_lit, pk_mul, nI_add, Nat.zero_add]); exact nI_toInt (by omega)) (by omega) rfl ?_
    rw [gwI_F]
    refine g_aload_n dX4_passDay_120 rfl rfl rfl ?_
    refine g_getR dX4_passDay_121 ff_X4_11 rfl (k27 (gLay_F (gLay_F hL))) (r27_1 (gLay_F (gLay_F hL))) rfl ?_
    refine g_bipush (v := 61) dX4_passDay_124 (by decide) rfl ?_
    refine g_iconst (v := 0) dX4_passDay_126 (by decide) rfl ?_
    refine g_iast (i := 61) dX4_passDay_127 (k28 (gLay_F (gLay_F hL))) (l28 (gLay_F (gLay_F hL))) (by (try simp only [nI_lit, pk_mul, nI_add, Nat.zero_add]); exact nI_toInt (by omega)) (by omega) rfl ?_
    rw [gwI_F]
    refine g_aload_n dX4_passDay_128 rfl rfl rfl ?_
    refine g_getR dX4_passDay_129 ff_X4_11 rfl (k27 (gLay_F (gLay_F hL))) (r27_1 (gLay_F (gLay_F hL))) rfl ?_
    refine g_bipush (v := 66) dX4_passDay_132 (by decide) rfl ?_
    refine g_dup2 dX4_passDay_134 rfl rfl rfl ?_
    refine g_iald (i := 66) dX4_passDay_135 (k28 (gLay_F (gLay_F hL))) (l28 (gLay_F (gLay_F hL))) (by (try simp only [nI_lit, pk_mul, nI_add, Nat.zero_add]); exact nI_toInt (by omega)) (by omega) rfl ?_
    refine g_iconst (v := 1) dX4_passDay_136 (by decide) rfl ?_
    refine g_iadd dX4_passDay_137 rfl ?_
    rw [gmi_F]
    refine g_iast (i := 66) dX4_passDay_138 (k28 (gLay_F (gLay_F hL))) (l28 (gLay_F (gLay_F hL))) (by (try simp only [nI_lit, pk_mul, nI_add, Nat.zero_add]); exact nI_toInt (by omega)) (by omega) rfl ?_
    rw [gwI_F]
    exact g_vret dX4_passDay_139 rfl ⟨rfl, by rw [← he, ← hf]; rfl⟩
  · refine g_iload_n dX4_passDay_38 rfl rfl rfl ?_
    refine g_aload_n dX4_passDay_39 rfl rfl rfl ?_
    refine g_getR dX4_passDay_40 ff_X4_18 rfl (k27 (gLay_F (gLay_F hL))) (r27_0 (gLay_F (gLay_F hL))) rfl ?_
    refine g_getI dX4_passDay_43 ff_X4_28 rfl (k3 (gLay_F (gLay_F hL))) rfl ?_
    rw [gm2 (by decide) (by decide)]
    refine g_icmp_ge (tgt := 112) dX4_passDay_46 (by decide) rfl (fun h => absurd h (by rw [hT.1.1]; exact nI_ge (by omega) (by omega))) (fun _ => ?_)
    refine g_aload_n dX4_passDay_49 rfl rfl rfl ?_
    refine g_getR dX4_passDay_50 ff_X4_11 rfl (k27 (gLay_F (gLay_F hL))) (r27_1 (gLay_F (gLay_F hL))) rfl ?_
    refine g_iconst (v := 0) dX4_passDay_53 (by decide) rfl ?_
    refine g_iload_n dX4_passDay_54 rfl rfl rfl ?_
    refine g_iadd dX4_passDay_55 rfl ?_
    refine g_bipush (v := 99) dX4_passDay_56 (by decide) rfl ?_
    refine g_aload_n dX4_passDay_58 rfl rfl rfl ?_
    refine g_iload_n dX4_passDay_59 rfl rfl rfl ?_
    refine g_callVdi (ci := 4) dX4_passDay_60 lm_X4_63 mv_X4_beardOf (c_beardOf_trial (d := d) hx (gLay_F (gLay_F hL)) (show i < 6 by omega)) rfl rfl (k27 (gLay_F (gLay_F hL))) rfl rfl (Nat.le_of_ble_eq_true rfl) (gFit_room (by omega)) rfl ?_
    rw [gmi_F]
    refine g_iconst (v := 1) dX4_passDay_63 (by decide) rfl ?_
    refine g_iadd dX4_passDay_64 rfl ?_
    refine g_callSdi dX4_passDay_65 lm_X4_80 mv_J9_min_7cf53 (c_min (d := d) hx) rfl rfl (Nat.le_of_ble_eq_true rfl) (gFit_room (by omega)) rfl ?_
    refine g_iast (i := i) dX4_passDay_68 (k28 (gLay_F (gLay_F hL))) (l28 (gLay_F (gLay_F hL))) (by (try simp only [nI_lit, nI_add, Nat.zero_add]); exact nI_toInt (by omega)) (by omega) rfl ?_
    rw [gwI_F, ag_b f (by omega)]
    refine g_iconst (v := 0) dX4_passDay_69 (by decide) rfl ?_
    refine g_istore_n dX4_passDay_70 rfl (by decide) rfl ?_
    refine g_loop (fun j => [(0, .ref 27), (1, .int (nI (smo M 28))), (2, .int (nI i)), (3, .int (nI j))]) (fun j => gwF (gwF M 29 e') 28 (ag f (tv M 3 8) i 1 j)) (tv M 3 8) 0 (by omega) ⟨rfl, rfl, rfl, rfl, trivial⟩ rfl ?_ (fun j _ hj jh => ?_)
    · refine g_iload_n dX4_passDay_71 rfl rfl rfl ?_
      refine g_aload_n dX4_passDay_72 rfl rfl rfl ?_
      refine g_getR dX4_passDay_73 ff_X4_18 rfl (k27 (gLay_F (gLay_F hL))) (r27_0 (gLay_F (gLay_F hL))) rfl ?_
      refine g_getI dX4_passDay_76 ff_X4_50 rfl (k3 (gLay_F (gLay_F hL))) rfl ?_
      rw [gm2 (by decide) (by decide)]
      refine g_icmp_ge (tgt := 106) dX4_passDay_79 (by decide) rfl (fun _ => ?_) (fun h => absurd (by rw [hT.2.1.1]; exact nI_le (by omega) (by omega)) h)
      refine g_iincV (c := 1) dX4_passDay_106 rfl (by decide) (by decide) rfl ?_
      refine g_goto (tgt := 38) dX4_passDay_109 (by decide) ?_
      rw [ag_n]
      exact g_go ih ⟨rfl, rfl, by rw [← nI_1]; rfl, trivial⟩
    · refine g_iload_n dX4_passDay_71 rfl rfl rfl ?_
      refine g_aload_n dX4_passDay_72 rfl rfl rfl ?_
      refine g_getR dX4_passDay_73 ff_X4_18 rfl (k27 (gLay_F (gLay_F hL))) (r27_0 (gLay_F (gLay_F hL))) rfl ?_
      refine g_getI dX4_passDay_76 ff_X4_50 rfl (k3 (gLay_F (gLay_F hL))) rfl ?_
      rw [gm2 (by decide) (by decide)]
      refine g_icmp_ge (tgt := 106) dX4_passDay_79 (by decide) rfl (fun h => absurd h (by rw [hT.2.1.1]; exact nI_ge (by omega) (by omega))) (fun _ => ?_)
      refine g_aload_n dX4_passDay_82 rfl rfl rfl ?_
      refine g_iload_n dX4_passDay_83 rfl rfl rfl ?_
      refine g_iload_n dX4_passDay_84 rfl rfl rfl ?_
      refine g_iconst (v := 0) dX4_passDay_85 (by decide) rfl ?_
      refine g_aload_n dX4_passDay_86 rfl rfl rfl ?_
      refine g_iload_n dX4_passDay_87 rfl rfl rfl ?_
      refine g_iload_n dX4_passDay_88 rfl rfl rfl ?_
      refine g_callVdi (ci := 4) dX4_passDay_89 lm_X4_53 mv_X4_leftOf (c_leftOf_trial (d := d) hx (gLay_F (gLay_F hL)) (show i < 6 by omega) (show j < 8 by omega)) rfl rfl (k27 (gLay_F (gLay_F hL))) rfl rfl (Nat.le_of_ble_eq_true rfl) (gFit_room (by omega)) rfl ?_
      rw [gmi_F]
      refine g_iconst (v := 1) dX4_passDay_92 (by decide) rfl ?_
      refine g_isub dX4_passDay_93 rfl ?_
      refine g_callSdi dX4_passDay_94 lm_X4_95 mv_J9_max_7cf53 (c_max (d := d) hx) rfl rfl (Nat.le_of_ble_eq_true rfl) (gFit_room (by omega)) rfl ?_
      refine g_callVdv (ci := 4) dX4_passDay_97 lm_X4_73 mv_X4_setLeft (c_setLeft_trial (d := d) hx (gLay_F (gLay_F hL)) (show i < 6 by omega) (show j < 8 by omega)) rfl rfl (k27 (gLay_F (gLay_F hL))) rfl rfl (Nat.le_of_ble_eq_true rfl) (gFit_room (by omega)) rfl ?_
      rw [gwI_F, ag_j f (by omega) (by omega)]
      refine g_iincV (c := 1) dX4_passDay_100 rfl (by decide) (by decide) rfl ?_
      refine g_goto (tgt := 71) dX4_passDay_103 (by decide) ?_
      exact g_go jh ⟨rfl, rfl, rfl, by rw [← nI_1]; rfl, trivial⟩
end F3
