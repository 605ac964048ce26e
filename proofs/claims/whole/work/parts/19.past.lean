section P0
variable {X : gX} {M : gM} {d : Nat}
/-- the rows that the past keeps -/
def PLay (M : gM) : Prop := ∀ i, i < 40 → gmr M 34 i = some (35 + i)
theorem p35k : ∀ i, i < 40 → gkt.getD (35 + i) 0 = 32 := by decide
theorem p35l : ∀ i, i < 40 → glt.getD (35 + i) 0 = 67 := by decide
theorem kP35 {M : gM} (h : gLay M) {i : Nat} (hi : i < 40) : gkd M (35 + i) = 32 := (h.1 (35 + i) (by omega)).trans (p35k i hi)
theorem lP35 {M : gM} (h : gLay M) {i : Nat} (hi : i < 40) : gln M (35 + i) = 67 := (h.2.1 (35 + i) (by omega)).trans (p35l i hi)
/-- the memory when the row of now has been kept -/
def keepM (M : gM) : gM := gwI (gwI (gwF M (35 + tv M 33 2) (va_cpy (gmi M 25) (gmi M (35 + tv M 33 2)) 0 0 67)) 33 2 (nI ((tv M 33 2 + 1) % 40))) 33 1 (imin 40 (gmi M 33 1 + 1))
set_option maxRecDepth 20000 in
theorem c_keep (hx : gXok X) (hL : gLay M) (hP : PLay M) (hn : okv M 33 2 39) : gDet X (d + 1) yX5_keep cX5_keep 2 none [.ref 33, .ref 24] M none (keepM M) := by
  have hq := hn.2
  refine gMet.of hx (by decide) (Nat.le_of_ble_eq_true rfl) ?_
  refine g_aload_n dX5_keep_0 rfl rfl rfl ?_
  refine g_getR dX5_keep_1 ff_X5_18 rfl (k24 hL) (r24_1 hL) rfl ?_
  refine g_iconst (v := 0) dX5_keep_4 (by decide) rfl ?_
  refine g_aload_n dX5_keep_5 rfl rfl rfl ?_
  refine g_getR dX5_keep_6 ff_X5_13 rfl (k33 hL) (r33_0 hL) rfl ?_
  refine g_aload_n dX5_keep_9 rfl rfl rfl ?_
  refine g_getI dX5_keep_10 ff_X5_22 rfl (k33 hL) rfl ?_
  rw [hn.1]
  refine g_aald7 (i := tv M 33 2) dX5_keep_13 (k34 hL) (l34 hL) (nI_toInt (by omega)) (by omega) rfl ?_
  rw [hP _ (by omega)]
  refine g_iconst (v := 0) dX5_keep_14 (by decide) rfl ?_
  refine g_bipush (v := 67) dX5_keep_15 (by decide) rfl ?_
  refine g_copy (i := 0) (j := 0) (n := 67) (a := 25) (b := 35 + tv M 33 2) dX5_keep_17 lo_X5_26 (k25 hL) (kP35 hL (by omega)) (l25 hL) (lP35 hL (by omega)) rfl rfl rfl (by decide) (by decide) (Nat.le_of_ble_eq_true rfl) (gFit_room (by omega)) rfl ?_
  refine g_aload_n dX5_keep_20 rfl rfl rfl ?_
  refine g_aload_n dX5_keep_21 rfl rfl rfl ?_
  refine g_getI dX5_keep_22 ff_X5_22 rfl (k33 (gLay_F hL)) rfl ?_
  refine g_iconst (v := 1) dX5_keep_25 (by decide) rfl ?_
  refine g_iadd dX5_keep_26 rfl ?_
  refine g_bipush (v := 40) dX5_keep_27 (by decide) rfl ?_
  rw [gmi_Fn _ _ (show 33 ≠ 35 + tv M 33 2 by omega)]
  refine g_irem dX5_keep_29 (by decide) rfl ?_
  rw [hn.1, nI_1, show (40 : Int32) = nI 40 from rfl, pk_rem (by omega) (by omega) (by omega)]
  refine g_putI dX5_keep_30 fp_X5_22 rfl rfl rfl (k33 (gLay_F hL)) rfl ?_
  refine g_aload_n dX5_keep_33 rfl rfl rfl ?_
  refine g_bipush (v := 40) dX5_keep_34 (by decide) rfl ?_
  refine g_aload_n dX5_keep_36 rfl rfl rfl ?_
  refine g_getI dX5_keep_37 ff_X5_32 rfl (k33 (gLay_I (gLay_F hL))) rfl ?_
  refine g_iconst (v := 1) dX5_keep_40 (by decide) rfl ?_
  refine g_iadd dX5_keep_41 rfl ?_
  rw [gmi_I, va_up_ne _ _ (show (1 : Nat) ≠ 2 by decide), gmi_Fn _ _ (show 33 ≠ 35 + tv M 33 2 by omega)]
  refine g_callSdi dX5_keep_42 lm_X5_35 mv_J9_min_7cf53 (c_min (d := d) hx) rfl rfl (Nat.le_of_ble_eq_true rfl) (gFit_room (by omega)) rfl ?_
  refine g_putI dX5_keep_45 fp_X5_32 rfl rfl rfl (k33 (gLay_I (gLay_F hL))) rfl ?_
  exact g_vret dX5_keep_48 rfl ⟨rfl, rfl⟩
/-- the memory when the latest act is undone -/
def backM (M : gM) : gM := gwI (gwF (gwI M 33 2 (nI ((tv M 33 2 + 39) % 40))) 25 (va_cpy (gmi M (35 + (tv M 33 2 + 39) % 40)) (gmi M 25) 0 0 67)) 33 1 (gmi M 33 1 - 1)
set_option maxRecDepth 20000 in
theorem c_takeBack (hx : gXok X) (hL : gLay M) (hP : PLay M) (hn : okv M 33 2 39) (h0 : ¬ gmi M 33 1 = 0) : gDet X (d + 1) yX5_takeBack cX5_takeBack 2 (some .int) [.ref 33, .ref 24] M (some (.int (gmi M 33 1 - 1))) (backM M) := by
  have hq := hn.2
  refine gMet.of hx (by decide) (Nat.le_of_ble_eq_true rfl) ?_
  refine g_aload_n dX5_takeBack_0 rfl rfl rfl ?_
  refine g_getI dX5_takeBack_1 ff_X5_32 rfl (k33 hL) rfl ?_
  refine g_if_ne (tgt := 9) dX5_takeBack_4 (by decide) rfl (fun _ => ?_) (fun h => absurd h (h0))
  refine g_aload_n dX5_takeBack_9 rfl rfl rfl ?_
  refine g_aload_n dX5_takeBack_10 rfl rfl rfl ?_
  refine g_getI dX5_takeBack_11 ff_X5_22 rfl (k33 hL) rfl ?_
  refine g_bipush (v := 40) dX5_takeBack_14 (by decide) rfl ?_
  refine g_iadd dX5_takeBack_16 rfl ?_
  refine g_iconst (v := 1) dX5_takeBack_17 (by decide) rfl ?_
  refine g_isub dX5_takeBack_18 rfl ?_
  refine g_bipush (v := 40) dX5_takeBack_19 (by decide) rfl ?_
  refine g_irem dX5_takeBack_21 (by decide) rfl ?_
  rw [hn.1, show (40 : Int32) = nI 40 from rfl, nI_add, show (tv M 33 2 + 40) = (tv M 33 2 + 39) + 1 from rfl, nI_pred, pk_rem (by omega) (by omega) (by omega)]
  refine g_putI dX5_takeBack_22 fp_X5_22 rfl rfl rfl (k33 hL) rfl ?_
  refine g_aload_n dX5_takeBack_25 rfl rfl rfl ?_
  refine g_getR dX5_takeBack_26 ff_X5_13 rfl (k33 (gLay_I hL)) (r33_0 (gLay_I hL)) rfl ?_
  refine g_aload_n dX5_takeBack_29 rfl rfl rfl ?_
  refine g_getI dX5_takeBack_30 ff_X5_22 rfl (k33 (gLay_I hL)) rfl ?_
  rw [gmi_I, va_up_self]
  refine g_aald7 (i := (tv M 33 2 + 39) % 40) dX5_takeBack_33 (k34 (gLay_I hL)) (l34 (gLay_I hL)) (nI_toInt (by omega)) (by omega) rfl ?_
  rw [show gmr (gwI M 33 2 (nI ((tv M 33 2 + 39) % 40))) 34 = gmr M 34 from rfl, hP _ (by omega)]
  refine g_iconst (v := 0) dX5_takeBack_34 (by decide) rfl ?_
  refine g_aload_n dX5_takeBack_35 rfl rfl rfl ?_
  refine g_getR dX5_takeBack_36 ff_X5_18 rfl (k24 (gLay_I hL)) (r24_1 (gLay_I hL)) rfl ?_
  refine g_iconst (v := 0) dX5_takeBack_39 (by decide) rfl ?_
  refine g_bipush (v := 67) dX5_takeBack_40 (by decide) rfl ?_
  refine g_copy (i := 0) (j := 0) (n := 67) (a := 35 + (tv M 33 2 + 39) % 40) (b := 25) dX5_takeBack_42 lo_X5_26 (kP35 (gLay_I hL) (by omega)) (k25 (gLay_I hL)) (lP35 (gLay_I hL) (by omega)) (l25 (gLay_I hL)) rfl rfl rfl (by decide) (by decide) (Nat.le_of_ble_eq_true rfl) (gFit_room (by omega)) rfl ?_
  rw [gmi_In _ _ _ (show 35 + (tv M 33 2 + 39) % 40 ≠ 33 by omega), gmi_In _ _ _ (show 25 ≠ 33 by decide)]
  refine g_aload_n dX5_takeBack_45 rfl rfl rfl ?_
  refine g_dup dX5_takeBack_46 rfl rfl ?_
  refine g_getI dX5_takeBack_47 ff_X5_32 rfl (k33 (gLay_F (gLay_I hL))) rfl ?_
  refine g_iconst (v := 1) dX5_takeBack_50 (by decide) rfl ?_
  refine g_isub dX5_takeBack_51 rfl ?_
  rw [gmi_Fn _ _ (show 33 ≠ 25 by decide), gmi_I, va_up_ne _ _ (show (1 : Nat) ≠ 2 by decide)]
  refine g_putI dX5_takeBack_52 fp_X5_32 rfl rfl rfl (k33 (gLay_F (gLay_I hL))) rfl ?_
  refine g_aload_n dX5_takeBack_55 rfl rfl rfl ?_
  refine g_getI dX5_takeBack_56 ff_X5_32 rfl (k33 (gLay_I (gLay_F (gLay_I hL)))) rfl ?_
  rw [gmi_I, va_up_self]
  exact g_iret dX5_takeBack_59 rfl rfl ⟨rfl, rfl⟩
set_option maxRecDepth 20000 in
theorem c_takeBack0 (hx : gXok X) (hL : gLay M) (h0 : gmi M 33 1 = 0) : gDet X (d + 1) yX5_takeBack cX5_takeBack 2 (some .int) [.ref 33, .ref 24] M (some (.int (-1))) M := by
  refine gMet.of hx (by decide) (Nat.le_of_ble_eq_true rfl) ?_
  refine g_aload_n dX5_takeBack_0 rfl rfl rfl ?_
  refine g_getI dX5_takeBack_1 ff_X5_32 rfl (k33 hL) rfl ?_
  refine g_if_ne (tgt := 9) dX5_takeBack_4 (by decide) rfl (fun h => absurd (h0) h) (fun _ => ?_)
  refine g_iconst (v := -1) dX5_takeBack_7 (by decide) rfl ?_
  exact g_iret dX5_takeBack_8 rfl rfl ⟨rfl, rfl⟩
set_option maxRecDepth 20000 in
theorem c_pforget (hx : gXok X) (hL : gLay M) : gDet X (d + 0) yX5_forget cX5_forget 1 none [.ref 33] M none (gwI M 33 1 0) := by
  refine gMet.of hx (by decide) (Nat.le_of_ble_eq_true rfl) ?_
  refine g_aload_n dX5_forget_0 rfl rfl rfl ?_
  refine g_iconst (v := 0) dX5_forget_1 (by decide) rfl ?_
  refine g_putI dX5_forget_2 fp_X5_32 rfl rfl rfl (k33 hL) rfl ?_
  exact g_vret dX5_forget_5 rfl ⟨rfl, rfl⟩
set_option maxRecDepth 20000 in
theorem c_dbegin (hx : gXok X) (hL : gLay M) {v : Int64} : gDet X (d + 0) yX1_begin cX1_begin 3 none [.ref 81, .long v] M none (gwL M 81 0 v) := by
  refine gMet.of hx (by decide) (Nat.le_of_ble_eq_true rfl) ?_
  refine g_aload_n dX1_begin_0 rfl rfl rfl ?_
  refine g_lload_n dX1_begin_1 rfl rfl rfl ?_
  refine g_putL dX1_begin_2 fp_X1_7 rfl (k81 hL) rfl ?_
  exact g_vret dX1_begin_5 rfl ⟨rfl, rfl⟩
/-- the next of the draws, and what it tells of n -/
def nextX (x : Int64) : Int64 := x * 6364136223846793005 + 1442695040888963407
def drawN (x : Int64) (n : Int32) : Int32 := (((x.toUInt64 >>> ((33 : Int32).toInt64.toUInt64 &&& Int64.toUInt64 63)).toInt64) - ((x.toUInt64 >>> ((33 : Int32).toInt64.toUInt64 &&& Int64.toUInt64 63)).toInt64) / n.toInt64 * n.toInt64).toInt32
theorem gml_L (M : gM) (a i : Nat) (v : Int64) : gml (gwL M a i v) a = va_up (gml M a) i v := va_up_self _ _ _
set_option maxRecDepth 20000 in
theorem c_draw (hx : gXok X) (hL : gLay M) {n : Int32} (h1 : 1 ≤ n) (hn : ¬ n.toInt64 = 0) : gDet X (d + 0) yX1_draw cX1_draw 2 (some .int) [.ref 81, .int n] M (some (.int (drawN (nextX (gml M 81 0)) n))) (gwL M 81 0 (nextX (gml M 81 0))) := by
  refine gMet.of hx (by decide) (Nat.le_of_ble_eq_true rfl) ?_
  refine g_aload_n dX1_draw_0 rfl rfl rfl ?_
  refine g_aload_n dX1_draw_1 rfl rfl rfl ?_
  refine g_getL dX1_draw_2 ff_X1_7 rfl (k81 hL) rfl ?_
  refine g_ldc2 dX1_draw_5 lq_X1_13 rfl ?_
  refine g_lmul dX1_draw_8 rfl ?_
  refine g_ldc2 dX1_draw_9 lq_X1_15 rfl ?_
  refine g_ladd dX1_draw_12 rfl ?_
  refine g_putL dX1_draw_13 fp_X1_7 rfl (k81 hL) rfl ?_
  refine g_iload_n dX1_draw_16 rfl rfl rfl ?_
  refine g_iconst (v := 1) dX1_draw_17 (by decide) rfl ?_
  refine g_icmp_ge (tgt := 25) dX1_draw_18 (by decide) rfl (fun _ => ?_) (fun h => absurd (h1) h)
  refine g_aload_n dX1_draw_25 rfl rfl rfl ?_
  refine g_getL dX1_draw_26 ff_X1_7 rfl (k81 (gLay_L hL)) rfl ?_
  refine g_bipush (v := 33) dX1_draw_29 (by decide) rfl ?_
  refine g_lushr dX1_draw_31 rfl ?_
  refine g_iload_n dX1_draw_32 rfl rfl rfl ?_
  refine g_i2l dX1_draw_33 rfl ?_
  rw [gml_L, va_up_self]
  refine g_lrem dX1_draw_34 hn rfl ?_
  refine g_l2i dX1_draw_35 rfl ?_
  exact g_iret dX1_draw_36 rfl rfl ⟨rfl, rfl⟩
end P0
