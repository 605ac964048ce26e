section F2
variable {X : gX} {M : gM} {d : Nat}
/-- the row of one who went: shaved, nicked -/
def goG (f : Nat → Int32) (p : Nat) : Nat → Int32 :=
  va_up (va_up (va_up (va_up f 60 (f 60 ||| ((1 : Int32) <<< (nI p &&& 31)))) p 0) (6 + p) (imin 999 (va_up (va_up f 60 (f 60 ||| ((1 : Int32) <<< (nI p &&& 31)))) p 0 (6 + p) + 1))) 61
    (va_up (va_up (va_up f 60 (f 60 ||| ((1 : Int32) <<< (nI p &&& 31)))) p 0) (6 + p) (imin 999 (va_up (va_up f 60 (f 60 ||| ((1 : Int32) <<< (nI p &&& 31)))) p 0 (6 + p) + 1)) 61 ||| ((1 : Int32) <<< (nI p &&& 31)))
def goN (f : Nat → Int32) (p : Nat) (nick : Int32) : Nat → Int32 :=
  va_up (va_up (va_up f 60 (f 60 ||| ((1 : Int32) <<< (nI p &&& 31)))) 63 (imin 999 (va_up f 60 (f 60 ||| ((1 : Int32) <<< (nI p &&& 31))) 63 + 1))) 65
    (imax 0 (va_up (va_up f 60 (f 60 ||| ((1 : Int32) <<< (nI p &&& 31)))) 63 (imin 999 (va_up f 60 (f 60 ||| ((1 : Int32) <<< (nI p &&& 31))) 63 + 1)) 65 - nick))
theorem gwI_def (M : gM) (a i : Nat) (v : Int32) : gwI M a i v = gwF M a (va_up (gmi M a) i v) := rfl
set_option maxRecDepth 20000 in
theorem c_goG_now (hx : gXok X) (hL : gLay M) {p : Nat} (hp : p < 6) : gDet X (d + 1) yX4_go cX4_go 3 none [.ref 24, .int (nI p), .int 1] M none (gwF M 25 (goG (gmi M 25) p)) := by
  refine gMet.of hx (by decide) (Nat.le_of_ble_eq_true rfl) ?_
  refine g_aload_n dX4_go_0 rfl rfl rfl ?_
  refine g_getR dX4_go_1 ff_X4_11 rfl (k24 hL) (r24_1 hL) rfl ?_
  refine g_bipush (v := 60) dX4_go_4 (by decide) rfl ?_
  refine g_dup2 dX4_go_6 rfl rfl rfl ?_
  refine g_iald (i := 60) dX4_go_7 (k25 hL) (l25 hL) (by (try simp only [nI_lit, pk_mul, nI_add, Nat.zero_add]); exact nI_toInt (by omega)) (by omega) rfl ?_
  refine g_iconst (v := 1) dX4_go_8 (by decide) rfl ?_
  refine g_iload_n dX4_go_9 rfl rfl rfl ?_
  refine g_ishl dX4_go_10 rfl ?_
  refine g_ior dX4_go_11 rfl ?_
  refine g_iast (i := 60) dX4_go_12 (k25 hL) (l25 hL) (by (try simp only [nI_lit, pk_mul, nI_add, Nat.zero_add]); exact nI_toInt (by omega)) (by omega) rfl ?_
  refine g_iload_n dX4_go_13 rfl rfl rfl ?_
  rw [gwI_def]
  refine g_if_eq (tgt := 68) dX4_go_14 (by decide) rfl (fun h => absurd h (by decide)) (fun _ => ?_)
  refine g_aload_n dX4_go_17 rfl rfl rfl ?_
  refine g_getR dX4_go_18 ff_X4_11 rfl (k24 (gLay_F hL)) (r24_1 (gLay_F hL)) rfl ?_
  refine g_iconst (v := 0) dX4_go_21 (by decide) rfl ?_
  refine g_iload_n dX4_go_22 rfl rfl rfl ?_
  refine g_iadd dX4_go_23 rfl ?_
  refine g_iconst (v := 0) dX4_go_24 (by decide) rfl ?_
  refine g_iast (i := p) dX4_go_25 (k25 (gLay_F hL)) (l25 (gLay_F hL)) (by (try simp only [nI_lit, pk_mul, nI_add, Nat.zero_add]); exact nI_toInt (by omega)) (by omega) rfl ?_
  rw [gwI_F]
  refine g_aload_n dX4_go_26 rfl rfl rfl ?_
  refine g_getR dX4_go_27 ff_X4_11 rfl (k24 (gLay_F hL)) (r24_1 (gLay_F hL)) rfl ?_
  refine g_bipush (v := 6) dX4_go_30 (by decide) rfl ?_
  refine g_iload_n dX4_go_32 rfl rfl rfl ?_
  refine g_iadd dX4_go_33 rfl ?_
  refine g_sipush (v := 999) dX4_go_34 (by decide) rfl ?_
  refine g_aload_n dX4_go_37 rfl rfl rfl ?_
  refine g_getR dX4_go_38 ff_X4_11 rfl (k24 (gLay_F hL)) (r24_1 (gLay_F hL)) rfl ?_
  refine g_bipush (v := 6) dX4_go_41 (by decide) rfl ?_
  refine g_iload_n dX4_go_43 rfl rfl rfl ?_
  refine g_iadd dX4_go_44 rfl ?_
  refine g_iald (i := (6 + p)) dX4_go_45 (k25 (gLay_F hL)) (l25 (gLay_F hL)) (by (try simp only [nI_lit, pk_mul, nI_add, Nat.zero_add]); exact nI_toInt (by omega)) (by omega) rfl ?_
  refine g_iconst (v := 1) dX4_go_46 (by decide) rfl ?_
  refine g_iadd dX4_go_47 rfl ?_
  rw [gmi_F]
  refine g_callSdi dX4_go_48 lm_X4_80 mv_J9_min_7cf53 (c_min (d := d) hx) rfl rfl (Nat.le_of_ble_eq_true rfl) (gFit_room (by omega)) rfl ?_
  refine g_iast (i := (6 + p)) dX4_go_51 (k25 (gLay_F hL)) (l25 (gLay_F hL)) (by (try simp only [nI_lit, pk_mul, nI_add, Nat.zero_add]); exact nI_toInt (by omega)) (by omega) rfl ?_
  rw [gwI_F]
  refine g_aload_n dX4_go_52 rfl rfl rfl ?_
  refine g_getR dX4_go_53 ff_X4_11 rfl (k24 (gLay_F hL)) (r24_1 (gLay_F hL)) rfl ?_
  refine g_bipush (v := 61) dX4_go_56 (by decide) rfl ?_
  refine g_dup2 dX4_go_58 rfl rfl rfl ?_
  refine g_iald (i := 61) dX4_go_59 (k25 (gLay_F hL)) (l25 (gLay_F hL)) (by (try simp only [nI_lit, pk_mul, nI_add, Nat.zero_add]); exact nI_toInt (by omega)) (by omega) rfl ?_
  refine g_iconst (v := 1) dX4_go_60 (by decide) rfl ?_
  refine g_iload_n dX4_go_61 rfl rfl rfl ?_
  refine g_ishl dX4_go_62 rfl ?_
  refine g_ior dX4_go_63 rfl ?_
  rw [gmi_F]
  refine g_iast (i := 61) dX4_go_64 (k25 (gLay_F hL)) (l25 (gLay_F hL)) (by (try simp only [nI_lit, pk_mul, nI_add, Nat.zero_add]); exact nI_toInt (by omega)) (by omega) rfl ?_
  rw [gwI_F]
  refine g_goto (tgt := 116) dX4_go_65 (by decide) ?_
  exact g_vret dX4_go_116 rfl ⟨rfl, rfl⟩
set_option maxRecDepth 20000 in
theorem c_goN_now (hx : gXok X) (hL : gLay M) {p : Nat} (hp : p < 6) : gDet X (d + 1) yX4_go cX4_go 3 none [.ref 24, .int (nI p), .int 0] M none (gwF M 25 (goN (gmi M 25) p (gmi M 3 9))) := by
  refine gMet.of hx (by decide) (Nat.le_of_ble_eq_true rfl) ?_
  refine g_aload_n dX4_go_0 rfl rfl rfl ?_
  refine g_getR dX4_go_1 ff_X4_11 rfl (k24 hL) (r24_1 hL) rfl ?_
  refine g_bipush (v := 60) dX4_go_4 (by decide) rfl ?_
  refine g_dup2 dX4_go_6 rfl rfl rfl ?_
  refine g_iald (i := 60) dX4_go_7 (k25 hL) (l25 hL) (by (try simp only [nI_lit, pk_mul, nI_add, Nat.zero_add]); exact nI_toInt (by omega)) (by omega) rfl ?_
  refine g_iconst (v := 1) dX4_go_8 (by decide) rfl ?_
  refine g_iload_n dX4_go_9 rfl rfl rfl ?_
  refine g_ishl dX4_go_10 rfl ?_
  refine g_ior dX4_go_11 rfl ?_
  refine g_iast (i := 60) dX4_go_12 (k25 hL) (l25 hL) (by (try simp only [nI_lit, pk_mul, nI_add, Nat.zero_add]); exact nI_toInt (by omega)) (by omega) rfl ?_
  refine g_iload_n dX4_go_13 rfl rfl rfl ?_
  rw [gwI_def]
  refine g_if_eq (tgt := 68) dX4_go_14 (by decide) rfl (fun _ => ?_) (fun h => absurd (rfl) h)
  refine g_aload_n dX4_go_68 rfl rfl rfl ?_
  refine g_getR dX4_go_69 ff_X4_11 rfl (k24 (gLay_F hL)) (r24_1 (gLay_F hL)) rfl ?_
  refine g_bipush (v := 63) dX4_go_72 (by decide) rfl ?_
  refine g_sipush (v := 999) dX4_go_74 (by decide) rfl ?_
  refine g_aload_n dX4_go_77 rfl rfl rfl ?_
  refine g_getR dX4_go_78 ff_X4_11 rfl (k24 (gLay_F hL)) (r24_1 (gLay_F hL)) rfl ?_
  refine g_bipush (v := 63) dX4_go_81 (by decide) rfl ?_
  refine g_iald (i := 63) dX4_go_83 (k25 (gLay_F hL)) (l25 (gLay_F hL)) (by (try simp only [nI_lit, pk_mul, nI_add, Nat.zero_add]); exact nI_toInt (by omega)) (by omega) rfl ?_
  refine g_iconst (v := 1) dX4_go_84 (by decide) rfl ?_
  refine g_iadd dX4_go_85 rfl ?_
  rw [gmi_F]
  refine g_callSdi dX4_go_86 lm_X4_80 mv_J9_min_7cf53 (c_min (d := d) hx) rfl rfl (Nat.le_of_ble_eq_true rfl) (gFit_room (by omega)) rfl ?_
  refine g_iast (i := 63) dX4_go_89 (k25 (gLay_F hL)) (l25 (gLay_F hL)) (by (try simp only [nI_lit, pk_mul, nI_add, Nat.zero_add]); exact nI_toInt (by omega)) (by omega) rfl ?_
  rw [gwI_F]
  refine g_aload_n dX4_go_90 rfl rfl rfl ?_
  refine g_getR dX4_go_91 ff_X4_11 rfl (k24 (gLay_F hL)) (r24_1 (gLay_F hL)) rfl ?_
  refine g_bipush (v := 65) dX4_go_94 (by decide) rfl ?_
  refine g_iconst (v := 0) dX4_go_96 (by decide) rfl ?_
  refine g_aload_n dX4_go_97 rfl rfl rfl ?_
  refine g_getR dX4_go_98 ff_X4_11 rfl (k24 (gLay_F hL)) (r24_1 (gLay_F hL)) rfl ?_
  refine g_bipush (v := 65) dX4_go_101 (by decide) rfl ?_
  refine g_iald (i := 65) dX4_go_103 (k25 (gLay_F hL)) (l25 (gLay_F hL)) (by (try simp only [nI_lit, pk_mul, nI_add, Nat.zero_add]); exact nI_toInt (by omega)) (by omega) rfl ?_
  refine g_aload_n dX4_go_104 rfl rfl rfl ?_
  refine g_getR dX4_go_105 ff_X4_18 rfl (k24 (gLay_F hL)) (r24_0 (gLay_F hL)) rfl ?_
  refine g_getI dX4_go_108 ff_X4_92 rfl (k3 (gLay_F hL)) rfl ?_
  refine g_isub dX4_go_111 rfl ?_
  rw [gmi_F]
  refine g_callSdi dX4_go_112 lm_X4_95 mv_J9_max_7cf53 (c_max (d := d) hx) rfl rfl (Nat.le_of_ble_eq_true rfl) (gFit_room (by omega)) rfl ?_
  refine g_iast (i := 65) dX4_go_115 (k25 (gLay_F hL)) (l25 (gLay_F hL)) (by (try simp only [nI_lit, pk_mul, nI_add, Nat.zero_add]); exact nI_toInt (by omega)) (by omega) rfl ?_
  rw [gwI_F]
  exact g_vret dX4_go_116 rfl ⟨rfl, rfl⟩
set_option maxRecDepth 20000 in
theorem c_wishers_now (hx : gXok X) (hL : gLay M) (hT : TownOK M) {b : Nat} (hb : b < 64) : gDet X (d + 0) yX4_wishersAmong cX4_wishersAmong 4 (some .int) [.ref 24, .int (nI b)] M (some (.int (nI (fb_ct (fun p => b.testBit p && decide (gmi M 6 p = gmi M 25 66 - gmi M 25 66 / 7 * 7)) (tv M 3 7))))) M := by
  have h6 := hT.1.2
  refine gMet.of hx (by decide) (Nat.le_of_ble_eq_true rfl) ?_
  refine g_iconst (v := 0) dX4_wishersAmong_0 (by decide) rfl ?_
  refine g_istore_n dX4_wishersAmong_1 rfl (by decide) rfl ?_
  refine g_iconst (v := 0) dX4_wishersAmong_2 (by decide) rfl ?_
  refine g_istore_n dX4_wishersAmong_3 rfl (by decide) rfl ?_
  refine g_loop (fun i => [(0, .ref 24), (1, .int (nI b)), (2, .int (nI (fb_ct (fun p => b.testBit p && decide (gmi M 6 p = gmi M 25 66 - gmi M 25 66 / 7 * 7)) i))), (3, .int (nI i))]) (fun _ => M) (tv M 3 7) 0 (by omega) ⟨rfl, rfl, rfl, rfl, trivial⟩ rfl ?_ (fun i _ hi ih => ?_)
  · refine g_iload_n dX4_wishersAmong_4 rfl rfl rfl ?_
    refine g_aload_n dX4_wishersAmong_5 rfl rfl rfl ?_
    refine g_getR dX4_wishersAmong_6 ff_X4_18 rfl (k24 hL) (r24_0 hL) rfl ?_
    refine g_getI dX4_wishersAmong_9 ff_X4_28 rfl (k3 hL) rfl ?_
    refine g_icmp_ge (tgt := 55) dX4_wishersAmong_12 (by decide) rfl (fun _ => ?_) (fun h => absurd (by rw [hT.1.1]; exact nI_le (by omega) (by omega)) h)
    refine g_iload_n dX4_wishersAmong_55 rfl rfl rfl ?_
    exact g_iret dX4_wishersAmong_56 rfl rfl ⟨rfl, rfl⟩
  · refine g_iload_n dX4_wishersAmong_4 rfl rfl rfl ?_
    refine g_aload_n dX4_wishersAmong_5 rfl rfl rfl ?_
    refine g_getR dX4_wishersAmong_6 ff_X4_18 rfl (k24 hL) (r24_0 hL) rfl ?_
    refine g_getI dX4_wishersAmong_9 ff_X4_28 rfl (k3 hL) rfl ?_
    refine g_icmp_ge (tgt := 55) dX4_wishersAmong_12 (by decide) rfl (fun h => absurd h (by rw [hT.1.1]; exact nI_ge (by omega) (by omega))) (fun _ => ?_)
    refine g_iload_n dX4_wishersAmong_15 rfl rfl rfl ?_
    refine g_iload_n dX4_wishersAmong_16 rfl rfl rfl ?_
    refine g_ishr dX4_wishersAmong_17 rfl ?_
    refine g_iconst (v := 1) dX4_wishersAmong_18 (by decide) rfl ?_
    refine g_iand dX4_wishersAmong_19 rfl ?_
    refine g_iconst (v := 1) dX4_wishersAmong_20 (by decide) rfl ?_
    refine g_icmp_ne (tgt := 49) dX4_wishersAmong_21 (by decide) rfl (fun h21 => ?_) (fun h21 => ?_)
    · have hbt : b.testBit i = false := by
        cases hq : b.testBit i with
        | false => rfl
        | true => exact absurd ((bt_is1 (by omega) (by omega)).mpr hq) h21
      refine g_iincV (c := 1) dX4_wishersAmong_49 rfl (by decide) (by decide) rfl ?_
      refine g_goto (tgt := 4) dX4_wishersAmong_52 (by decide) ?_
      refine g_go ih ⟨rfl, rfl, ?_, by rw [← nI_1]; rfl, trivial⟩
      rw [fb_ct_succ, hbt]
      rfl
    · have hbt : b.testBit i = true := (bt_is1 (by omega) (by omega)).mp h21
      refine g_aload_n dX4_wishersAmong_24 rfl rfl rfl ?_
      refine g_getR dX4_wishersAmong_25 ff_X4_18 rfl (k24 hL) (r24_0 hL) rfl ?_
      refine g_getR dX4_wishersAmong_28 ff_X4_109 rfl (k3 hL) (r3_2 hL) rfl ?_
      refine g_iload_n dX4_wishersAmong_31 rfl rfl rfl ?_
      refine g_iald (i := i) dX4_wishersAmong_32 (k6 hL) (l6 hL) (by (try simp only [nI_lit, pk_mul, nI_add, Nat.zero_add]); exact nI_toInt (by omega)) (by omega) rfl ?_
      refine g_aload_n dX4_wishersAmong_33 rfl rfl rfl ?_
      refine g_getR dX4_wishersAmong_34 ff_X4_11 rfl (k24 hL) (r24_1 hL) rfl ?_
      refine g_bipush (v := 66) dX4_wishersAmong_37 (by decide) rfl ?_
      refine g_iald (i := 66) dX4_wishersAmong_39 (k25 hL) (l25 hL) (by (try simp only [nI_lit, pk_mul, nI_add, Nat.zero_add]); exact nI_toInt (by omega)) (by omega) rfl ?_
      refine g_bipush (v := 7) dX4_wishersAmong_40 (by decide) rfl ?_
      refine g_irem dX4_wishersAmong_42 (by decide) rfl ?_
      refine g_icmp_ne (tgt := 49) dX4_wishersAmong_43 (by decide) rfl (fun h43 => ?_) (fun h43 => ?_)
      · refine g_iincV (c := 1) dX4_wishersAmong_49 rfl (by decide) (by decide) rfl ?_
        refine g_goto (tgt := 4) dX4_wishersAmong_52 (by decide) ?_
        refine g_go ih ⟨rfl, rfl, ?_, by rw [← nI_1]; rfl, trivial⟩
        rw [fb_ct_succ, hbt, decide_eq_false h43]
        rfl
      · refine g_iincV (c := 1) dX4_wishersAmong_46 rfl (by decide) (by decide) rfl ?_
        refine g_iincV (c := 1) dX4_wishersAmong_49 rfl (by decide) (by decide) rfl ?_
        refine g_goto (tgt := 4) dX4_wishersAmong_52 (by decide) ?_
        refine g_go ih ⟨rfl, rfl, ?_, by rw [← nI_1]; rfl, trivial⟩
        rw [fb_ct_succ, hbt, decide_eq_true h43]
        show some (Value.int (nI _ + 1)) = some (Value.int (nI (_ + 1)))
        rw [nI_1]
set_option maxRecDepth 20000 in
theorem c_write_now (hx : gXok X) (hL : gLay M) (hd : okv M 25 66 999) {x : Int32} : gDet X (d + 0) yX4_write cX4_write 3 none [.ref 24, .int x] M none (gwF M 26 (va_up (va_up (va_up (gmi M 26) (tv M 25 66 % 128 * 3) x) (tv M 25 66 % 128 * 3 + 1) (gmi M 25 61)) (tv M 25 66 % 128 * 3 + 2) (gmi M 25 62))) := by
  have h9 := hd.2
  refine gMet.of hx (by decide) (Nat.le_of_ble_eq_true rfl) ?_
  refine g_aload_n dX4_write_0 rfl rfl rfl ?_
  refine g_getR dX4_write_1 ff_X4_11 rfl (k24 hL) (r24_1 hL) rfl ?_
  refine g_bipush (v := 66) dX4_write_4 (by decide) rfl ?_
  refine g_iald (i := 66) dX4_write_6 (k25 hL) (l25 hL) (by (try simp only [nI_lit, pk_mul, nI_add, Nat.zero_add]); exact nI_toInt (by omega)) (by omega) rfl ?_
  refine g_sipush (v := 128) dX4_write_7 (by decide) rfl ?_
  refine g_irem dX4_write_10 (by decide) rfl ?_
  rw [hd.1, show (128 : Int32) = nI 128 from rfl, pk_rem (by omega) (by omega) (by omega)]
  refine g_iconst (v := 3) dX4_write_11 (by decide) rfl ?_
  refine g_imul dX4_write_12 rfl ?_
  rw [show (3 : Int32) = nI 3 from rfl, pk_mul]
  refine g_istore_n dX4_write_13 rfl (by decide) rfl ?_
  generalize hk : tv M 25 66 % 128 * 3 = k
  have hk2 : k ≤ 381 := by omega
  refine g_aload_n dX4_write_14 rfl rfl rfl ?_
  refine g_getR dX4_write_15 ff_X4_15 rfl (k24 hL) (r24_2 hL) rfl ?_
  refine g_iload_n dX4_write_18 rfl rfl rfl ?_
  refine g_iload_n dX4_write_19 rfl rfl rfl ?_
  refine g_iast (i := k) dX4_write_20 (k26 hL) (l26 hL) (by (try simp only [nI_lit, pk_mul, nI_add, Nat.zero_add]); exact nI_toInt (by omega)) (by omega) rfl ?_
  rw [gwI_def]
  refine g_aload_n dX4_write_21 rfl rfl rfl ?_
  refine g_getR dX4_write_22 ff_X4_15 rfl (k24 (gLay_F hL)) (r24_2 (gLay_F hL)) rfl ?_
  refine g_iload_n dX4_write_25 rfl rfl rfl ?_
  refine g_iconst (v := 1) dX4_write_26 (by decide) rfl ?_
  refine g_iadd dX4_write_27 rfl ?_
  refine g_aload_n dX4_write_28 rfl rfl rfl ?_
  refine g_getR dX4_write_29 ff_X4_11 rfl (k24 (gLay_F hL)) (r24_1 (gLay_F hL)) rfl ?_
  refine g_bipush (v := 61) dX4_write_32 (by decide) rfl ?_
  refine g_iald (i := 61) dX4_write_34 (k25 (gLay_F hL)) (l25 (gLay_F hL)) (by (try simp only [nI_lit, pk_mul, nI_add, Nat.zero_add]); exact nI_toInt (by omega)) (by omega) rfl ?_
  refine g_iast (i := (k + 1)) dX4_write_35 (k26 (gLay_F hL)) (l26 (gLay_F hL)) (by (try simp only [nI_lit, pk_mul, nI_add, Nat.zero_add]); exact nI_toInt (by omega)) (by omega) rfl ?_
  rw [gwI_F]
  refine g_aload_n dX4_write_36 rfl rfl rfl ?_
  refine g_getR dX4_write_37 ff_X4_15 rfl (k24 (gLay_F hL)) (r24_2 (gLay_F hL)) rfl ?_
  refine g_iload_n dX4_write_40 rfl rfl rfl ?_
  refine g_iconst (v := 2) dX4_write_41 (by decide) rfl ?_
  refine g_iadd dX4_write_42 rfl ?_
  refine g_aload_n dX4_write_43 rfl rfl rfl ?_
  refine g_getR dX4_write_44 ff_X4_11 rfl (k24 (gLay_F hL)) (r24_1 (gLay_F hL)) rfl ?_
  refine g_bipush (v := 62) dX4_write_47 (by decide) rfl ?_
  refine g_iald (i := 62) dX4_write_49 (k25 (gLay_F hL)) (l25 (gLay_F hL)) (by (try simp only [nI_lit, pk_mul, nI_add, Nat.zero_add]); exact nI_toInt (by omega)) (by omega) rfl ?_
  refine g_iast (i := (k + 2)) dX4_write_50 (k26 (gLay_F hL)) (l26 (gLay_F hL)) (by (try simp only [nI_lit, pk_mul, nI_add, Nat.zero_add]); exact nI_toInt (by omega)) (by omega) rfl ?_
  rw [gwI_F]
  exact g_vret dX4_write_51 rfl ⟨rfl, rfl⟩
set_option maxRecDepth 20000 in
theorem c_goG_trial (hx : gXok X) (hL : gLay M) {p : Nat} (hp : p < 6) : gDet X (d + 1) yX4_go cX4_go 3 none [.ref 27, .int (nI p), .int 1] M none (gwF M 28 (goG (gmi M 28) p)) := by
  refine gMet.of hx (by decide) (Nat.le_of_ble_eq_true rfl) ?_
  refine g_aload_n dX4_go_0 rfl rfl rfl ?_
  refine g_getR dX4_go_1 ff_X4_11 rfl (k27 hL) (r27_1 hL) rfl ?_
  refine g_bipush (v := 60) dX4_go_4 (by decide) rfl ?_
  refine g_dup2 dX4_go_6 rfl rfl rfl ?_
  refine g_iald (i := 60) dX4_go_7 (k28 hL) (l28 hL) (by (try simp only [nI_lit, pk_mul, nI_add, Nat.zero_add]); exact nI_toInt (by omega)) (by omega) rfl ?_
  refine g_iconst (v := 1) dX4_go_8 (by decide) rfl ?_
  refine g_iload_n dX4_go_9 rfl rfl rfl ?_
  refine g_ishl dX4_go_10 rfl ?_
  refine g_ior dX4_go_11 rfl ?_
  refine g_iast (i := 60) dX4_go_12 (k28 hL) (l28 hL) (by (try simp only [nI_lit, pk_mul, nI_add, Nat.zero_add]); exact nI_toInt (by omega)) (by omega) rfl ?_
  refine g_iload_n dX4_go_13 rfl rfl rfl ?_
  rw [gwI_def]
  refine g_if_eq (tgt := 68) dX4_go_14 (by decide) rfl (fun h => absurd h (by decide)) (fun _ => ?_)
  refine g_aload_n dX4_go_17 rfl rfl rfl ?_
  refine g_getR dX4_go_18 ff_X4_11 rfl (k27 (gLay_F hL)) (r27_1 (gLay_F hL)) rfl ?_
  refine g_iconst (v := 0) dX4_go_21 (by decide) rfl ?_
  refine g_iload_n dX4_go_22 rfl rfl rfl ?_
  refine g_iadd dX4_go_23 rfl ?_
  refine g_iconst (v := 0) dX4_go_24 (by decide) rfl ?_
  refine g_iast (i := p) dX4_go_25 (k28 (gLay_F hL)) (l28 (gLay_F hL)) (by (try simp only [nI_lit, pk_mul, nI_add, Nat.zero_add]); exact nI_toInt (by omega)) (by omega) rfl ?_
  rw [gwI_F]
  refine g_aload_n dX4_go_26 rfl rfl rfl ?_
  refine g_getR dX4_go_27 ff_X4_11 rfl (k27 (gLay_F hL)) (r27_1 (gLay_F hL)) rfl ?_
  refine g_bipush (v := 6) dX4_go_30 (by decide) rfl ?_
  refine g_iload_n dX4_go_32 rfl rfl rfl ?_
  refine g_iadd dX4_go_33 rfl ?_
  refine g_sipush (v := 999) dX4_go_34 (by decide) rfl ?_
  refine g_aload_n dX4_go_37 rfl rfl rfl ?_
  refine g_getR dX4_go_38 ff_X4_11 rfl (k27 (gLay_F hL)) (r27_1 (gLay_F hL)) rfl ?_
  refine g_bipush (v := 6) dX4_go_41 (by decide) rfl ?_
  refine g_iload_n dX4_go_43 rfl rfl rfl ?_
  refine g_iadd dX4_go_44 rfl ?_
  refine g_iald (i := (6 + p)) dX4_go_45 (k28 (gLay_F hL)) (l28 (gLay_F hL)) (by (try simp only [nI_lit, pk_mul, nI_add, Nat.zero_add]); exact nI_toInt (by omega)) (by omega) rfl ?_
  refine g_iconst (v := 1) dX4_go_46 (by decide) rfl ?_
  refine g_iadd dX4_go_47 rfl ?_
  rw [gmi_F]
  refine g_callSdi dX4_go_48 lm_X4_80 mv_J9_min_7cf53 (c_min (d := d) hx) rfl rfl (Nat.le_of_ble_eq_true rfl) (gFit_room (by omega)) rfl ?_
  refine g_iast (i := (6 + p)) dX4_go_51 (k28 (gLay_F hL)) (l28 (gLay_F hL)) (by (try simp only [nI_lit, pk_mul, nI_add, Nat.zero_add]); exact nI_toInt (by omega)) (by omega) rfl ?_
  rw [gwI_F]
  refine g_aload_n dX4_go_52 rfl rfl rfl ?_
  refine g_getR dX4_go_53 ff_X4_11 rfl (k27 (gLay_F hL)) (r27_1 (gLay_F hL)) rfl ?_
  refine g_bipush (v := 61) dX4_go_56 (by decide) rfl ?_
  refine g_dup2 dX4_go_58 rfl rfl rfl ?_
  refine g_iald (i := 61) dX4_go_59 (k28 (gLay_F hL)) (l28 (gLay_F hL)) (by (try simp only [nI_lit, pk_mul, nI_add, Nat.zero_add]); exact nI_toInt (by omega)) (by omega) rfl ?_
  refine g_iconst (v := 1) dX4_go_60 (by decide) rfl ?_
  refine g_iload_n dX4_go_61 rfl rfl rfl ?_
  refine g_ishl dX4_go_62 rfl ?_
  refine g_ior dX4_go_63 rfl ?_
  rw [gmi_F]
  refine g_iast (i := 61) dX4_go_64 (k28 (gLay_F hL)) (l28 (gLay_F hL)) (by (try simp only [nI_lit, pk_mul, nI_add, Nat.zero_add]); exact nI_toInt (by omega)) (by omega) rfl ?_
  rw [gwI_F]
  refine g_goto (tgt := 116) dX4_go_65 (by decide) ?_
  exact g_vret dX4_go_116 rfl ⟨rfl, rfl⟩
set_option maxRecDepth 20000 in
theorem c_goN_trial (hx : gXok X) (hL : gLay M) {p : Nat} (hp : p < 6) : gDet X (d + 1) yX4_go cX4_go 3 none [.ref 27, .int (nI p), .int 0] M none (gwF M 28 (goN (gmi M 28) p (gmi M 3 9))) := by
  refine gMet.of hx (by decide) (Nat.le_of_ble_eq_true rfl) ?_
  refine g_aload_n dX4_go_0 rfl rfl rfl ?_
  refine g_getR dX4_go_1 ff_X4_11 rfl (k27 hL) (r27_1 hL) rfl ?_
  refine g_bipush (v := 60) dX4_go_4 (by decide) rfl ?_
  refine g_dup2 dX4_go_6 rfl rfl rfl ?_
  refine g_iald (i := 60) dX4_go_7 (k28 hL) (l28 hL) (by (try simp only [nI_lit, pk_mul, nI_add, Nat.zero_add]); exact nI_toInt (by omega)) (by omega) rfl ?_
  refine g_iconst (v := 1) dX4_go_8 (by decide) rfl ?_
  refine g_iload_n dX4_go_9 rfl rfl rfl ?_
  refine g_ishl dX4_go_10 rfl ?_
  refine g_ior dX4_go_11 rfl ?_
  refine g_iast (i := 60) dX4_go_12 (k28 hL) (l28 hL) (by (try simp only [nI_lit, pk_mul, nI_add, Nat.zero_add]); exact nI_toInt (by omega)) (by omega) rfl ?_
  refine g_iload_n dX4_go_13 rfl rfl rfl ?_
  rw [gwI_def]
  refine g_if_eq (tgt := 68) dX4_go_14 (by decide) rfl (fun _ => ?_) (fun h => absurd (rfl) h)
  refine g_aload_n dX4_go_68 rfl rfl rfl ?_
  refine g_getR dX4_go_69 ff_X4_11 rfl (k27 (gLay_F hL)) (r27_1 (gLay_F hL)) rfl ?_
  refine g_bipush (v := 63) dX4_go_72 (by decide) rfl ?_
  refine g_sipush (v := 999) dX4_go_74 (by decide) rfl ?_
  refine g_aload_n dX4_go_77 rfl rfl rfl ?_
  refine g_getR dX4_go_78 ff_X4_11 rfl (k27 (gLay_F hL)) (r27_1 (gLay_F hL)) rfl ?_
  refine g_bipush (v := 63) dX4_go_81 (by decide) rfl ?_
  refine g_iald (i := 63) dX4_go_83 (k28 (gLay_F hL)) (l28 (gLay_F hL)) (by (try simp only [nI_lit, pk_mul, nI_add, Nat.zero_add]); exact nI_toInt (by omega)) (by omega) rfl ?_
  refine g_iconst (v := 1) dX4_go_84 (by decide) rfl ?_
  refine g_iadd dX4_go_85 rfl ?_
  rw [gmi_F]
  refine g_callSdi dX4_go_86 lm_X4_80 mv_J9_min_7cf53 (c_min (d := d) hx) rfl rfl (Nat.le_of_ble_eq_true rfl) (gFit_room (by omega)) rfl ?_
  refine g_iast (i := 63) dX4_go_89 (k28 (gLay_F hL)) (l28 (gLay_F hL)) (by (try simp only [nI_lit, pk_mul, nI_add, Nat.zero_add]); exact nI_toInt (by omega)) (by omega) rfl ?_
  rw [gwI_F]
  refine g_aload_n dX4_go_90 rfl rfl rfl ?_
  refine g_getR dX4_go_91 ff_X4_11 rfl (k27 (gLay_F hL)) (r27_1 (gLay_F hL)) rfl ?_
  refine g_bipush (v := 65) dX4_go_94 (by decide) rfl ?_
  refine g_iconst (v := 0) dX4_go_96 (by decide) rfl ?_
  refine g_aload_n dX4_go_97 rfl rfl rfl ?_
  refine g_getR dX4_go_98 ff_X4_11 rfl (k27 (gLay_F hL)) (r27_1 (gLay_F hL)) rfl ?_
  refine g_bipush (v := 65) dX4_go_101 (by decide) rfl ?_
  refine g_iald (i := 65) dX4_go_103 (k28 (gLay_F hL)) (l28 (gLay_F hL)) (by (try simp only [nI_lit, pk_mul, nI_add, Nat.zero_add]); exact nI_toInt (by omega)) (by omega) rfl ?_
  refine g_aload_n dX4_go_104 rfl rfl rfl ?_
  refine g_getR dX4_go_105 ff_X4_18 rfl (k27 (gLay_F hL)) (r27_0 (gLay_F hL)) rfl ?_
  refine g_getI dX4_go_108 ff_X4_92 rfl (k3 (gLay_F hL)) rfl ?_
  refine g_isub dX4_go_111 rfl ?_
  rw [gmi_F]
  refine g_callSdi dX4_go_112 lm_X4_95 mv_J9_max_7cf53 (c_max (d := d) hx) rfl rfl (Nat.le_of_ble_eq_true rfl) (gFit_room (by omega)) rfl ?_
  refine g_iast (i := 65) dX4_go_115 (k28 (gLay_F hL)) (l28 (gLay_F hL)) (by (try simp only [nI_lit, pk_mul, nI_add, Nat.zero_add]); exact nI_toInt (by omega)) (by omega) rfl ?_
  rw [gwI_F]
  exact g_vret dX4_go_116 rfl ⟨rfl, rfl⟩
set_option maxRecDepth 20000 in
theorem c_wishers_trial (hx : gXok X) (hL : gLay M) (hT : TownOK M) {b : Nat} (hb : b < 64) : gDet X (d + 0) yX4_wishersAmong cX4_wishersAmong 4 (some .int) [.ref 27, .int (nI b)] M (some (.int (nI (fb_ct (fun p => b.testBit p && decide (gmi M 6 p = gmi M 28 66 - gmi M 28 66 / 7 * 7)) (tv M 3 7))))) M := by
  have h6 := hT.1.2
  refine gMet.of hx (by decide) (Nat.le_of_ble_eq_true rfl) ?_
  refine g_iconst (v := 0) dX4_wishersAmong_0 (by decide) rfl ?_
  refine g_istore_n dX4_wishersAmong_1 rfl (by decide) rfl ?_
  refine g_iconst (v := 0) dX4_wishersAmong_2 (by decide) rfl ?_
  refine g_istore_n dX4_wishersAmong_3 rfl (by decide) rfl ?_
  refine g_loop (fun i => [(0, .ref 27), (1, .int (nI b)), (2, .int (nI (fb_ct (fun p => b.testBit p && decide (gmi M 6 p = gmi M 28 66 - gmi M 28 66 / 7 * 7)) i))), (3, .int (nI i))]) (fun _ => M) (tv M 3 7) 0 (by omega) ⟨rfl, rfl, rfl, rfl, trivial⟩ rfl ?_ (fun i _ hi ih => ?_)
  · refine g_iload_n dX4_wishersAmong_4 rfl rfl rfl ?_
    refine g_aload_n dX4_wishersAmong_5 rfl rfl rfl ?_
    refine g_getR dX4_wishersAmong_6 ff_X4_18 rfl (k27 hL) (r27_0 hL) rfl ?_
    refine g_getI dX4_wishersAmong_9 ff_X4_28 rfl (k3 hL) rfl ?_
    refine g_icmp_ge (tgt := 55) dX4_wishersAmong_12 (by decide) rfl (fun _ => ?_) (fun h => absurd (by rw [hT.1.1]; exact nI_le (by omega) (by omega)) h)
    refine g_iload_n dX4_wishersAmong_55 rfl rfl rfl ?_
    exact g_iret dX4_wishersAmong_56 rfl rfl ⟨rfl, rfl⟩
  · refine g_iload_n dX4_wishersAmong_4 rfl rfl rfl ?_
    refine g_aload_n dX4_wishersAmong_5 rfl rfl rfl ?_
    refine g_getR dX4_wishersAmong_6 ff_X4_18 rfl (k27 hL) (r27_0 hL) rfl ?_
    refine g_getI dX4_wishersAmong_9 ff_X4_28 rfl (k3 hL) rfl ?_
    refine g_icmp_ge (tgt := 55) dX4_wishersAmong_12 (by decide) rfl (fun h => absurd h (by rw [hT.1.1]; exact nI_ge (by omega) (by omega))) (fun _ => ?_)
    refine g_iload_n dX4_wishersAmong_15 rfl rfl rfl ?_
    refine g_iload_n dX4_wishersAmong_16 rfl rfl rfl ?_
    refine g_ishr dX4_wishersAmong_17 rfl ?_
    refine g_iconst (v := 1) dX4_wishersAmong_18 (by decide) rfl ?_
    refine g_iand dX4_wishersAmong_19 rfl ?_
    refine g_iconst (v := 1) dX4_wishersAmong_20 (by decide) rfl ?_
    refine g_icmp_ne (tgt := 49) dX4_wishersAmong_21 (by decide) rfl (fun h21 => ?_) (fun h21 => ?_)
    · have hbt : b.testBit i = false := by
        cases hq : b.testBit i with
        | false => rfl
        | true => exact absurd ((bt_is1 (by omega) (by omega)).mpr hq) h21
      refine g_iincV (c := 1) dX4_wishersAmong_49 rfl (by decide) (by decide) rfl ?_
      refine g_goto (tgt := 4) dX4_wishersAmong_52 (by decide) ?_
      refine g_go ih ⟨rfl, rfl, ?_, by rw [← nI_1]; rfl, trivial⟩
      rw [fb_ct_succ, hbt]
      rfl
    · have hbt : b.testBit i = true := (bt_is1 (by omega) (by omega)).mp h21
      refine g_aload_n dX4_wishersAmong_24 rfl rfl rfl ?_
      refine g_getR dX4_wishersAmong_25 ff_X4_18 rfl (k27 hL) (r27_0 hL) rfl ?_
      refine g_getR dX4_wishersAmong_28 ff_X4_109 rfl (k3 hL) (r3_2 hL) rfl ?_
      refine g_iload_n dX4_wishersAmong_31 rfl rfl rfl ?_
      refine g_iald (i := i) dX4_wishersAmong_32 (k6 hL) (l6 hL) (by (try simp only [nI_lit, pk_mul, nI_add, Nat.zero_add]); exact nI_toInt (by omega)) (by omega) rfl ?_
      refine g_aload_n dX4_wishersAmong_33 rfl rfl rfl ?_
      refine g_getR dX4_wishersAmong_34 ff_X4_11 rfl (k27 hL) (r27_1 hL) rfl ?_
      refine g_bipush (v := 66) dX4_wishersAmong_37 (by decide) rfl ?_
      refine g_iald (i := 66) dX4_wishersAmong_39 (k28 hL) (l28 hL) (by (try simp only [nI_lit, pk_mul, nI_add, Nat.zero_add]); exact nI_toInt (by omega)) (by omega) rfl ?_
      refine g_bipush (v := 7) dX4_wishersAmong_40 (by decide) rfl ?_
      refine g_irem dX4_wishersAmong_42 (by decide) rfl ?_
      refine g_icmp_ne (tgt := 49) dX4_wishersAmong_43 (by decide) rfl (fun h43 => ?_) (fun h43 => ?_)
      · refine g_iincV (c := 1) dX4_wishersAmong_49 rfl (by decide) (by decide) rfl ?_
        refine g_goto (tgt := 4) dX4_wishersAmong_52 (by decide) ?_
        refine g_go ih ⟨rfl, rfl, ?_, by rw [← nI_1]; rfl, trivial⟩
        rw [fb_ct_succ, hbt, decide_eq_false h43]
        rfl
      · refine g_iincV (c := 1) dX4_wishersAmong_46 rfl (by decide) (by decide) rfl ?_
        refine g_iincV (c := 1) dX4_wishersAmong_49 rfl (by decide) (by decide) rfl ?_
        refine g_goto (tgt := 4) dX4_wishersAmong_52 (by decide) ?_
        refine g_go ih ⟨rfl, rfl, ?_, by rw [← nI_1]; rfl, trivial⟩
        rw [fb_ct_succ, hbt, decide_eq_true h43]
        show some (Value.int (nI _ + 1)) = some (Value.int (nI (_ + 1)))
        rw [nI_1]
set_option maxRecDepth 20000 in
theorem c_write_trial (hx : gXok X) (hL : gLay M) (hd : okv M 28 66 999) {x : Int32} : gDet X (d + 0) yX4_write cX4_write 3 none [.ref 27, .int x] M none (gwF M 29 (va_up (va_up (va_up (gmi M 29) (tv M 28 66 % 128 * 3) x) (tv M 28 66 % 128 * 3 + 1) (gmi M 28 61)) (tv M 28 66 % 128 * 3 + 2) (gmi M 28 62))) := by
  have h9 := hd.2
  refine gMet.of hx (by decide) (Nat.le_of_ble_eq_true rfl) ?_
  refine g_aload_n dX4_write_0 rfl rfl rfl ?_
  refine g_getR dX4_write_1 ff_X4_11 rfl (k27 hL) (r27_1 hL) rfl ?_
  refine g_bipush (v := 66) dX4_write_4 (by decide) rfl ?_
  refine g_iald (i := 66) dX4_write_6 (k28 hL) (l28 hL) (by (try simp only [nI_lit, pk_mul, nI_add, Nat.zero_add]); exact nI_toInt (by omega)) (by omega) rfl ?_
  refine g_sipush (v := 128) dX4_write_7 (by decide) rfl ?_
  refine g_irem dX4_write_10 (by decide) rfl ?_
  rw [hd.1, show (128 : Int32) = nI 128 from rfl, pk_rem (by omega) (by omega) (by omega)]
  refine g_iconst (v := 3) dX4_write_11 (by decide) rfl ?_
  refine g_imul dX4_write_12 rfl ?_
  rw [show (3 : Int32) = nI 3 from rfl, pk_mul]
  refine g_istore_n dX4_write_13 rfl (by decide) rfl ?_
  generalize hk : tv M 28 66 % 128 * 3 = k
  have hk2 : k ≤ 381 := by omega
  refine g_aload_n dX4_write_14 rfl rfl rfl ?_
  refine g_getR dX4_write_15 ff_X4_15 rfl (k27 hL) (r27_2 hL) rfl ?_
  refine g_iload_n dX4_write_18 rfl rfl rfl ?_
  refine g_iload_n dX4_write_19 rfl rfl rfl ?_
  refine g_iast (i := k) dX4_write_20 (k29 hL) (l29 hL) (by (try simp only [nI_lit, pk_mul, nI_add, Nat.zero_add]); exact nI_toInt (by omega)) (by omega) rfl ?_
  rw [gwI_def]
  refine g_aload_n dX4_write_21 rfl rfl rfl ?_
  refine g_getR dX4_write_22 ff_X4_15 rfl (k27 (gLay_F hL)) (r27_2 (gLay_F hL)) rfl ?_
  refine g_iload_n dX4_write_25 rfl rfl rfl ?_
  refine g_iconst (v := 1) dX4_write_26 (by decide) rfl ?_
  refine g_iadd dX4_write_27 rfl ?_
  refine g_aload_n dX4_write_28 rfl rfl rfl ?_
  refine g_getR dX4_write_29 ff_X4_11 rfl (k27 (gLay_F hL)) (r27_1 (gLay_F hL)) rfl ?_
  refine g_bipush (v := 61) dX4_write_32 (by decide) rfl ?_
  refine g_iald (i := 61) dX4_write_34 (k28 (gLay_F hL)) (l28 (gLay_F hL)) (by (try simp only [nI_lit, pk_mul, nI_add, Nat.zero_add]); exact nI_toInt (by omega)) (by omega) rfl ?_
  refine g_iast (i := (k + 1)) dX4_write_35 (k29 (gLay_F hL)) (l29 (gLay_F hL)) (by (try simp only [nI_lit, pk_mul, nI_add, Nat.zero_add]); exact nI_toInt (by omega)) (by omega) rfl ?_
  rw [gwI_F]
  refine g_aload_n dX4_write_36 rfl rfl rfl ?_
  refine g_getR dX4_write_37 ff_X4_15 rfl (k27 (gLay_F hL)) (r27_2 (gLay_F hL)) rfl ?_
  refine g_iload_n dX4_write_40 rfl rfl rfl ?_
  refine g_iconst (v := 2) dX4_write_41 (by decide) rfl ?_
  refine g_iadd dX4_write_42 rfl ?_
  refine g_aload_n dX4_write_43 rfl rfl rfl ?_
  refine g_getR dX4_write_44 ff_X4_11 rfl (k27 (gLay_F hL)) (r27_1 (gLay_F hL)) rfl ?_
  refine g_bipush (v := 62) dX4_write_47 (by decide) rfl ?_
  refine g_iald (i := 62) dX4_write_49 (k28 (gLay_F hL)) (l28 (gLay_F hL)) (by (try simp only [nI_lit, pk_mul, nI_add, Nat.zero_add]); exact nI_toInt (by omega)) (by omega) rfl ?_
  refine g_iast (i := (k + 2)) dX4_write_50 (k29 (gLay_F hL)) (l29 (gLay_F hL)) (by (try simp only [nI_lit, pk_mul, nI_add, Nat.zero_add]); exact nI_toInt (by omega)) (by omega) rfl ?_
  rw [gwI_F]
  exact g_vret dX4_write_51 rfl ⟨rfl, rfl⟩
end F2
