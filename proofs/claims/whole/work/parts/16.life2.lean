section F1
variable {X : gX} {R : Room} {Z : gZt} {N : Nat → Prop} {y : MethodName} {cc : ByteArray} {nL : Nat} {ret : Option FieldType} {pc pc' tgt : Nat} {lv : List (Nat × Value)} {st : List Value} {M : gM} {bc bs d : Nat}
theorem g_ieq {c : Prop} [Decidable c] {off : Int} (hd : decode cc pc = .ok (.ifCond .eq off, 3)) (ht : (pc : Int) + off = (tgt : Int)) (hp : pc + 3 = pc') (kt : ¬ c → gW X R Z N y cc nL ret tgt lv st M bc bs) (kf : c → gW X R Z N y cc nL ret pc' lv st M bc bs) : gW X R Z N y cc nL ret pc lv (.int (ib c) :: st) M bc bs :=
  g_if_eq hd ht hp (fun h => kt (ib_eq0.mp h)) (fun h => kf (Classical.not_not.mp (fun q => h (ib_eq0.mpr q))))
theorem g_ine {c : Prop} [Decidable c] {off : Int} (hd : decode cc pc = .ok (.ifCond .ne off, 3)) (ht : (pc : Int) + off = (tgt : Int)) (hp : pc + 3 = pc') (kt : c → gW X R Z N y cc nL ret tgt lv st M bc bs) (kf : ¬ c → gW X R Z N y cc nL ret pc' lv st M bc bs) : gW X R Z N y cc nL ret pc lv (.int (ib c) :: st) M bc bs :=
  g_if_ne hd ht hp (fun h => kt (Classical.not_not.mp (fun q => h (ib_eq0.mpr q)))) (fun h => kf (ib_eq0.mp h))
theorem gLay_I {M : gM} {a i : Nat} {v : Int32} (h : gLay M) : gLay (gwI M a i v) := h
theorem gLay_F {M : gM} {a : Nat} {f : Nat → Int32} (h : gLay M) : gLay (gwF M a f) := h
theorem gLay_L {M : gM} {a i : Nat} {v : Int64} (h : gLay M) : gLay (gwL M a i v) := h
def tn (x : Int32) : Nat := x.toNatClampNeg
theorem tn_nI {n : Nat} (h : n < 2 ^ 31) : tn (nI n) = n := nI_clamp h
/-- a number that is in a row of n -/
theorem in_row {x b : Int32} {n : Nat} (hb : b = nI n) (hn : n < 2 ^ 31) (h : 0 ≤ x ∧ x < b) : x = nI (tn x) ∧ tn x < n := by
  obtain ⟨j, hj, rfl⟩ := nI_of (Int32.not_lt.mpr h.1)
  rw [hb] at h
  rw [tn_nI hj]
  exact ⟨rfl, (nI_ltI hj hn).mp h.2⟩
theorem row_in {n m : Nat} (h : n < m) (hm : m < 2 ^ 31) : 0 ≤ nI n ∧ nI n < nI m := ⟨nI_pos' (by omega), (nI_ltI (by omega) hm).mpr h⟩
/-- who is there, and what deeds there are -/
abbrev inP (M : gM) (x : Int32) : Prop := 0 ≤ x ∧ x < gmi M 3 7
abbrev inD (M : gM) (x : Int32) : Prop := 0 ≤ x ∧ x < gmi M 3 8
/-- the town's numbers are in their bounds -/
def TownOK (M : gM) : Prop := okv M 3 7 6 ∧ okv M 3 8 8 ∧ (∀ k, k < 8 → okv M 7 k 9) ∧ (∀ k, k < 8 → okv M 8 k 9) ∧ (∀ k, k < 8 → okv M 9 k 9) ∧ (∀ k, k < 6 → okv M 5 k 9) ∧ (∀ k, k < 6 → okv M 6 k 6) ∧ okv M 3 9 9
/-- what is left of deeds, in a row -/
def LeftOK (M : gM) (r : Nat) : Prop := ∀ i, 12 ≤ i → i < 60 → okv M r i 9
/-- the deeds that p still has in n days, as bits -/
def dset (M : gM) (r p n : Nat) : Nat := bsum (fun e => decide (n < tv M r (12 + p * 8 + e))) (tv M 3 8)
/-- how heavy a set is -/
def heft (M : gM) (b : Nat) : Nat := ssum b (tv M 7) (tv M 3 8)
theorem dset_lt (hT : TownOK M) (r p n : Nat) : dset M r p n < 256 := Nat.lt_of_lt_of_le (bsum_lt _ _) (Nat.le_trans (bt_pow hT.2.1.2) (by decide))
set_option maxRecDepth 20000 in
theorem c_deedsOf_now (hx : gXok X) (hL : gLay M) (hT : TownOK M) (hl : LeftOK M 25) {p : Nat} (hp : p < 6) : gDet X (d + 2) yX4_deedsOf cX4_deedsOf 2 (some .int) [.ref 24, .int (nI p)] M (some (.int (nI (dset M 25 p 0)))) M := by
  refine gMet.of hx (by decide) (Nat.le_of_ble_eq_true rfl) ?_
  refine g_aload_n dX4_deedsOf_0 rfl rfl rfl ?_
  refine g_iload_n dX4_deedsOf_1 rfl rfl rfl ?_
  refine g_iconst (v := 0) dX4_deedsOf_2 (by decide) rfl ?_
  refine g_callVdi (ci := 4) dX4_deedsOf_3 lm_X4_46 mv_X4_deedsIn (c_deedsIn_now (d := d) (n := 0) hx hL hp (by decide) hT.2.1 (fun e he => hl _ (by omega) (by omega))) rfl rfl (k24 hL) rfl rfl (Nat.le_of_ble_eq_true rfl) (gFit_room (by omega)) rfl ?_
  exact g_iret dX4_deedsOf_6 rfl rfl ⟨rfl, rfl⟩
set_option maxRecDepth 20000 in
theorem c_guiltOf_now (hx : gXok X) (hL : gLay M) (hT : TownOK M) (hl : LeftOK M 25) {p : Nat} (hp : p < 6) : gDet X (d + 3) yX4_guiltOf cX4_guiltOf 2 (some .int) [.ref 24, .int (nI p)] M (some (.int (nI (heft M (dset M 25 p 0))))) M := by
  refine gMet.of hx (by decide) (Nat.le_of_ble_eq_true rfl) ?_
  refine g_aload_n dX4_guiltOf_0 rfl rfl rfl ?_
  refine g_getR dX4_guiltOf_1 ff_X4_18 rfl (k24 hL) (r24_0 hL) rfl ?_
  refine g_aload_n dX4_guiltOf_4 rfl rfl rfl ?_
  refine g_iload_n dX4_guiltOf_5 rfl rfl rfl ?_
  refine g_callVdi (ci := 4) dX4_guiltOf_6 lm_X4_56 mv_X4_deedsOf (c_deedsOf_now (d := d) hx hL hT hl hp) rfl rfl (k24 hL) rfl rfl (Nat.le_of_ble_eq_true rfl) (gFit_room (by omega)) rfl ?_
  refine g_callVdi (ci := 8) dX4_guiltOf_9 lm_X4_60 mv_X8_weightOf (c_weightOf (d := d) hx hL (dset_lt hT 25 p 0) hT.2.1 hT.2.2.1) rfl rfl (k3 hL) rfl rfl (Nat.le_of_ble_eq_true rfl) (gFit_room (by omega)) rfl ?_
  exact g_iret dX4_guiltOf_12 rfl rfl ⟨rfl, rfl⟩
set_option maxRecDepth 20000 in
theorem c_smooth_now (hx : gXok X) (hL : gLay M) (hT : TownOK M) : gDet X (d + 1) yX4_smooth cX4_smooth 3 (some .int) [.ref 24] M (some (.int (nI (bsum (fun p => decide (gmi M 25 p = 0)) (tv M 3 7))))) M := by
  have h6 := hT.1.2
  refine gMet.of hx (by decide) (Nat.le_of_ble_eq_true rfl) ?_
  refine g_iconst (v := 0) dX4_smooth_0 (by decide) rfl ?_
  refine g_istore_n dX4_smooth_1 rfl (by decide) rfl ?_
  refine g_iconst (v := 0) dX4_smooth_2 (by decide) rfl ?_
  refine g_istore_n dX4_smooth_3 rfl (by decide) rfl ?_
  refine g_loop (fun i => [(0, .ref 24), (1, .int (nI (bsum (fun p => decide (gmi M 25 p = 0)) i))), (2, .int (nI i))]) (fun _ => M) (tv M 3 7) 0 (by omega) ⟨rfl, rfl, rfl, trivial⟩ rfl ?_ (fun i _ hi ih => ?_)
  · refine g_iload_n dX4_smooth_4 rfl rfl rfl ?_
    refine g_aload_n dX4_smooth_5 rfl rfl rfl ?_
    refine g_getR dX4_smooth_6 ff_X4_18 rfl (k24 hL) (r24_0 hL) rfl ?_
    refine g_getI dX4_smooth_9 ff_X4_28 rfl (k3 hL) rfl ?_
    refine g_icmp_ge (tgt := 35) dX4_smooth_12 (by decide) rfl (fun _ => ?_) (fun h => absurd (by rw [hT.1.1]; exact nI_le (by omega) (by omega)) h)
    refine g_iload_n dX4_smooth_35 rfl rfl rfl ?_
    exact g_iret dX4_smooth_36 rfl rfl ⟨rfl, rfl⟩
  · refine g_iload_n dX4_smooth_4 rfl rfl rfl ?_
    refine g_aload_n dX4_smooth_5 rfl rfl rfl ?_
    refine g_getR dX4_smooth_6 ff_X4_18 rfl (k24 hL) (r24_0 hL) rfl ?_
    refine g_getI dX4_smooth_9 ff_X4_28 rfl (k3 hL) rfl ?_
    refine g_icmp_ge (tgt := 35) dX4_smooth_12 (by decide) rfl (fun h => absurd h (by rw [hT.1.1]; exact nI_ge (by omega) (by omega))) (fun _ => ?_)
    refine g_aload_n dX4_smooth_15 rfl rfl rfl ?_
    refine g_iload_n dX4_smooth_16 rfl rfl rfl ?_
    refine g_callVdi (ci := 4) dX4_smooth_17 lm_X4_63 mv_X4_beardOf (c_beardOf_now (d := d) hx hL (show i < 6 by omega)) rfl rfl (k24 hL) rfl rfl (Nat.le_of_ble_eq_true rfl) (gFit_room (by omega)) rfl ?_
    refine g_if_ne (tgt := 29) dX4_smooth_20 (by decide) rfl (fun h20 => ?_) (fun h20 => ?_)
    · refine g_iincV (c := 1) dX4_smooth_29 rfl (by decide) (by decide) rfl ?_
      refine g_goto (tgt := 4) dX4_smooth_32 (by decide) ?_
      refine g_go ih ⟨rfl, ?_, by rw [← nI_1]; rfl, trivial⟩
      have e : decide (gmi M 25 i = 0) = false := decide_eq_false h20
      show some (Value.int (nI (bsum _ i))) = some (Value.int (nI (bsum (fun p => decide (gmi M 25 p = 0)) i + (if decide (gmi M 25 i = 0) then 2 ^ i else 0))))
      rw [e]
      rfl
    · refine g_iload_n dX4_smooth_23 rfl rfl rfl ?_
      refine g_iconst (v := 1) dX4_smooth_24 (by decide) rfl ?_
      refine g_iload_n dX4_smooth_25 rfl rfl rfl ?_
      refine g_ishl dX4_smooth_26 rfl ?_
      refine g_ior dX4_smooth_27 rfl ?_
      refine g_istore_n dX4_smooth_28 rfl (by decide) rfl ?_
      refine g_iincV (c := 1) dX4_smooth_29 rfl (by decide) (by decide) rfl ?_
      refine g_goto (tgt := 4) dX4_smooth_32 (by decide) ?_
      refine g_go ih ⟨rfl, ?_, by rw [← nI_1]; rfl, trivial⟩
      have e : decide (gmi M 25 i = 0) = true := decide_eq_true h20
      show some (Value.int (nI (bsum (fun p => decide (gmi M 25 p = 0)) i) ||| ((1 : Int32) <<< (nI i &&& 31)))) = some (Value.int (nI (bsum (fun p => decide (gmi M 25 p = 0)) i + (if decide (gmi M 25 i = 0) then 2 ^ i else 0))))
      rw [bt_or (bsum_lt _ i) (by omega), e]
      rfl
set_option maxRecDepth 20000 in
theorem c_mayTakeOn_now (hx : gXok X) (hL : gLay M) (hT : TownOK M) {x z : Int32} : gDet X (d + 2) yX4_mayTakeOn cX4_mayTakeOn 3 (some .boolean) [.ref 24, .int x, .int z] M (some (.int (ib ((inP M x ∧ inD M z) ∧ gmi M 25 (12 + tn x * 8 + tn z) = 0)))) M := by
  refine gMet.of hx (by decide) (Nat.le_of_ble_eq_true rfl) ?_
  refine g_aload_n dX4_mayTakeOn_0 rfl rfl rfl ?_
  refine g_getR dX4_mayTakeOn_1 ff_X4_18 rfl (k24 hL) (r24_0 hL) rfl ?_
  refine g_iload_n dX4_mayTakeOn_4 rfl rfl rfl ?_
  refine g_iload_n dX4_mayTakeOn_5 rfl rfl rfl ?_
  refine g_callVdi (ci := 8) dX4_mayTakeOn_6 lm_X4_66 mv_X8_hasBoth (c_hasBoth (d := d) hx hL) rfl rfl (k3 hL) rfl rfl (Nat.le_of_ble_eq_true rfl) (gFit_room (by omega)) rfl ?_
  refine g_ieq (tgt := 25) dX4_mayTakeOn_9 (by decide) rfl (fun h9 => ?_) (fun h9 => ?_)
  · refine g_iconst (v := 0) dX4_mayTakeOn_25 (by decide) rfl ?_
    exact g_iret dX4_mayTakeOn_26 rfl rfl ⟨by rw [ib_f (fun q => h9 q.1)], rfl⟩
  · obtain ⟨ex, hx6⟩ := in_row hT.1.1 (by have := hT.1.2; omega) h9.1
    obtain ⟨ez, hz8⟩ := in_row hT.2.1.1 (by have := hT.2.1.2; omega) h9.2
    have := hT.1.2
    have := hT.2.1.2
    have hc := c_leftOf_now (X := X) (M := M) (d := d) hx hL (show tn x < 6 by omega) (show tn z < 8 by omega)
    rw [← ex, ← ez] at hc
    refine g_aload_n dX4_mayTakeOn_12 rfl rfl rfl ?_
    refine g_iload_n dX4_mayTakeOn_13 rfl rfl rfl ?_
    refine g_iload_n dX4_mayTakeOn_14 rfl rfl rfl ?_
    refine g_callVdi (ci := 4) dX4_mayTakeOn_15 lm_X4_53 mv_X4_leftOf (hc) rfl rfl (k24 hL) rfl rfl (Nat.le_of_ble_eq_true rfl) (gFit_room (by omega)) rfl ?_
    refine g_if_ne (tgt := 25) dX4_mayTakeOn_18 (by decide) rfl (fun h18 => ?_) (fun h18 => ?_)
    · refine g_iconst (v := 0) dX4_mayTakeOn_25 (by decide) rfl ?_
      exact g_iret dX4_mayTakeOn_26 rfl rfl ⟨by rw [ib_f (fun q => h18 q.2)], rfl⟩
    · refine g_iconst (v := 1) dX4_mayTakeOn_21 (by decide) rfl ?_
      refine g_goto (tgt := 26) dX4_mayTakeOn_22 (by decide) ?_
      exact g_iret dX4_mayTakeOn_26 rfl rfl ⟨by rw [ib_t ⟨h9, h18⟩], rfl⟩
set_option maxRecDepth 20000 in
theorem c_takeOn_now (hx : gXok X) (hL : gLay M) {p e : Nat} (hp : p < 6) (he : e < 8) : gDet X (d + 1) yX4_takeOn cX4_takeOn 3 none [.ref 24, .int (nI p), .int (nI e)] M none (gwI (gwI M 25 (12 + p * 8 + e) (gmi M 9 e)) 25 62 (imin 9999 (gmi (gwI M 25 (12 + p * 8 + e) (gmi M 9 e)) 25 62 + gmi M 8 e))) := by
  refine gMet.of hx (by decide) (Nat.le_of_ble_eq_true rfl) ?_
  refine g_aload_n dX4_takeOn_0 rfl rfl rfl ?_
  refine g_iload_n dX4_takeOn_1 rfl rfl rfl ?_
  refine g_iload_n dX4_takeOn_2 rfl rfl rfl ?_
  refine g_aload_n dX4_takeOn_3 rfl rfl rfl ?_
  refine g_getR dX4_takeOn_4 ff_X4_18 rfl (k24 hL) (r24_0 hL) rfl ?_
  refine g_getR dX4_takeOn_7 ff_X4_70 rfl (k3 hL) (r3_5 hL) rfl ?_
  refine g_iload_n dX4_takeOn_10 rfl rfl rfl ?_
  refine g_iald (i := e) dX4_takeOn_11 (k9 hL) (l9 hL) (by (try simp only [nI_lit, pk_mul, nI_add, Nat.zero_add]); exact nI_toInt (by omega)) (by omega) rfl ?_
  refine g_callVdv (ci := 4) dX4_takeOn_12 lm_X4_73 mv_X4_setLeft (c_setLeft_now (d := d) hx hL hp he) rfl rfl (k24 hL) rfl rfl (Nat.le_of_ble_eq_true rfl) (gFit_room (by omega)) rfl ?_
  refine g_aload_n dX4_takeOn_15 rfl rfl rfl ?_
  refine g_getR dX4_takeOn_16 ff_X4_11 rfl (k24 (gLay_I hL)) (r24_1 (gLay_I hL)) rfl ?_
  refine g_bipush (v := 62) dX4_takeOn_19 (by decide) rfl ?_
  refine g_sipush (v := 9999) dX4_takeOn_21 (by decide) rfl ?_
  refine g_aload_n dX4_takeOn_24 rfl rfl rfl ?_
  refine g_getR dX4_takeOn_25 ff_X4_11 rfl (k24 (gLay_I hL)) (r24_1 (gLay_I hL)) rfl ?_
  refine g_bipush (v := 62) dX4_takeOn_28 (by decide) rfl ?_
  refine g_iald (i := 62) dX4_takeOn_30 (k25 (gLay_I hL)) (l25 (gLay_I hL)) (by (try simp only [nI_lit, pk_mul, nI_add, Nat.zero_add]); exact nI_toInt (by omega)) (by omega) rfl ?_
  refine g_aload_n dX4_takeOn_31 rfl rfl rfl ?_
  refine g_getR dX4_takeOn_32 ff_X4_18 rfl (k24 (gLay_I hL)) (r24_0 (gLay_I hL)) rfl ?_
  refine g_getR dX4_takeOn_35 ff_X4_77 rfl (k3 (gLay_I hL)) (r3_4 (gLay_I hL)) rfl ?_
  refine g_iload_n dX4_takeOn_38 rfl rfl rfl ?_
  refine g_iald (i := e) dX4_takeOn_39 (k8 (gLay_I hL)) (l8 (gLay_I hL)) (by (try simp only [nI_lit, pk_mul, nI_add, Nat.zero_add]); exact nI_toInt (by omega)) (by omega) rfl ?_
  refine g_iadd dX4_takeOn_40 rfl ?_
  refine g_callSdi dX4_takeOn_41 lm_X4_80 mv_J9_min_7cf53 (c_min (d := d) hx) rfl rfl (Nat.le_of_ble_eq_true rfl) (gFit_room (by omega)) rfl ?_
  refine g_iast (i := 62) dX4_takeOn_44 (k25 (gLay_I hL)) (l25 (gLay_I hL)) (by (try simp only [nI_lit, pk_mul, nI_add, Nat.zero_add]); exact nI_toInt (by omega)) (by omega) rfl ?_
  exact g_vret dX4_takeOn_45 rfl ⟨rfl, rfl⟩
set_option maxRecDepth 20000 in
theorem c_maySellTo_now (hx : gXok X) (hL : gLay M) (hT : TownOK M) {x o z : Int32} : gDet X (d + 2) yX4_maySellTo cX4_maySellTo 4 (some .boolean) [.ref 24, .int x, .int o, .int z] M (some (.int (ib ((inP M x ∧ inD M z) ∧ inP M o ∧ ¬ x = o ∧ ¬ gmi M 25 (12 + tn x * 8 + tn z) ≤ 0 ∧ gmi M 25 (12 + tn o * 8 + tn z) = 0 ∧ ¬ gmi M 25 65 < 1)))) M := by
  refine gMet.of hx (by decide) (Nat.le_of_ble_eq_true rfl) ?_
  refine g_aload_n dX4_maySellTo_0 rfl rfl rfl ?_
  refine g_getR dX4_maySellTo_1 ff_X4_18 rfl (k24 hL) (r24_0 hL) rfl ?_
  refine g_iload_n dX4_maySellTo_4 rfl rfl rfl ?_
  refine g_iload_n dX4_maySellTo_5 rfl rfl rfl ?_
  refine g_callVdi (ci := 8) dX4_maySellTo_6 lm_X4_66 mv_X8_hasBoth (c_hasBoth (d := d) hx hL) rfl rfl (k3 hL) rfl rfl (Nat.le_of_ble_eq_true rfl) (gFit_room (by omega)) rfl ?_
  refine g_ieq (tgt := 61) dX4_maySellTo_9 (by decide) rfl (fun h9 => ?_) (fun h9 => ?_)
  · refine g_iconst (v := 0) dX4_maySellTo_61 (by decide) rfl ?_
    exact g_iret dX4_maySellTo_62 rfl rfl ⟨by rw [ib_f (fun q => h9 q.1)], rfl⟩
  · refine g_aload_n dX4_maySellTo_12 rfl rfl rfl ?_
    refine g_getR dX4_maySellTo_13 ff_X4_18 rfl (k24 hL) (r24_0 hL) rfl ?_
    refine g_iload_n dX4_maySellTo_16 rfl rfl rfl ?_
    refine g_callVdi (ci := 8) dX4_maySellTo_17 lm_X4_85 mv_X8_hasPerson (c_hasPerson (d := d) hx hL) rfl rfl (k3 hL) rfl rfl (Nat.le_of_ble_eq_true rfl) (gFit_room (by omega)) rfl ?_
    refine g_ieq (tgt := 61) dX4_maySellTo_20 (by decide) rfl (fun h20 => ?_) (fun h20 => ?_)
    · refine g_iconst (v := 0) dX4_maySellTo_61 (by decide) rfl ?_
      exact g_iret dX4_maySellTo_62 rfl rfl ⟨by rw [ib_f (fun q => h20 q.2.1)], rfl⟩
    · refine g_iload_n dX4_maySellTo_23 rfl rfl rfl ?_
      refine g_iload_n dX4_maySellTo_24 rfl rfl rfl ?_
      refine g_icmp_eq (tgt := 61) dX4_maySellTo_25 (by decide) rfl (fun h25 => ?_) (fun h25 => ?_)
      · refine g_iconst (v := 0) dX4_maySellTo_61 (by decide) rfl ?_
        exact g_iret dX4_maySellTo_62 rfl rfl ⟨by rw [ib_f (fun q => q.2.2.1 h25)], rfl⟩
      · obtain ⟨ex, hx6⟩ := in_row hT.1.1 (by have := hT.1.2; omega) h9.1
        obtain ⟨ez, hz8⟩ := in_row hT.2.1.1 (by have := hT.2.1.2; omega) h9.2
        obtain ⟨eo, ho6⟩ := in_row hT.1.1 (by have := hT.1.2; omega) h20
        have := hT.1.2
        have := hT.2.1.2
        have hc := c_leftOf_now (X := X) (M := M) (d := d) hx hL (show tn x < 6 by omega) (show tn z < 8 by omega)
        have hc2 := c_leftOf_now (X := X) (M := M) (d := d) hx hL (show tn o < 6 by omega) (show tn z < 8 by omega)
        rw [← ex, ← ez] at hc
        rw [← eo, ← ez] at hc2
        refine g_aload_n dX4_maySellTo_28 rfl rfl rfl ?_
        refine g_iload_n dX4_maySellTo_29 rfl rfl rfl ?_
        refine g_iload_n dX4_maySellTo_30 rfl rfl rfl ?_
        refine g_callVdi (ci := 4) dX4_maySellTo_31 lm_X4_53 mv_X4_leftOf (hc) rfl rfl (k24 hL) rfl rfl (Nat.le_of_ble_eq_true rfl) (gFit_room (by omega)) rfl ?_
        refine g_if_le (tgt := 61) dX4_maySellTo_34 (by decide) rfl (fun h34 => ?_) (fun h34 => ?_)
        · refine g_iconst (v := 0) dX4_maySellTo_61 (by decide) rfl ?_
          exact g_iret dX4_maySellTo_62 rfl rfl ⟨by rw [ib_f (fun q => q.2.2.2.1 h34)], rfl⟩
        · refine g_aload_n dX4_maySellTo_37 rfl rfl rfl ?_
          refine g_iload_n dX4_maySellTo_38 rfl rfl rfl ?_
          refine g_iload_n dX4_maySellTo_39 rfl rfl rfl ?_
          refine g_callVdi (ci := 4) dX4_maySellTo_40 lm_X4_53 mv_X4_leftOf (hc2) rfl rfl (k24 hL) rfl rfl (Nat.le_of_ble_eq_true rfl) (gFit_room (by omega)) rfl ?_
          refine g_if_ne (tgt := 61) dX4_maySellTo_43 (by decide) rfl (fun h43 => ?_) (fun h43 => ?_)
          · refine g_iconst (v := 0) dX4_maySellTo_61 (by decide) rfl ?_
            exact g_iret dX4_maySellTo_62 rfl rfl ⟨by rw [ib_f (fun q => h43 q.2.2.2.2.1)], rfl⟩
          · refine g_aload_n dX4_maySellTo_46 rfl rfl rfl ?_
            refine g_getR dX4_maySellTo_47 ff_X4_11 rfl (k24 hL) (r24_1 hL) rfl ?_
            refine g_bipush (v := 65) dX4_maySellTo_50 (by decide) rfl ?_
            refine g_iald (i := 65) dX4_maySellTo_52 (k25 hL) (l25 hL) (by (try simp only [nI_lit, pk_mul, nI_add, Nat.zero_add]); exact nI_toInt (by omega)) (by omega) rfl ?_
            refine g_iconst (v := 1) dX4_maySellTo_53 (by decide) rfl ?_
            refine g_icmp_lt (tgt := 61) dX4_maySellTo_54 (by decide) rfl (fun h54 => ?_) (fun h54 => ?_)
            · refine g_iconst (v := 0) dX4_maySellTo_61 (by decide) rfl ?_
              exact g_iret dX4_maySellTo_62 rfl rfl ⟨by rw [ib_f (fun q => q.2.2.2.2.2 h54)], rfl⟩
            · refine g_iconst (v := 1) dX4_maySellTo_57 (by decide) rfl ?_
              refine g_goto (tgt := 62) dX4_maySellTo_58 (by decide) ?_
              exact g_iret dX4_maySellTo_62 rfl rfl ⟨by rw [ib_t ⟨h9, h20, h25, h34, h43, h54⟩], rfl⟩
set_option maxRecDepth 20000 in
theorem c_mayAtoneFor_now (hx : gXok X) (hL : gLay M) (hT : TownOK M) {x z : Int32} : gDet X (d + 2) yX4_mayAtoneFor cX4_mayAtoneFor 3 (some .boolean) [.ref 24, .int x, .int z] M (some (.int (ib ((inP M x ∧ inD M z) ∧ ¬ gmi M 25 (12 + tn x * 8 + tn z) ≤ 0 ∧ ¬ gmi M 25 65 < 2)))) M := by
  refine gMet.of hx (by decide) (Nat.le_of_ble_eq_true rfl) ?_
  refine g_aload_n dX4_mayAtoneFor_0 rfl rfl rfl ?_
  refine g_getR dX4_mayAtoneFor_1 ff_X4_18 rfl (k24 hL) (r24_0 hL) rfl ?_
  refine g_iload_n dX4_mayAtoneFor_4 rfl rfl rfl ?_
  refine g_iload_n dX4_mayAtoneFor_5 rfl rfl rfl ?_
  refine g_callVdi (ci := 8) dX4_mayAtoneFor_6 lm_X4_66 mv_X8_hasBoth (c_hasBoth (d := d) hx hL) rfl rfl (k3 hL) rfl rfl (Nat.le_of_ble_eq_true rfl) (gFit_room (by omega)) rfl ?_
  refine g_ieq (tgt := 36) dX4_mayAtoneFor_9 (by decide) rfl (fun h9 => ?_) (fun h9 => ?_)
  · refine g_iconst (v := 0) dX4_mayAtoneFor_36 (by decide) rfl ?_
    exact g_iret dX4_mayAtoneFor_37 rfl rfl ⟨by rw [ib_f (fun q => h9 q.1)], rfl⟩
  · obtain ⟨ex, hx6⟩ := in_row hT.1.1 (by have := hT.1.2; omega) h9.1
    obtain ⟨ez, hz8⟩ := in_row hT.2.1.1 (by have := hT.2.1.2; omega) h9.2
    have := hT.1.2
    have := hT.2.1.2
    have hc := c_leftOf_now (X := X) (M := M) (d := d) hx hL (show tn x < 6 by omega) (show tn z < 8 by omega)
    rw [← ex, ← ez] at hc
    refine g_aload_n dX4_mayAtoneFor_12 rfl rfl rfl ?_
    refine g_iload_n dX4_mayAtoneFor_13 rfl rfl rfl ?_
    refine g_iload_n dX4_mayAtoneFor_14 rfl rfl rfl ?_
    refine g_callVdi (ci := 4) dX4_mayAtoneFor_15 lm_X4_53 mv_X4_leftOf (hc) rfl rfl (k24 hL) rfl rfl (Nat.le_of_ble_eq_true rfl) (gFit_room (by omega)) rfl ?_
    refine g_if_le (tgt := 36) dX4_mayAtoneFor_18 (by decide) rfl (fun h18 => ?_) (fun h18 => ?_)
    · refine g_iconst (v := 0) dX4_mayAtoneFor_36 (by decide) rfl ?_
      exact g_iret dX4_mayAtoneFor_37 rfl rfl ⟨by rw [ib_f (fun q => q.2.1 h18)], rfl⟩
    · refine g_aload_n dX4_mayAtoneFor_21 rfl rfl rfl ?_
      refine g_getR dX4_mayAtoneFor_22 ff_X4_11 rfl (k24 hL) (r24_1 hL) rfl ?_
      refine g_bipush (v := 65) dX4_mayAtoneFor_25 (by decide) rfl ?_
      refine g_iald (i := 65) dX4_mayAtoneFor_27 (k25 hL) (l25 hL) (by (try simp only [nI_lit, pk_mul, nI_add, Nat.zero_add]); exact nI_toInt (by omega)) (by omega) rfl ?_
      refine g_iconst (v := 2) dX4_mayAtoneFor_28 (by decide) rfl ?_
      refine g_icmp_lt (tgt := 36) dX4_mayAtoneFor_29 (by decide) rfl (fun h29 => ?_) (fun h29 => ?_)
      · refine g_iconst (v := 0) dX4_mayAtoneFor_36 (by decide) rfl ?_
        exact g_iret dX4_mayAtoneFor_37 rfl rfl ⟨by rw [ib_f (fun q => q.2.2 h29)], rfl⟩
      · refine g_iconst (v := 1) dX4_mayAtoneFor_32 (by decide) rfl ?_
        refine g_goto (tgt := 37) dX4_mayAtoneFor_33 (by decide) ?_
        exact g_iret dX4_mayAtoneFor_37 rfl rfl ⟨by rw [ib_t ⟨h9, h18, h29⟩], rfl⟩
set_option maxRecDepth 20000 in
theorem c_sellTo_now (hx : gXok X) (hL : gLay M) {p o e : Nat} (hp : p < 6) (ho : o < 6) (he : e < 8) : gDet X (d + 1) yX4_sellTo cX4_sellTo 4 none [.ref 24, .int (nI p), .int (nI o), .int (nI e)] M none (gwI (gwI (gwI M 25 (12 + o * 8 + e) (gmi M 25 (12 + p * 8 + e))) 25 (12 + p * 8 + e) 0) 25 65 (gmi (gwI (gwI M 25 (12 + o * 8 + e) (gmi M 25 (12 + p * 8 + e))) 25 (12 + p * 8 + e) 0) 25 65 - 1)) := by
  refine gMet.of hx (by decide) (Nat.le_of_ble_eq_true rfl) ?_
  refine g_aload_n dX4_sellTo_0 rfl rfl rfl ?_
  refine g_iload_n dX4_sellTo_1 rfl rfl rfl ?_
  refine g_iload_n dX4_sellTo_2 rfl rfl rfl ?_
  refine g_aload_n dX4_sellTo_3 rfl rfl rfl ?_
  refine g_iload_n dX4_sellTo_4 rfl rfl rfl ?_
  refine g_iload_n dX4_sellTo_5 rfl rfl rfl ?_
  refine g_callVdi (ci := 4) dX4_sellTo_6 lm_X4_53 mv_X4_leftOf (c_leftOf_now (d := d) hx hL hp he) rfl rfl (k24 hL) rfl rfl (Nat.le_of_ble_eq_true rfl) (gFit_room (by omega)) rfl ?_
  refine g_callVdv (ci := 4) dX4_sellTo_9 lm_X4_73 mv_X4_setLeft (c_setLeft_now (d := d) hx hL ho he) rfl rfl (k24 hL) rfl rfl (Nat.le_of_ble_eq_true rfl) (gFit_room (by omega)) rfl ?_
  refine g_aload_n dX4_sellTo_12 rfl rfl rfl ?_
  refine g_iload_n dX4_sellTo_13 rfl rfl rfl ?_
  refine g_iload_n dX4_sellTo_14 rfl rfl rfl ?_
  refine g_iconst (v := 0) dX4_sellTo_15 (by decide) rfl ?_
  refine g_callVdv (ci := 4) dX4_sellTo_16 lm_X4_73 mv_X4_setLeft (c_setLeft_now (d := d) hx (gLay_I hL) hp he) rfl rfl (k24 (gLay_I hL)) rfl rfl (Nat.le_of_ble_eq_true rfl) (gFit_room (by omega)) rfl ?_
  refine g_aload_n dX4_sellTo_19 rfl rfl rfl ?_
  refine g_getR dX4_sellTo_20 ff_X4_11 rfl (k24 (gLay_I (gLay_I hL))) (r24_1 (gLay_I (gLay_I hL))) rfl ?_
  refine g_bipush (v := 65) dX4_sellTo_23 (by decide) rfl ?_
  refine g_dup2 dX4_sellTo_25 rfl rfl rfl ?_
  refine g_iald (i := 65) dX4_sellTo_26 (k25 (gLay_I (gLay_I hL))) (l25 (gLay_I (gLay_I hL))) (by (try simp only [nI_lit, pk_mul, nI_add, Nat.zero_add]); exact nI_toInt (by omega)) (by omega) rfl ?_
  refine g_iconst (v := 1) dX4_sellTo_27 (by decide) rfl ?_
  refine g_isub dX4_sellTo_28 rfl ?_
  refine g_iast (i := 65) dX4_sellTo_29 (k25 (gLay_I (gLay_I hL))) (l25 (gLay_I (gLay_I hL))) (by (try simp only [nI_lit, pk_mul, nI_add, Nat.zero_add]); exact nI_toInt (by omega)) (by omega) rfl ?_
  exact g_vret dX4_sellTo_30 rfl ⟨rfl, rfl⟩
set_option maxRecDepth 20000 in
theorem c_atoneFor_now (hx : gXok X) (hL : gLay M) {p e : Nat} (hp : p < 6) (he : e < 8) : gDet X (d + 1) yX4_atoneFor cX4_atoneFor 3 none [.ref 24, .int (nI p), .int (nI e)] M none (gwI (gwI M 25 (12 + p * 8 + e) 0) 25 65 (gmi (gwI M 25 (12 + p * 8 + e) 0) 25 65 - 2)) := by
  refine gMet.of hx (by decide) (Nat.le_of_ble_eq_true rfl) ?_
  refine g_aload_n dX4_atoneFor_0 rfl rfl rfl ?_
  refine g_iload_n dX4_atoneFor_1 rfl rfl rfl ?_
  refine g_iload_n dX4_atoneFor_2 rfl rfl rfl ?_
  refine g_iconst (v := 0) dX4_atoneFor_3 (by decide) rfl ?_
  refine g_callVdv (ci := 4) dX4_atoneFor_4 lm_X4_73 mv_X4_setLeft (c_setLeft_now (d := d) hx hL hp he) rfl rfl (k24 hL) rfl rfl (Nat.le_of_ble_eq_true rfl) (gFit_room (by omega)) rfl ?_
  refine g_aload_n dX4_atoneFor_7 rfl rfl rfl ?_
  refine g_getR dX4_atoneFor_8 ff_X4_11 rfl (k24 (gLay_I hL)) (r24_1 (gLay_I hL)) rfl ?_
  refine g_bipush (v := 65) dX4_atoneFor_11 (by decide) rfl ?_
  refine g_dup2 dX4_atoneFor_13 rfl rfl rfl ?_
  refine g_iald (i := 65) dX4_atoneFor_14 (k25 (gLay_I hL)) (l25 (gLay_I hL)) (by (try simp only [nI_lit, pk_mul, nI_add, Nat.zero_add]); exact nI_toInt (by omega)) (by omega) rfl ?_
  refine g_iconst (v := 2) dX4_atoneFor_15 (by decide) rfl ?_
  refine g_isub dX4_atoneFor_16 rfl ?_
  refine g_iast (i := 65) dX4_atoneFor_17 (k25 (gLay_I hL)) (l25 (gLay_I hL)) (by (try simp only [nI_lit, pk_mul, nI_add, Nat.zero_add]); exact nI_toInt (by omega)) (by omega) rfl ?_
  exact g_vret dX4_atoneFor_18 rfl ⟨rfl, rfl⟩
set_option maxRecDepth 20000 in
theorem c_mayGo_now (hx : gXok X) (hL : gLay M) {x : Int32} : gDet X (d + 1) yX4_mayGo cX4_mayGo 2 (some .boolean) [.ref 24, .int x] M (some (.int (ib (inP M x ∧ ¬ gmi M 25 60 >>> (x &&& 31) &&& 1 = 1)))) M := by
  refine gMet.of hx (by decide) (Nat.le_of_ble_eq_true rfl) ?_
  refine g_aload_n dX4_mayGo_0 rfl rfl rfl ?_
  refine g_getR dX4_mayGo_1 ff_X4_18 rfl (k24 hL) (r24_0 hL) rfl ?_
  refine g_iload_n dX4_mayGo_4 rfl rfl rfl ?_
  refine g_callVdi (ci := 8) dX4_mayGo_5 lm_X4_85 mv_X8_hasPerson (c_hasPerson (d := d) hx hL) rfl rfl (k3 hL) rfl rfl (Nat.le_of_ble_eq_true rfl) (gFit_room (by omega)) rfl ?_
  refine g_ieq (tgt := 23) dX4_mayGo_8 (by decide) rfl (fun h8 => ?_) (fun h8 => ?_)
  · refine g_iconst (v := 0) dX4_mayGo_23 (by decide) rfl ?_
    exact g_iret dX4_mayGo_24 rfl rfl ⟨by rw [ib_f (fun q => h8 q.1)], rfl⟩
  · refine g_aload_n dX4_mayGo_11 rfl rfl rfl ?_
    refine g_iload_n dX4_mayGo_12 rfl rfl rfl ?_
    refine g_callVdi (ci := 4) dX4_mayGo_13 lm_X4_89 mv_X4_went (c_went_now (d := d) hx hL) rfl rfl (k24 hL) rfl rfl (Nat.le_of_ble_eq_true rfl) (gFit_room (by omega)) rfl ?_
    refine g_ine (tgt := 23) dX4_mayGo_16 (by decide) rfl (fun h16 => ?_) (fun h16 => ?_)
    · refine g_iconst (v := 0) dX4_mayGo_23 (by decide) rfl ?_
      exact g_iret dX4_mayGo_24 rfl rfl ⟨by rw [ib_f (fun q => q.2 h16)], rfl⟩
    · refine g_iconst (v := 1) dX4_mayGo_19 (by decide) rfl ?_
      refine g_goto (tgt := 24) dX4_mayGo_20 (by decide) ?_
      exact g_iret dX4_mayGo_24 rfl rfl ⟨by rw [ib_t ⟨h8, h16⟩], rfl⟩
set_option maxRecDepth 20000 in
theorem c_receive_now (hx : gXok X) (hL : gLay M) {x : Int32} : gDet X (d + 0) yX4_receive cX4_receive 2 none [.ref 24, .int x] M none (gwI M 25 65 (gmi M 25 65 + x)) := by
  refine gMet.of hx (by decide) (Nat.le_of_ble_eq_true rfl) ?_
  refine g_aload_n dX4_receive_0 rfl rfl rfl ?_
  refine g_getR dX4_receive_1 ff_X4_11 rfl (k24 hL) (r24_1 hL) rfl ?_
  refine g_bipush (v := 65) dX4_receive_4 (by decide) rfl ?_
  refine g_dup2 dX4_receive_6 rfl rfl rfl ?_
  refine g_iald (i := 65) dX4_receive_7 (k25 hL) (l25 hL) (by (try simp only [nI_lit, pk_mul, nI_add, Nat.zero_add]); exact nI_toInt (by omega)) (by omega) rfl ?_
  refine g_iload_n dX4_receive_8 rfl rfl rfl ?_
  refine g_iadd dX4_receive_9 rfl ?_
  refine g_iast (i := 65) dX4_receive_10 (k25 hL) (l25 hL) (by (try simp only [nI_lit, pk_mul, nI_add, Nat.zero_add]); exact nI_toInt (by omega)) (by omega) rfl ?_
  exact g_vret dX4_receive_11 rfl ⟨rfl, rfl⟩
set_option maxRecDepth 20000 in
theorem c_mayPassDay_now (hx : gXok X) (hL : gLay M) : gDet X (d + 0) yX4_mayPassDay cX4_mayPassDay 1 (some .boolean) [.ref 24] M (some (.int (ib (¬ gmi M 3 7 ≤ 0 ∧ ¬ 999 ≤ gmi M 25 66)))) M := by
  refine gMet.of hx (by decide) (Nat.le_of_ble_eq_true rfl) ?_
  refine g_aload_n dX4_mayPassDay_0 rfl rfl rfl ?_
  refine g_getR dX4_mayPassDay_1 ff_X4_18 rfl (k24 hL) (r24_0 hL) rfl ?_
  refine g_getI dX4_mayPassDay_4 ff_X4_28 rfl (k3 hL) rfl ?_
  refine g_if_le (tgt := 27) dX4_mayPassDay_7 (by decide) rfl (fun h7 => ?_) (fun h7 => ?_)
  · refine g_iconst (v := 0) dX4_mayPassDay_27 (by decide) rfl ?_
    exact g_iret dX4_mayPassDay_28 rfl rfl ⟨by rw [ib_f (fun q => q.1 h7)], rfl⟩
  · refine g_aload_n dX4_mayPassDay_10 rfl rfl rfl ?_
    refine g_getR dX4_mayPassDay_11 ff_X4_11 rfl (k24 hL) (r24_1 hL) rfl ?_
    refine g_bipush (v := 66) dX4_mayPassDay_14 (by decide) rfl ?_
    refine g_iald (i := 66) dX4_mayPassDay_16 (k25 hL) (l25 hL) (by (try simp only [nI_lit, pk_mul, nI_add, Nat.zero_add]); exact nI_toInt (by omega)) (by omega) rfl ?_
    refine g_sipush (v := 999) dX4_mayPassDay_17 (by decide) rfl ?_
    refine g_icmp_ge (tgt := 27) dX4_mayPassDay_20 (by decide) rfl (fun h20 => ?_) (fun h20 => ?_)
    · refine g_iconst (v := 0) dX4_mayPassDay_27 (by decide) rfl ?_
      exact g_iret dX4_mayPassDay_28 rfl rfl ⟨by rw [ib_f (fun q => q.2 h20)], rfl⟩
    · refine g_iconst (v := 1) dX4_mayPassDay_23 (by decide) rfl ?_
      refine g_goto (tgt := 28) dX4_mayPassDay_24 (by decide) ?_
      exact g_iret dX4_mayPassDay_28 rfl rfl ⟨by rw [ib_t ⟨h7, h20⟩], rfl⟩
set_option maxRecDepth 20000 in
theorem c_deedsOf_trial (hx : gXok X) (hL : gLay M) (hT : TownOK M) (hl : LeftOK M 28) {p : Nat} (hp : p < 6) : gDet X (d + 2) yX4_deedsOf cX4_deedsOf 2 (some .int) [.ref 27, .int (nI p)] M (some (.int (nI (dset M 28 p 0)))) M := by
  refine gMet.of hx (by decide) (Nat.le_of_ble_eq_true rfl) ?_
  refine g_aload_n dX4_deedsOf_0 rfl rfl rfl ?_
  refine g_iload_n dX4_deedsOf_1 rfl rfl rfl ?_
  refine g_iconst (v := 0) dX4_deedsOf_2 (by decide) rfl ?_
  refine g_callVdi (ci := 4) dX4_deedsOf_3 lm_X4_46 mv_X4_deedsIn (c_deedsIn_trial (d := d) (n := 0) hx hL hp (by decide) hT.2.1 (fun e he => hl _ (by omega) (by omega))) rfl rfl (k27 hL) rfl rfl (Nat.le_of_ble_eq_true rfl) (gFit_room (by omega)) rfl ?_
  exact g_iret dX4_deedsOf_6 rfl rfl ⟨rfl, rfl⟩
set_option maxRecDepth 20000 in
theorem c_guiltOf_trial (hx : gXok X) (hL : gLay M) (hT : TownOK M) (hl : LeftOK M 28) {p : Nat} (hp : p < 6) : gDet X (d + 3) yX4_guiltOf cX4_guiltOf 2 (some .int) [.ref 27, .int (nI p)] M (some (.int (nI (heft M (dset M 28 p 0))))) M := by
  refine gMet.of hx (by decide) (Nat.le_of_ble_eq_true rfl) ?_
  refine g_aload_n dX4_guiltOf_0 rfl rfl rfl ?_
  refine g_getR dX4_guiltOf_1 ff_X4_18 rfl (k27 hL) (r27_0 hL) rfl ?_
  refine g_aload_n dX4_guiltOf_4 rfl rfl rfl ?_
  refine g_iload_n dX4_guiltOf_5 rfl rfl rfl ?_
  refine g_callVdi (ci := 4) dX4_guiltOf_6 lm_X4_56 mv_X4_deedsOf (c_deedsOf_trial (d := d) hx hL hT hl hp) rfl rfl (k27 hL) rfl rfl (Nat.le_of_ble_eq_true rfl) (gFit_room (by omega)) rfl ?_
  refine g_callVdi (ci := 8) dX4_guiltOf_9 lm_X4_60 mv_X8_weightOf (c_weightOf (d := d) hx hL (dset_lt hT 28 p 0) hT.2.1 hT.2.2.1) rfl rfl (k3 hL) rfl rfl (Nat.le_of_ble_eq_true rfl) (gFit_room (by omega)) rfl ?_
  exact g_iret dX4_guiltOf_12 rfl rfl ⟨rfl, rfl⟩
set_option maxRecDepth 20000 in
theorem c_smooth_trial (hx : gXok X) (hL : gLay M) (hT : TownOK M) : gDet X (d + 1) yX4_smooth cX4_smooth 3 (some .int) [.ref 27] M (some (.int (nI (bsum (fun p => decide (gmi M 28 p = 0)) (tv M 3 7))))) M := by
  have h6 := hT.1.2
  refine gMet.of hx (by decide) (Nat.le_of_ble_eq_true rfl) ?_
  refine g_iconst (v := 0) dX4_smooth_0 (by decide) rfl ?_
  refine g_istore_n dX4_smooth_1 rfl (by decide) rfl ?_
  refine g_iconst (v := 0) dX4_smooth_2 (by decide) rfl ?_
  refine g_istore_n dX4_smooth_3 rfl (by decide) rfl ?_
  refine g_loop (fun i => [(0, .ref 27), (1, .int (nI (bsum (fun p => decide (gmi M 28 p = 0)) i))), (2, .int (nI i))]) (fun _ => M) (tv M 3 7) 0 (by omega) ⟨rfl, rfl, rfl, trivial⟩ rfl ?_ (fun i _ hi ih => ?_)
  · refine g_iload_n dX4_smooth_4 rfl rfl rfl ?_
    refine g_aload_n dX4_smooth_5 rfl rfl rfl ?_
    refine g_getR dX4_smooth_6 ff_X4_18 rfl (k27 hL) (r27_0 hL) rfl ?_
    refine g_getI dX4_smooth_9 ff_X4_28 rfl (k3 hL) rfl ?_
    refine g_icmp_ge (tgt := 35) dX4_smooth_12 (by decide) rfl (fun _ => ?_) (fun h => absurd (by rw [hT.1.1]; exact nI_le (by omega) (by omega)) h)
    refine g_iload_n dX4_smooth_35 rfl rfl rfl ?_
    exact g_iret dX4_smooth_36 rfl rfl ⟨rfl, rfl⟩
  · refine g_iload_n dX4_smooth_4 rfl rfl rfl ?_
    refine g_aload_n dX4_smooth_5 rfl rfl rfl ?_
    refine g_getR dX4_smooth_6 ff_X4_18 rfl (k27 hL) (r27_0 hL) rfl ?_
    refine g_getI dX4_smooth_9 ff_X4_28 rfl (k3 hL) rfl ?_
    refine g_icmp_ge (tgt := 35) dX4_smooth_12 (by decide) rfl (fun h => absurd h (by rw [hT.1.1]; exact nI_ge (by omega) (by omega))) (fun _ => ?_)
    refine g_aload_n dX4_smooth_15 rfl rfl rfl ?_
    refine g_iload_n dX4_smooth_16 rfl rfl rfl ?_
    refine g_callVdi (ci := 4) dX4_smooth_17 lm_X4_63 mv_X4_beardOf (c_beardOf_trial (d := d) hx hL (show i < 6 by omega)) rfl rfl (k27 hL) rfl rfl (Nat.le_of_ble_eq_true rfl) (gFit_room (by omega)) rfl ?_
    refine g_if_ne (tgt := 29) dX4_smooth_20 (by decide) rfl (fun h20 => ?_) (fun h20 => ?_)
    · refine g_iincV (c := 1) dX4_smooth_29 rfl (by decide) (by decide) rfl ?_
      refine g_goto (tgt := 4) dX4_smooth_32 (by decide) ?_
      refine g_go ih ⟨rfl, ?_, by rw [← nI_1]; rfl, trivial⟩
      have e : decide (gmi M 28 i = 0) = false := decide_eq_false h20
      show some (Value.int (nI (bsum _ i))) = some (Value.int (nI (bsum (fun p => decide (gmi M 28 p = 0)) i + (if decide (gmi M 28 i = 0) then 2 ^ i else 0))))
      rw [e]
      rfl
    · refine g_iload_n dX4_smooth_23 rfl rfl rfl ?_
      refine g_iconst (v := 1) dX4_smooth_24 (by decide) rfl ?_
      refine g_iload_n dX4_smooth_25 rfl rfl rfl ?_
      refine g_ishl dX4_smooth_26 rfl ?_
      refine g_ior dX4_smooth_27 rfl ?_
      refine g_istore_n dX4_smooth_28 rfl (by decide) rfl ?_
      refine g_iincV (c := 1) dX4_smooth_29 rfl (by decide) (by decide) rfl ?_
      refine g_goto (tgt := 4) dX4_smooth_32 (by decide) ?_
      refine g_go ih ⟨rfl, ?_, by rw [← nI_1]; rfl, trivial⟩
      have e : decide (gmi M 28 i = 0) = true := decide_eq_true h20
      show some (Value.int (nI (bsum (fun p => decide (gmi M 28 p = 0)) i) ||| ((1 : Int32) <<< (nI i &&& 31)))) = some (Value.int (nI (bsum (fun p => decide (gmi M 28 p = 0)) i + (if decide (gmi M 28 i = 0) then 2 ^ i else 0))))
      rw [bt_or (bsum_lt _ i) (by omega), e]
      rfl
set_option maxRecDepth 20000 in
theorem c_mayTakeOn_trial (hx : gXok X) (hL : gLay M) (hT : TownOK M) {x z : Int32} : gDet X (d + 2) yX4_mayTakeOn cX4_mayTakeOn 3 (some .boolean) [.ref 27, .int x, .int z] M (some (.int (ib ((inP M x ∧ inD M z) ∧ gmi M 28 (12 + tn x * 8 + tn z) = 0)))) M := by
  refine gMet.of hx (by decide) (Nat.le_of_ble_eq_true rfl) ?_
  refine g_aload_n dX4_mayTakeOn_0 rfl rfl rfl ?_
  refine g_getR dX4_mayTakeOn_1 ff_X4_18 rfl (k27 hL) (r27_0 hL) rfl ?_
  refine g_iload_n dX4_mayTakeOn_4 rfl rfl rfl ?_
  refine g_iload_n dX4_mayTakeOn_5 rfl rfl rfl ?_
  refine g_callVdi (ci := 8) dX4_mayTakeOn_6 lm_X4_66 mv_X8_hasBoth (c_hasBoth (d := d) hx hL) rfl rfl (k3 hL) rfl rfl (Nat.le_of_ble_eq_true rfl) (gFit_room (by omega)) rfl ?_
  refine g_ieq (tgt := 25) dX4_mayTakeOn_9 (by decide) rfl (fun h9 => ?_) (fun h9 => ?_)
  · refine g_iconst (v := 0) dX4_mayTakeOn_25 (by decide) rfl ?_
    exact g_iret dX4_mayTakeOn_26 rfl rfl ⟨by rw [ib_f (fun q => h9 q.1)], rfl⟩
  · obtain ⟨ex, hx6⟩ := in_row hT.1.1 (by have := hT.1.2; omega) h9.1
    obtain ⟨ez, hz8⟩ := in_row hT.2.1.1 (by have := hT.2.1.2; omega) h9.2
    have := hT.1.2
    have := hT.2.1.2
    have hc := c_leftOf_trial (X := X) (M := M) (d := d) hx hL (show tn x < 6 by omega) (show tn z < 8 by omega)
    rw [← ex, ← ez] at hc
    refine g_aload_n dX4_mayTakeOn_12 rfl rfl rfl ?_
    refine g_iload_n dX4_mayTakeOn_13 rfl rfl rfl ?_
    refine g_iload_n dX4_mayTakeOn_14 rfl rfl rfl ?_
    refine g_callVdi (ci := 4) dX4_mayTakeOn_15 lm_X4_53 mv_X4_leftOf (hc) rfl rfl (k27 hL) rfl rfl (Nat.le_of_ble_eq_true rfl) (gFit_room (by omega)) rfl ?_
    refine g_if_ne (tgt := 25) dX4_mayTakeOn_18 (by decide) rfl (fun h18 => ?_) (fun h18 => ?_)
    · refine g_iconst (v := 0) dX4_mayTakeOn_25 (by decide) rfl ?_
      exact g_iret dX4_mayTakeOn_26 rfl rfl ⟨by rw [ib_f (fun q => h18 q.2)], rfl⟩
    · refine g_iconst (v := 1) dX4_mayTakeOn_21 (by decide) rfl ?_
      refine g_goto (tgt := 26) dX4_mayTakeOn_22 (by decide) ?_
      exact g_iret dX4_mayTakeOn_26 rfl rfl ⟨by rw [ib_t ⟨h9, h18⟩], rfl⟩
set_option maxRecDepth 20000 in
theorem c_takeOn_trial (hx : gXok X) (hL : gLay M) {p e : Nat} (hp : p < 6) (he : e < 8) : gDet X (d + 1) yX4_takeOn cX4_takeOn 3 none [.ref 27, .int (nI p), .int (nI e)] M none (gwI (gwI M 28 (12 + p * 8 + e) (gmi M 9 e)) 28 62 (imin 9999 (gmi (gwI M 28 (12 + p * 8 + e) (gmi M 9 e)) 28 62 + gmi M 8 e))) := by
  refine gMet.of hx (by decide) (Nat.le_of_ble_eq_true rfl) ?_
  refine g_aload_n dX4_takeOn_0 rfl rfl rfl ?_
  refine g_iload_n dX4_takeOn_1 rfl rfl rfl ?_
  refine g_iload_n dX4_takeOn_2 rfl rfl rfl ?_
  refine g_aload_n dX4_takeOn_3 rfl rfl rfl ?_
  refine g_getR dX4_takeOn_4 ff_X4_18 rfl (k27 hL) (r27_0 hL) rfl ?_
  refine g_getR dX4_takeOn_7 ff_X4_70 rfl (k3 hL) (r3_5 hL) rfl ?_
  refine g_iload_n dX4_takeOn_10 rfl rfl rfl ?_
  refine g_iald (i := e) dX4_takeOn_11 (k9 hL) (l9 hL) (by (try simp only [nI_lit, pk_mul, nI_add, Nat.zero_add]); exact nI_toInt (by omega)) (by omega) rfl ?_
  refine g_callVdv (ci := 4) dX4_takeOn_12 lm_X4_73 mv_X4_setLeft (c_setLeft_trial (d := d) hx hL hp he) rfl rfl (k27 hL) rfl rfl (Nat.le_of_ble_eq_true rfl) (gFit_room (by omega)) rfl ?_
  refine g_aload_n dX4_takeOn_15 rfl rfl rfl ?_
  refine g_getR dX4_takeOn_16 ff_X4_11 rfl (k27 (gLay_I hL)) (r27_1 (gLay_I hL)) rfl ?_
  refine g_bipush (v := 62) dX4_takeOn_19 (by decide) rfl ?_
  refine g_sipush (v := 9999) dX4_takeOn_21 (by decide) rfl ?_
  refine g_aload_n dX4_takeOn_24 rfl rfl rfl ?_
  refine g_getR dX4_takeOn_25 ff_X4_11 rfl (k27 (gLay_I hL)) (r27_1 (gLay_I hL)) rfl ?_
  refine g_bipush (v := 62) dX4_takeOn_28 (by decide) rfl ?_
  refine g_iald (i := 62) dX4_takeOn_30 (k28 (gLay_I hL)) (l28 (gLay_I hL)) (by (try simp only [nI_lit, pk_mul, nI_add, Nat.zero_add]); exact nI_toInt (by omega)) (by omega) rfl ?_
  refine g_aload_n dX4_takeOn_31 rfl rfl rfl ?_
  refine g_getR dX4_takeOn_32 ff_X4_18 rfl (k27 (gLay_I hL)) (r27_0 (gLay_I hL)) rfl ?_
  refine g_getR dX4_takeOn_35 ff_X4_77 rfl (k3 (gLay_I hL)) (r3_4 (gLay_I hL)) rfl ?_
  refine g_iload_n dX4_takeOn_38 rfl rfl rfl ?_
  refine g_iald (i := e) dX4_takeOn_39 (k8 (gLay_I hL)) (l8 (gLay_I hL)) (by (try simp only [nI_lit, pk_mul, nI_add, Nat.zero_add]); exact nI_toInt (by omega)) (by omega) rfl ?_
  refine g_iadd dX4_takeOn_40 rfl ?_
  refine g_callSdi dX4_takeOn_41 lm_X4_80 mv_J9_min_7cf53 (c_min (d := d) hx) rfl rfl (Nat.le_of_ble_eq_true rfl) (gFit_room (by omega)) rfl ?_
  refine g_iast (i := 62) dX4_takeOn_44 (k28 (gLay_I hL)) (l28 (gLay_I hL)) (by (try simp only [nI_lit, pk_mul, nI_add, Nat.zero_add]); exact nI_toInt (by omega)) (by omega) rfl ?_
  exact g_vret dX4_takeOn_45 rfl ⟨rfl, rfl⟩
set_option maxRecDepth 20000 in
theorem c_maySellTo_trial (hx : gXok X) (hL : gLay M) (hT : TownOK M) {x o z : Int32} : gDet X (d + 2) yX4_maySellTo cX4_maySellTo 4 (some .boolean) [.ref 27, .int x, .int o, .int z] M (some (.int (ib ((inP M x ∧ inD M z) ∧ inP M o ∧ ¬ x = o ∧ ¬ gmi M 28 (12 + tn x * 8 + tn z) ≤ 0 ∧ gmi M 28 (12 + tn o * 8 + tn z) = 0 ∧ ¬ gmi M 28 65 < 1)))) M := by
  refine gMet.of hx (by decide) (Nat.le_of_ble_eq_true rfl) ?_
  refine g_aload_n dX4_maySellTo_0 rfl rfl rfl ?_
  refine g_getR dX4_maySellTo_1 ff_X4_18 rfl (k27 hL) (r27_0 hL) rfl ?_
  refine g_iload_n dX4_maySellTo_4 rfl rfl rfl ?_
  refine g_iload_n dX4_maySellTo_5 rfl rfl rfl ?_
  refine g_callVdi (ci := 8) dX4_maySellTo_6 lm_X4_66 mv_X8_hasBoth (c_hasBoth (d := d) hx hL) rfl rfl (k3 hL) rfl rfl (Nat.le_of_ble_eq_true rfl) (gFit_room (by omega)) rfl ?_
  refine g_ieq (tgt := 61) dX4_maySellTo_9 (by decide) rfl (fun h9 => ?_) (fun h9 => ?_)
  · refine g_iconst (v := 0) dX4_maySellTo_61 (by decide) rfl ?_
    exact g_iret dX4_maySellTo_62 rfl rfl ⟨by rw [ib_f (fun q => h9 q.1)], rfl⟩
  · refine g_aload_n dX4_maySellTo_12 rfl rfl rfl ?_
    refine g_getR dX4_maySellTo_13 ff_X4_18 rfl (k27 hL) (r27_0 hL) rfl ?_
    refine g_iload_n dX4_maySellTo_16 rfl rfl rfl ?_
    refine g_callVdi (ci := 8) dX4_maySellTo_17 lm_X4_85 mv_X8_hasPerson (c_hasPerson (d := d) hx hL) rfl rfl (k3 hL) rfl rfl (Nat.le_of_ble_eq_true rfl) (gFit_room (by omega)) rfl ?_
    refine g_ieq (tgt := 61) dX4_maySellTo_20 (by decide) rfl (fun h20 => ?_) (fun h20 => ?_)
    · refine g_iconst (v := 0) dX4_maySellTo_61 (by decide) rfl ?_
      exact g_iret dX4_maySellTo_62 rfl rfl ⟨by rw [ib_f (fun q => h20 q.2.1)], rfl⟩
    · refine g_iload_n dX4_maySellTo_23 rfl rfl rfl ?_
      refine g_iload_n dX4_maySellTo_24 rfl rfl rfl ?_
      refine g_icmp_eq (tgt := 61) dX4_maySellTo_25 (by decide) rfl (fun h25 => ?_) (fun h25 => ?_)
      · refine g_iconst (v := 0) dX4_maySellTo_61 (by decide) rfl ?_
        exact g_iret dX4_maySellTo_62 rfl rfl ⟨by rw [ib_f (fun q => q.2.2.1 h25)], rfl⟩
      · obtain ⟨ex, hx6⟩ := in_row hT.1.1 (by have := hT.1.2; omega) h9.1
        obtain ⟨ez, hz8⟩ := in_row hT.2.1.1 (by have := hT.2.1.2; omega) h9.2
        obtain ⟨eo, ho6⟩ := in_row hT.1.1 (by have := hT.1.2; omega) h20
        have := hT.1.2
        have := hT.2.1.2
        have hc := c_leftOf_trial (X := X) (M := M) (d := d) hx hL (show tn x < 6 by omega) (show tn z < 8 by omega)
        have hc2 := c_leftOf_trial (X := X) (M := M) (d := d) hx hL (show tn o < 6 by omega) (show tn z < 8 by omega)
        rw [← ex, ← ez] at hc
        rw [← eo, ← ez] at hc2
        refine g_aload_n dX4_maySellTo_28 rfl rfl rfl ?_
        refine g_iload_n dX4_maySellTo_29 rfl rfl rfl ?_
        refine g_iload_n dX4_maySellTo_30 rfl rfl rfl ?_
        refine g_callVdi (ci := 4) dX4_maySellTo_31 lm_X4_53 mv_X4_leftOf (hc) rfl rfl (k27 hL) rfl rfl (Nat.le_of_ble_eq_true rfl) (gFit_room (by omega)) rfl ?_
        refine g_if_le (tgt := 61) dX4_maySellTo_34 (by decide) rfl (fun h34 => ?_) (fun h34 => ?_)
        · refine g_iconst (v := 0) dX4_maySellTo_61 (by decide) rfl ?_
          exact g_iret dX4_maySellTo_62 rfl rfl ⟨by rw [ib_f (fun q => q.2.2.2.1 h34)], rfl⟩
        · refine g_aload_n dX4_maySellTo_37 rfl rfl rfl ?_
          refine g_iload_n dX4_maySellTo_38 rfl rfl rfl ?_
          refine g_iload_n dX4_maySellTo_39 rfl rfl rfl ?_
          refine g_callVdi (ci := 4) dX4_maySellTo_40 lm_X4_53 mv_X4_leftOf (hc2) rfl rfl (k27 hL) rfl rfl (Nat.le_of_ble_eq_true rfl) (gFit_room (by omega)) rfl ?_
          refine g_if_ne (tgt := 61) dX4_maySellTo_43 (by decide) rfl (fun h43 => ?_) (fun h43 => ?_)
          · refine g_iconst (v := 0) dX4_maySellTo_61 (by decide) rfl ?_
            exact g_iret dX4_maySellTo_62 rfl rfl ⟨by rw [ib_f (fun q => h43 q.2.2.2.2.1)], rfl⟩
          · refine g_aload_n dX4_maySellTo_46 rfl rfl rfl ?_
            refine g_getR dX4_maySellTo_47 ff_X4_11 rfl (k27 hL) (r27_1 hL) rfl ?_
            refine g_bipush (v := 65) dX4_maySellTo_50 (by decide) rfl ?_
            refine g_iald (i := 65) dX4_maySellTo_52 (k28 hL) (l28 hL) (by (try simp only [nI_lit, pk_mul, nI_add, Nat.zero_add]); exact nI_toInt (by omega)) (by omega) rfl ?_
            refine g_iconst (v := 1) dX4_maySellTo_53 (by decide) rfl ?_
            refine g_icmp_lt (tgt := 61) dX4_maySellTo_54 (by decide) rfl (fun h54 => ?_) (fun h54 => ?_)
            · refine g_iconst (v := 0) dX4_maySellTo_61 (by decide) rfl ?_
              exact g_iret dX4_maySellTo_62 rfl rfl ⟨by rw [ib_f (fun q => q.2.2.2.2.2 h54)], rfl⟩
            · refine g_iconst (v := 1) dX4_maySellTo_57 (by decide) rfl ?_
              refine g_goto (tgt := 62) dX4_maySellTo_58 (by decide) ?_
              exact g_iret dX4_maySellTo_62 rfl rfl ⟨by rw [ib_t ⟨h9, h20, h25, h34, h43, h54⟩], rfl⟩
set_option maxRecDepth 20000 in
theorem c_mayAtoneFor_trial (hx : gXok X) (hL : gLay M) (hT : TownOK M) {x z : Int32} : gDet X (d + 2) yX4_mayAtoneFor cX4_mayAtoneFor 3 (some .boolean) [.ref 27, .int x, .int z] M (some (.int (ib ((inP M x ∧ inD M z) ∧ ¬ gmi M 28 (12 + tn x * 8 + tn z) ≤ 0 ∧ ¬ gmi M 28 65 < 2)))) M := by
  refine gMet.of hx (by decide) (Nat.le_of_ble_eq_true rfl) ?_
  refine g_aload_n dX4_mayAtoneFor_0 rfl rfl rfl ?_
  refine g_getR dX4_mayAtoneFor_1 ff_X4_18 rfl (k27 hL) (r27_0 hL) rfl ?_
  refine g_iload_n dX4_mayAtoneFor_4 rfl rfl rfl ?_
  refine g_iload_n dX4_mayAtoneFor_5 rfl rfl rfl ?_
  refine g_callVdi (ci := 8) dX4_mayAtoneFor_6 lm_X4_66 mv_X8_hasBoth (c_hasBoth (d := d) hx hL) rfl rfl (k3 hL) rfl rfl (Nat.le_of_ble_eq_true rfl) (gFit_room (by omega)) rfl ?_
  refine g_ieq (tgt := 36) dX4_mayAtoneFor_9 (by decide) rfl (fun h9 => ?_) (fun h9 => ?_)
  · refine g_iconst (v := 0) dX4_mayAtoneFor_36 (by decide) rfl ?_
    exact g_iret dX4_mayAtoneFor_37 rfl rfl ⟨by rw [ib_f (fun q => h9 q.1)], rfl⟩
  · obtain ⟨ex, hx6⟩ := in_row hT.1.1 (by have := hT.1.2; omega) h9.1
    obtain ⟨ez, hz8⟩ := in_row hT.2.1.1 (by have := hT.2.1.2; omega) h9.2
    have := hT.1.2
    have := hT.2.1.2
    have hc := c_leftOf_trial (X := X) (M := M) (d := d) hx hL (show tn x < 6 by omega) (show tn z < 8 by omega)
    rw [← ex, ← ez] at hc
    refine g_aload_n dX4_mayAtoneFor_12 rfl rfl rfl ?_
    refine g_iload_n dX4_mayAtoneFor_13 rfl rfl rfl ?_
    refine g_iload_n dX4_mayAtoneFor_14 rfl rfl rfl ?_
    refine g_callVdi (ci := 4) dX4_mayAtoneFor_15 lm_X4_53 mv_X4_leftOf (hc) rfl rfl (k27 hL) rfl rfl (Nat.le_of_ble_eq_true rfl) (gFit_room (by omega)) rfl ?_
    refine g_if_le (tgt := 36) dX4_mayAtoneFor_18 (by decide) rfl (fun h18 => ?_) (fun h18 => ?_)
    · refine g_iconst (v := 0) dX4_mayAtoneFor_36 (by decide) rfl ?_
      exact g_iret dX4_mayAtoneFor_37 rfl rfl ⟨by rw [ib_f (fun q => q.2.1 h18)], rfl⟩
    · refine g_aload_n dX4_mayAtoneFor_21 rfl rfl rfl ?_
      refine g_getR dX4_mayAtoneFor_22 ff_X4_11 rfl (k27 hL) (r27_1 hL) rfl ?_
      refine g_bipush (v := 65) dX4_mayAtoneFor_25 (by decide) rfl ?_
      refine g_iald (i := 65) dX4_mayAtoneFor_27 (k28 hL) (l28 hL) (by (try simp only [nI_lit, pk_mul, nI_add, Nat.zero_add]); exact nI_toInt (by omega)) (by omega) rfl ?_
      refine g_iconst (v := 2) dX4_mayAtoneFor_28 (by decide) rfl ?_
      refine g_icmp_lt (tgt := 36) dX4_mayAtoneFor_29 (by decide) rfl (fun h29 => ?_) (fun h29 => ?_)
      · refine g_iconst (v := 0) dX4_mayAtoneFor_36 (by decide) rfl ?_
        exact g_iret dX4_mayAtoneFor_37 rfl rfl ⟨by rw [ib_f (fun q => q.2.2 h29)], rfl⟩
      · refine g_iconst (v := 1) dX4_mayAtoneFor_32 (by decide) rfl ?_
        refine g_goto (tgt := 37) dX4_mayAtoneFor_33 (by decide) ?_
        exact g_iret dX4_mayAtoneFor_37 rfl rfl ⟨by rw [ib_t ⟨h9, h18, h29⟩], rfl⟩
set_option maxRecDepth 20000 in
theorem c_sellTo_trial (hx : gXok X) (hL : gLay M) {p o e : Nat} (hp : p < 6) (ho : o < 6) (he : e < 8) : gDet X (d + 1) yX4_sellTo cX4_sellTo 4 none [.ref 27, .int (nI p), .int (nI o), .int (nI e)] M none (gwI (gwI (gwI M 28 (12 + o * 8 + e) (gmi M 28 (12 + p * 8 + e))) 28 (12 + p * 8 + e) 0) 28 65 (gmi (gwI (gwI M 28 (12 + o * 8 + e) (gmi M 28 (12 + p * 8 + e))) 28 (12 + p * 8 + e) 0) 28 65 - 1)) := by
  refine gMet.of hx (by decide) (Nat.le_of_ble_eq_true rfl) ?_
  refine g_aload_n dX4_sellTo_0 rfl rfl rfl ?_
  refine g_iload_n dX4_sellTo_1 rfl rfl rfl ?_
  refine g_iload_n dX4_sellTo_2 rfl rfl rfl ?_
  refine g_aload_n dX4_sellTo_3 rfl rfl rfl ?_
  refine g_iload_n dX4_sellTo_4 rfl rfl rfl ?_
  refine g_iload_n dX4_sellTo_5 rfl rfl rfl ?_
  refine g_callVdi (ci := 4) dX4_sellTo_6 lm_X4_53 mv_X4_leftOf (c_leftOf_trial (d := d) hx hL hp he) rfl rfl (k27 hL) rfl rfl (Nat.le_of_ble_eq_true rfl) (gFit_room (by omega)) rfl ?_
  refine g_callVdv (ci := 4) dX4_sellTo_9 lm_X4_73 mv_X4_setLeft (c_setLeft_trial (d := d) hx hL ho he) rfl rfl (k27 hL) rfl rfl (Nat.le_of_ble_eq_true rfl) (gFit_room (by omega)) rfl ?_
  refine g_aload_n dX4_sellTo_12 rfl rfl rfl ?_
  refine g_iload_n dX4_sellTo_13 rfl rfl rfl ?_
  refine g_iload_n dX4_sellTo_14 rfl rfl rfl ?_
  refine g_iconst (v := 0) dX4_sellTo_15 (by decide) rfl ?_
  refine g_callVdv (ci := 4) dX4_sellTo_16 lm_X4_73 mv_X4_setLeft (c_setLeft_trial (d := d) hx (gLay_I hL) hp he) rfl rfl (k27 (gLay_I hL)) rfl rfl (Nat.le_of_ble_eq_true rfl) (gFit_room (by omega)) rfl ?_
  refine g_aload_n dX4_sellTo_19 rfl rfl rfl ?_
  refine g_getR dX4_sellTo_20 ff_X4_11 rfl (k27 (gLay_I (gLay_I hL))) (r27_1 (gLay_I (gLay_I hL))) rfl ?_
  refine g_bipush (v := 65) dX4_sellTo_23 (by decide) rfl ?_
  refine g_dup2 dX4_sellTo_25 rfl rfl rfl ?_
  refine g_iald (i := 65) dX4_sellTo_26 (k28 (gLay_I (gLay_I hL))) (l28 (gLay_I (gLay_I hL))) (by (try simp only [nI_lit, pk_mul, nI_add, Nat.zero_add]); exact nI_toInt (by omega)) (by omega) rfl ?_
  refine g_iconst (v := 1) dX4_sellTo_27 (by decide) rfl ?_
  refine g_isub dX4_sellTo_28 rfl ?_
  refine g_iast (i := 65) dX4_sellTo_29 (k28 (gLay_I (gLay_I hL))) (l28 (gLay_I (gLay_I hL))) (by (try simp only [nI_lit, pk_mul, nI_add, Nat.zero_add]); exact nI_toInt (by omega)) (by omega) rfl ?_
  exact g_vret dX4_sellTo_30 rfl ⟨rfl, rfl⟩
set_option maxRecDepth 20000 in
theorem c_atoneFor_trial (hx : gXok X) (hL : gLay M) {p e : Nat} (hp : p < 6) (he : e < 8) : gDet X (d + 1) yX4_atoneFor cX4_atoneFor 3 none [.ref 27, .int (nI p), .int (nI e)] M none (gwI (gwI M 28 (12 + p * 8 + e) 0) 28 65 (gmi (gwI M 28 (12 + p * 8 + e) 0) 28 65 - 2)) := by
  refine gMet.of hx (by decide) (Nat.le_of_ble_eq_true rfl) ?_
  refine g_aload_n dX4_atoneFor_0 rfl rfl rfl ?_
  refine g_iload_n dX4_atoneFor_1 rfl rfl rfl ?_
  refine g_iload_n dX4_atoneFor_2 rfl rfl rfl ?_
  refine g_iconst (v := 0) dX4_atoneFor_3 (by decide) rfl ?_
  refine g_callVdv (ci := 4) dX4_atoneFor_4 lm_X4_73 mv_X4_setLeft (c_setLeft_trial (d := d) hx hL hp he) rfl rfl (k27 hL) rfl rfl (Nat.le_of_ble_eq_true rfl) (gFit_room (by omega)) rfl ?_
  refine g_aload_n dX4_atoneFor_7 rfl rfl rfl ?_
  refine g_getR dX4_atoneFor_8 ff_X4_11 rfl (k27 (gLay_I hL)) (r27_1 (gLay_I hL)) rfl ?_
  refine g_bipush (v := 65) dX4_atoneFor_11 (by decide) rfl ?_
  refine g_dup2 dX4_atoneFor_13 rfl rfl rfl ?_
  refine g_iald (i := 65) dX4_atoneFor_14 (k28 (gLay_I hL)) (l28 (gLay_I hL)) (by (try simp only [nI_lit, pk_mul, nI_add, Nat.zero_add]); exact nI_toInt (by omega)) (by omega) rfl ?_
  refine g_iconst (v := 2) dX4_atoneFor_15 (by decide) rfl ?_
  refine g_isub dX4_atoneFor_16 rfl ?_
  refine g_iast (i := 65) dX4_atoneFor_17 (k28 (gLay_I hL)) (l28 (gLay_I hL)) (by (try simp only [nI_lit, pk_mul, nI_add, Nat.zero_add]); exact nI_toInt (by omega)) (by omega) rfl ?_
  exact g_vret dX4_atoneFor_18 rfl ⟨rfl, rfl⟩
set_option maxRecDepth 20000 in
theorem c_mayGo_trial (hx : gXok X) (hL : gLay M) {x : Int32} : gDet X (d + 1) yX4_mayGo cX4_mayGo 2 (some .boolean) [.ref 27, .int x] M (some (.int (ib (inP M x ∧ ¬ gmi M 28 60 >>> (x &&& 31) &&& 1 = 1)))) M := by
  refine gMet.of hx (by decide) (Nat.le_of_ble_eq_true rfl) ?_
  refine g_aload_n dX4_mayGo_0 rfl rfl rfl ?_
  refine g_getR dX4_mayGo_1 ff_X4_18 rfl (k27 hL) (r27_0 hL) rfl ?_
  refine g_iload_n dX4_mayGo_4 rfl rfl rfl ?_
  refine g_callVdi (ci := 8) dX4_mayGo_5 lm_X4_85 mv_X8_hasPerson (c_hasPerson (d := d) hx hL) rfl rfl (k3 hL) rfl rfl (Nat.le_of_ble_eq_true rfl) (gFit_room (by omega)) rfl ?_
  refine g_ieq (tgt := 23) dX4_mayGo_8 (by decide) rfl (fun h8 => ?_) (fun h8 => ?_)
  · refine g_iconst (v := 0) dX4_mayGo_23 (by decide) rfl ?_
    exact g_iret dX4_mayGo_24 rfl rfl ⟨by rw [ib_f (fun q => h8 q.1)], rfl⟩
  · refine g_aload_n dX4_mayGo_11 rfl rfl rfl ?_
    refine g_iload_n dX4_mayGo_12 rfl rfl rfl ?_
    refine g_callVdi (ci := 4) dX4_mayGo_13 lm_X4_89 mv_X4_went (c_went_trial (d := d) hx hL) rfl rfl (k27 hL) rfl rfl (Nat.le_of_ble_eq_true rfl) (gFit_room (by omega)) rfl ?_
    refine g_ine (tgt := 23) dX4_mayGo_16 (by decide) rfl (fun h16 => ?_) (fun h16 => ?_)
    · refine g_iconst (v := 0) dX4_mayGo_23 (by decide) rfl ?_
      exact g_iret dX4_mayGo_24 rfl rfl ⟨by rw [ib_f (fun q => q.2 h16)], rfl⟩
    · refine g_iconst (v := 1) dX4_mayGo_19 (by decide) rfl ?_
      refine g_goto (tgt := 24) dX4_mayGo_20 (by decide) ?_
      exact g_iret dX4_mayGo_24 rfl rfl ⟨by rw [ib_t ⟨h8, h16⟩], rfl⟩
set_option maxRecDepth 20000 in
theorem c_receive_trial (hx : gXok X) (hL : gLay M) {x : Int32} : gDet X (d + 0) yX4_receive cX4_receive 2 none [.ref 27, .int x] M none (gwI M 28 65 (gmi M 28 65 + x)) := by
  refine gMet.of hx (by decide) (Nat.le_of_ble_eq_true rfl) ?_
  refine g_aload_n dX4_receive_0 rfl rfl rfl ?_
  refine g_getR dX4_receive_1 ff_X4_11 rfl (k27 hL) (r27_1 hL) rfl ?_
  refine g_bipush (v := 65) dX4_receive_4 (by decide) rfl ?_
  refine g_dup2 dX4_receive_6 rfl rfl rfl ?_
  refine g_iald (i := 65) dX4_receive_7 (k28 hL) (l28 hL) (by (try simp only [nI_lit, pk_mul, nI_add, Nat.zero_add]); exact nI_toInt (by omega)) (by omega) rfl ?_
  refine g_iload_n dX4_receive_8 rfl rfl rfl ?_
  refine g_iadd dX4_receive_9 rfl ?_
  refine g_iast (i := 65) dX4_receive_10 (k28 hL) (l28 hL) (by (try simp only [nI_lit, pk_mul, nI_add, Nat.zero_add]); exact nI_toInt (by omega)) (by omega) rfl ?_
  exact g_vret dX4_receive_11 rfl ⟨rfl, rfl⟩
set_option maxRecDepth 20000 in
theorem c_mayPassDay_trial (hx : gXok X) (hL : gLay M) : gDet X (d + 0) yX4_mayPassDay cX4_mayPassDay 1 (some .boolean) [.ref 27] M (some (.int (ib (¬ gmi M 3 7 ≤ 0 ∧ ¬ 999 ≤ gmi M 28 66)))) M := by
  refine gMet.of hx (by decide) (Nat.le_of_ble_eq_true rfl) ?_
  refine g_aload_n dX4_mayPassDay_0 rfl rfl rfl ?_
  refine g_getR dX4_mayPassDay_1 ff_X4_18 rfl (k27 hL) (r27_0 hL) rfl ?_
  refine g_getI dX4_mayPassDay_4 ff_X4_28 rfl (k3 hL) rfl ?_
  refine g_if_le (tgt := 27) dX4_mayPassDay_7 (by decide) rfl (fun h7 => ?_) (fun h7 => ?_)
  · refine g_iconst (v := 0) dX4_mayPassDay_27 (by decide) rfl ?_
    exact g_iret dX4_mayPassDay_28 rfl rfl ⟨by rw [ib_f (fun q => q.1 h7)], rfl⟩
  · refine g_aload_n dX4_mayPassDay_10 rfl rfl rfl ?_
    refine g_getR dX4_mayPassDay_11 ff_X4_11 rfl (k27 hL) (r27_1 hL) rfl ?_
    refine g_bipush (v := 66) dX4_mayPassDay_14 (by decide) rfl ?_
    refine g_iald (i := 66) dX4_mayPassDay_16 (k28 hL) (l28 hL) (by (try simp only [nI_lit, pk_mul, nI_add, Nat.zero_add]); exact nI_toInt (by omega)) (by omega) rfl ?_
    refine g_sipush (v := 999) dX4_mayPassDay_17 (by decide) rfl ?_
    refine g_icmp_ge (tgt := 27) dX4_mayPassDay_20 (by decide) rfl (fun h20 => ?_) (fun h20 => ?_)
    · refine g_iconst (v := 0) dX4_mayPassDay_27 (by decide) rfl ?_
      exact g_iret dX4_mayPassDay_28 rfl rfl ⟨by rw [ib_f (fun q => q.2 h20)], rfl⟩
    · refine g_iconst (v := 1) dX4_mayPassDay_23 (by decide) rfl ?_
      refine g_goto (tgt := 28) dX4_mayPassDay_24 (by decide) ?_
      exact g_iret dX4_mayPassDay_28 rfl rfl ⟨by rw [ib_t ⟨h7, h20⟩], rfl⟩
set_option maxRecDepth 20000 in
theorem c_logLength (hx : gXok X) (hL : gLay M) : gDet X (d + 1) yX4_logLength cX4_logLength 1 (some .int) [.ref 24] M (some (.int (imin 60 (gmi M 25 66)))) M := by
  refine gMet.of hx (by decide) (Nat.le_of_ble_eq_true rfl) ?_
  refine g_bipush (v := 60) dX4_logLength_0 (by decide) rfl ?_
  refine g_aload_n dX4_logLength_2 rfl rfl rfl ?_
  refine g_getR dX4_logLength_3 ff_X4_11 rfl (k24 hL) (r24_1 hL) rfl ?_
  refine g_bipush (v := 66) dX4_logLength_6 (by decide) rfl ?_
  refine g_iald (i := 66) dX4_logLength_8 (k25 hL) (l25 hL) (by (try simp only [nI_lit, pk_mul, nI_add, Nat.zero_add]); exact nI_toInt (by omega)) (by omega) rfl ?_
  refine g_callSdi dX4_logLength_9 lm_X4_80 mv_J9_min_7cf53 (c_min (d := d) hx) rfl rfl (Nat.le_of_ble_eq_true rfl) (gFit_room (by omega)) rfl ?_
  exact g_iret dX4_logLength_12 rfl rfl ⟨rfl, rfl⟩
set_option maxRecDepth 20000 in
theorem c_copy_nk (hx : gXok X) (hL : gLay M) : gDet X (d + 1) yX4_copy cX4_copy 2 none [.ref 24, .ref 30] M none (gwF (gwF M 25 (va_cpy (gmi M 31) (gmi M 25) 0 0 67)) 26 (va_cpy (gmi M 32) (gmi M 26) 0 0 384)) := by
  refine gMet.of hx (by decide) (Nat.le_of_ble_eq_true rfl) ?_
  refine g_aload_n dX4_copy_0 rfl rfl rfl ?_
  refine g_getR dX4_copy_1 ff_X4_11 rfl (k30 hL) (r30_1 hL) rfl ?_
  refine g_iconst (v := 0) dX4_copy_4 (by decide) rfl ?_
  refine g_aload_n dX4_copy_5 rfl rfl rfl ?_
  refine g_getR dX4_copy_6 ff_X4_11 rfl (k24 hL) (r24_1 hL) rfl ?_
  refine g_iconst (v := 0) dX4_copy_9 (by decide) rfl ?_
  refine g_bipush (v := 67) dX4_copy_10 (by decide) rfl ?_
  refine g_copy (i := 0) (j := 0) (n := 67) dX4_copy_12 lo_X4_40 (k31 hL) (k25 hL) (l31 hL) (l25 hL) rfl rfl rfl (by decide) (by decide) (Nat.le_of_ble_eq_true rfl) (gFit_room (by omega)) rfl ?_
  refine g_aload_n dX4_copy_15 rfl rfl rfl ?_
  refine g_getR dX4_copy_16 ff_X4_15 rfl (k30 (gLay_F hL)) (r30_2 (gLay_F hL)) rfl ?_
  refine g_iconst (v := 0) dX4_copy_19 (by decide) rfl ?_
  refine g_aload_n dX4_copy_20 rfl rfl rfl ?_
  refine g_getR dX4_copy_21 ff_X4_15 rfl (k24 (gLay_F hL)) (r24_2 (gLay_F hL)) rfl ?_
  refine g_iconst (v := 0) dX4_copy_24 (by decide) rfl ?_
  refine g_sipush (v := 384) dX4_copy_25 (by decide) rfl ?_
  refine g_copy (i := 0) (j := 0) (n := 384) dX4_copy_28 lo_X4_40 (k32 (gLay_F hL)) (k26 (gLay_F hL)) (l32 (gLay_F hL)) (l26 (gLay_F hL)) rfl rfl rfl (by decide) (by decide) (Nat.le_of_ble_eq_true rfl) (gFit_room (by omega)) rfl ?_
  exact g_vret dX4_copy_31 rfl ⟨rfl, rfl⟩
set_option maxRecDepth 20000 in
theorem c_copy_tn (hx : gXok X) (hL : gLay M) : gDet X (d + 1) yX4_copy cX4_copy 2 none [.ref 27, .ref 24] M none (gwF (gwF M 28 (va_cpy (gmi M 25) (gmi M 28) 0 0 67)) 29 (va_cpy (gmi M 26) (gmi M 29) 0 0 384)) := by
  refine gMet.of hx (by decide) (Nat.le_of_ble_eq_true rfl) ?_
  refine g_aload_n dX4_copy_0 rfl rfl rfl ?_
  refine g_getR dX4_copy_1 ff_X4_11 rfl (k24 hL) (r24_1 hL) rfl ?_
  refine g_iconst (v := 0) dX4_copy_4 (by decide) rfl ?_
  refine g_aload_n dX4_copy_5 rfl rfl rfl ?_
  refine g_getR dX4_copy_6 ff_X4_11 rfl (k27 hL) (r27_1 hL) rfl ?_
  refine g_iconst (v := 0) dX4_copy_9 (by decide) rfl ?_
  refine g_bipush (v := 67) dX4_copy_10 (by decide) rfl ?_
  refine g_copy (i := 0) (j := 0) (n := 67) dX4_copy_12 lo_X4_40 (k25 hL) (k28 hL) (l25 hL) (l28 hL) rfl rfl rfl (by decide) (by decide) (Nat.le_of_ble_eq_true rfl) (gFit_room (by omega)) rfl ?_
  refine g_aload_n dX4_copy_15 rfl rfl rfl ?_
  refine g_getR dX4_copy_16 ff_X4_15 rfl (k24 (gLay_F hL)) (r24_2 (gLay_F hL)) rfl ?_
  refine g_iconst (v := 0) dX4_copy_19 (by decide) rfl ?_
  refine g_aload_n dX4_copy_20 rfl rfl rfl ?_
  refine g_getR dX4_copy_21 ff_X4_15 rfl (k27 (gLay_F hL)) (r27_2 (gLay_F hL)) rfl ?_
  refine g_iconst (v := 0) dX4_copy_24 (by decide) rfl ?_
  refine g_sipush (v := 384) dX4_copy_25 (by decide) rfl ?_
  refine g_copy (i := 0) (j := 0) (n := 384) dX4_copy_28 lo_X4_40 (k26 (gLay_F hL)) (k29 (gLay_F hL)) (l26 (gLay_F hL)) (l29 (gLay_F hL)) rfl rfl rfl (by decide) (by decide) (Nat.le_of_ble_eq_true rfl) (gFit_room (by omega)) rfl ?_
  exact g_vret dX4_copy_31 rfl ⟨rfl, rfl⟩
set_option maxRecDepth 20000 in
theorem c_copy_kn (hx : gXok X) (hL : gLay M) : gDet X (d + 1) yX4_copy cX4_copy 2 none [.ref 30, .ref 24] M none (gwF (gwF M 31 (va_cpy (gmi M 25) (gmi M 31) 0 0 67)) 32 (va_cpy (gmi M 26) (gmi M 32) 0 0 384)) := by
  refine gMet.of hx (by decide) (Nat.le_of_ble_eq_true rfl) ?_
  refine g_aload_n dX4_copy_0 rfl rfl rfl ?_
  refine g_getR dX4_copy_1 ff_X4_11 rfl (k24 hL) (r24_1 hL) rfl ?_
  refine g_iconst (v := 0) dX4_copy_4 (by decide) rfl ?_
  refine g_aload_n dX4_copy_5 rfl rfl rfl ?_
  refine g_getR dX4_copy_6 ff_X4_11 rfl (k30 hL) (r30_1 hL) rfl ?_
  refine g_iconst (v := 0) dX4_copy_9 (by decide) rfl ?_
  refine g_bipush (v := 67) dX4_copy_10 (by decide) rfl ?_
  refine g_copy (i := 0) (j := 0) (n := 67) dX4_copy_12 lo_X4_40 (k25 hL) (k31 hL) (l25 hL) (l31 hL) rfl rfl rfl (by decide) (by decide) (Nat.le_of_ble_eq_true rfl) (gFit_room (by omega)) rfl ?_
  refine g_aload_n dX4_copy_15 rfl rfl rfl ?_
  refine g_getR dX4_copy_16 ff_X4_15 rfl (k24 (gLay_F hL)) (r24_2 (gLay_F hL)) rfl ?_
  refine g_iconst (v := 0) dX4_copy_19 (by decide) rfl ?_
  refine g_aload_n dX4_copy_20 rfl rfl rfl ?_
  refine g_getR dX4_copy_21 ff_X4_15 rfl (k30 (gLay_F hL)) (r30_2 (gLay_F hL)) rfl ?_
  refine g_iconst (v := 0) dX4_copy_24 (by decide) rfl ?_
  refine g_sipush (v := 384) dX4_copy_25 (by decide) rfl ?_
  refine g_copy (i := 0) (j := 0) (n := 384) dX4_copy_28 lo_X4_40 (k26 (gLay_F hL)) (k32 (gLay_F hL)) (l26 (gLay_F hL)) (l32 (gLay_F hL)) rfl rfl rfl (by decide) (by decide) (Nat.le_of_ble_eq_true rfl) (gFit_room (by omega)) rfl ?_
  exact g_vret dX4_copy_31 rfl ⟨rfl, rfl⟩
end F1
