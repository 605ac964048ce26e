section V0
variable {X : gX} {M : gM} {d : Nat}
theorem bt_ib {b k : Nat} (hb : b < 2 ^ 31) (hk : k < 32) : nI b >>> (nI k &&& 31) &&& 1 = ib (b.testBit k = true) := by
  rw [bt_get hb hk]
  unfold ib
  rw [bt_test]
  rcases (show b / 2 ^ k % 2 = 0 ∨ b / 2 ^ k % 2 = 1 by omega) with e | e <;> rw [e] <;> rfl
/-- the verdict on one who pretends x and is looked at y -/
def verB (M : gM) (EV : EVt) (p k : Nat) : Bool := decide (0 < rd EV (imax 0 (nI (heft M (dset M 25 p 0)) + 2 * nI (k / 3) - 3 * nI (k % 3))) (gmi M 5 p) (imin 99 (gmi M 25 p + 0)) (ibc (nI (dset M 25 p 0))) (gmi M 25 66 + 0) (gmi M 25 (6 + p)))
theorem verB_fr {M2 : gM} {EV : EVt} (h : gFr scr0 M M2) (p k : Nat) : verB M2 EV p k = verB M EV p k := by
  have e3' := h.2.2.2 3 (scr0_lo (by decide) (by decide))
  have e5 := h.2.2.2 5 (scr0_lo (by decide) (by decide))
  have e7 := h.2.2.2 7 (scr0_lo (by decide) (by decide))
  have e25 := h.2.2.2 25 (scr0_lo (by decide) (by decide))
  unfold verB
  rw [heft_fr e3' e7, dset_fr e3' e25, e5, e25]
set_option maxRecDepth 20000 in
set_option maxHeartbeats 2000000 in
theorem c_verdicts (hx : gXok X) (hL : gLay M) (hT : TownOK M) (hl : LeftOK M 25) {EV : EVt} (hC : CourtSem M EV) {p : Nat} (hp : p < 6) :
    gPos X (d + 5) yX10_verdictsOn cX10_verdictsOn 8 (some .int) [.ref 0, .int (nI p)] M (fun v M2 => v = some (.int (nI (bsum (verB M EV p) 12))) ∧ gFr scr0 M M2) := by
  have hL0 := hL
  have hdl := dset_lt hT 25 p 0
  have e25f : ∀ {M1 : gM}, gFr scr0 M M1 → gmi M1 25 = gmi M 25 ∧ gmi M1 5 = gmi M 5 := fun h => ⟨h.2.2.2 25 (scr0_lo (by decide) (by decide)), h.2.2.2 5 (scr0_lo (by decide) (by decide))⟩
  refine gMet.of hx (by decide) (Nat.le_of_ble_eq_true rfl) ?_
  refine g_aload_n dX10_verdictsOn_0 rfl rfl rfl ?_
  refine g_getR dX10_verdictsOn_1 ff_X10_58 rfl (k0 hL) (r0_8 hL) rfl ?_
  refine g_iload_n dX10_verdictsOn_4 rfl rfl rfl ?_
  refine g_callVdi (ci := 4) dX10_verdictsOn_5 lm_X10_239 mv_X4_deedsOf (c_deedsOf_now (d := d) hx hL hT hl hp) rfl rfl (k24 hL) rfl rfl (Nat.le_of_ble_eq_true rfl) (gFit_room (by omega)) rfl ?_
  refine g_istore_n dX10_verdictsOn_8 rfl (by decide) rfl ?_
  refine g_aload_n dX10_verdictsOn_9 rfl rfl rfl ?_
  refine g_getR dX10_verdictsOn_10 ff_X10_19 rfl (k0 hL) (r0_1 hL) rfl ?_
  refine g_iload_n dX10_verdictsOn_13 rfl rfl rfl ?_
  refine g_callVdi (ci := 8) dX10_verdictsOn_14 lm_X10_320 mv_X8_weightOf (c_weightOf (d := d) hx hL hdl hT.2.1 hT.2.2.1) rfl rfl (k3 hL) rfl rfl (Nat.le_of_ble_eq_true rfl) (gFit_room (by omega)) rfl ?_
  rw [show nI (ssum (dset M 25 p 0) (tv M 7) (tv M 3 8)) = nI (heft M (dset M 25 p 0)) from rfl]
  refine g_istore_n dX10_verdictsOn_17 rfl (by decide) rfl ?_
  refine g_iconst (v := 0) dX10_verdictsOn_18 (by decide) rfl ?_
  refine g_istore dX10_verdictsOn_19 (by decide) rfl ?_
  refine g_iconst (v := 0) dX10_verdictsOn_21 (by decide) rfl ?_
  refine g_istore dX10_verdictsOn_22 (by decide) rfl ?_
  refine g_loopM (fun i => [(0, .ref 0), (1, .int (nI p)), (2, .int (nI (dset M 25 p 0))), (3, .int (nI (heft M (dset M 25 p 0)))), (4, .int (nI (bsum (verB M EV p) (3 * i)))), (5, .int (nI i))]) (fun i M1 => gFr scr0 M M1) 4 0 (Nat.zero_le _) ⟨rfl, rfl, rfl, rfl, rfl, rfl, trivial⟩ gFr.rf (fun M1 hI => ?_) (fun i M1 _ hi hI ih => ?_)
  · refine g_iload dX10_verdictsOn_24 rfl rfl ?_
    refine g_iconst (v := 4) dX10_verdictsOn_26 (by decide) rfl ?_
    refine g_icmp_ge (tgt := 104) dX10_verdictsOn_27 (by decide) rfl (fun _ => ?_) (fun h_ => absurd (nI_le (Nat.le_refl 4) (by decide)) h_)
    refine g_iload dX10_verdictsOn_104 rfl rfl ?_
    exact g_iret dX10_verdictsOn_106 rfl (by first | rfl | exact b01) (⟨by first | rfl | assumption | exact gFr.rf | grind [ib], by first | rfl | assumption | exact gFr.rf | grind [ib]⟩)
  · refine g_iload dX10_verdictsOn_24 rfl rfl ?_
    refine g_iconst (v := 4) dX10_verdictsOn_26 (by decide) rfl ?_
    refine g_icmp_ge (tgt := 104) dX10_verdictsOn_27 (by decide) rfl (fun h_ => absurd h_ (nI_ge (b := 4) hi (by decide))) (fun _ => ?_)
    refine g_iconst (v := 0) dX10_verdictsOn_30 (by decide) rfl ?_
    refine g_istore dX10_verdictsOn_31 (by decide) rfl ?_
    refine g_loopM (fun j => [(0, .ref 0), (1, .int (nI p)), (2, .int (nI (dset M 25 p 0))), (3, .int (nI (heft M (dset M 25 p 0)))), (4, .int (nI (bsum (verB M EV p) (3 * i + j)))), (5, .int (nI i)), (6, .int (nI j))]) (fun j M1 => gFr scr0 M M1) 3 0 (Nat.zero_le _) ⟨rfl, rfl, rfl, rfl, rfl, rfl, rfl, trivial⟩ hI (fun M2 hJ => ?_) (fun j M2 _ hj hJ jh => ?_)
    · refine g_iload dX10_verdictsOn_33 rfl rfl ?_
      refine g_iconst (v := 3) dX10_verdictsOn_35 (by decide) rfl ?_
      refine g_icmp_ge (tgt := 98) dX10_verdictsOn_36 (by decide) rfl (fun _ => ?_) (fun h_ => absurd (nI_le (Nat.le_refl 3) (by decide)) h_)
      refine g_iincV (c := 1) dX10_verdictsOn_98 rfl (by decide) (by decide) rfl ?_
      refine g_goto (tgt := 24) dX10_verdictsOn_101 (by decide) ?_
      exact g_go (ih M2 hJ) ⟨rfl, rfl, rfl, rfl, by rw [show 3 * (i + 1) = 3 * i + 3 by omega]; rfl, by rw [← nI_1 i]; rfl, trivial⟩
    · have hsh : imax 0 (nI (heft M (dset M 25 p 0)) + 2 * nI i - 3 * nI j) = imax 0 (nI (heft M (dset M 25 p 0)) + 2 * nI ((3 * i + j) / 3) - 3 * nI ((3 * i + j) % 3)) := by rw [show (3 * i + j) / 3 = i by omega, show (3 * i + j) % 3 = j by omega]
      have hr := c_readIn_now (X := X) (d := d) hx (hJ.lay hL0) (CourtSem_fr scr0_court hJ hC) hp (x := 0) (g := imax 0 (nI (heft M (dset M 25 p 0)) + 2 * nI ((3 * i + j) / 3) - 3 * nI ((3 * i + j) % 3))) (n := ibc (nI (dset M 25 p 0)))
      rw [(e25f hJ).1, (e25f hJ).2] at hr
      have hbl := bsum_lt (verB M EV p) (3 * i + j)
      refine g_iload dX10_verdictsOn_33 rfl rfl ?_
      refine g_iconst (v := 3) dX10_verdictsOn_35 (by decide) rfl ?_
      refine g_icmp_ge (tgt := 98) dX10_verdictsOn_36 (by decide) rfl (fun h_ => absurd h_ (nI_ge (b := 3) hj (by decide))) (fun _ => ?_)
      refine g_iconst (v := 0) dX10_verdictsOn_39 (by decide) rfl ?_
      refine g_iload_n dX10_verdictsOn_40 rfl rfl rfl ?_
      refine g_iconst (v := 2) dX10_verdictsOn_41 (by decide) rfl ?_
      refine g_iload dX10_verdictsOn_42 rfl rfl ?_
      refine g_imul dX10_verdictsOn_44 rfl ?_
      refine g_iadd dX10_verdictsOn_45 rfl ?_
      refine g_iconst (v := 3) dX10_verdictsOn_46 (by decide) rfl ?_
      refine g_iload dX10_verdictsOn_47 rfl rfl ?_
      refine g_imul dX10_verdictsOn_49 rfl ?_
      refine g_isub dX10_verdictsOn_50 rfl ?_
      refine g_callSdi dX10_verdictsOn_51 lm_X10_342 mv_J9_max_7cf53 (c_max (d := d) hx) rfl rfl (Nat.le_of_ble_eq_true rfl) (gFit_room (by omega)) rfl ?_
      rw [hsh]
      refine g_istore dX10_verdictsOn_54 (by decide) rfl ?_
      refine g_aload_n dX10_verdictsOn_56 rfl rfl rfl ?_
      refine g_getR dX10_verdictsOn_57 ff_X10_40 rfl (k0 (hJ.lay hL0)) (r0_4 (hJ.lay hL0)) rfl ?_
      refine g_aload_n dX10_verdictsOn_60 rfl rfl rfl ?_
      refine g_getR dX10_verdictsOn_61 ff_X10_58 rfl (k0 (hJ.lay hL0)) (r0_8 (hJ.lay hL0)) rfl ?_
      refine g_iload_n dX10_verdictsOn_64 rfl rfl rfl ?_
      refine g_iconst (v := 0) dX10_verdictsOn_65 (by decide) rfl ?_
      refine g_iload dX10_verdictsOn_66 rfl rfl ?_
      refine g_iload_n dX10_verdictsOn_68 rfl rfl rfl ?_
      refine g_callSdi dX10_verdictsOn_69 lm_X10_269 mv_J6_bitCount_0f7a4 (c_bitCount (d := d) hx) rfl rfl (Nat.le_of_ble_eq_true rfl) (gFit_room (by omega)) rfl ?_
      refine g_callVq (ci := 0) dX10_verdictsOn_72 lm_X10_323 mv_X0_readIn (hr) rfl rfl (k20 (hJ.lay hL0)) rfl rfl (Nat.le_of_ble_eq_true rfl) (gFit_room (by omega)) rfl (fun v M2 hQ => ?_)
      obtain ⟨rfl, hf⟩ := hQ
      refine g_if_le (tgt := 92) dX10_verdictsOn_75 (by decide) rfl (fun h75 => ?_) (fun h75 => ?_)
      · have e : verB M EV p (3 * i + j) = false := decide_eq_false (Int32.not_lt.mpr h75)
        refine g_iincV (c := 1) dX10_verdictsOn_92 rfl (by decide) (by decide) rfl ?_
        refine g_goto (tgt := 33) dX10_verdictsOn_95 (by decide) ?_
        refine g_go (jh M2 (hJ.tr hf)) ⟨rfl, rfl, rfl, rfl, ?_, rfl, by rw [← nI_1 j]; rfl, trivial⟩
        show _ = some (Value.int (nI (bsum (verB M EV p) (3 * i + j) + (if verB M EV p (3 * i + j) then 2 ^ (3 * i + j) else 0))))
        rw [e]
        rfl
      · have e : verB M EV p (3 * i + j) = true := decide_eq_true (Int32.not_le.mp h75)
        refine g_iload dX10_verdictsOn_78 rfl rfl ?_
        refine g_iconst (v := 1) dX10_verdictsOn_80 (by decide) rfl ?_
        refine g_iconst (v := 3) dX10_verdictsOn_81 (by decide) rfl ?_
        refine g_iload dX10_verdictsOn_82 rfl rfl ?_
        refine g_imul dX10_verdictsOn_84 rfl ?_
        refine g_iload dX10_verdictsOn_85 rfl rfl ?_
        refine g_iadd dX10_verdictsOn_87 rfl ?_
        rw [show (3 : Int32) * nI i + nI j = nI (3 * i + j) from by rw [show (3 : Int32) = nI 3 from rfl, pk_mul, nI_add]]
        refine g_ishl dX10_verdictsOn_88 rfl ?_
        refine g_ior dX10_verdictsOn_89 rfl ?_
        refine g_istore dX10_verdictsOn_90 (by decide) rfl ?_
        rw [bt_or hbl (by omega)]
        refine g_iincV (c := 1) dX10_verdictsOn_92 rfl (by decide) (by decide) rfl ?_
        refine g_goto (tgt := 33) dX10_verdictsOn_95 (by decide) ?_
        refine g_go (jh M2 (hJ.tr hf)) ⟨rfl, rfl, rfl, rfl, ?_, rfl, by rw [← nI_1 j]; rfl, trivial⟩
        show _ = some (Value.int (nI (bsum (verB M EV p) (3 * i + j) + (if verB M EV p (3 * i + j) then 2 ^ (3 * i + j) else 0))))
        rw [e]
        rfl
/-- what each gains -/
def gpV (V : Nat → Bool) (x y : Nat) : Int32 := 6 * ib (V (3 * x + y) = true) - nI x
def gbV (V : Nat → Bool) (x y : Nat) : Int32 := (if V (3 * x + y) = V 0 then 5 else 0) - nI y
theorem bs12 (V : Nat → Bool) : bsum V 12 < 4096 := bsum_lt V 12
set_option maxRecDepth 20000 in
theorem c_gainP (hx : gXok X) {V : Nat → Bool} {x y : Nat} (h1 : x < 4) (h2 : y < 3) : gDet X (d + 0) yX10_gainOfPerson cX10_gainOfPerson 3 (some .int) [.int (nI (bsum V 12)), .int (nI x), .int (nI y)] M (some (.int (gpV V x y))) M := by
  have hb := bs12 V
  refine gMet.of hx (by decide) (Nat.le_of_ble_eq_true rfl) ?_
  refine g_bipush (v := 6) dX10_gainOfPerson_0 (by decide) rfl ?_
  refine g_iload_n dX10_gainOfPerson_2 rfl rfl rfl ?_
  refine g_iconst (v := 3) dX10_gainOfPerson_3 (by decide) rfl ?_
  refine g_iload_n dX10_gainOfPerson_4 rfl rfl rfl ?_
  refine g_imul dX10_gainOfPerson_5 rfl ?_
  refine g_iload_n dX10_gainOfPerson_6 rfl rfl rfl ?_
  refine g_iadd dX10_gainOfPerson_7 rfl ?_
  rw [show (3 : Int32) = nI 3 from rfl, pk_mul, nI_add]
  refine g_ishr dX10_gainOfPerson_8 rfl ?_
  refine g_iconst (v := 1) dX10_gainOfPerson_9 (by decide) rfl ?_
  refine g_iand dX10_gainOfPerson_10 rfl ?_
  rw [bt_ib (by omega) (by omega), bsum_test, decide_eq_true (show 3 * x + y < 12 by omega), Bool.true_and]
  refine g_imul dX10_gainOfPerson_11 rfl ?_
  refine g_iload_n dX10_gainOfPerson_12 rfl rfl rfl ?_
  refine g_isub dX10_gainOfPerson_13 rfl ?_
  exact g_iret dX10_gainOfPerson_14 rfl (by first | rfl | exact b01) (⟨by first | rfl | assumption | exact gFr.rf | grind [ib], by first | rfl | assumption | exact gFr.rf | grind [ib]⟩)
set_option maxRecDepth 20000 in
theorem c_gainB (hx : gXok X) {V : Nat → Bool} {x y : Nat} (h1 : x < 4) (h2 : y < 3) : gDet X (d + 0) yX10_gainOfBarber cX10_gainOfBarber 4 (some .int) [.int (nI (bsum V 12)), .int (nI x), .int (nI y)] M (some (.int (gbV V x y))) M := by
  have hb := bs12 V
  have e0 : nI (bsum V 12) &&& 1 = ib (V 0 = true) := by
    have h := bt_ib (b := bsum V 12) (k := 0) (by omega) (by omega)
    rw [bsum_test, decide_eq_true (show 0 < 12 by omega), Bool.true_and] at h
    rw [← h]
    congr 1
    rw [bt_shr (by omega) (by omega)]
    simp
  have hii : (ib (V (3 * x + y) = true) = ib (V 0 = true)) ↔ V (3 * x + y) = V 0 := by
    cases V (3 * x + y) <;> cases V 0 <;> decide
  unfold gbV
  refine gMet.of hx (by decide) (Nat.le_of_ble_eq_true rfl) ?_
  refine g_iload_n dX10_gainOfBarber_0 rfl rfl rfl ?_
  refine g_iconst (v := 3) dX10_gainOfBarber_1 (by decide) rfl ?_
  refine g_iload_n dX10_gainOfBarber_2 rfl rfl rfl ?_
  refine g_imul dX10_gainOfBarber_3 rfl ?_
  refine g_iload_n dX10_gainOfBarber_4 rfl rfl rfl ?_
  refine g_iadd dX10_gainOfBarber_5 rfl ?_
  rw [show (3 : Int32) = nI 3 from rfl, pk_mul, nI_add]
  refine g_ishr dX10_gainOfBarber_6 rfl ?_
  refine g_iconst (v := 1) dX10_gainOfBarber_7 (by decide) rfl ?_
  refine g_iand dX10_gainOfBarber_8 rfl ?_
  rw [bt_ib (by omega) (by omega), bsum_test, decide_eq_true (show 3 * x + y < 12 by omega), Bool.true_and]
  refine g_iload_n dX10_gainOfBarber_9 rfl rfl rfl ?_
  refine g_iconst (v := 1) dX10_gainOfBarber_10 (by decide) rfl ?_
  refine g_iand dX10_gainOfBarber_11 rfl ?_
  rw [e0]
  refine g_icmp_ne (tgt := 19) dX10_gainOfBarber_12 (by decide) rfl (fun h12 => ?_) (fun h12 => ?_)
  · rw [if_neg (fun q => h12 (hii.mpr q))]
    refine g_iconst (v := 0) dX10_gainOfBarber_19 (by decide) rfl ?_
    refine g_istore_n dX10_gainOfBarber_20 rfl (by decide) rfl ?_
    refine g_iload_n dX10_gainOfBarber_21 rfl rfl rfl ?_
    refine g_if_eq (tgt := 29) dX10_gainOfBarber_22 (by decide) rfl (fun h22 => ?_) (fun h22 => ?_)
    · refine g_iconst (v := 0) dX10_gainOfBarber_29 (by decide) rfl ?_
      refine g_iload_n dX10_gainOfBarber_30 rfl rfl rfl ?_
      refine g_isub dX10_gainOfBarber_31 rfl ?_
      exact g_iret dX10_gainOfBarber_32 rfl (by first | rfl | exact b01) (⟨by first | rfl | assumption | exact gFr.rf | grind [ib], by first | rfl | assumption | exact gFr.rf | grind [ib]⟩)
    · refine g_iconst (v := 5) dX10_gainOfBarber_25 (by decide) rfl ?_
      refine g_goto (tgt := 30) dX10_gainOfBarber_26 (by decide) ?_
      refine g_iload_n dX10_gainOfBarber_30 rfl rfl rfl ?_
      refine g_isub dX10_gainOfBarber_31 rfl ?_
      exact g_iret dX10_gainOfBarber_32 rfl (by first | rfl | exact b01) (⟨by first | rfl | assumption | exact gFr.rf | grind [ib], by first | rfl | assumption | exact gFr.rf | grind [ib]⟩)
  · rw [if_pos (hii.mp h12)]
    refine g_iconst (v := 1) dX10_gainOfBarber_15 (by decide) rfl ?_
    refine g_goto (tgt := 20) dX10_gainOfBarber_16 (by decide) ?_
    refine g_istore_n dX10_gainOfBarber_20 rfl (by decide) rfl ?_
    refine g_iload_n dX10_gainOfBarber_21 rfl rfl rfl ?_
    refine g_if_eq (tgt := 29) dX10_gainOfBarber_22 (by decide) rfl (fun h22 => ?_) (fun h22 => ?_)
    · refine g_iconst (v := 0) dX10_gainOfBarber_29 (by decide) rfl ?_
      refine g_iload_n dX10_gainOfBarber_30 rfl rfl rfl ?_
      refine g_isub dX10_gainOfBarber_31 rfl ?_
      exact g_iret dX10_gainOfBarber_32 rfl (by first | rfl | exact b01) (⟨by first | rfl | assumption | exact gFr.rf | grind [ib], by first | rfl | assumption | exact gFr.rf | grind [ib]⟩)
    · refine g_iconst (v := 5) dX10_gainOfBarber_25 (by decide) rfl ?_
      refine g_goto (tgt := 30) dX10_gainOfBarber_26 (by decide) ?_
      refine g_iload_n dX10_gainOfBarber_30 rfl rfl rfl ?_
      refine g_isub dX10_gainOfBarber_31 rfl ?_
      exact g_iret dX10_gainOfBarber_32 rfl (by first | rfl | exact b01) (⟨by first | rfl | assumption | exact gFr.rf | grind [ib], by first | rfl | assumption | exact gFr.rf | grind [ib]⟩)
def allB (P : Nat → Bool) : Nat → Bool
  | 0 => true
  | n + 1 => allB P n && P n
theorem allB_false {P : Nat → Bool} {i : Nat} (h : P i = false) : ∀ n, i < n → allB P n = false
  | 0, hn => absurd hn (by omega)
  | n + 1, hn => by
    show (allB P n && P n) = false
    by_cases e : i = n
    · subst e; rw [h, Bool.and_false]
    · rw [allB_false h n (by omega), Bool.false_and]
/-- neither gains by another -/
def restB (V : Nat → Bool) (x y : Nat) : Bool := allB (fun o => decide (gpV V o y ≤ gpV V x y)) 4 && allB (fun o => decide (gbV V x o ≤ gbV V x y)) 3
set_option maxRecDepth 20000 in
theorem c_isRest (hx : gXok X) {V : Nat → Bool} {x y : Nat} (h1 : x < 4) (h2 : y < 3) : gDet X (d + 1) yX10_isRest cX10_isRest 4 (some .boolean) [.int (nI (bsum V 12)), .int (nI x), .int (nI y)] M (some (.int (ib (restB V x y = true)))) M := by
  refine gMet.of hx (by decide) (Nat.le_of_ble_eq_true rfl) ?_
  refine g_iconst (v := 0) dX10_isRest_0 (by decide) rfl ?_
  refine g_istore_n dX10_isRest_1 rfl (by decide) rfl ?_
  refine g_loopM (fun i => [(0, .int (nI (bsum V 12))), (1, .int (nI x)), (2, .int (nI y)), (3, .int (nI i))]) (fun i M1 => M1 = M ∧ allB (fun o => decide (gpV V o y ≤ gpV V x y)) i = true) 4 0 (Nat.zero_le _) ⟨rfl, rfl, rfl, rfl, trivial⟩ ⟨rfl, rfl⟩ (fun M1 hI => ?_) (fun i M1 _ hi hI ih => ?_)
  · obtain ⟨rfl, hA⟩ := hI
    refine g_iload_n dX10_isRest_2 rfl rfl rfl ?_
    refine g_iconst (v := 4) dX10_isRest_3 (by decide) rfl ?_
    refine g_icmp_ge (tgt := 30) dX10_isRest_4 (by decide) rfl (fun _ => ?_) (fun h_ => absurd (nI_le (Nat.le_refl 4) (by decide)) h_)
    refine g_iconst (v := 0) dX10_isRest_30 (by decide) rfl ?_
    refine g_istore_n dX10_isRest_31 rfl (by decide) rfl ?_
    refine g_loopM (fun i => [(0, .int (nI (bsum V 12))), (1, .int (nI x)), (2, .int (nI y)), (3, .int (nI i))]) (fun i M2 => M2 = M1 ∧ allB (fun o => decide (gbV V x o ≤ gbV V x y)) i = true) 3 0 (Nat.zero_le _) ⟨rfl, rfl, rfl, rfl, trivial⟩ ⟨rfl, rfl⟩ (fun M2 hJ => ?_) (fun j M2 _ hj hJ jh => ?_)
    · obtain ⟨rfl, hB⟩ := hJ
      refine g_iload_n dX10_isRest_32 rfl rfl rfl ?_
      refine g_iconst (v := 3) dX10_isRest_33 (by decide) rfl ?_
      refine g_icmp_ge (tgt := 60) dX10_isRest_34 (by decide) rfl (fun _ => ?_) (fun h_ => absurd (nI_le (Nat.le_refl 3) (by decide)) h_)
      refine g_iconst (v := 1) dX10_isRest_60 (by decide) rfl ?_
      exact g_iret dX10_isRest_61 rfl (by first | rfl | exact b01) (⟨by unfold restB; rw [hA, hB]; rfl, rfl⟩)
    · obtain ⟨rfl, hB⟩ := hJ
      refine g_iload_n dX10_isRest_32 rfl rfl rfl ?_
      refine g_iconst (v := 3) dX10_isRest_33 (by decide) rfl ?_
      refine g_icmp_ge (tgt := 60) dX10_isRest_34 (by decide) rfl (fun h_ => absurd h_ (nI_ge (b := 3) hj (by decide))) (fun _ => ?_)
      refine g_iload_n dX10_isRest_37 rfl rfl rfl ?_
      refine g_iload_n dX10_isRest_38 rfl rfl rfl ?_
      refine g_iload_n dX10_isRest_39 rfl rfl rfl ?_
      refine g_callSdi dX10_isRest_40 lm_X10_366 mv_X10_gainOfBarber (c_gainB (d := d) hx h1 hj) rfl rfl (Nat.le_of_ble_eq_true rfl) (gFit_room (by omega)) rfl ?_
      refine g_iload_n dX10_isRest_43 rfl rfl rfl ?_
      refine g_iload_n dX10_isRest_44 rfl rfl rfl ?_
      refine g_iload_n dX10_isRest_45 rfl rfl rfl ?_
      refine g_callSdi dX10_isRest_46 lm_X10_366 mv_X10_gainOfBarber (c_gainB (d := d) hx h1 h2) rfl rfl (Nat.le_of_ble_eq_true rfl) (gFit_room (by omega)) rfl ?_
      refine g_icmp_le (tgt := 54) dX10_isRest_49 (by decide) rfl (fun h49 => ?_) (fun h49 => ?_)
      · refine g_iincV (c := 1) dX10_isRest_54 rfl (by decide) (by decide) rfl ?_
        refine g_goto (tgt := 32) dX10_isRest_57 (by decide) ?_
        exact g_go (jh M2 ⟨rfl, by show (allB _ j && decide (gbV V x j ≤ gbV V x y)) = true; rw [hB, decide_eq_true h49]; rfl⟩) ⟨rfl, rfl, rfl, by rw [← nI_1 j]; rfl, trivial⟩
      · refine g_iconst (v := 0) dX10_isRest_52 (by decide) rfl ?_
        exact g_iret dX10_isRest_53 rfl (by first | rfl | exact b01) (⟨by unfold restB; rw [allB_false (P := fun o => decide (gbV V x o ≤ gbV V x y)) (decide_eq_false h49) 3 hj, Bool.and_false]; rfl, rfl⟩)
  · obtain ⟨rfl, hA⟩ := hI
    refine g_iload_n dX10_isRest_2 rfl rfl rfl ?_
    refine g_iconst (v := 4) dX10_isRest_3 (by decide) rfl ?_
    refine g_icmp_ge (tgt := 30) dX10_isRest_4 (by decide) rfl (fun h_ => absurd h_ (nI_ge (b := 4) hi (by decide))) (fun _ => ?_)
    refine g_iload_n dX10_isRest_7 rfl rfl rfl ?_
    refine g_iload_n dX10_isRest_8 rfl rfl rfl ?_
    refine g_iload_n dX10_isRest_9 rfl rfl rfl ?_
    refine g_callSdi dX10_isRest_10 lm_X10_362 mv_X10_gainOfPerson (c_gainP (d := d) hx hi h2) rfl rfl (Nat.le_of_ble_eq_true rfl) (gFit_room (by omega)) rfl ?_
    refine g_iload_n dX10_isRest_13 rfl rfl rfl ?_
    refine g_iload_n dX10_isRest_14 rfl rfl rfl ?_
    refine g_iload_n dX10_isRest_15 rfl rfl rfl ?_
    refine g_callSdi dX10_isRest_16 lm_X10_362 mv_X10_gainOfPerson (c_gainP (d := d) hx h1 h2) rfl rfl (Nat.le_of_ble_eq_true rfl) (gFit_room (by omega)) rfl ?_
    refine g_icmp_le (tgt := 24) dX10_isRest_19 (by decide) rfl (fun h19 => ?_) (fun h19 => ?_)
    · refine g_iincV (c := 1) dX10_isRest_24 rfl (by decide) (by decide) rfl ?_
      refine g_goto (tgt := 2) dX10_isRest_27 (by decide) ?_
      exact g_go (ih M1 ⟨rfl, by show (allB _ i && decide (gpV V i y ≤ gpV V x y)) = true; rw [hA, decide_eq_true h19]; rfl⟩) ⟨rfl, rfl, rfl, by rw [← nI_1 i]; rfl, trivial⟩
    · refine g_iconst (v := 0) dX10_isRest_22 (by decide) rfl ?_
      exact g_iret dX10_isRest_23 rfl (by first | rfl | exact b01) (⟨by unfold restB; rw [allB_false (P := fun o => decide (gpV V o y ≤ gpV V x y)) (decide_eq_false h19) 4 hi, Bool.false_and]; rfl, rfl⟩)
abbrev inG (M : gM) (x a b w : Int32) : Prop := inP M x ∧ (0 ≤ a ∧ a < 4) ∧ (0 ≤ b ∧ b < 3) ∧ ¬ w < 0 ∧ w ≤ 1
set_option maxRecDepth 20000 in
set_option maxHeartbeats 1000000 in
theorem c_game (hx : gXok X) (hL : gLay M) (hT : TownOK M) (hl : LeftOK M 25) {EV : EVt} (hC : CourtSem M EV) {x a b w : Int32} :
    gPos X (d + 6) yX10_game cX10_game 6 (some .int) [.ref 0, .int x, .int a, .int b, .int w] M (fun v M2 => v = some (.int (if inG M x a b w then (if w = 0 then gpV (verB M EV (tn x)) (tn a) (tn b) else gbV (verB M EV (tn x)) (tn a) (tn b)) else -1000000)) ∧ gFr scr0 M M2) := by
  refine gMet.of hx (by decide) (Nat.le_of_ble_eq_true rfl) ?_
  refine g_aload_n dX10_game_0 rfl rfl rfl ?_
  refine g_getR dX10_game_1 ff_X10_19 rfl (k0 hL) (r0_1 hL) rfl ?_
  refine g_iload_n dX10_game_4 rfl rfl rfl ?_
  refine g_callVdi (ci := 8) dX10_game_5 lm_X10_158 mv_X8_hasPerson (c_hasPerson (d := d) hx hL) rfl rfl (k3 hL) rfl rfl (Nat.le_of_ble_eq_true rfl) (gFit_room (by omega)) rfl ?_
  refine g_ieq (tgt := 40) dX10_game_8 (by decide) rfl (fun h8 => ?_) (fun h8 => ?_)
  · rw [if_neg (show ¬ inG M x a b w by grind)]
    refine g_ldcw dX10_game_40 lq_X10_301 rfl ?_
    exact g_iret dX10_game_43 rfl (by first | rfl | exact b01) (⟨by first | rfl | assumption | exact gFr.rf | grind [ib], by first | rfl | assumption | exact gFr.rf | grind [ib]⟩)
  · refine g_iload_n dX10_game_11 rfl rfl rfl ?_
    refine g_if_lt (tgt := 40) dX10_game_12 (by decide) rfl (fun h12 => ?_) (fun h12 => ?_)
    · rw [if_neg (show ¬ inG M x a b w by grind)]
      refine g_ldcw dX10_game_40 lq_X10_301 rfl ?_
      exact g_iret dX10_game_43 rfl (by first | rfl | exact b01) (⟨by first | rfl | assumption | exact gFr.rf | grind [ib], by first | rfl | assumption | exact gFr.rf | grind [ib]⟩)
    · refine g_iload_n dX10_game_15 rfl rfl rfl ?_
      refine g_iconst (v := 4) dX10_game_16 (by decide) rfl ?_
      refine g_icmp_ge (tgt := 40) dX10_game_17 (by decide) rfl (fun h17 => ?_) (fun h17 => ?_)
      · rw [if_neg (show ¬ inG M x a b w by grind)]
        refine g_ldcw dX10_game_40 lq_X10_301 rfl ?_
        exact g_iret dX10_game_43 rfl (by first | rfl | exact b01) (⟨by first | rfl | assumption | exact gFr.rf | grind [ib], by first | rfl | assumption | exact gFr.rf | grind [ib]⟩)
      · refine g_iload_n dX10_game_20 rfl rfl rfl ?_
        refine g_if_lt (tgt := 40) dX10_game_21 (by decide) rfl (fun h21 => ?_) (fun h21 => ?_)
        · rw [if_neg (show ¬ inG M x a b w by grind)]
          refine g_ldcw dX10_game_40 lq_X10_301 rfl ?_
          exact g_iret dX10_game_43 rfl (by first | rfl | exact b01) (⟨by first | rfl | assumption | exact gFr.rf | grind [ib], by first | rfl | assumption | exact gFr.rf | grind [ib]⟩)
        · refine g_iload_n dX10_game_24 rfl rfl rfl ?_
          refine g_iconst (v := 3) dX10_game_25 (by decide) rfl ?_
          refine g_icmp_ge (tgt := 40) dX10_game_26 (by decide) rfl (fun h26 => ?_) (fun h26 => ?_)
          · rw [if_neg (show ¬ inG M x a b w by grind)]
            refine g_ldcw dX10_game_40 lq_X10_301 rfl ?_
            exact g_iret dX10_game_43 rfl (by first | rfl | exact b01) (⟨by first | rfl | assumption | exact gFr.rf | grind [ib], by first | rfl | assumption | exact gFr.rf | grind [ib]⟩)
          · refine g_iload dX10_game_29 rfl rfl ?_
            refine g_if_lt (tgt := 40) dX10_game_31 (by decide) rfl (fun h31 => ?_) (fun h31 => ?_)
            · rw [if_neg (show ¬ inG M x a b w by grind)]
              refine g_ldcw dX10_game_40 lq_X10_301 rfl ?_
              exact g_iret dX10_game_43 rfl (by first | rfl | exact b01) (⟨by first | rfl | assumption | exact gFr.rf | grind [ib], by first | rfl | assumption | exact gFr.rf | grind [ib]⟩)
            · refine g_iload dX10_game_34 rfl rfl ?_
              refine g_iconst (v := 1) dX10_game_36 (by decide) rfl ?_
              refine g_icmp_le (tgt := 44) dX10_game_37 (by decide) rfl (fun h37 => ?_) (fun h37 => ?_)
              · rw [if_pos (show inG M x a b w from ⟨h8, ⟨Int32.not_lt.mp h12, Int32.not_le.mp h17⟩, ⟨Int32.not_lt.mp h21, Int32.not_le.mp h26⟩, h31, h37⟩)]
                obtain ⟨ea, la⟩ := in_row (x := a) (b := 4) (n := 4) rfl (by omega) ⟨Int32.not_lt.mp h12, Int32.not_le.mp h17⟩
                obtain ⟨eb, lb⟩ := in_row (x := b) (b := 3) (n := 3) rfl (by omega) ⟨Int32.not_lt.mp h21, Int32.not_le.mp h26⟩
                generalize hka : tn a = ka at ea la
                generalize hkb : tn b = kb at eb lb
                subst ea eb
                obtain ⟨ex_, lk⟩ := in_row hT.1.1 (by have := hT.1.2; omega) (h8)
                have mk := Nat.lt_of_lt_of_le lk hT.1.2
                generalize gk : tn x = k at *
                subst ex_
                refine g_aload_n dX10_game_44 rfl rfl rfl ?_
                refine g_iload_n dX10_game_45 rfl rfl rfl ?_
                refine g_callVq (ci := 10) dX10_game_46 lm_X10_359 mv_X10_verdictsOn (c_verdicts (d := d) hx hL hT hl hC mk) rfl rfl (k0 hL) rfl rfl (Nat.le_of_ble_eq_true rfl) (gFit_room (by omega)) rfl (fun v M2 hQ => ?_)
                obtain ⟨rfl, hf⟩ := hQ
                refine g_istore dX10_game_49 (by decide) rfl ?_
                refine g_iload dX10_game_51 rfl rfl ?_
                refine g_if_ne (tgt := 66) dX10_game_53 (by decide) rfl (fun h53 => ?_) (fun h53 => ?_)
                · refine g_iload dX10_game_66 rfl rfl ?_
                  refine g_iload_n dX10_game_68 rfl rfl rfl ?_
                  refine g_iload_n dX10_game_69 rfl rfl rfl ?_
                  refine g_callSdi dX10_game_70 lm_X10_366 mv_X10_gainOfBarber (c_gainB (d := d) hx la lb) rfl rfl (Nat.le_of_ble_eq_true rfl) (gFit_room (by omega)) rfl ?_
                  exact g_iret dX10_game_73 rfl (by first | rfl | exact b01) (⟨by first | rfl | assumption | exact gFr.rf | grind [ib], by first | rfl | assumption | exact gFr.rf | grind [ib]⟩)
                · refine g_iload dX10_game_56 rfl rfl ?_
                  refine g_iload_n dX10_game_58 rfl rfl rfl ?_
                  refine g_iload_n dX10_game_59 rfl rfl rfl ?_
                  refine g_callSdi dX10_game_60 lm_X10_362 mv_X10_gainOfPerson (c_gainP (d := d) hx la lb) rfl rfl (Nat.le_of_ble_eq_true rfl) (gFit_room (by omega)) rfl ?_
                  refine g_goto (tgt := 73) dX10_game_63 (by decide) ?_
                  exact g_iret dX10_game_73 rfl (by first | rfl | exact b01) (⟨by first | rfl | assumption | exact gFr.rf | grind [ib], by first | rfl | assumption | exact gFr.rf | grind [ib]⟩)
              · rw [if_neg (show ¬ inG M x a b w by grind)]
                refine g_ldcw dX10_game_40 lq_X10_301 rfl ?_
                exact g_iret dX10_game_43 rfl (by first | rfl | exact b01) (⟨by first | rfl | assumption | exact gFr.rf | grind [ib], by first | rfl | assumption | exact gFr.rf | grind [ib]⟩)
/-- the i-th of those with P, as val says it; how many, if i is NONE -/
def fsV (P : Nat → Bool) (val : Nat → Int32) (x : Int32) : Nat → Nat → Nat → Int32
  | 0, _, f => if x = -1 then nI f else -1
  | n + 1, b, f => if P b then (if nI f = x then val b else fsV P val x n (b + 1) (f + 1)) else fsV P val x n (b + 1) f
theorem fsV_s {P : Nat → Bool} {val : Nat → Int32} {x : Int32} {n b f : Nat} : fsV P val x (n + 1) b f = if P b then (if nI f = x then val b else fsV P val x n (b + 1) (f + 1)) else fsV P val x n (b + 1) f := rfl
def resV (k : Nat) : Int32 := nI (10 * (k / 3) + k % 3)
def resB (M : gM) (EV : EVt) (p k : Nat) : Bool := restB (verB M EV p) (k / 3) (k % 3)
set_option maxRecDepth 20000 in
set_option maxHeartbeats 2000000 in
theorem c_rests (hx : gXok X) (hL : gLay M) (hT : TownOK M) (hl : LeftOK M 25) {EV : EVt} (hC : CourtSem M EV) {x z : Int32} :
    gPos X (d + 6) yX10_rests cX10_rests 7 (some .int) [.ref 0, .int x, .int z] M (fun v M2 => v = some (.int (if inP M x then fsV (resB M EV (tn x)) resV z 12 0 0 else -1)) ∧ gFr scr0 M M2) := by
  refine gMet.of hx (by decide) (Nat.le_of_ble_eq_true rfl) ?_
  refine g_aload_n dX10_rests_0 rfl rfl rfl ?_
  refine g_getR dX10_rests_1 ff_X10_19 rfl (k0 hL) (r0_1 hL) rfl ?_
  refine g_iload_n dX10_rests_4 rfl rfl rfl ?_
  refine g_callVdi (ci := 8) dX10_rests_5 lm_X10_158 mv_X8_hasPerson (c_hasPerson (d := d) hx hL) rfl rfl (k3 hL) rfl rfl (Nat.le_of_ble_eq_true rfl) (gFit_room (by omega)) rfl ?_
  refine g_ine (tgt := 13) dX10_rests_8 (by decide) rfl (fun h8 => ?_) (fun h8 => ?_)
  · rw [if_pos h8]
    obtain ⟨ex_, lk⟩ := in_row hT.1.1 (by have := hT.1.2; omega) (h8)
    have mk := Nat.lt_of_lt_of_le lk hT.1.2
    generalize gk : tn x = k at *
    subst ex_
    refine g_aload_n dX10_rests_13 rfl rfl rfl ?_
    refine g_iload_n dX10_rests_14 rfl rfl rfl ?_
    refine g_callVq (ci := 10) dX10_rests_15 lm_X10_359 mv_X10_verdictsOn (c_verdicts (d := d) hx hL hT hl hC mk) rfl rfl (k0 hL) rfl rfl (Nat.le_of_ble_eq_true rfl) (gFit_room (by omega)) rfl (fun v M2 hQ => ?_)
    obtain ⟨rfl, hf⟩ := hQ
    generalize hP : resB M EV k = P
    refine g_istore_n dX10_rests_18 rfl (by decide) rfl ?_
    refine g_iconst (v := 0) dX10_rests_19 (by decide) rfl ?_
    refine g_istore dX10_rests_20 (by decide) rfl ?_
    refine g_iconst (v := 0) dX10_rests_22 (by decide) rfl ?_
    refine g_istore dX10_rests_23 (by decide) rfl ?_
    refine g_loopM (fun i => [(0, .ref 0), (1, .int (nI k)), (2, .int z), (3, .int (nI (bsum (verB M EV k) 12))), (4, .int (nI (fb_ct P (3 * i)))), (5, .int (nI i))]) (fun i M1 => M1 = M2 ∧ fsV P resV z (12 - 3 * i) (3 * i) (fb_ct P (3 * i)) = fsV P resV z 12 0 0) 4 0 (Nat.zero_le _) ⟨rfl, rfl, rfl, rfl, rfl, rfl, trivial⟩ ⟨rfl, rfl⟩ (fun M1 hI => ?_) (fun i M1 _ hi hI ih => ?_)
    · obtain ⟨rfl, hA⟩ := hI
      refine g_iload dX10_rests_25 rfl rfl ?_
      refine g_iconst (v := 4) dX10_rests_27 (by decide) rfl ?_
      refine g_icmp_ge (tgt := 81) dX10_rests_28 (by decide) rfl (fun _ => ?_) (fun h_ => absurd (nI_le (Nat.le_refl 4) (by decide)) h_)
      refine g_iload_n dX10_rests_81 rfl rfl rfl ?_
      refine g_iconst (v := -1) dX10_rests_82 (by decide) rfl ?_
      refine g_icmp_ne (tgt := 91) dX10_rests_83 (by decide) rfl (fun h83 => ?_) (fun h83 => ?_)
      · refine g_iconst (v := -1) dX10_rests_91 (by decide) rfl ?_
        exact g_iret dX10_rests_92 rfl (by first | rfl | exact b01) (⟨by rw [← hA]; first | exact congrArg (fun q => some (Value.int q)) (if_pos h83).symm | exact congrArg (fun q => some (Value.int q)) (if_neg h83).symm, hf⟩)
      · refine g_iload dX10_rests_86 rfl rfl ?_
        refine g_goto (tgt := 92) dX10_rests_88 (by decide) ?_
        exact g_iret dX10_rests_92 rfl (by first | rfl | exact b01) (⟨by rw [← hA]; first | exact congrArg (fun q => some (Value.int q)) (if_pos h83).symm | exact congrArg (fun q => some (Value.int q)) (if_neg h83).symm, hf⟩)
    · obtain ⟨rfl, hA⟩ := hI
      refine g_iload dX10_rests_25 rfl rfl ?_
      refine g_iconst (v := 4) dX10_rests_27 (by decide) rfl ?_
      refine g_icmp_ge (tgt := 81) dX10_rests_28 (by decide) rfl (fun h_ => absurd h_ (nI_ge (b := 4) hi (by decide))) (fun _ => ?_)
      refine g_iconst (v := 0) dX10_rests_31 (by decide) rfl ?_
      refine g_istore dX10_rests_32 (by decide) rfl ?_
      refine g_loopM (fun j => [(0, .ref 0), (1, .int (nI k)), (2, .int z), (3, .int (nI (bsum (verB M EV k) 12))), (4, .int (nI (fb_ct P (3 * i + j)))), (5, .int (nI i)), (6, .int (nI j))]) (fun j M2 => M2 = M1 ∧ fsV P resV z (12 - (3 * i + j)) (3 * i + j) (fb_ct P (3 * i + j)) = fsV P resV z 12 0 0) 3 0 (Nat.zero_le _) ⟨rfl, rfl, rfl, rfl, rfl, rfl, rfl, trivial⟩ ⟨rfl, hA⟩ (fun M2 hJ => ?_) (fun j M2 _ hj hJ jh => ?_)
      · obtain ⟨rfl, hB⟩ := hJ
        refine g_iload dX10_rests_34 rfl rfl ?_
        refine g_iconst (v := 3) dX10_rests_36 (by decide) rfl ?_
        refine g_icmp_ge (tgt := 75) dX10_rests_37 (by decide) rfl (fun _ => ?_) (fun h_ => absurd (nI_le (Nat.le_refl 3) (by decide)) h_)
        refine g_iincV (c := 1) dX10_rests_75 rfl (by decide) (by decide) rfl ?_
        refine g_goto (tgt := 25) dX10_rests_78 (by decide) ?_
        exact g_go (ih M2 ⟨rfl, hB⟩) ⟨rfl, rfl, rfl, rfl, by rw [show 3 * (i + 1) = 3 * i + 3 by omega]; rfl, by rw [← nI_1 i]; rfl, trivial⟩
      · obtain ⟨rfl, hB⟩ := hJ
        have ePi : P (3 * i + j) = restB (verB M EV k) i j := by rw [← hP]; show restB _ ((3 * i + j) / 3) ((3 * i + j) % 3) = _; rw [show (3 * i + j) / 3 = i by omega, show (3 * i + j) % 3 = j by omega]
        rw [show 12 - (3 * i + j) = (12 - (3 * i + (j + 1))) + 1 by omega, fsV_s, ePi] at hB
        refine g_iload dX10_rests_34 rfl rfl ?_
        refine g_iconst (v := 3) dX10_rests_36 (by decide) rfl ?_
        refine g_icmp_ge (tgt := 75) dX10_rests_37 (by decide) rfl (fun h_ => absurd h_ (nI_ge (b := 3) hj (by decide))) (fun _ => ?_)
        refine g_iload_n dX10_rests_40 rfl rfl rfl ?_
        refine g_iload dX10_rests_41 rfl rfl ?_
        refine g_iload dX10_rests_43 rfl rfl ?_
        refine g_callSdi dX10_rests_45 lm_X10_369 mv_X10_isRest (c_isRest (d := d) hx hi hj) rfl rfl (Nat.le_of_ble_eq_true rfl) (gFit_room (by omega)) rfl ?_
        refine g_ieq (tgt := 69) dX10_rests_48 (by decide) rfl (fun h48 => ?_) (fun h48 => ?_)
        · rw [if_neg h48] at hB
          have e1 : fb_ct P (3 * i + (j + 1)) = fb_ct P (3 * i + j) := by rw [← Nat.add_assoc, fb_ct_succ, ePi, if_neg h48]; rfl
          refine g_iincV (c := 1) dX10_rests_69 rfl (by decide) (by decide) rfl ?_
          refine g_goto (tgt := 34) dX10_rests_72 (by decide) ?_
          exact g_go (jh M2 ⟨rfl, by rw [e1]; exact hB⟩) ⟨rfl, rfl, rfl, rfl, by rw [e1]; rfl, rfl, by rw [← nI_1 j]; rfl, trivial⟩
        · rw [if_pos h48] at hB
          refine g_iload dX10_rests_51 rfl rfl ?_
          refine g_iload_n dX10_rests_53 rfl rfl rfl ?_
          refine g_icmp_ne (tgt := 66) dX10_rests_54 (by decide) rfl (fun h54 => ?_) (fun h54 => ?_)
          · rw [if_neg h54] at hB
            have e1 : fb_ct P (3 * i + (j + 1)) = fb_ct P (3 * i + j) + 1 := by rw [← Nat.add_assoc, fb_ct_succ, ePi, if_pos h48]
            refine g_iincV (c := 1) dX10_rests_66 rfl (by decide) (by decide) rfl ?_
            refine g_iincV (c := 1) dX10_rests_69 rfl (by decide) (by decide) rfl ?_
            refine g_goto (tgt := 34) dX10_rests_72 (by decide) ?_
            exact g_go (jh M2 ⟨rfl, by rw [e1]; exact hB⟩) ⟨rfl, rfl, rfl, rfl, by rw [e1, ← nI_1]; rfl, rfl, by rw [← nI_1 j]; rfl, trivial⟩
          · rw [if_pos h54] at hB
            refine g_bipush (v := 10) dX10_rests_57 (by decide) rfl ?_
            refine g_iload dX10_rests_59 rfl rfl ?_
            refine g_imul dX10_rests_61 rfl ?_
            refine g_iload dX10_rests_62 rfl rfl ?_
            refine g_iadd dX10_rests_64 rfl ?_
            exact g_iret dX10_rests_65 rfl (by first | rfl | exact b01) (⟨by rw [← hB]; show _ = some (Value.int (nI (10 * ((3 * i + j) / 3) + (3 * i + j) % 3))); rw [show (3 * i + j) / 3 = i by omega, show (3 * i + j) % 3 = j by omega, ← nI_add, ← pk_mul]; rfl, hf⟩)
  · refine g_iconst (v := -1) dX10_rests_11 (by decide) rfl ?_
    exact g_iret dX10_rests_12 rfl (by first | rfl | exact b01) (⟨by first | rfl | assumption | exact gFr.rf | grind [ib], by first | rfl | assumption | exact gFr.rf | grind [ib]⟩)
end V0
