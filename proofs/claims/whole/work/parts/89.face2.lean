section H2
variable {X : gX} {Mc M : gM} {d n : Nat} {E : Nat → LE} {EV : EVt} {F : Nat → Int32}
theorem R0.e26 (h0 : R0 Mc M n E EV) : gmi M 100 26 = nI (tv Mc 3 7) ∧ gmi M 100 27 = nI (tv Mc 3 8) ∧ tv Mc 3 7 ≤ 6 ∧ tv Mc 3 8 ≤ 8 := ⟨h0.2.2.1.trans h0.2.1.1.1, h0.2.2.2.1.trans h0.2.1.2.1.1, h0.2.1.1.2, h0.2.1.2.1.2⟩
set_option maxRecDepth 20000 in
theorem r_owners (hx : gXok X) (h0 : R0 Mc M n E EV) (hN : RowR M 113 F) {x : Int32} : gDet X (d + 1) yX11_owners cX11_owners 4 (some .int) [.ref 100, .int x] M (some (.int (if inD Mc x then nI (bsum (fun p => decide (¬ F (12 + p * 8 + tn x) ≤ 0)) (tv Mc 3 7)) else -1))) (gwI M 100 0 0) := by
  have hL := h0.1.1
  have h1 := h0.th (v := 0)
  have hT := h0.2.1
  have hN1 := hN.wf (j := 0) (v := 0) (show 113 ≠ 100 by decide)
  obtain ⟨e26, e27, h6, h8⟩ := h1.e26
  refine gMet.of hx (by decide) (Nat.le_of_ble_eq_true rfl) ?_
  by_cases hd : inD Mc x
  · rw [if_pos hd]
    obtain ⟨ex, lx⟩ := in_row hT.2.1.1 (by omega) hd
    have m8 := Nat.lt_of_lt_of_le lx h8
    generalize tn x = k at *
    subst ex
    refine g_aload_n dX11_owners_0 rfl rfl rfl ?_
    refine g_iconst (v := 0) dX11_owners_1 (by decide) rfl ?_
    refine g_putI dX11_owners_2 fp_X11_90 rfl rfl rfl (k100 hL) rfl ?_
    refine g_aload_n dX11_owners_5 rfl rfl rfl ?_
    refine g_iload_n dX11_owners_6 rfl rfl rfl ?_
    refine g_callVdi (ci := 11) dX11_owners_7 lm_X11_347 mv_X11_isDeed (h1.isD (d := d) hx) rfl rfl (k100 (gLay_I hL)) rfl rfl (Nat.le_of_ble_eq_true rfl) (gFit_room (by omega)) rfl ?_
    rw [ib_t hd]
    refine g_if_ne (tgt := 15) dX11_owners_10 (by decide) rfl (fun _ => ?_) (fun h_ => absurd h_ (by decide))
    refine g_iconst (v := 0) dX11_owners_15 (by decide) rfl ?_
    refine g_istore_n dX11_owners_16 rfl (by decide) rfl ?_
    refine g_iconst (v := 0) dX11_owners_17 (by decide) rfl ?_
    refine g_istore_n dX11_owners_18 rfl (by decide) rfl ?_
    refine g_loop (fun i => [(0, .ref 100), (1, .int (nI k)), (2, .int (nI (bsum (fun p => decide (¬ F (12 + p * 8 + k) ≤ 0)) i))), (3, .int (nI i))]) (fun _ => gwI M 100 0 0) (tv Mc 3 7) 0 (by omega) ⟨rfl, rfl, rfl, rfl, trivial⟩ rfl ?_ (fun i _ hi ih => ?_)
    · refine g_iload_n dX11_owners_19 rfl rfl rfl ?_
      refine g_aload_n dX11_owners_20 rfl rfl rfl ?_
      refine g_getI dX11_owners_21 ff_X11_285 rfl (k100 h1.1.1) rfl ?_
      rw [e26]
      refine g_icmp_ge (tgt := 55) dX11_owners_24 (by decide) rfl (fun _ => ?_) (fun h_ => absurd (nI_le (Nat.le_refl _) (by omega)) h_)
      refine g_iload_n dX11_owners_55 rfl rfl rfl ?_
      exact g_iret dX11_owners_56 rfl (by first | rfl | exact b01 | exact nb01 hv01) (⟨by first | rfl | assumption | exact gFr.rf | grind [ib], by first | rfl | assumption | exact gFr.rf | grind [ib]⟩)
    · have hlt := bsum_lt (fun p => decide (¬ F (12 + p * 8 + k) ≤ 0)) i
      have hl := r_left0 (d := d) hx h1.1.1 (Or.inl rfl) hN1 (show i < 6 by omega) m8
      refine g_iload_n dX11_owners_19 rfl rfl rfl ?_
      refine g_aload_n dX11_owners_20 rfl rfl rfl ?_
      refine g_getI dX11_owners_21 ff_X11_285 rfl (k100 h1.1.1) rfl ?_
      rw [e26]
      refine g_icmp_ge (tgt := 55) dX11_owners_24 (by decide) rfl (fun h_ => absurd h_ (nI_ge hi (by omega))) (fun _ => ?_)
      refine g_iload_n dX11_owners_27 rfl rfl rfl ?_
      refine g_aload_n dX11_owners_28 rfl rfl rfl ?_
      refine g_getR dX11_owners_29 ff_X11_61 rfl (k100 h1.1.1) (r100_32 h1.1.1) rfl ?_
      refine g_iload_n dX11_owners_32 rfl rfl rfl ?_
      refine g_iload_n dX11_owners_33 rfl rfl rfl ?_
      refine g_callSdi dX11_owners_34 lm_X11_300 mv_X11_left0 (hl) rfl rfl (Nat.le_of_ble_eq_true rfl) (gFit_room (by omega)) rfl ?_
      refine g_if_le (tgt := 46) dX11_owners_37 (by decide) rfl (fun h37 => ?_) (fun h37 => ?_)
      · refine g_iconst (v := 0) dX11_owners_46 (by decide) rfl ?_
        refine g_ior dX11_owners_47 rfl ?_
        refine g_istore_n dX11_owners_48 rfl (by decide) rfl ?_
        refine g_iincV (c := 1) dX11_owners_49 rfl (by decide) (by decide) rfl ?_
        refine g_goto (tgt := 19) dX11_owners_52 (by decide) ?_
        refine g_go ih ⟨rfl, rfl, ?_, by rw [← nI_1]; rfl, trivial⟩
        first
          | (show some (Value.int (nI (bsum (fun p => decide (¬ F (12 + p * 8 + k) ≤ 0)) i) ||| ((1 : Int32) <<< (nI i &&& 31)))) = some (Value.int (nI (bsum (fun p => decide (¬ F (12 + p * 8 + k) ≤ 0)) i + (if decide (¬ F (12 + i * 8 + k) ≤ 0) then 2 ^ i else 0))))
             rw [bt_or hlt (by omega), decide_eq_true h37]
             rfl)
          | (show some (Value.int (nI (bsum (fun p => decide (¬ F (12 + p * 8 + k) ≤ 0)) i) ||| 0)) = some (Value.int (nI (bsum (fun p => decide (¬ F (12 + p * 8 + k) ≤ 0)) i + (if decide (¬ F (12 + i * 8 + k) ≤ 0) then 2 ^ i else 0))))
             rw [decide_eq_false (fun z => z h37), show (0 : Int32) = nI 0 from rfl, fa_or, Nat.or_zero]
             rfl)
      · refine g_iconst (v := 1) dX11_owners_40 (by decide) rfl ?_
        refine g_iload_n dX11_owners_41 rfl rfl rfl ?_
        refine g_ishl dX11_owners_42 rfl ?_
        refine g_goto (tgt := 47) dX11_owners_43 (by decide) ?_
        refine g_ior dX11_owners_47 rfl ?_
        refine g_istore_n dX11_owners_48 rfl (by decide) rfl ?_
        refine g_iincV (c := 1) dX11_owners_49 rfl (by decide) (by decide) rfl ?_
        refine g_goto (tgt := 19) dX11_owners_52 (by decide) ?_
        refine g_go ih ⟨rfl, rfl, ?_, by rw [← nI_1]; rfl, trivial⟩
        first
          | (show some (Value.int (nI (bsum (fun p => decide (¬ F (12 + p * 8 + k) ≤ 0)) i) ||| ((1 : Int32) <<< (nI i &&& 31)))) = some (Value.int (nI (bsum (fun p => decide (¬ F (12 + p * 8 + k) ≤ 0)) i + (if decide (¬ F (12 + i * 8 + k) ≤ 0) then 2 ^ i else 0))))
             rw [bt_or hlt (by omega), decide_eq_true h37]
             rfl)
          | (show some (Value.int (nI (bsum (fun p => decide (¬ F (12 + p * 8 + k) ≤ 0)) i) ||| 0)) = some (Value.int (nI (bsum (fun p => decide (¬ F (12 + p * 8 + k) ≤ 0)) i + (if decide (¬ F (12 + i * 8 + k) ≤ 0) then 2 ^ i else 0))))
             rw [decide_eq_false (fun z => z h37), show (0 : Int32) = nI 0 from rfl, fa_or, Nat.or_zero]
             rfl)
  · rw [if_neg hd]
    refine g_aload_n dX11_owners_0 rfl rfl rfl ?_
    refine g_iconst (v := 0) dX11_owners_1 (by decide) rfl ?_
    refine g_putI dX11_owners_2 fp_X11_90 rfl rfl rfl (k100 hL) rfl ?_
    refine g_aload_n dX11_owners_5 rfl rfl rfl ?_
    refine g_iload_n dX11_owners_6 rfl rfl rfl ?_
    refine g_callVdi (ci := 11) dX11_owners_7 lm_X11_347 mv_X11_isDeed (h1.isD (d := d) hx) rfl rfl (k100 (gLay_I hL)) rfl rfl (Nat.le_of_ble_eq_true rfl) (gFit_room (by omega)) rfl ?_
    rw [ib_f hd]
    refine g_if_ne (tgt := 15) dX11_owners_10 (by decide) rfl (fun h_ => absurd (by decide) h_) (fun _ => ?_)
    refine g_iconst (v := -1) dX11_owners_13 (by decide) rfl ?_
    exact g_iret dX11_owners_14 rfl (by first | rfl | exact b01 | exact nb01 hv01) (⟨by first | rfl | assumption | exact gFr.rf | grind [ib], by first | rfl | assumption | exact gFr.rf | grind [ib]⟩)
theorem r_wishOf (hx : gXok X) (h0 : R0 Mc M n E EV) (hN : RowR M 113 F) {p D : Nat} (hp : p < tv Mc 3 7) (hD : F 66 = nI D) (hd : D < 2 ^ 30) : gDet X (d + 0) yX11_wishOf cX11_wishOf 2 (some .int) [.ref 100, .int (nI p)] M (some (.int (nI ((tv Mc 6 p + 7 - D % 7) % 7)))) M := by
  have hL := h0.1.1
  have hT := h0.2.1
  obtain ⟨e26, e27, h6, h8⟩ := h0.e26
  obtain ⟨e6, b6⟩ := hT.2.2.2.2.2.2.1 p (by omega)
  have hfk := (h0.2.2.2.2.1 p hp).2.2
  have hm : D % 7 < 7 := Nat.mod_lt _ (by decide)
  refine gMet.of hx (by decide) (Nat.le_of_ble_eq_true rfl) ?_
  refine g_aload_n dX11_wishOf_0 rfl rfl rfl ?_
  refine g_getR dX11_wishOf_1 ff_X11_43 rfl (k100 hL) (r100_20 hL) rfl ?_
  refine g_iconst (v := 3) dX11_wishOf_4 (by decide) rfl ?_
  refine g_iload_n dX11_wishOf_5 rfl rfl rfl ?_
  refine g_imul dX11_wishOf_6 rfl ?_
  refine g_iconst (v := 2) dX11_wishOf_7 (by decide) rfl ?_
  refine g_iadd dX11_wishOf_8 rfl ?_
  rw [show (3 : Int32) = nI 3 from rfl, show (2 : Int32) = nI 2 from rfl, pk_mul, nI_add]
  refine g_iald (i := (3 * p + 2)) dX11_wishOf_9 (k107 hL) (l107 hL) (nI_toInt (by omega)) (by omega) rfl ?_
  rw [hfk, e6]
  refine g_aload_n dX11_wishOf_10 rfl rfl rfl ?_
  refine g_getR dX11_wishOf_11 ff_X11_61 rfl (k100 hL) (r100_32 hL) rfl ?_
  refine g_bipush (v := 65) dX11_wishOf_14 (by decide) rfl ?_
  refine g_iald (i := 65) dX11_wishOf_16 (k113 hL) (l113 hL) rfl (by decide) rfl ?_
  rw [hN 65 (by decide), show cix 65 = 66 from rfl, hD]
  refine g_bipush (v := 7) dX11_wishOf_17 (by decide) rfl ?_
  refine g_irem dX11_wishOf_19 (by decide) rfl ?_
  rw [show (7 : Int32) = nI 7 from rfl, pk_rem (by omega) (by decide) (by decide)]
  refine g_isub dX11_wishOf_20 rfl ?_
  refine g_bipush (v := 7) dX11_wishOf_21 (by decide) rfl ?_
  refine g_iadd dX11_wishOf_23 rfl ?_
  refine g_bipush (v := 7) dX11_wishOf_24 (by decide) rfl ?_
  have e : nI (tv Mc 6 p) - nI (D % 7) + 7 = nI (tv Mc 6 p + 7 - D % 7) := by rw [show (7 : Int32) = nI 7 from rfl, ← pk_sub (by omega : D % 7 ≤ tv Mc 6 p + 7), ← nI_add]; simp only [Int32.sub_eq_add_neg]; ac_rfl
  rw [e]
  refine g_irem dX11_wishOf_26 (by decide) rfl ?_
  rw [show (7 : Int32) = nI 7 from rfl, pk_rem (by omega) (by decide) (by decide)]
  exact g_iret dX11_wishOf_27 rfl (by first | rfl | exact b01 | exact nb01 hv01) (⟨by first | rfl | assumption | exact gFr.rf | grind [ib], by first | rfl | assumption | exact gFr.rf | grind [ib]⟩)
theorem r_wish (hx : gXok X) (h0 : R0 Mc M n E EV) (hN : RowR M 113 F) {D : Nat} (hD : F 66 = nI D) (hd : D < 2 ^ 30) {x : Int32} : gDet X (d + 1) yX11_wish cX11_wish 2 (some .int) [.ref 100, .int x] M (some (.int (if inP Mc x then nI ((tv Mc 6 (tn x) + 7 - D % 7) % 7) else -1))) (gwI M 100 0 0) := by
  have hL := h0.1.1
  have h1 := h0.th (v := 0)
  have hT := h0.2.1
  have hN1 := hN.wf (j := 0) (v := 0) (show 113 ≠ 100 by decide)
  refine gMet.of hx (by decide) (Nat.le_of_ble_eq_true rfl) ?_
  by_cases hp : inP Mc x
  · rw [if_pos hp]
    obtain ⟨ex, lx⟩ := in_row hT.1.1 (by have := hT.1.2; omega) hp
    have hw := r_wishOf (d := d) hx h1 hN1 lx hD hd
    rw [← ex] at hw
    refine g_aload_n dX11_wish_0 rfl rfl rfl ?_
    refine g_iconst (v := 0) dX11_wish_1 (by decide) rfl ?_
    refine g_putI dX11_wish_2 fp_X11_90 rfl rfl rfl (k100 hL) rfl ?_
    refine g_aload_n dX11_wish_5 rfl rfl rfl ?_
    refine g_iload_n dX11_wish_6 rfl rfl rfl ?_
    refine g_callVdi (ci := 11) dX11_wish_7 lm_X11_342 mv_X11_isPerson (h1.isP (d := d) hx) rfl rfl (k100 (gLay_I hL)) rfl rfl (Nat.le_of_ble_eq_true rfl) (gFit_room (by omega)) rfl ?_
    rw [ib_t hp]
    refine g_if_eq (tgt := 21) dX11_wish_10 (by decide) rfl (fun h_ => absurd h_ (by decide)) (fun _ => ?_)
    refine g_aload_n dX11_wish_13 rfl rfl rfl ?_
    refine g_iload_n dX11_wish_14 rfl rfl rfl ?_
    refine g_callVdi (ci := 11) dX11_wish_15 lm_X11_465 mv_X11_wishOf (hw) rfl rfl (k100 (gLay_I hL)) rfl rfl (Nat.le_of_ble_eq_true rfl) (gFit_room (by omega)) rfl ?_
    refine g_goto (tgt := 22) dX11_wish_18 (by decide) ?_
    exact g_iret dX11_wish_22 rfl (by first | rfl | exact b01 | exact nb01 hv01) (⟨by first | rfl | assumption | exact gFr.rf | grind [ib], by first | rfl | assumption | exact gFr.rf | grind [ib]⟩)
  · rw [if_neg hp]
    refine g_aload_n dX11_wish_0 rfl rfl rfl ?_
    refine g_iconst (v := 0) dX11_wish_1 (by decide) rfl ?_
    refine g_putI dX11_wish_2 fp_X11_90 rfl rfl rfl (k100 hL) rfl ?_
    refine g_aload_n dX11_wish_5 rfl rfl rfl ?_
    refine g_iload_n dX11_wish_6 rfl rfl rfl ?_
    refine g_callVdi (ci := 11) dX11_wish_7 lm_X11_342 mv_X11_isPerson (h1.isP (d := d) hx) rfl rfl (k100 (gLay_I hL)) rfl rfl (Nat.le_of_ble_eq_true rfl) (gFit_room (by omega)) rfl ?_
    rw [ib_f hp]
    refine g_if_eq (tgt := 21) dX11_wish_10 (by decide) rfl (fun _ => ?_) (fun h_ => absurd (by decide) h_)
    refine g_iconst (v := -1) dX11_wish_21 (by decide) rfl ?_
    exact g_iret dX11_wish_22 rfl (by first | rfl | exact b01 | exact nb01 hv01) (⟨by first | rfl | assumption | exact gFr.rf | grind [ib], by first | rfl | assumption | exact gFr.rf | grind [ib]⟩)
/-- the longest of what is left, by rows -/
def mxLF (F : Nat → Int32) (p : Nat) (a : Int32) : Nat → Int32
  | 0 => a
  | n + 1 => imax (mxLF F p a n) (F (12 + p * 8 + n))
def mxPF (F : Nat → Int32) (D : Nat) : Nat → Int32
  | 0 => 0
  | n + 1 => mxLF F n (mxPF F D n) D
theorem mxL_F (M : gM) (p : Nat) (a : Int32) : ∀ k, mxL M p a k = mxLF (gmi M 25) p a k
  | 0 => rfl
  | k + 1 => by show imax (mxL M p a k) _ = imax (mxLF (gmi M 25) p a k) _; rw [mxL_F M p a k]
theorem mxP_F (M : gM) : ∀ k, mxP M k = mxPF (gmi M 25) (tv M 3 8) k
  | 0 => rfl
  | k + 1 => by show mxL M k (mxP M k) (tv M 3 8) = mxLF (gmi M 25) k (mxPF (gmi M 25) (tv M 3 8) k) (tv M 3 8); rw [mxL_F, mxP_F M k]
set_option maxRecDepth 20000 in
theorem r_clean (hx : gXok X) (h0 : R0 Mc M n E EV) (hN : RowR M 113 F) : gDet X (d + 1) yX11_clean cX11_clean 4 (some .int) [.ref 100] M (some (.int (if gmi Mc 3 7 = 0 then -1 else mxPF F (tv Mc 3 8) (tv Mc 3 7)))) (gwI M 100 0 0) := by
  have hL := h0.1.1
  have h1 := h0.th (v := 0)
  have hN1 := hN.wf (j := 0) (v := 0) (show 113 ≠ 100 by decide)
  obtain ⟨e26, e27, h6, h8⟩ := h1.e26
  have e26c : gmi (gwI M 100 0 0) 100 26 = gmi Mc 3 7 := h1.2.2.1
  refine gMet.of hx (by decide) (Nat.le_of_ble_eq_true rfl) ?_
  by_cases hp : gmi Mc 3 7 = 0
  · rw [if_pos hp]
    refine g_aload_n dX11_clean_0 rfl rfl rfl ?_
    refine g_iconst (v := 0) dX11_clean_1 (by decide) rfl ?_
    refine g_putI dX11_clean_2 fp_X11_90 rfl rfl rfl (k100 hL) rfl ?_
    refine g_aload_n dX11_clean_5 rfl rfl rfl ?_
    refine g_getI dX11_clean_6 ff_X11_285 rfl (k100 (gLay_I hL)) rfl ?_
    rw [e26c]
    refine g_if_ne (tgt := 14) dX11_clean_9 (by decide) rfl (fun h_ => absurd (hp) h_) (fun _ => ?_)
    refine g_iconst (v := -1) dX11_clean_12 (by decide) rfl ?_
    exact g_iret dX11_clean_13 rfl (by first | rfl | exact b01 | exact nb01 hv01) (⟨by first | rfl | assumption | exact gFr.rf | grind [ib], by first | rfl | assumption | exact gFr.rf | grind [ib]⟩)
  · rw [if_neg hp]
    refine g_aload_n dX11_clean_0 rfl rfl rfl ?_
    refine g_iconst (v := 0) dX11_clean_1 (by decide) rfl ?_
    refine g_putI dX11_clean_2 fp_X11_90 rfl rfl rfl (k100 hL) rfl ?_
    refine g_aload_n dX11_clean_5 rfl rfl rfl ?_
    refine g_getI dX11_clean_6 ff_X11_285 rfl (k100 (gLay_I hL)) rfl ?_
    rw [e26c]
    refine g_if_ne (tgt := 14) dX11_clean_9 (by decide) rfl (fun _ => ?_) (fun h_ => absurd h_ (hp))
    refine g_iconst (v := 0) dX11_clean_14 (by decide) rfl ?_
    refine g_istore_n dX11_clean_15 rfl (by decide) rfl ?_
    refine g_iconst (v := 0) dX11_clean_16 (by decide) rfl ?_
    refine g_istore_n dX11_clean_17 rfl (by decide) rfl ?_
    refine g_loop (fun i => [(0, .ref 100), (1, .int (mxPF F (tv Mc 3 8) i)), (2, .int (nI i))]) (fun _ => gwI M 100 0 0) (tv Mc 3 7) 0 (by omega) ⟨rfl, rfl, rfl, trivial⟩ rfl ?_ (fun i _ hi ih => ?_)
    · refine g_iload_n dX11_clean_18 rfl rfl rfl ?_
      refine g_aload_n dX11_clean_19 rfl rfl rfl ?_
      refine g_getI dX11_clean_20 ff_X11_285 rfl (k100 h1.1.1) rfl ?_
      rw [e26]
      refine g_icmp_ge (tgt := 62) dX11_clean_23 (by decide) rfl (fun _ => ?_) (fun h_ => absurd (nI_le (Nat.le_refl _) (by omega)) h_)
      refine g_iload_n dX11_clean_62 rfl rfl rfl ?_
      exact g_iret dX11_clean_63 rfl (by first | rfl | exact b01 | exact nb01 hv01) (⟨by first | rfl | assumption | exact gFr.rf | grind [ib], by first | rfl | assumption | exact gFr.rf | grind [ib]⟩)
    · refine g_iload_n dX11_clean_18 rfl rfl rfl ?_
      refine g_aload_n dX11_clean_19 rfl rfl rfl ?_
      refine g_getI dX11_clean_20 ff_X11_285 rfl (k100 h1.1.1) rfl ?_
      rw [e26]
      refine g_icmp_ge (tgt := 62) dX11_clean_23 (by decide) rfl (fun h_ => absurd h_ (nI_ge hi (by omega))) (fun _ => ?_)
      refine g_iconst (v := 0) dX11_clean_26 (by decide) rfl ?_
      refine g_istore_n dX11_clean_27 rfl (by decide) rfl ?_
      refine g_loop (fun j => [(0, .ref 100), (1, .int (mxLF F i (mxPF F (tv Mc 3 8) i) j)), (2, .int (nI i)), (3, .int (nI j))]) (fun _ => gwI M 100 0 0) (tv Mc 3 8) 0 (by omega) ⟨rfl, rfl, rfl, rfl, trivial⟩ rfl ?_ (fun j _ hj ih2 => ?_)
      · refine g_iload_n dX11_clean_28 rfl rfl rfl ?_
        refine g_aload_n dX11_clean_29 rfl rfl rfl ?_
        refine g_getI dX11_clean_30 ff_X11_288 rfl (k100 h1.1.1) rfl ?_
        rw [e27]
        refine g_icmp_ge (tgt := 56) dX11_clean_33 (by decide) rfl (fun _ => ?_) (fun h_ => absurd (nI_le (Nat.le_refl _) (by omega)) h_)
        refine g_iincV (c := 1) dX11_clean_56 rfl (by decide) (by decide) rfl ?_
        refine g_goto (tgt := 18) dX11_clean_59 (by decide) ?_
        exact g_go ih ⟨rfl, rfl, by rw [← nI_1 i]; rfl, trivial⟩
      · have hl := r_left0 (d := d) hx h1.1.1 (Or.inl rfl) hN1 (show i < 6 by omega) (show j < 8 by omega)
        refine g_iload_n dX11_clean_28 rfl rfl rfl ?_
        refine g_aload_n dX11_clean_29 rfl rfl rfl ?_
        refine g_getI dX11_clean_30 ff_X11_288 rfl (k100 h1.1.1) rfl ?_
        rw [e27]
        refine g_icmp_ge (tgt := 56) dX11_clean_33 (by decide) rfl (fun h_ => absurd h_ (nI_ge hj (by omega))) (fun _ => ?_)
        refine g_iload_n dX11_clean_36 rfl rfl rfl ?_
        refine g_aload_n dX11_clean_37 rfl rfl rfl ?_
        refine g_getR dX11_clean_38 ff_X11_61 rfl (k100 h1.1.1) (r100_32 h1.1.1) rfl ?_
        refine g_iload_n dX11_clean_41 rfl rfl rfl ?_
        refine g_iload_n dX11_clean_42 rfl rfl rfl ?_
        refine g_callSdi dX11_clean_43 lm_X11_300 mv_X11_left0 (hl) rfl rfl (Nat.le_of_ble_eq_true rfl) (gFit_room (by omega)) rfl ?_
        refine g_callSdi dX11_clean_46 lm_X11_318 mv_J9_max_7cf53 (c_max (d := d) hx) rfl rfl (Nat.le_of_ble_eq_true rfl) (gFit_room (by omega)) rfl ?_
        refine g_istore_n dX11_clean_49 rfl (by decide) rfl ?_
        refine g_iincV (c := 1) dX11_clean_50 rfl (by decide) (by decide) rfl ?_
        refine g_goto (tgt := 28) dX11_clean_53 (by decide) ?_
        exact g_go ih2 ⟨rfl, rfl, rfl, by rw [← nI_1 j]; rfl, trivial⟩
def guAF (Mc : gM) (F : Nat → Int32) : Nat → Nat
  | 0 => 0
  | k + 1 => guAF Mc F k + heft Mc (dsF F (tv Mc 3 8) k 0)
theorem guAll_F (M : gM) : ∀ k, guAll M k = guAF M (gmi M 25) k
  | 0 => rfl
  | k + 1 => by show guAll M k + heft M (dset M 25 k 0) = guAF M (gmi M 25) k + heft M (dsF (gmi M 25) (tv M 3 8) k 0); rw [guAll_F M k]; rfl
theorem guAF_le {Mc : gM} (hT : TownOK Mc) : ∀ k, guAF Mc F k ≤ 100 * k
  | 0 => Nat.le_refl _
  | k + 1 => by
    have h1 := guAF_le hT k
    have h2 := heft_72 (b := dsF F (tv Mc 3 8) k 0) hT
    show guAF Mc F k + heft Mc (dsF F (tv Mc 3 8) k 0) ≤ 100 * (k + 1)
    omega
set_option maxRecDepth 20000 in
theorem r_shares (hx : gXok X) (h0 : R0 Mc M n E EV) (hN : RowR M 113 F) (hF : LeftF F) {x z : Int32} : gDet X (d + 3) yX11_shares cX11_shares 5 (some .int) [.ref 100, .int x, .int z] M (some (.int (if inP Mc x ∧ ¬ z < 0 ∧ z ≤ 999 then (if guAF Mc F (tv Mc 3 7) = 0 then 0 else z * nI (heft Mc (dsF F (tv Mc 3 8) (tn x) 0)) / nI (guAF Mc F (tv Mc 3 7))) else -1))) (gwI M 100 0 0) := by
  have hL := h0.1.1
  have h1 := h0.th (v := 0)
  have hT := h0.2.1
  have hN1 := hN.wf (j := 0) (v := 0) (show 113 ≠ 100 by decide)
  obtain ⟨e26, e27, h6, h8⟩ := h1.e26
  refine gMet.of hx (by decide) (Nat.le_of_ble_eq_true rfl) ?_
  by_cases hp : inP Mc x
  · obtain ⟨ex, lx⟩ := in_row hT.1.1 (by omega) hp
    have hgx := r_guiltOf (d := d) hx h1 hN1 hF (show tn x < 6 by omega)
    rw [← ex] at hgx
    by_cases hz : 0 ≤ z ∧ z ≤ 999
    · rw [if_pos ⟨hp, Int32.not_lt.mpr hz.1, hz.2⟩]
      refine g_aload_n dX11_shares_0 rfl rfl rfl ?_
      refine g_iconst (v := 0) dX11_shares_1 (by decide) rfl ?_
      refine g_putI dX11_shares_2 fp_X11_90 rfl rfl rfl (k100 hL) rfl ?_
      refine g_aload_n dX11_shares_5 rfl rfl rfl ?_
      refine g_iload_n dX11_shares_6 rfl rfl rfl ?_
      refine g_callVdi (ci := 11) dX11_shares_7 lm_X11_342 mv_X11_isPerson (h1.isP (d := d + 2) hx) rfl rfl (k100 (gLay_I hL)) rfl rfl (Nat.le_of_ble_eq_true rfl) (gFit_room (by omega)) rfl ?_
      rw [ib_t hp]
      refine g_if_eq (tgt := 25) dX11_shares_10 (by decide) rfl (fun h_ => absurd h_ (by decide)) (fun _ => ?_)
      refine g_iload_n dX11_shares_13 rfl rfl rfl ?_
      refine g_i2l dX11_shares_14 rfl ?_
      refine g_lconst (v := 0) dX11_shares_15 (by decide) rfl ?_
      refine g_ldc2 dX11_shares_16 lq_X11_463 rfl ?_
      refine g_callSdi dX11_shares_19 lm_X11_211 mv_X11_isIn (r_isIn (d := d + 2) (l := 0) (h := 999) hx rfl (by decide) (by decide)) rfl rfl (Nat.le_of_ble_eq_true rfl) (gFit_room (by omega)) rfl ?_
      rw [ib_t hz]
      refine g_if_ne (tgt := 27) dX11_shares_22 (by decide) rfl (fun _ => ?_) (fun h_ => absurd h_ (by decide))
      refine g_iconst (v := 0) dX11_shares_27 (by decide) rfl ?_
      refine g_istore_n dX11_shares_28 rfl (by decide) rfl ?_
      refine g_iconst (v := 0) dX11_shares_29 (by decide) rfl ?_
      refine g_istore dX11_shares_30 (by decide) rfl ?_
      refine g_loop (fun i => [(0, .ref 100), (1, .int x), (2, .int z), (3, .int (nI (guAF Mc F i))), (4, .int (nI i))]) (fun _ => gwI M 100 0 0) (tv Mc 3 7) 0 (by omega) ⟨rfl, rfl, rfl, rfl, rfl, trivial⟩ rfl ?_ (fun i _ hi ih => ?_)
      · have hle := guAF_le (F := F) hT (tv Mc 3 7)
        by_cases hs0 : guAF Mc F (tv Mc 3 7) = 0
        · rw [if_pos hs0]
          refine g_iload dX11_shares_32 rfl rfl ?_
          refine g_aload_n dX11_shares_34 rfl rfl rfl ?_
          refine g_getI dX11_shares_35 ff_X11_285 rfl (k100 h1.1.1) rfl ?_
          rw [e26]
          refine g_icmp_ge (tgt := 56) dX11_shares_38 (by decide) rfl (fun _ => ?_) (fun h_ => absurd (nI_le (Nat.le_refl _) (by omega)) h_)
          refine g_iload_n dX11_shares_56 rfl rfl rfl ?_
          rw [hs0]
          refine g_if_ne (tgt := 64) dX11_shares_57 (by decide) rfl (fun h_ => absurd (rfl) h_) (fun _ => ?_)
          refine g_iconst (v := 0) dX11_shares_60 (by decide) rfl ?_
          refine g_goto (tgt := 73) dX11_shares_61 (by decide) ?_
          exact g_iret dX11_shares_73 rfl (by first | rfl | exact b01 | exact nb01 hv01) (⟨by first | rfl | assumption | exact gFr.rf | grind [ib], by first | rfl | assumption | exact gFr.rf | grind [ib]⟩)
        · rw [if_neg hs0]
          have hne : ¬ nI (guAF Mc F (tv Mc 3 7)) = 0 := fun q => hs0 ((qeq _ 0 rfl rfl (by omega) (by decide)).mp q)
          refine g_iload dX11_shares_32 rfl rfl ?_
          refine g_aload_n dX11_shares_34 rfl rfl rfl ?_
          refine g_getI dX11_shares_35 ff_X11_285 rfl (k100 h1.1.1) rfl ?_
          rw [e26]
          refine g_icmp_ge (tgt := 56) dX11_shares_38 (by decide) rfl (fun _ => ?_) (fun h_ => absurd (nI_le (Nat.le_refl _) (by omega)) h_)
          refine g_iload_n dX11_shares_56 rfl rfl rfl ?_
          refine g_if_ne (tgt := 64) dX11_shares_57 (by decide) rfl (fun _ => ?_) (fun h_ => absurd h_ (hne))
          refine g_iload_n dX11_shares_64 rfl rfl rfl ?_
          refine g_aload_n dX11_shares_65 rfl rfl rfl ?_
          refine g_iload_n dX11_shares_66 rfl rfl rfl ?_
          refine g_callVdi (ci := 11) dX11_shares_67 lm_X11_361 mv_X11_guiltOf (hgx) rfl rfl (k100 h1.1.1) rfl rfl (Nat.le_of_ble_eq_true rfl) (gFit_room (by omega)) rfl ?_
          refine g_imul dX11_shares_70 rfl ?_
          refine g_iload_n dX11_shares_71 rfl rfl rfl ?_
          refine g_idiv dX11_shares_72 hne rfl ?_
          exact g_iret dX11_shares_73 rfl (by first | rfl | exact b01 | exact nb01 hv01) (⟨by first | rfl | assumption | exact gFr.rf | grind [ib], by first | rfl | assumption | exact gFr.rf | grind [ib]⟩)
      · have hle := guAF_le (F := F) hT i
        have hgi := r_guiltOf (d := d) hx h1 hN1 hF (show i < 6 by omega)
        refine g_iload dX11_shares_32 rfl rfl ?_
        refine g_aload_n dX11_shares_34 rfl rfl rfl ?_
        refine g_getI dX11_shares_35 ff_X11_285 rfl (k100 h1.1.1) rfl ?_
        rw [e26]
        refine g_icmp_ge (tgt := 56) dX11_shares_38 (by decide) rfl (fun h_ => absurd h_ (nI_ge hi (by omega))) (fun _ => ?_)
        refine g_iload_n dX11_shares_41 rfl rfl rfl ?_
        refine g_aload_n dX11_shares_42 rfl rfl rfl ?_
        refine g_iload dX11_shares_43 rfl rfl ?_
        refine g_callVdi (ci := 11) dX11_shares_45 lm_X11_361 mv_X11_guiltOf (hgi) rfl rfl (k100 h1.1.1) rfl rfl (Nat.le_of_ble_eq_true rfl) (gFit_room (by omega)) rfl ?_
        refine g_iadd dX11_shares_48 rfl ?_
        rw [nI_add]
        refine g_istore_n dX11_shares_49 rfl (by decide) rfl ?_
        refine g_iincV (c := 1) dX11_shares_50 rfl (by decide) (by decide) rfl ?_
        refine g_goto (tgt := 32) dX11_shares_53 (by decide) ?_
        exact g_go ih ⟨rfl, rfl, rfl, rfl, by rw [← nI_1 i]; rfl, trivial⟩
    · rw [if_neg (fun q => hz ⟨Int32.not_lt.mp q.2.1, q.2.2⟩)]
      refine g_aload_n dX11_shares_0 rfl rfl rfl ?_
      refine g_iconst (v := 0) dX11_shares_1 (by decide) rfl ?_
      refine g_putI dX11_shares_2 fp_X11_90 rfl rfl rfl (k100 hL) rfl ?_
      refine g_aload_n dX11_shares_5 rfl rfl rfl ?_
      refine g_iload_n dX11_shares_6 rfl rfl rfl ?_
      refine g_callVdi (ci := 11) dX11_shares_7 lm_X11_342 mv_X11_isPerson (h1.isP (d := d + 2) hx) rfl rfl (k100 (gLay_I hL)) rfl rfl (Nat.le_of_ble_eq_true rfl) (gFit_room (by omega)) rfl ?_
      rw [ib_t hp]
      refine g_if_eq (tgt := 25) dX11_shares_10 (by decide) rfl (fun h_ => absurd h_ (by decide)) (fun _ => ?_)
      refine g_iload_n dX11_shares_13 rfl rfl rfl ?_
      refine g_i2l dX11_shares_14 rfl ?_
      refine g_lconst (v := 0) dX11_shares_15 (by decide) rfl ?_
      refine g_ldc2 dX11_shares_16 lq_X11_463 rfl ?_
      refine g_callSdi dX11_shares_19 lm_X11_211 mv_X11_isIn (r_isIn (d := d + 2) (l := 0) (h := 999) hx rfl (by decide) (by decide)) rfl rfl (Nat.le_of_ble_eq_true rfl) (gFit_room (by omega)) rfl ?_
      rw [ib_f hz]
      refine g_if_ne (tgt := 27) dX11_shares_22 (by decide) rfl (fun h_ => absurd (by decide) h_) (fun _ => ?_)
      refine g_iconst (v := -1) dX11_shares_25 (by decide) rfl ?_
      exact g_iret dX11_shares_26 rfl (by first | rfl | exact b01 | exact nb01 hv01) (⟨by first | rfl | assumption | exact gFr.rf | grind [ib], by first | rfl | assumption | exact gFr.rf | grind [ib]⟩)
  · rw [if_neg (fun q => hp q.1)]
    refine g_aload_n dX11_shares_0 rfl rfl rfl ?_
    refine g_iconst (v := 0) dX11_shares_1 (by decide) rfl ?_
    refine g_putI dX11_shares_2 fp_X11_90 rfl rfl rfl (k100 hL) rfl ?_
    refine g_aload_n dX11_shares_5 rfl rfl rfl ?_
    refine g_iload_n dX11_shares_6 rfl rfl rfl ?_
    refine g_callVdi (ci := 11) dX11_shares_7 lm_X11_342 mv_X11_isPerson (h1.isP (d := d + 2) hx) rfl rfl (k100 (gLay_I hL)) rfl rfl (Nat.le_of_ble_eq_true rfl) (gFit_room (by omega)) rfl ?_
    rw [ib_f hp]
    refine g_if_eq (tgt := 25) dX11_shares_10 (by decide) rfl (fun _ => ?_) (fun h_ => absurd (by decide) h_)
    refine g_iconst (v := -1) dX11_shares_25 (by decide) rfl ?_
    exact g_iret dX11_shares_26 rfl (by first | rfl | exact b01 | exact nb01 hv01) (⟨by first | rfl | assumption | exact gFr.rf | grind [ib], by first | rfl | assumption | exact gFr.rf | grind [ib]⟩)
end H2
