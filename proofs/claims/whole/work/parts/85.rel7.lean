section G7
variable {X : gX} {Mc M : gM} {d n : Nat} {E : Nat → LE} {EV : EVt} {w p e : Nat} {F : Nat → Int32}
def smoF (F : Nat → Int32) (P : Nat) : Nat := bsum (fun p => decide (F p = 0)) P
def wisF (Mc : gM) (F : Nat → Int32) : Nat → Bool := fun p => (smoF F (tv Mc 3 7)).testBit p && decide (gmi Mc 6 p = F 66 - F 66 / 7 * 7)
def ageF (F : Nat → Int32) (D P : Nat) : Nat → Int32 := va_up (va_up (va_up (ag F D P 0 0) 60 0) 61 0) 66 (va_up (va_up (ag F D P 0 0) 60 0) 61 0 66 + 1)
def dayF (Mc : gM) (F : Nat → Int32) : Nat → Int32 := ageF (va_up F 64 (imin 9999 (F 64 + nI (fb_ct (wisF Mc F) (tv Mc 3 7))))) (tv Mc 3 8) (tv Mc 3 7)
theorem dayR_F (M : gM) (r : Nat) : dayR M r = dayF M (gmi M r) := rfl
theorem RowR.hi {i : Nat} {v : Int32} (h : RowR M w F) (hi : 67 ≤ i) : RowR (gwI M w i v) w F := fun k hk => by rw [gmi_I, va_up_ne _ _ (by omega)]; exact h k hk
set_option maxRecDepth 20000 in
theorem r_smooth (hx : gXok X) (h0 : R0 Mc M n E EV) (hw : w = 113 ∨ w = 114) (hR : RowR M w F) : gDet X (d + 0) yX11_smooth cX11_smooth 4 (some .int) [.ref 100, .ref w] M (some (.int (nI (smoF F (tv Mc 3 7))))) M := by
  have hL := h0.1.1
  have hP := h0.2.1.1
  have h6 := hP.2
  have e26 : gmi M 100 26 = nI (tv Mc 3 7) := h0.2.2.1.trans hP.1
  obtain ⟨k_w, l_w⟩ := wlay hL hw
  refine gMet.of hx (by decide) (Nat.le_of_ble_eq_true rfl) ?_
  unfold smoF
  refine g_iconst (v := 0) dX11_smooth_0 (by decide) rfl ?_
  refine g_istore_n dX11_smooth_1 rfl (by decide) rfl ?_
  refine g_iconst (v := 0) dX11_smooth_2 (by decide) rfl ?_
  refine g_istore_n dX11_smooth_3 rfl (by decide) rfl ?_
  refine g_loop (fun i => [(0, .ref 100), (1, .ref w), (2, .int (nI (bsum (fun p => decide (F p = 0)) i))), (3, .int (nI i))]) (fun _ => M) (tv Mc 3 7) 0 (by omega) ⟨rfl, rfl, rfl, rfl, trivial⟩ rfl ?_ (fun i _ hi ih => ?_)
  · refine g_iload_n dX11_smooth_4 rfl rfl rfl ?_
    refine g_aload_n dX11_smooth_5 rfl rfl rfl ?_
    refine g_getI dX11_smooth_6 ff_X11_285 rfl (k100 hL) rfl ?_
    rw [e26]
    refine g_icmp_ge (tgt := 39) dX11_smooth_9 (by decide) rfl (fun _ => ?_) (fun h_ => absurd (nI_le (Nat.le_refl _) (by omega)) h_)
    refine g_iload_n dX11_smooth_39 rfl rfl rfl ?_
    exact g_iret dX11_smooth_40 rfl (by first | rfl | exact b01 | exact nb01 hv01) (⟨by first | rfl | assumption | exact gFr.rf | grind [ib], by first | rfl | assumption | exact gFr.rf | grind [ib]⟩)
  · have hlt := bsum_lt (fun p => decide (F p = 0)) i
    refine g_iload_n dX11_smooth_4 rfl rfl rfl ?_
    refine g_aload_n dX11_smooth_5 rfl rfl rfl ?_
    refine g_getI dX11_smooth_6 ff_X11_285 rfl (k100 hL) rfl ?_
    rw [e26]
    refine g_icmp_ge (tgt := 39) dX11_smooth_9 (by decide) rfl (fun h_ => absurd h_ (nI_ge hi (by omega))) (fun _ => ?_)
    refine g_iload_n dX11_smooth_12 rfl rfl rfl ?_
    refine g_aload_n dX11_smooth_13 rfl rfl rfl ?_
    refine g_bipush (v := 10) dX11_smooth_14 (by decide) rfl ?_
    refine g_iload_n dX11_smooth_16 rfl rfl rfl ?_
    refine g_imul dX11_smooth_17 rfl ?_
    refine g_iconst (v := 0) dX11_smooth_18 (by decide) rfl ?_
    refine g_iadd dX11_smooth_19 rfl ?_
    rw [show (10 : Int32) = nI 10 from rfl, show (0 : Int32) = nI 0 from rfl, pk_mul, nI_add, Nat.add_zero]
    refine g_iald (i := (10 * i)) dX11_smooth_20 (k_w) (l_w) (nI_toInt (by omega)) (by omega) rfl ?_
    rw [hR _ (by omega), cix_b i (by omega)]
    refine g_if_ne (tgt := 30) dX11_smooth_21 (by decide) rfl (fun h21 => ?_) (fun h21 => ?_)
    · refine g_iconst (v := 0) dX11_smooth_30 (by decide) rfl ?_
      refine g_ior dX11_smooth_31 rfl ?_
      refine g_istore_n dX11_smooth_32 rfl (by decide) rfl ?_
      refine g_iincV (c := 1) dX11_smooth_33 rfl (by decide) (by decide) rfl ?_
      refine g_goto (tgt := 4) dX11_smooth_36 (by decide) ?_
      refine g_go ih ⟨rfl, rfl, ?_, by rw [← nI_1]; rfl, trivial⟩
      first
        | (show some (Value.int (nI (bsum (fun p => decide (F p = 0)) i) ||| ((1 : Int32) <<< (nI i &&& 31)))) = some (Value.int (nI (bsum (fun p => decide (F p = 0)) i + (if decide (F i = 0) then 2 ^ i else 0))))
           rw [bt_or hlt (by omega), decide_eq_true h21]
           rfl)
        | (show some (Value.int (nI (bsum (fun p => decide (F p = 0)) i) ||| 0)) = some (Value.int (nI (bsum (fun p => decide (F p = 0)) i + (if decide (F i = 0) then 2 ^ i else 0))))
           rw [decide_eq_false h21, show (0 : Int32) = nI 0 from rfl, fa_or, Nat.or_zero]
           rfl)
    · refine g_iconst (v := 1) dX11_smooth_24 (by decide) rfl ?_
      refine g_iload_n dX11_smooth_25 rfl rfl rfl ?_
      refine g_ishl dX11_smooth_26 rfl ?_
      refine g_goto (tgt := 31) dX11_smooth_27 (by decide) ?_
      refine g_ior dX11_smooth_31 rfl ?_
      refine g_istore_n dX11_smooth_32 rfl (by decide) rfl ?_
      refine g_iincV (c := 1) dX11_smooth_33 rfl (by decide) (by decide) rfl ?_
      refine g_goto (tgt := 4) dX11_smooth_36 (by decide) ?_
      refine g_go ih ⟨rfl, rfl, ?_, by rw [← nI_1]; rfl, trivial⟩
      first
        | (show some (Value.int (nI (bsum (fun p => decide (F p = 0)) i) ||| ((1 : Int32) <<< (nI i &&& 31)))) = some (Value.int (nI (bsum (fun p => decide (F p = 0)) i + (if decide (F i = 0) then 2 ^ i else 0))))
           rw [bt_or hlt (by omega), decide_eq_true h21]
           rfl)
        | (show some (Value.int (nI (bsum (fun p => decide (F p = 0)) i) ||| 0)) = some (Value.int (nI (bsum (fun p => decide (F p = 0)) i + (if decide (F i = 0) then 2 ^ i else 0))))
           rw [decide_eq_false h21, show (0 : Int32) = nI 0 from rfl, fa_or, Nat.or_zero]
           rfl)
set_option maxRecDepth 20000 in
set_option maxHeartbeats 1000000 in
theorem r_ages (hx : gXok X) (h0 : R0 Mc M n E EV) (hw : w = 113 ∨ w = 114) (hR : RowR M w F) : gPos X (d + 1) yX11_ages cX11_ages 4 none [.ref 100, .ref w] M (fun v M2 => v = none ∧ RW M M2 w (ageF F (tv Mc 3 8) (tv Mc 3 7))) := by
  have hT := h0.2.1
  have h6 := hT.1.2
  have h8 := hT.2.1.2
  have fld : ∀ M1, gFr (fun c => c = w) M M1 → gmi M1 100 26 = nI (tv Mc 3 7) ∧ gmi M1 100 27 = nI (tv Mc 3 8) := fun M1 hf => by
    rw [hf.2.2.2 100 (by omega)]
    exact ⟨h0.2.2.1.trans hT.1.1, h0.2.2.2.1.trans hT.2.1.1⟩
  refine gMet.of hx (by decide) (Nat.le_of_ble_eq_true rfl) ?_
  have hL0 := h0.1.1
  unfold ageF
  refine g_iconst (v := 0) dX11_ages_0 (by decide) rfl ?_
  refine g_istore_n dX11_ages_1 rfl (by decide) rfl ?_
  refine g_loopM (fun i => [(0, .ref 100), (1, .ref w), (2, .int (nI i))]) (fun i M1 => RW M M1 w (ag F (tv Mc 3 8) i 0 0)) (tv Mc 3 7) 0 (by omega) ⟨rfl, rfl, rfl, trivial⟩ (by rw [ag_0]; exact RW.rf hR) (fun M1 hI => ?_) (fun i M1 _ hi hI ih => ?_)
  · have hL := hI.1.lay hL0
    obtain ⟨k_w, l_w⟩ := wlay hL hw
    have hW1 := hI.st (v := 0) (show 60 < 67 by decide)
    have hW2 := hW1.st (v := 0) (show 66 < 67 by decide)
    rw [show cix 60 = 60 from rfl, show cix 66 = 61 from rfl] at hW2
    refine g_iload_n dX11_ages_2 rfl rfl rfl ?_
    refine g_aload_n dX11_ages_3 rfl rfl rfl ?_
    refine g_getI dX11_ages_4 ff_X11_285 rfl (k100 hL) rfl ?_
    rw [(fld M1 hI.1).1]
    refine g_icmp_ge (tgt := 77) dX11_ages_7 (by decide) rfl (fun _ => ?_) (fun h_ => absurd (nI_le (Nat.le_refl _) (by omega)) h_)
    refine g_aload_n dX11_ages_77 rfl rfl rfl ?_
    refine g_bipush (v := 60) dX11_ages_78 (by decide) rfl ?_
    refine g_iconst (v := 0) dX11_ages_80 (by decide) rfl ?_
    refine g_iast (i := 60) dX11_ages_81 (k_w) (l_w) rfl (by decide) rfl ?_
    refine g_aload_n dX11_ages_82 rfl rfl rfl ?_
    refine g_bipush (v := 66) dX11_ages_83 (by decide) rfl ?_
    refine g_iconst (v := 0) dX11_ages_85 (by decide) rfl ?_
    refine g_iast (i := 66) dX11_ages_86 (k_w) (l_w) rfl (by decide) rfl ?_
    refine g_aload_n dX11_ages_87 rfl rfl rfl ?_
    refine g_bipush (v := 65) dX11_ages_88 (by decide) rfl ?_
    refine g_dup2 dX11_ages_90 rfl rfl rfl ?_
    refine g_iald (i := 65) dX11_ages_91 (k_w) (l_w) rfl (by decide) rfl ?_
    rw [hW2.2.1 65 (by decide), show cix 65 = 66 from rfl]
    refine g_iconst (v := 1) dX11_ages_92 (by decide) rfl ?_
    refine g_iadd dX11_ages_93 rfl ?_
    refine g_iast (i := 65) dX11_ages_94 (k_w) (l_w) rfl (by decide) rfl ?_
    exact g_vret dX11_ages_95 rfl (⟨rfl, hW2.st (show 65 < 67 by decide)⟩)
  · have hL := hI.1.lay hL0
    obtain ⟨k_w, l_w⟩ := wlay hL hw
    have hW1 := hI.st (v := imin 99 (ag F (tv Mc 3 8) i 0 0 i + 1)) (show 10 * i < 67 by omega)
    rw [cix_b i (by omega), ag_b F (by omega)] at hW1
    refine g_iload_n dX11_ages_2 rfl rfl rfl ?_
    refine g_aload_n dX11_ages_3 rfl rfl rfl ?_
    refine g_getI dX11_ages_4 ff_X11_285 rfl (k100 hL) rfl ?_
    rw [(fld M1 hI.1).1]
    refine g_icmp_ge (tgt := 77) dX11_ages_7 (by decide) rfl (fun h_ => absurd h_ (nI_ge hi (by omega))) (fun _ => ?_)
    refine g_aload_n dX11_ages_10 rfl rfl rfl ?_
    refine g_bipush (v := 10) dX11_ages_11 (by decide) rfl ?_
    refine g_iload_n dX11_ages_13 rfl rfl rfl ?_
    refine g_imul dX11_ages_14 rfl ?_
    refine g_iconst (v := 0) dX11_ages_15 (by decide) rfl ?_
    refine g_iadd dX11_ages_16 rfl ?_
    refine g_bipush (v := 99) dX11_ages_17 (by decide) rfl ?_
    refine g_aload_n dX11_ages_19 rfl rfl rfl ?_
    refine g_bipush (v := 10) dX11_ages_20 (by decide) rfl ?_
    refine g_iload_n dX11_ages_22 rfl rfl rfl ?_
    refine g_imul dX11_ages_23 rfl ?_
    refine g_iconst (v := 0) dX11_ages_24 (by decide) rfl ?_
    refine g_iadd dX11_ages_25 rfl ?_
    rw [show (10 : Int32) = nI 10 from rfl, show (0 : Int32) = nI 0 from rfl, pk_mul, nI_add, Nat.add_zero]
    refine g_iald (i := (10 * i)) dX11_ages_26 (k_w) (l_w) (nI_toInt (by omega)) (by omega) rfl ?_
    rw [hI.2.1 _ (by omega), cix_b i (by omega)]
    refine g_iconst (v := 1) dX11_ages_27 (by decide) rfl ?_
    refine g_iadd dX11_ages_28 rfl ?_
    refine g_callSdi dX11_ages_29 lm_X11_316 mv_J9_min_7cf53 (c_min (d := d) hx) rfl rfl (Nat.le_of_ble_eq_true rfl) (gFit_room (by omega)) rfl ?_
    refine g_iast (i := (10 * i)) dX11_ages_32 (k_w) (l_w) (nI_toInt (by omega)) (by omega) rfl ?_
    refine g_iconst (v := 0) dX11_ages_33 (by decide) rfl ?_
    refine g_istore_n dX11_ages_34 rfl (by decide) rfl ?_
    refine g_loopM (fun j => [(0, .ref 100), (1, .ref w), (2, .int (nI i)), (3, .int (nI j))]) (fun j M2 => RW M M2 w (ag F (tv Mc 3 8) i 1 j)) (tv Mc 3 8) 0 (by omega) ⟨rfl, rfl, rfl, rfl, trivial⟩ hW1 (fun M2 hJ => ?_) (fun j M2 _ hj hJ ih2 => ?_)
    · have hL2 := hJ.1.lay hL0
      rw [ag_n] at hJ
      refine g_iload_n dX11_ages_35 rfl rfl rfl ?_
      refine g_aload_n dX11_ages_36 rfl rfl rfl ?_
      refine g_getI dX11_ages_37 ff_X11_288 rfl (k100 hL2) rfl ?_
      rw [(fld M2 hJ.1).2]
      refine g_icmp_ge (tgt := 71) dX11_ages_40 (by decide) rfl (fun _ => ?_) (fun h_ => absurd (nI_le (Nat.le_refl _) (by omega)) h_)
      refine g_iincV (c := 1) dX11_ages_71 rfl (by decide) (by decide) rfl ?_
      refine g_goto (tgt := 2) dX11_ages_74 (by decide) ?_
      exact g_go (ih M2 hJ) ⟨rfl, rfl, by rw [← nI_1 i]; rfl, trivial⟩
    · have hL2 := hJ.1.lay hL0
      obtain ⟨k_w, l_w⟩ := wlay hL2 hw
      have hW2 := hJ.st (v := imax 0 (ag F (tv Mc 3 8) i 1 j (12 + i * 8 + j) - 1)) (show 10 * i + 2 + j < 67 by omega)
      rw [cix_l i (by omega) j (by omega), ag_j F (by omega) (by omega)] at hW2
      refine g_iload_n dX11_ages_35 rfl rfl rfl ?_
      refine g_aload_n dX11_ages_36 rfl rfl rfl ?_
      refine g_getI dX11_ages_37 ff_X11_288 rfl (k100 hL2) rfl ?_
      rw [(fld M2 hJ.1).2]
      refine g_icmp_ge (tgt := 71) dX11_ages_40 (by decide) rfl (fun h_ => absurd h_ (nI_ge hj (by omega))) (fun _ => ?_)
      refine g_aload_n dX11_ages_43 rfl rfl rfl ?_
      refine g_bipush (v := 10) dX11_ages_44 (by decide) rfl ?_
      refine g_iload_n dX11_ages_46 rfl rfl rfl ?_
      refine g_imul dX11_ages_47 rfl ?_
      refine g_iconst (v := 2) dX11_ages_48 (by decide) rfl ?_
      refine g_iadd dX11_ages_49 rfl ?_
      refine g_iload_n dX11_ages_50 rfl rfl rfl ?_
      refine g_iadd dX11_ages_51 rfl ?_
      refine g_iconst (v := 0) dX11_ages_52 (by decide) rfl ?_
      refine g_aload_n dX11_ages_53 rfl rfl rfl ?_
      refine g_iload_n dX11_ages_54 rfl rfl rfl ?_
      refine g_iload_n dX11_ages_55 rfl rfl rfl ?_
      refine g_callSdi dX11_ages_56 lm_X11_300 mv_X11_left0 (r_left0 (d := d) hx hL2 hw hJ.2.1 (show i < 6 by omega) (show j < 8 by omega)) rfl rfl (Nat.le_of_ble_eq_true rfl) (gFit_room (by omega)) rfl ?_
      refine g_iconst (v := 1) dX11_ages_59 (by decide) rfl ?_
      refine g_isub dX11_ages_60 rfl ?_
      refine g_callSdi dX11_ages_61 lm_X11_318 mv_J9_max_7cf53 (c_max (d := d) hx) rfl rfl (Nat.le_of_ble_eq_true rfl) (gFit_room (by omega)) rfl ?_
      rw [show (10 : Int32) = nI 10 from rfl, show (2 : Int32) = nI 2 from rfl, pk_mul, nI_add, nI_add]
      refine g_iast (i := (10 * i + 2 + j)) dX11_ages_64 (k_w) (l_w) (nI_toInt (by omega)) (by omega) rfl ?_
      refine g_iincV (c := 1) dX11_ages_65 rfl (by decide) (by decide) rfl ?_
      refine g_goto (tgt := 35) dX11_ages_68 (by decide) ?_
      exact g_go (ih2 _ hW2) ⟨rfl, rfl, rfl, by rw [← nI_1 j]; rfl, trivial⟩
set_option maxRecDepth 20000 in
theorem r_copy (hx : gXok X) (hL0 : gLay M) (hR : RowR M 113 F) : gPos X (d + 0) yX11_copy cX11_copy 3 none [.ref 113, .ref 114] M (fun v M2 => v = none ∧ gFr (fun c => c = 114) M M2 ∧ RowR M2 114 F ∧ gmi M2 114 67 = 0) := by
  refine gMet.of hx (by decide) (Nat.le_of_ble_eq_true rfl) ?_
  refine g_iconst (v := 0) dX11_copy_0 (by decide) rfl ?_
  refine g_istore_n dX11_copy_1 rfl (by decide) rfl ?_
  refine g_loopM (fun i => [(0, .ref 113), (1, .ref 114), (2, .int (nI i))]) (fun i M1 => gFr (fun c => c = 114) M M1 ∧ ∀ k, k < i → gmi M1 114 k = F (cix k)) 67 0 (by omega) ⟨rfl, rfl, rfl, trivial⟩ ⟨gFr.rf, fun k hk => absurd hk (by omega)⟩ (fun M1 hI => ?_) (fun i M1 _ hi hI ih => ?_)
  · have hL := hI.1.lay hL0
    refine g_iload_n dX11_copy_2 rfl rfl rfl ?_
    refine g_bipush (v := 67) dX11_copy_3 (by decide) rfl ?_
    refine g_icmp_ge (tgt := 20) dX11_copy_5 (by decide) rfl (fun _ => ?_) (fun h_ => absurd (nI_le (Nat.le_refl 67) (by decide)) h_)
    refine g_aload_n dX11_copy_20 rfl rfl rfl ?_
    refine g_bipush (v := 67) dX11_copy_21 (by decide) rfl ?_
    refine g_iconst (v := 0) dX11_copy_23 (by decide) rfl ?_
    refine g_iast (i := 67) dX11_copy_24 (k114 hL) (l114 hL) rfl (by decide) rfl ?_
    exact g_vret dX11_copy_25 rfl (⟨rfl, hI.1.tr (gFr.wI rfl), fun k hk => by rw [gmi_I, va_up_ne _ _ (by omega)]; exact hI.2 k hk, by rw [gmi_I, va_up_self]⟩)
  · have hL := hI.1.lay hL0
    refine g_iload_n dX11_copy_2 rfl rfl rfl ?_
    refine g_bipush (v := 67) dX11_copy_3 (by decide) rfl ?_
    refine g_icmp_ge (tgt := 20) dX11_copy_5 (by decide) rfl (fun h_ => absurd h_ (nI_ge (b := 67) hi (by decide))) (fun _ => ?_)
    refine g_aload_n dX11_copy_8 rfl rfl rfl ?_
    refine g_iload_n dX11_copy_9 rfl rfl rfl ?_
    refine g_aload_n dX11_copy_10 rfl rfl rfl ?_
    refine g_iload_n dX11_copy_11 rfl rfl rfl ?_
    refine g_iald (i := i) dX11_copy_12 (k113 hL) (l113 hL) (nI_toInt (by omega)) (by omega) rfl ?_
    rw [hI.1.2.2.2 113 (by decide), hR i hi]
    refine g_iast (i := i) dX11_copy_13 (k114 hL) (l114 hL) (nI_toInt (by omega)) (by omega) rfl ?_
    refine g_iincV (c := 1) dX11_copy_14 rfl (by decide) (by decide) rfl ?_
    refine g_goto (tgt := 2) dX11_copy_17 (by decide) ?_
    refine g_go (ih _ ⟨hI.1.tr (gFr.wI rfl), fun k hk => ?_⟩) ⟨rfl, rfl, by rw [← nI_1 i]; rfl, trivial⟩
    rw [gmi_I]
    by_cases e1 : k = i
    · rw [e1, va_up_self]
    · rw [va_up_ne _ _ e1]; exact hI.2 k (by omega)
end G7
