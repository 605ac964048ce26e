section H19
variable {X : gX} {Mc M : gM} {d n A N c w r k i : Nat} {E : Nat → LE} {EV : EVt} {F G : Nat → Int32}
theorem RWk.sm {Mc2 : gM} (h : RWk Mc M) (h0 : gmi Mc2 0 = gmi Mc 0) (h3 : ∀ c, 300 ≤ c → gmi Mc2 c = gmi Mc c) : RWk Mc2 M := by
  unfold RWk okv tv at *
  rw [h0]
  refine ⟨h.1, h.2.1, fun k hk => ?_⟩
  rw [h3 (300 + 5 * k) (by omega), h3 (300 + 5 * k + 1) (by omega), h3 (300 + 5 * k + 2) (by omega), h3 (300 + 5 * k + 3) (by omega)]
  exact h.2.2 k hk
theorem RWk.x {S : Nat → Prop} {M2 : gM} (h : RWk Mc M) (hf : xFr S M M2) (h1 : ¬ S 111) (h2 : ¬ S 112) (h3 : ¬ S 1030) : RWk Mc M2 := by
  unfold RWk at *
  rw [hf.2.2.2.2.2.1 111 (by decide) (by decide) (by decide) h1, hf.2.2.2.2.2.1 112 (by decide) (by decide) (by decide) h2, hf.2.2.2.2.2.2 30 (by decide) (by decide) h3]
  exact h
abbrev sK (Mc : gM) (k i : Nat) : Int32 := gmi Mc (300 + 5 * k + 1) i
abbrev sP (Mc : gM) (k i : Nat) : Int32 := gmi Mc (300 + 5 * k + 2) i
abbrev sD (Mc : gM) (k i : Nat) : Int32 := gmi Mc (300 + 5 * k + 3) i
def stepF (Mc : gM) (EV : EVt) (F : Nat → Int32) (k i : Nat) : Nat → Int32 :=
  if sK Mc k i = 0 then takeF F (12 + tn (sP Mc k i) * 8 + tn (sD Mc k i)) (gmi Mc 9 (tn (sD Mc k i))) (gmi Mc 8 (tn (sD Mc k i)))
  else if sK Mc k i = 1 then goF (gunF Mc EV F (tn (sP Mc k i))) F (tn (sP Mc k i)) (gmi Mc 3 9)
  else if sK Mc k i = 2 then atoneF F (12 + tn (sP Mc k i) * 8 + tn (sD Mc k i))
  else dayF Mc F
def isDay (Mc : gM) (k i : Nat) : Prop := ¬ sK Mc k i = 0 ∧ ¬ sK Mc k i = 1 ∧ ¬ sK Mc k i = 2
theorem stepB_0 (e : sK Mc k i = 0) : stepB Mc r (300 + 5 * k) i = true ↔ mayTakeF Mc (gmi Mc r) (sP Mc k i) (sD Mc k i) := by unfold stepB; rw [if_pos e]; exact decide_eq_true_iff
theorem stepB_1 (e : sK Mc k i = 1) : stepB Mc r (300 + 5 * k) i = true ↔ mayGoF Mc (gmi Mc r) (sP Mc k i) := by unfold stepB; rw [if_neg (by rw [show gmi Mc (300 + 5 * k + 1) i = 1 from e]; decide), if_pos e]; exact decide_eq_true_iff
theorem stepB_2 (e : sK Mc k i = 2) : stepB Mc r (300 + 5 * k) i = true ↔ mayAtoneF Mc (gmi Mc r) (sP Mc k i) (sD Mc k i) := by unfold stepB; rw [if_neg (by rw [show gmi Mc (300 + 5 * k + 1) i = 2 from e]; decide), if_neg (by rw [show gmi Mc (300 + 5 * k + 1) i = 2 from e]; decide), if_pos e]; exact decide_eq_true_iff
theorem stepB_3 (e : isDay Mc k i) : stepB Mc r (300 + 5 * k) i = true ↔ mayDay Mc r := by unfold stepB; rw [if_neg e.1, if_neg e.2.1, if_neg e.2.2]; exact decide_eq_true_iff
theorem plan_at (hW : RWk Mc M) (hk : k < tv Mc 0 6) (hi : i < tv Mc (300 + 5 * k) 3) : (k < 4 ∧ i < 16) ∧ gmi M 111 (3 * (16 * k + i)) = sK Mc k i ∧ gmi M 111 (3 * (16 * k + i) + 1) = sP Mc k i ∧ gmi M 111 (3 * (16 * k + i) + 2) = sD Mc k i := by
  obtain ⟨-, h4, h⟩ := hW
  obtain ⟨h16, -, hh⟩ := h k hk
  have := h4.2
  have := h16.2
  exact ⟨⟨by omega, by omega⟩, hh i hi⟩
set_option maxRecDepth 20000 in
theorem r_canStep (hx : gXok X) (h0 : R0 Mc M n E EV) (hW : RWk Mc M) (hp0 : ¬ gmi Mc 3 7 = 0) (hw : w = 113 ∨ w = 114) (hR : RowR M w (gmi Mc r)) (hk : k < tv Mc 0 6) (hi : i < tv Mc (300 + 5 * k) 3) : gDet X (d + 2) yX11_canStep cX11_canStep 4 (some .boolean) [.ref 100, .ref w, .int (nI (3 * (16 * k + i)))] M (some (.int (ib (stepB Mc r (300 + 5 * k) i = true)))) M := by
  have hL := h0.1.1
  obtain ⟨⟨k4, i16⟩, p0, p1, p2⟩ := plan_at hW hk hi
  obtain ⟨k_w, l_w⟩ := wlay hL hw
  have hT := h0.2.1
  have hday : isDay Mc k i → (stepB Mc r (300 + 5 * k) i = true ↔ ¬ 999 ≤ gmi Mc r 66) := fun e => (stepB_3 e).trans ⟨fun y => y.2, fun y => ⟨fun z => hp0 (by
    rw [hT.1.1] at z ⊢
    have h6 := hT.1.2
    rcases Nat.eq_zero_or_pos (tv Mc 3 7) with q | q
    · rw [q]; rfl
    · exact absurd z (nI_nle q (by omega))), y⟩⟩
  refine gMet.of hx (by decide) (Nat.le_of_ble_eq_true rfl) ?_
  refine g_aload_n dX11_canStep_0 rfl rfl rfl ?_
  refine g_getR dX11_canStep_1 ff_X11_55 rfl (k100 hL) (r100_24 hL) rfl ?_
  refine g_iload_n dX11_canStep_4 rfl rfl rfl ?_
  refine g_iconst (v := 1) dX11_canStep_5 (by decide) rfl ?_
  refine g_iadd dX11_canStep_6 rfl ?_
  rw [nI_1]
  refine g_iald (i := (3 * (16 * k + i) + 1)) dX11_canStep_7 (k111 hL) (l111 hL) (nI_toInt (by omega)) (by omega) rfl ?_
  rw [p1]
  refine g_istore_n dX11_canStep_8 rfl (by decide) rfl ?_
  refine g_aload_n dX11_canStep_9 rfl rfl rfl ?_
  refine g_getR dX11_canStep_10 ff_X11_55 rfl (k100 hL) (r100_24 hL) rfl ?_
  refine g_iload_n dX11_canStep_13 rfl rfl rfl ?_
  refine g_iald (i := (3 * (16 * k + i))) dX11_canStep_14 (k111 hL) (l111 hL) (nI_toInt (by omega)) (by omega) rfl ?_
  rw [p0]
  by_cases e15_0 : sK Mc k i = 0
  · rw [e15_0]
    refine g_tableIn (off := 25) (tgt := 40) dX11_canStep_15 (by decide) (by decide) (by decide) (by decide) ?_
    refine g_aload_n dX11_canStep_40 rfl rfl rfl ?_
    refine g_aload_n dX11_canStep_41 rfl rfl rfl ?_
    refine g_iload_n dX11_canStep_42 rfl rfl rfl ?_
    refine g_aload_n dX11_canStep_43 rfl rfl rfl ?_
    refine g_getR dX11_canStep_44 ff_X11_55 rfl (k100 hL) (r100_24 hL) rfl ?_
    refine g_iload_n dX11_canStep_47 rfl rfl rfl ?_
    refine g_iconst (v := 2) dX11_canStep_48 (by decide) rfl ?_
    refine g_iadd dX11_canStep_49 rfl ?_
    rw [show (2 : Int32) = nI 2 from rfl, nI_add]
    refine g_iald (i := (3 * (16 * k + i) + 2)) dX11_canStep_50 (k111 hL) (l111 hL) (nI_toInt (by omega)) (by omega) rfl ?_
    rw [p2]
    refine g_callVdi (ci := 11) dX11_canStep_51 lm_X11_350 mv_X11_canCommit (r_canCommit (d := d) hx h0 hw hR) rfl rfl (k100 hL) rfl rfl (Nat.le_of_ble_eq_true rfl) (gFit_room (by omega)) rfl ?_
    exact g_iret dX11_canStep_54 rfl (by first | rfl | exact b01 | exact nb01 hv01) (⟨congrArg (fun y => some (Value.int y)) (ib_iff (stepB_0 e15_0).symm), rfl⟩)
  by_cases e15_1 : sK Mc k i = 1
  · rw [e15_1]
    refine g_tableIn (off := 40) (tgt := 55) dX11_canStep_15 (by decide) (by decide) (by decide) (by decide) ?_
    refine g_aload_n dX11_canStep_55 rfl rfl rfl ?_
    refine g_aload_n dX11_canStep_56 rfl rfl rfl ?_
    refine g_iload_n dX11_canStep_57 rfl rfl rfl ?_
    refine g_callVdi (ci := 11) dX11_canStep_58 lm_X11_374 mv_X11_canGo (r_canGo (d := d) hx h0 hw hR) rfl rfl (k100 hL) rfl rfl (Nat.le_of_ble_eq_true rfl) (gFit_room (by omega)) rfl ?_
    exact g_iret dX11_canStep_61 rfl (by first | rfl | exact b01 | exact nb01 hv01) (⟨congrArg (fun y => some (Value.int y)) (ib_iff (stepB_1 e15_1).symm), rfl⟩)
  by_cases e15_2 : sK Mc k i = 2
  · rw [e15_2]
    refine g_tableIn (off := 47) (tgt := 62) dX11_canStep_15 (by decide) (by decide) (by decide) (by decide) ?_
    refine g_aload_n dX11_canStep_62 rfl rfl rfl ?_
    refine g_aload_n dX11_canStep_63 rfl rfl rfl ?_
    refine g_iload_n dX11_canStep_64 rfl rfl rfl ?_
    refine g_aload_n dX11_canStep_65 rfl rfl rfl ?_
    refine g_getR dX11_canStep_66 ff_X11_55 rfl (k100 hL) (r100_24 hL) rfl ?_
    refine g_iload_n dX11_canStep_69 rfl rfl rfl ?_
    refine g_iconst (v := 2) dX11_canStep_70 (by decide) rfl ?_
    refine g_iadd dX11_canStep_71 rfl ?_
    rw [show (2 : Int32) = nI 2 from rfl, nI_add]
    refine g_iald (i := (3 * (16 * k + i) + 2)) dX11_canStep_72 (k111 hL) (l111 hL) (nI_toInt (by omega)) (by omega) rfl ?_
    rw [p2]
    refine g_callVdi (ci := 11) dX11_canStep_73 lm_X11_364 mv_X11_canAtone (r_canAtone (d := d) hx h0 hw hR) rfl rfl (k100 hL) rfl rfl (Nat.le_of_ble_eq_true rfl) (gFit_room (by omega)) rfl ?_
    exact g_iret dX11_canStep_76 rfl (by first | rfl | exact b01 | exact nb01 hv01) (⟨congrArg (fun y => some (Value.int y)) (ib_iff (stepB_2 e15_2).symm), rfl⟩)
  refine g_tableOut (tgt := 77) dX11_canStep_15 (swo 0 3 (by decide) (fun k hk => match k, hk with | 0, _ => e15_0 | 1, _ => e15_1 | 2, _ => e15_2 | (k + 3), hk => absurd hk (by omega))) (by decide) ?_
  refine g_aload_n dX11_canStep_77 rfl rfl rfl ?_
  refine g_bipush (v := 65) dX11_canStep_78 (by decide) rfl ?_
  refine g_iald (i := 65) dX11_canStep_80 (k_w) (l_w) rfl (by decide) rfl ?_
  rw [hR 65 (by decide), show cix 65 = 66 from rfl]
  refine g_sipush (v := 999) dX11_canStep_81 (by decide) rfl ?_
  refine g_icmp_ge (tgt := 91) dX11_canStep_84 (by decide) rfl (fun h84 => ?_) (fun h84 => ?_)
  · refine g_iconst (v := 0) dX11_canStep_91 (by decide) rfl ?_
    exact g_iret dX11_canStep_92 rfl (by first | rfl | exact b01 | exact nb01 hv01) (⟨by first | rw [ib_t ((hday ⟨e15_0, e15_1, e15_2⟩).mpr h84)] | rw [ib_f (fun y => (hday ⟨e15_0, e15_1, e15_2⟩).mp y h84)], rfl⟩)
  · refine g_iconst (v := 1) dX11_canStep_87 (by decide) rfl ?_
    refine g_goto (tgt := 92) dX11_canStep_88 (by decide) ?_
    exact g_iret dX11_canStep_92 rfl (by first | rfl | exact b01 | exact nb01 hv01) (⟨by first | rw [ib_t ((hday ⟨e15_0, e15_1, e15_2⟩).mpr h84)] | rw [ib_f (fun y => (hday ⟨e15_0, e15_1, e15_2⟩).mp y h84)], rfl⟩)
set_option maxRecDepth 20000 in
theorem r_goStep (hx : gXok X) (hZ : gSt X) (h0 : R0 Mc M n E EV) (hW : RWk Mc M) (hw : w = 113 ∨ w = 114) (hR : RowR M w (gmi Mc r)) (hok : RowOK (gmi Mc r)) (hc : gmi M w 67 = nI c) (hc60 : c ≤ 60) (hk : k < tv Mc 0 6) (hi : i < tv Mc (300 + 5 * k) 3) (hb : stepB Mc r (300 + 5 * k) i = true) : gPos X (d + 37) yX11_goStep cX11_goStep 6 none [.ref 100, .ref w, .int (nI (3 * (16 * k + i)))] M (fun v M2 => v = none ∧ (¬ isDay Mc k i → QW Mc M M2 n E EV w (stepF Mc EV (gmi Mc r) k i)) ∧ (isDay Mc k i → DayW Mc M M2 w (gmi Mc r) c)) := by
  have hL := h0.1.1
  obtain ⟨⟨k4, i16⟩, p0, p1, p2⟩ := plan_at hW hk hi
  obtain ⟨k_w, l_w⟩ := wlay hL hw
  have hT := h0.2.1
  have h6 := hT.1.2
  have h8 := hT.2.1.2
  obtain ⟨hRng, hlf, ⟨m, hm9, hm⟩, D, hD9, hD⟩ := hok
  refine gMet.of hx (by decide) (Nat.le_of_ble_eq_true rfl) ?_
  by_cases e0 : sK Mc k i = 0
  · have hmay := (stepB_0 e0).mp hb
    obtain ⟨ex, lx⟩ := in_row hT.1.1 (by omega) hmay.1.1
    obtain ⟨ez, lz⟩ := in_row hT.2.1.1 (by omega) hmay.1.2
    have hs1 := r_commits (d := d + 35) (p := tn (sP Mc k i)) (e := tn (sD Mc k i)) hx h0 hw hR (by omega) lz
    rw [← ex, ← ez] at hs1
    have eF : stepF Mc EV (gmi Mc r) k i = takeF (gmi Mc r) (12 + tn (sP Mc k i) * 8 + tn (sD Mc k i)) (gmi Mc 9 (tn (sD Mc k i))) (gmi Mc 8 (tn (sD Mc k i))) := if_pos e0
    refine g_aload_n dX11_goStep_0 rfl rfl rfl ?_
    refine g_getR dX11_goStep_1 ff_X11_55 rfl (k100 hL) (r100_24 hL) rfl ?_
    refine g_iload_n dX11_goStep_4 rfl rfl rfl ?_
    refine g_iconst (v := 1) dX11_goStep_5 (by decide) rfl ?_
    refine g_iadd dX11_goStep_6 rfl ?_
    rw [nI_1]
    refine g_iald (i := (3 * (16 * k + i) + 1)) dX11_goStep_7 (k111 hL) (l111 hL) (nI_toInt (by omega)) (by omega) rfl ?_
    rw [p1]
    refine g_istore_n dX11_goStep_8 rfl (by decide) rfl ?_
    refine g_aload_n dX11_goStep_9 rfl rfl rfl ?_
    refine g_getR dX11_goStep_10 ff_X11_55 rfl (k100 hL) (r100_24 hL) rfl ?_
    refine g_iload_n dX11_goStep_13 rfl rfl rfl ?_
    refine g_iconst (v := 2) dX11_goStep_14 (by decide) rfl ?_
    refine g_iadd dX11_goStep_15 rfl ?_
    rw [show (2 : Int32) = nI 2 from rfl, nI_add]
    refine g_iald (i := (3 * (16 * k + i) + 2)) dX11_goStep_16 (k111 hL) (l111 hL) (nI_toInt (by omega)) (by omega) rfl ?_
    rw [p2]
    refine g_istore dX11_goStep_17 (by decide) rfl ?_
    refine g_iconst (v := 0) dX11_goStep_19 (by decide) rfl ?_
    refine g_istore dX11_goStep_20 (by decide) rfl ?_
    refine g_aload_n dX11_goStep_22 rfl rfl rfl ?_
    refine g_getR dX11_goStep_23 ff_X11_55 rfl (k100 hL) (r100_24 hL) rfl ?_
    refine g_iload_n dX11_goStep_26 rfl rfl rfl ?_
    refine g_iald (i := (3 * (16 * k + i))) dX11_goStep_27 (k111 hL) (l111 hL) (nI_toInt (by omega)) (by omega) rfl ?_
    rw [p0, e0]
    refine g_tableIn (off := 28) (tgt := 56) dX11_goStep_28 (by decide) (by decide) (by decide) (by decide) ?_
    refine g_aload_n dX11_goStep_56 rfl rfl rfl ?_
    refine g_aload_n dX11_goStep_57 rfl rfl rfl ?_
    refine g_iload_n dX11_goStep_58 rfl rfl rfl ?_
    refine g_iload dX11_goStep_59 rfl rfl ?_
    refine g_callVq (ci := 11) dX11_goStep_61 lm_X11_357 mv_X11_commits (hs1) rfl rfl (k100 hL) rfl rfl (Nat.le_of_ble_eq_true rfl) (gFit_room (by omega)) rfl (fun v M2 hQ => ?_)
    obtain ⟨rfl, hf⟩ := hQ
    refine g_goto (tgt := 95) dX11_goStep_64 (by decide) ?_
    exact g_vret dX11_goStep_95 rfl ⟨rfl, fun _ => by rw [eF]; exact hf.q h0 hw, fun y => absurd e0 y.1⟩
  · by_cases e1 : sK Mc k i = 1
    · have hmay := (stepB_1 e1).mp hb
      obtain ⟨ex, lx⟩ := in_row hT.1.1 (by omega) hmay.1
      have hs1 := r_goes (d := d) (p := tn (sP Mc k i)) hx hZ h0 hw hR hRng hlf lx
      rw [← ex] at hs1
      have eF : stepF Mc EV (gmi Mc r) k i = goF (gunF Mc EV (gmi Mc r) (tn (sP Mc k i))) (gmi Mc r) (tn (sP Mc k i)) (gmi Mc 3 9) := by unfold stepF; rw [if_neg e0, if_pos e1]
      refine g_aload_n dX11_goStep_0 rfl rfl rfl ?_
      refine g_getR dX11_goStep_1 ff_X11_55 rfl (k100 hL) (r100_24 hL) rfl ?_
      refine g_iload_n dX11_goStep_4 rfl rfl rfl ?_
      refine g_iconst (v := 1) dX11_goStep_5 (by decide) rfl ?_
      refine g_iadd dX11_goStep_6 rfl ?_
      rw [nI_1]
      refine g_iald (i := (3 * (16 * k + i) + 1)) dX11_goStep_7 (k111 hL) (l111 hL) (nI_toInt (by omega)) (by omega) rfl ?_
      rw [p1]
      refine g_istore_n dX11_goStep_8 rfl (by decide) rfl ?_
      refine g_aload_n dX11_goStep_9 rfl rfl rfl ?_
      refine g_getR dX11_goStep_10 ff_X11_55 rfl (k100 hL) (r100_24 hL) rfl ?_
      refine g_iload_n dX11_goStep_13 rfl rfl rfl ?_
      refine g_iconst (v := 2) dX11_goStep_14 (by decide) rfl ?_
      refine g_iadd dX11_goStep_15 rfl ?_
      rw [show (2 : Int32) = nI 2 from rfl, nI_add]
      refine g_iald (i := (3 * (16 * k + i) + 2)) dX11_goStep_16 (k111 hL) (l111 hL) (nI_toInt (by omega)) (by omega) rfl ?_
      rw [p2]
      refine g_istore dX11_goStep_17 (by decide) rfl ?_
      refine g_iconst (v := 0) dX11_goStep_19 (by decide) rfl ?_
      refine g_istore dX11_goStep_20 (by decide) rfl ?_
      refine g_aload_n dX11_goStep_22 rfl rfl rfl ?_
      refine g_getR dX11_goStep_23 ff_X11_55 rfl (k100 hL) (r100_24 hL) rfl ?_
      refine g_iload_n dX11_goStep_26 rfl rfl rfl ?_
      refine g_iald (i := (3 * (16 * k + i))) dX11_goStep_27 (k111 hL) (l111 hL) (nI_toInt (by omega)) (by omega) rfl ?_
      rw [p0, e1]
      refine g_tableIn (off := 39) (tgt := 67) dX11_goStep_28 (by decide) (by decide) (by decide) (by decide) ?_
      refine g_aload_n dX11_goStep_67 rfl rfl rfl ?_
      refine g_aload_n dX11_goStep_68 rfl rfl rfl ?_
      refine g_iload_n dX11_goStep_69 rfl rfl rfl ?_
      refine g_callVq (ci := 11) dX11_goStep_70 lm_X11_377 mv_X11_goes (hs1) rfl rfl (k100 hL) rfl rfl (Nat.le_of_ble_eq_true rfl) (gFit_room (by omega)) rfl (fun v M2 hQ => ?_)
      obtain ⟨rfl, hf⟩ := hQ
      refine g_istore dX11_goStep_73 (by decide) rfl ?_
      refine g_goto (tgt := 95) dX11_goStep_75 (by decide) ?_
      exact g_vret dX11_goStep_95 rfl ⟨rfl, fun _ => by rw [eF]; exact hf, fun y => absurd e1 y.2.1⟩
    · by_cases e2 : sK Mc k i = 2
      · have hmay := (stepB_2 e2).mp hb
        obtain ⟨ex, lx⟩ := in_row hT.1.1 (by omega) hmay.1.1
        obtain ⟨ez, lz⟩ := in_row hT.2.1.1 (by omega) hmay.1.2
        have hs1 := r_atones (d := d + 36) (p := tn (sP Mc k i)) (e := tn (sD Mc k i)) hx h0 hw hR (by omega) (by omega)
        rw [← ex, ← ez] at hs1
        have eF : stepF Mc EV (gmi Mc r) k i = atoneF (gmi Mc r) (12 + tn (sP Mc k i) * 8 + tn (sD Mc k i)) := by unfold stepF; rw [if_neg e0, if_neg e1, if_pos e2]
        refine g_aload_n dX11_goStep_0 rfl rfl rfl ?_
        refine g_getR dX11_goStep_1 ff_X11_55 rfl (k100 hL) (r100_24 hL) rfl ?_
        refine g_iload_n dX11_goStep_4 rfl rfl rfl ?_
        refine g_iconst (v := 1) dX11_goStep_5 (by decide) rfl ?_
        refine g_iadd dX11_goStep_6 rfl ?_
        rw [nI_1]
        refine g_iald (i := (3 * (16 * k + i) + 1)) dX11_goStep_7 (k111 hL) (l111 hL) (nI_toInt (by omega)) (by omega) rfl ?_
        rw [p1]
        refine g_istore_n dX11_goStep_8 rfl (by decide) rfl ?_
        refine g_aload_n dX11_goStep_9 rfl rfl rfl ?_
        refine g_getR dX11_goStep_10 ff_X11_55 rfl (k100 hL) (r100_24 hL) rfl ?_
        refine g_iload_n dX11_goStep_13 rfl rfl rfl ?_
        refine g_iconst (v := 2) dX11_goStep_14 (by decide) rfl ?_
        refine g_iadd dX11_goStep_15 rfl ?_
        rw [show (2 : Int32) = nI 2 from rfl, nI_add]
        refine g_iald (i := (3 * (16 * k + i) + 2)) dX11_goStep_16 (k111 hL) (l111 hL) (nI_toInt (by omega)) (by omega) rfl ?_
        rw [p2]
        refine g_istore dX11_goStep_17 (by decide) rfl ?_
        refine g_iconst (v := 0) dX11_goStep_19 (by decide) rfl ?_
        refine g_istore dX11_goStep_20 (by decide) rfl ?_
        refine g_aload_n dX11_goStep_22 rfl rfl rfl ?_
        refine g_getR dX11_goStep_23 ff_X11_55 rfl (k100 hL) (r100_24 hL) rfl ?_
        refine g_iload_n dX11_goStep_26 rfl rfl rfl ?_
        refine g_iald (i := (3 * (16 * k + i))) dX11_goStep_27 (k111 hL) (l111 hL) (nI_toInt (by omega)) (by omega) rfl ?_
        rw [p0, e2]
        refine g_tableIn (off := 50) (tgt := 78) dX11_goStep_28 (by decide) (by decide) (by decide) (by decide) ?_
        refine g_aload_n dX11_goStep_78 rfl rfl rfl ?_
        refine g_iload_n dX11_goStep_79 rfl rfl rfl ?_
        refine g_iload dX11_goStep_80 rfl rfl ?_
        refine g_callSq dX11_goStep_82 lm_X11_367 mv_X11_atones (hs1) rfl rfl (Nat.le_of_ble_eq_true rfl) (gFit_room (by omega)) rfl (fun v M2 hQ => ?_)
        obtain ⟨rfl, hf⟩ := hQ
        refine g_goto (tgt := 95) dX11_goStep_85 (by decide) ?_
        exact g_vret dX11_goStep_95 rfl ⟨rfl, fun _ => by rw [eF]; exact hf.q h0 hw, fun y => absurd e2 y.2.2⟩
      · have hs1 := r_goDay (d := d + 34) hx h0 hw hR hm hm9 hD (by omega) hc hc60
        refine g_aload_n dX11_goStep_0 rfl rfl rfl ?_
        refine g_getR dX11_goStep_1 ff_X11_55 rfl (k100 hL) (r100_24 hL) rfl ?_
        refine g_iload_n dX11_goStep_4 rfl rfl rfl ?_
        refine g_iconst (v := 1) dX11_goStep_5 (by decide) rfl ?_
        refine g_iadd dX11_goStep_6 rfl ?_
        rw [nI_1]
        refine g_iald (i := (3 * (16 * k + i) + 1)) dX11_goStep_7 (k111 hL) (l111 hL) (nI_toInt (by omega)) (by omega) rfl ?_
        rw [p1]
        refine g_istore_n dX11_goStep_8 rfl (by decide) rfl ?_
        refine g_aload_n dX11_goStep_9 rfl rfl rfl ?_
        refine g_getR dX11_goStep_10 ff_X11_55 rfl (k100 hL) (r100_24 hL) rfl ?_
        refine g_iload_n dX11_goStep_13 rfl rfl rfl ?_
        refine g_iconst (v := 2) dX11_goStep_14 (by decide) rfl ?_
        refine g_iadd dX11_goStep_15 rfl ?_
        rw [show (2 : Int32) = nI 2 from rfl, nI_add]
        refine g_iald (i := (3 * (16 * k + i) + 2)) dX11_goStep_16 (k111 hL) (l111 hL) (nI_toInt (by omega)) (by omega) rfl ?_
        rw [p2]
        refine g_istore dX11_goStep_17 (by decide) rfl ?_
        refine g_iconst (v := 0) dX11_goStep_19 (by decide) rfl ?_
        refine g_istore dX11_goStep_20 (by decide) rfl ?_
        refine g_aload_n dX11_goStep_22 rfl rfl rfl ?_
        refine g_getR dX11_goStep_23 ff_X11_55 rfl (k100 hL) (r100_24 hL) rfl ?_
        refine g_iload_n dX11_goStep_26 rfl rfl rfl ?_
        refine g_iald (i := (3 * (16 * k + i))) dX11_goStep_27 (k111 hL) (l111 hL) (nI_toInt (by omega)) (by omega) rfl ?_
        rw [p0]
        refine g_tableOut (tgt := 88) dX11_goStep_28 (swo 0 3 (by decide) (fun k hk => match k, hk with | 0, _ => e0 | 1, _ => e1 | 2, _ => e2 | (k + 3), hk => absurd hk (by omega))) (by decide) ?_
        refine g_aload_n dX11_goStep_88 rfl rfl rfl ?_
        refine g_aload_n dX11_goStep_89 rfl rfl rfl ?_
        refine g_callVq (ci := 11) dX11_goStep_90 lm_X11_390 mv_X11_goDay (hs1) rfl rfl (k100 hL) rfl rfl (Nat.le_of_ble_eq_true rfl) (gFit_room (by omega)) rfl (fun v M2 hQ => ?_)
        obtain ⟨rfl, hf⟩ := hQ
        refine g_istore dX11_goStep_93 (by decide) rfl ?_
        exact g_vret dX11_goStep_95 rfl ⟨rfl, fun y => absurd ⟨e0, e1, e2⟩ y, fun _ => hf⟩
theorem stepF_ok (hT : TownOK Mc) (hok : RowOK (gmi Mc r)) (hb : stepB Mc r (300 + 5 * k) i = true) : RowOK (stepF Mc EV (gmi Mc r) k i) ∧ (¬ isDay Mc k i → stepF Mc EV (gmi Mc r) k i 66 = gmi Mc r 66) := by
  have h6 := hT.1.2
  have h8 := hT.2.1.2
  unfold stepF
  by_cases e0 : sK Mc k i = 0
  · have hmay := (stepB_0 e0).mp hb
    obtain ⟨ex, lx⟩ := in_row hT.1.1 (by omega) hmay.1.1
    obtain ⟨ez, lz⟩ := in_row hT.2.1.1 (by omega) hmay.1.2
    rw [if_pos e0]
    refine ⟨hok.take (by omega) (by omega) ⟨_, (hT.2.2.2.2.1 _ (by omega)).1, (hT.2.2.2.2.1 _ (by omega)).2⟩, fun _ => ?_⟩
    unfold takeF
    rw [va_up_ne _ _ (by decide), va_up_ne _ _ (by omega)]
  · by_cases e1 : sK Mc k i = 1
    · have hmay := (stepB_1 e1).mp hb
      obtain ⟨ex, lx⟩ := in_row hT.1.1 (by omega) hmay.1
      rw [if_neg e0, if_pos e1]
      exact ⟨hok.go (by omega), fun _ => goF_66 (by omega)⟩
    · by_cases e2 : sK Mc k i = 2
      · have hmay := (stepB_2 e2).mp hb
        obtain ⟨ex, lx⟩ := in_row hT.1.1 (by omega) hmay.1.1
        obtain ⟨ez, lz⟩ := in_row hT.2.1.1 (by omega) hmay.1.2
        rw [if_neg e0, if_neg e1, if_pos e2]
        refine ⟨hok.atone (by omega) (by omega), fun _ => ?_⟩
        unfold atoneF
        rw [va_up_ne _ _ (by decide), va_up_ne _ _ (by omega)]
      · rw [if_neg e0, if_neg e1, if_neg e2]
        obtain ⟨D, hD9, hD⟩ := hok.2.2.2
        have hmay := (stepB_3 (r := r) ⟨e0, e1, e2⟩).mp hb
        refine ⟨hok.day hT hD ?_, fun y => absurd ⟨e0, e1, e2⟩ y⟩
        have h9 := hmay.2
        rw [hD, show (999 : Int32) = nI 999 from rfl, nI_leI (by decide) (by omega)] at h9
        omega
theorem stepM_r {en : Nat} (hne : r ≠ en) : gmi (stepM Mc EV r en (300 + 5 * k) i) r = stepF Mc EV (gmi Mc r) k i ∧ (¬ isDay Mc k i → stepM Mc EV r en (300 + 5 * k) i = gwF Mc r (stepF Mc EV (gmi Mc r) k i)) ∧ (isDay Mc k i → stepM Mc EV r en (300 + 5 * k) i = gwF (gwF Mc en (dayE Mc r en)) r (dayR Mc r)) := by
  unfold stepM stepF
  by_cases e0 : sK Mc k i = 0
  · rw [if_pos e0, if_pos e0]
    exact ⟨gmi_F _ _ _, fun _ => rfl, fun y => absurd e0 y.1⟩
  · by_cases e1 : sK Mc k i = 1
    · rw [if_neg e0, if_pos e1, if_neg e0, if_pos e1]
      exact ⟨gmi_F _ _ _, fun _ => rfl, fun y => absurd e1 y.2.1⟩
    · by_cases e2 : sK Mc k i = 2
      · rw [if_neg e0, if_neg e1, if_pos e2, if_neg e0, if_neg e1, if_pos e2]
        exact ⟨gmi_F _ _ _, fun _ => rfl, fun y => absurd e2 y.2.2⟩
      · rw [if_neg e0, if_neg e1, if_neg e2, if_neg e0, if_neg e1, if_neg e2]
        exact ⟨by rw [gmi_F, dayR_F], fun y => absurd ⟨e0, e1, e2⟩ y, fun _ => rfl⟩
theorem mayDay_D {D : Nat} (h : mayDay Mc r) (hD : gmi Mc r 66 = nI D) (h9 : D ≤ 999) : D < 999 := by
  have h2 := h.2
  rw [hD, show (999 : Int32) = nI 999 from rfl, nI_leI (by decide) (by omega)] at h2
  omega
theorem LfR.step {M2 : gM} {D : Nat} (h : LfR Mc M n E EV N A 1) (hb : stepB Mc 25 (300 + 5 * k) i = true) (hD : gmi Mc 25 66 = nI D) (hD9 : D ≤ 999) (h1 : ¬ isDay Mc k i → QW Mc M M2 n E EV 113 (stepF Mc EV (gmi Mc 25) k i)) (h2 : isDay Mc k i → DayW Mc M M2 113 (gmi Mc 25) (min 60 D)) : LfR (stepM Mc EV 25 26 (300 + 5 * k) i) M2 n E EV N A 0 := by
  obtain ⟨e1, e2, e3⟩ := stepM_r (Mc := Mc) (EV := EV) (k := k) (i := i) (r := 25) (en := 26) (by decide)
  obtain ⟨o1, o2⟩ := stepF_ok (EV := EV) h.1.2.1 h.2.1.2.2 hb
  by_cases hd : isDay Mc k i
  · rw [e3 hd]
    exact LfR.day h hD (mayDay_D ((stepB_3 hd).mp hb) hD hD9) (h2 hd)
  · rw [e2 hd]
    exact (h.row (h1 hd) o1 (o2 hd)).le
end H19
