section H12
variable {X : gX} {Mc M : gM} {d n A c : Nat} {E : Nat → LE} {EV : EVt} {F : Nat → Int32}
set_option maxRecDepth 20000 in
theorem r_valueOf (hx : gXok X) (h0 : R0 Mc M n E EV) (hR : RowR M 113 (gmi Mc 25)) (hlf : LeftF (gmi Mc 25)) {w k : Nat} (hw : w < 6) (hk : if w < 4 then k < tv Mc 3 7 else k < tv Mc 3 8) : gDet X (d + 3) yX11_valueOf cX11_valueOf 3 (some .int) [.ref 100, .int (nI w), .int (nI k)] M (some (.int (measV Mc (nI w) k))) M := by
  have hL := h0.1.1
  obtain ⟨e26, e27, h6, h8⟩ := h0.e26
  refine gMet.of hx (by decide) (Nat.le_of_ble_eq_true rfl) ?_
  unfold measV
  rcases (show w = 0 ∨ w = 1 ∨ w = 2 ∨ w = 3 ∨ w = 4 ∨ w = 5 by omega) with rfl | rfl | rfl | rfl | rfl | rfl
  · rw [if_pos (by decide)] at hk
    rw [if_pos (by decide)]
    refine g_iload_n dX11_valueOf_0 rfl rfl rfl ?_
    refine g_tableIn (off := 35) (tgt := 36) dX11_valueOf_1 (by decide) (by decide) (by decide) (by decide) ?_
    refine g_aload_n dX11_valueOf_36 rfl rfl rfl ?_
    refine g_getR dX11_valueOf_37 ff_X11_61 rfl (k100 hL) (r100_32 hL) rfl ?_
    refine g_bipush (v := 10) dX11_valueOf_40 (by decide) rfl ?_
    refine g_iload_n dX11_valueOf_42 rfl rfl rfl ?_
    refine g_imul dX11_valueOf_43 rfl ?_
    refine g_iconst (v := 0) dX11_valueOf_44 (by decide) rfl ?_
    refine g_iadd dX11_valueOf_45 rfl ?_
    rw [show (10 : Int32) = nI 10 from rfl, show (0 : Int32) = nI 0 from rfl, pk_mul, nI_add, Nat.add_zero]
    refine g_iald (i := (10 * k)) dX11_valueOf_46 (k113 hL) (l113 hL) (nI_toInt (by omega)) (by omega) rfl ?_
    rw [hR _ (by omega), cix_b k (by omega)]
    exact g_iret dX11_valueOf_47 rfl (by first | rfl | exact b01 | exact nb01 hv01) (⟨by first | rfl | assumption | exact gFr.rf | grind [ib], by first | rfl | assumption | exact gFr.rf | grind [ib]⟩)
  · rw [if_pos (by decide)] at hk
    rw [if_neg (by decide), if_pos (by decide)]
    refine g_iload_n dX11_valueOf_0 rfl rfl rfl ?_
    refine g_tableIn (off := 47) (tgt := 48) dX11_valueOf_1 (by decide) (by decide) (by decide) (by decide) ?_
    refine g_aload_n dX11_valueOf_48 rfl rfl rfl ?_
    refine g_iload_n dX11_valueOf_49 rfl rfl rfl ?_
    refine g_callVdi (ci := 11) dX11_valueOf_50 lm_X11_361 mv_X11_guiltOf (r_guiltOf (d := d) hx h0 hR hlf (show k < 6 by omega)) rfl rfl (k100 hL) rfl rfl (Nat.le_of_ble_eq_true rfl) (gFit_room (by omega)) rfl ?_
    exact g_iret dX11_valueOf_53 rfl (by first | rfl | exact b01 | exact nb01 hv01) (⟨rfl, rfl⟩)
  · rw [if_pos (by decide)] at hk
    rw [if_neg (by decide), if_neg (by decide), if_pos (by decide)]
    refine g_iload_n dX11_valueOf_0 rfl rfl rfl ?_
    refine g_tableIn (off := 53) (tgt := 54) dX11_valueOf_1 (by decide) (by decide) (by decide) (by decide) ?_
    refine g_aload_n dX11_valueOf_54 rfl rfl rfl ?_
    refine g_getR dX11_valueOf_55 ff_X11_43 rfl (k100 hL) (r100_20 hL) rfl ?_
    refine g_iconst (v := 3) dX11_valueOf_58 (by decide) rfl ?_
    refine g_iload_n dX11_valueOf_59 rfl rfl rfl ?_
    refine g_imul dX11_valueOf_60 rfl ?_
    refine g_iconst (v := 1) dX11_valueOf_61 (by decide) rfl ?_
    refine g_iadd dX11_valueOf_62 rfl ?_
    rw [show (3 : Int32) = nI 3 from rfl, show (1 : Int32) = nI 1 from rfl, pk_mul, nI_add]
    refine g_iald (i := (3 * k + 1)) dX11_valueOf_63 (k107 hL) (l107 hL) (nI_toInt (by omega)) (by omega) rfl ?_
    rw [(h0.2.2.2.2.1 k hk).2.1]
    refine g_ineg dX11_valueOf_64 rfl ?_
    exact g_iret dX11_valueOf_65 rfl (by first | rfl | exact b01 | exact nb01 hv01) (⟨by first | rfl | assumption | exact gFr.rf | grind [ib], by first | rfl | assumption | exact gFr.rf | grind [ib]⟩)
  · rw [if_pos (by decide)] at hk
    rw [if_neg (by decide), if_neg (by decide), if_neg (by decide), if_pos (by decide)]
    refine g_iload_n dX11_valueOf_0 rfl rfl rfl ?_
    refine g_tableIn (off := 65) (tgt := 66) dX11_valueOf_1 (by decide) (by decide) (by decide) (by decide) ?_
    refine g_aload_n dX11_valueOf_66 rfl rfl rfl ?_
    refine g_getR dX11_valueOf_67 ff_X11_61 rfl (k100 hL) (r100_32 hL) rfl ?_
    refine g_bipush (v := 10) dX11_valueOf_70 (by decide) rfl ?_
    refine g_iload_n dX11_valueOf_72 rfl rfl rfl ?_
    refine g_imul dX11_valueOf_73 rfl ?_
    refine g_iconst (v := 1) dX11_valueOf_74 (by decide) rfl ?_
    refine g_iadd dX11_valueOf_75 rfl ?_
    rw [show (10 : Int32) = nI 10 from rfl, show (1 : Int32) = nI 1 from rfl, pk_mul, nI_add]
    refine g_iald (i := (10 * k + 1)) dX11_valueOf_76 (k113 hL) (l113 hL) (nI_toInt (by omega)) (by omega) rfl ?_
    rw [hR _ (by omega), cix_s k (by omega)]
    exact g_iret dX11_valueOf_77 rfl (by first | rfl | exact b01 | exact nb01 hv01) (⟨by first | rfl | assumption | exact gFr.rf | grind [ib], by first | rfl | assumption | exact gFr.rf | grind [ib]⟩)
  · rw [if_neg (by decide)] at hk
    rw [if_neg (by decide), if_neg (by decide), if_neg (by decide), if_neg (by decide), if_pos (by decide)]
    refine g_iload_n dX11_valueOf_0 rfl rfl rfl ?_
    refine g_tableIn (off := 77) (tgt := 78) dX11_valueOf_1 (by decide) (by decide) (by decide) (by decide) ?_
    refine g_aload_n dX11_valueOf_78 rfl rfl rfl ?_
    refine g_getR dX11_valueOf_79 ff_X11_49 rfl (k100 hL) (r100_22 hL) rfl ?_
    refine g_iconst (v := 3) dX11_valueOf_82 (by decide) rfl ?_
    refine g_iload_n dX11_valueOf_83 rfl rfl rfl ?_
    refine g_imul dX11_valueOf_84 rfl ?_
    rw [show (3 : Int32) = nI 3 from rfl, pk_mul]
    refine g_iald (i := (3 * k)) dX11_valueOf_85 (k109 hL) (l109 hL) (nI_toInt (by omega)) (by omega) rfl ?_
    rw [(h0.2.2.2.2.2.1 k hk).1]
    exact g_iret dX11_valueOf_86 rfl (by first | rfl | exact b01 | exact nb01 hv01) (⟨by first | rfl | assumption | exact gFr.rf | grind [ib], by first | rfl | assumption | exact gFr.rf | grind [ib]⟩)
  · rw [if_neg (by decide)] at hk
    rw [if_neg (by decide), if_neg (by decide), if_neg (by decide), if_neg (by decide), if_neg (by decide)]
    refine g_iload_n dX11_valueOf_0 rfl rfl rfl ?_
    refine g_tableOut (tgt := 87) dX11_valueOf_1 (by decide) (by decide) ?_
    refine g_aload_n dX11_valueOf_87 rfl rfl rfl ?_
    refine g_getR dX11_valueOf_88 ff_X11_49 rfl (k100 hL) (r100_22 hL) rfl ?_
    refine g_iconst (v := 3) dX11_valueOf_91 (by decide) rfl ?_
    refine g_iload_n dX11_valueOf_92 rfl rfl rfl ?_
    refine g_imul dX11_valueOf_93 rfl ?_
    refine g_iconst (v := 1) dX11_valueOf_94 (by decide) rfl ?_
    refine g_iadd dX11_valueOf_95 rfl ?_
    rw [show (3 : Int32) = nI 3 from rfl, show (1 : Int32) = nI 1 from rfl, pk_mul, nI_add]
    refine g_iald (i := (3 * k + 1)) dX11_valueOf_96 (k109 hL) (l109 hL) (nI_toInt (by omega)) (by omega) rfl ?_
    rw [(h0.2.2.2.2.2.1 k hk).2.1]
    refine g_ineg dX11_valueOf_97 rfl ?_
    exact g_iret dX11_valueOf_98 rfl (by first | rfl | exact b01 | exact nb01 hv01) (⟨by first | rfl | assumption | exact gFr.rf | grind [ib], by first | rfl | assumption | exact gFr.rf | grind [ib]⟩)
set_option maxRecDepth 20000 in
theorem r_greatest (hx : gXok X) (h0 : R0 Mc M n E EV) (hR : RowR M 113 (gmi Mc 25)) (hlf : LeftF (gmi Mc 25)) (h1P : 1 ≤ tv Mc 3 7) (h1D : 1 ≤ tv Mc 3 8) {w : Nat} (hw : w < 6) : gDet X (d + 4) yX11_greatest cX11_greatest 5 (some .int) [.ref 100, .int (nI w)] M (some (.int (nI (bx (measV Mc (nI w)) ((if w < 4 then tv Mc 3 7 else tv Mc 3 8) - 1))))) M := by
  have hL := h0.1.1
  obtain ⟨e26, e27, h6, h8⟩ := h0.e26
  refine gMet.of hx (by decide) (Nat.le_of_ble_eq_true rfl) ?_
  have hm : ∀ m : Nat, 1 ≤ m → m ≤ 8 → (∀ k, k < m → if w < 4 then k < tv Mc 3 7 else k < tv Mc 3 8) → gW X (gRoom (d + 4) 0 0) (gZ X gN0 0 0 (fun v M2 => v = some (.int (nI (bx (measV Mc (nI w)) (m - 1)))) ∧ M2 = M)) gN0 yX11_greatest cX11_greatest 5 (some .int) 22 [(0, .ref 100), (1, .int (nI w)), (2, .int (nI 0)), (3, .int (nI m)), (4, .int (nI 1))] [] M 0 0 := by
    intro m hm1 hm8 hk
    refine g_loop (fun i => [(0, .ref 100), (1, .int (nI w)), (2, .int (nI (bx (measV Mc (nI w)) (i - 1)))), (3, .int (nI m)), (4, .int (nI i))]) (fun _ => M) m 1 hm1 ⟨rfl, rfl, rfl, rfl, rfl, trivial⟩ rfl ?_ (fun i hi1 hi ih => ?_)
    · refine g_iload dX11_greatest_22 rfl rfl ?_
      refine g_iload_n dX11_greatest_24 rfl rfl rfl ?_
      refine g_icmp_ge (tgt := 57) dX11_greatest_25 (by decide) rfl (fun _ => ?_) (fun h_ => absurd (nI_le (Nat.le_refl _) (by omega)) h_)
      refine g_iload_n dX11_greatest_57 rfl rfl rfl ?_
      exact g_iret dX11_greatest_58 rfl (by first | rfl | exact b01 | exact nb01 hv01) (⟨by first | rfl | assumption | exact gFr.rf | grind [ib], by first | rfl | assumption | exact gFr.rf | grind [ib]⟩)
    · have hb := bx_le (measV Mc (nI w)) (i - 1)
      have v1 := r_valueOf (d := d) hx h0 hR hlf hw (hk i hi)
      have v2 := r_valueOf (d := d) hx h0 hR hlf hw (hk (bx (measV Mc (nI w)) (i - 1)) (by omega))
      have eb : bx (measV Mc (nI w)) (i + 1 - 1) = if measV Mc (nI w) (bx (measV Mc (nI w)) (i - 1)) < measV Mc (nI w) i then i else bx (measV Mc (nI w)) (i - 1) := by
        obtain ⟨j, rfl⟩ : ∃ j, i = j + 1 := ⟨i - 1, by omega⟩
        rfl
      refine g_iload dX11_greatest_22 rfl rfl ?_
      refine g_iload_n dX11_greatest_24 rfl rfl rfl ?_
      refine g_icmp_ge (tgt := 57) dX11_greatest_25 (by decide) rfl (fun h_ => absurd h_ (nI_ge hi (by omega))) (fun _ => ?_)
      refine g_aload_n dX11_greatest_28 rfl rfl rfl ?_
      refine g_iload_n dX11_greatest_29 rfl rfl rfl ?_
      refine g_iload dX11_greatest_30 rfl rfl ?_
      refine g_callVdi (ci := 11) dX11_greatest_32 lm_X11_468 mv_X11_valueOf (v1) rfl rfl (k100 hL) rfl rfl (Nat.le_of_ble_eq_true rfl) (gFit_room (by omega)) rfl ?_
      refine g_aload_n dX11_greatest_35 rfl rfl rfl ?_
      refine g_iload_n dX11_greatest_36 rfl rfl rfl ?_
      refine g_iload_n dX11_greatest_37 rfl rfl rfl ?_
      refine g_callVdi (ci := 11) dX11_greatest_38 lm_X11_468 mv_X11_valueOf (v2) rfl rfl (k100 hL) rfl rfl (Nat.le_of_ble_eq_true rfl) (gFit_room (by omega)) rfl ?_
      refine g_icmp_le (tgt := 49) dX11_greatest_41 (by decide) rfl (fun h41 => ?_) (fun h41 => ?_)
      · refine g_iload_n dX11_greatest_49 rfl rfl rfl ?_
        refine g_istore_n dX11_greatest_50 rfl (by decide) rfl ?_
        refine g_iincV (c := 1) dX11_greatest_51 rfl (by decide) (by decide) rfl ?_
        first
          | (rw [if_pos (Int32.not_le.mp h41)] at eb
             refine g_goto (tgt := 22) dX11_greatest_54 (by decide) ?_
             exact g_go ih ⟨rfl, rfl, by rw [eb]; rfl, rfl, by rw [← nI_1 i]; rfl, trivial⟩)
          | (rw [if_neg (Int32.not_lt.mpr h41)] at eb
             refine g_goto (tgt := 22) dX11_greatest_54 (by decide) ?_
             exact g_go ih ⟨rfl, rfl, by rw [eb]; rfl, rfl, by rw [← nI_1 i]; rfl, trivial⟩)
      · refine g_iload dX11_greatest_44 rfl rfl ?_
        refine g_goto (tgt := 50) dX11_greatest_46 (by decide) ?_
        refine g_istore_n dX11_greatest_50 rfl (by decide) rfl ?_
        refine g_iincV (c := 1) dX11_greatest_51 rfl (by decide) (by decide) rfl ?_
        first
          | (rw [if_pos (Int32.not_le.mp h41)] at eb
             refine g_goto (tgt := 22) dX11_greatest_54 (by decide) ?_
             exact g_go ih ⟨rfl, rfl, by rw [eb]; rfl, rfl, by rw [← nI_1 i]; rfl, trivial⟩)
          | (rw [if_neg (Int32.not_lt.mpr h41)] at eb
             refine g_goto (tgt := 22) dX11_greatest_54 (by decide) ?_
             exact g_go ih ⟨rfl, rfl, by rw [eb]; rfl, rfl, by rw [← nI_1 i]; rfl, trivial⟩)
  by_cases h4 : w < 4
  · have hm2 := hm (tv Mc 3 7) h1P (by omega) (fun k hk => by rw [if_pos h4]; exact hk)
    rw [if_pos h4]
    refine g_iconst (v := 0) dX11_greatest_0 (by decide) rfl ?_
    refine g_istore_n dX11_greatest_1 rfl (by decide) rfl ?_
    refine g_iload_n dX11_greatest_2 rfl rfl rfl ?_
    refine g_iconst (v := 4) dX11_greatest_3 (by decide) rfl ?_
    refine g_icmp_ge (tgt := 14) dX11_greatest_4 (by decide) rfl (fun h_ => absurd h_ (nI_ge (b := 4) h4 (by decide))) (fun _ => ?_)
    refine g_aload_n dX11_greatest_7 rfl rfl rfl ?_
    refine g_getI dX11_greatest_8 ff_X11_285 rfl (k100 hL) rfl ?_
    refine g_goto (tgt := 18) dX11_greatest_11 (by decide) ?_
    rw [e26]
    refine g_istore_n dX11_greatest_18 rfl (by decide) rfl ?_
    refine g_iconst (v := 1) dX11_greatest_19 (by decide) rfl ?_
    refine g_istore dX11_greatest_20 (by decide) rfl ?_
    exact g_go hm2 ⟨rfl, rfl, rfl, rfl, rfl, trivial⟩
  · have hm2 := hm (tv Mc 3 8) h1D (by omega) (fun k hk => by rw [if_neg h4]; exact hk)
    rw [if_neg h4]
    refine g_iconst (v := 0) dX11_greatest_0 (by decide) rfl ?_
    refine g_istore_n dX11_greatest_1 rfl (by decide) rfl ?_
    refine g_iload_n dX11_greatest_2 rfl rfl rfl ?_
    refine g_iconst (v := 4) dX11_greatest_3 (by decide) rfl ?_
    refine g_icmp_ge (tgt := 14) dX11_greatest_4 (by decide) rfl (fun _ => ?_) (fun h_ => absurd (nI_le (show 4 ≤ w by omega) (by omega)) h_)
    refine g_aload_n dX11_greatest_14 rfl rfl rfl ?_
    refine g_getI dX11_greatest_15 ff_X11_288 rfl (k100 hL) rfl ?_
    rw [e27]
    refine g_istore_n dX11_greatest_18 rfl (by decide) rfl ?_
    refine g_iconst (v := 1) dX11_greatest_19 (by decide) rfl ?_
    refine g_istore dX11_greatest_20 (by decide) rfl ?_
    exact g_go hm2 ⟨rfl, rfl, rfl, rfl, rfl, trivial⟩
set_option maxRecDepth 20000 in
set_option maxHeartbeats 1000000 in
theorem r_served (hx : gXok X) (hZ : gSt X) {M0 : gM} (hQ : QS (fun c => c = 114 ∨ c = 1000) Mc M0 M n E EV (gmi Mc 25)) (hRng : RngF (gmi Mc 25)) (hlf : LeftF (gmi Mc 25)) {D0 : Nat} (h66 : gmi Mc 25 66 = nI D0) (hD0 : D0 ≤ 999) : gPos X (d + 36) yX11_served cX11_served 4 (some .int) [.ref 100] M (fun v M2 => v = some (.int (nI (fb_ct (fun p => guin Mc EV p (wishD Mc p)) (tv Mc 3 7)))) ∧ QS (fun c => c = 114 ∨ c = 1000) Mc M0 M2 n E EV (gmi Mc 25)) := by
  have hT := hQ.2.1.2.1
  have h6 := hT.1.2
  have hL := hQ.2.1.1.1
  have hS : Nt (fun c => c = 114 ∨ c = 1000) := ⟨by decide, by decide, by decide, by decide, by decide, by decide, by decide, by decide, by decide⟩
  have ewd : ∀ p, wishD Mc p = (tv Mc 6 p + 7 - D0 % 7) % 7 := fun p => by
    unfold wishD
    rw [show tv Mc 25 66 = D0 from by unfold tv; rw [h66]; exact nI_clamp (by omega)]
  refine gMet.of hx (by decide) (Nat.le_of_ble_eq_true rfl) ?_
  refine g_iconst (v := 0) dX11_served_0 (by decide) rfl ?_
  refine g_istore_n dX11_served_1 rfl (by decide) rfl ?_
  refine g_iconst (v := 0) dX11_served_2 (by decide) rfl ?_
  refine g_istore_n dX11_served_3 rfl (by decide) rfl ?_
  refine g_loopM (fun i => [(0, .ref 100), (1, .int (nI (fb_ct (fun p => guin Mc EV p (wishD Mc p)) i))), (2, .int (nI i))]) (fun i M1 => QS (fun c => c = 114 ∨ c = 1000) Mc M0 M1 n E EV (gmi Mc 25)) (tv Mc 3 7) 0 (by omega) ⟨rfl, rfl, rfl, trivial⟩ hQ (fun M1 hI => ?_) (fun i M1 _ hi hI ih => ?_)
  · have e26 := hI.2.1.e26.1
    refine g_iload_n dX11_served_4 rfl rfl rfl ?_
    refine g_aload_n dX11_served_5 rfl rfl rfl ?_
    refine g_getI dX11_served_6 ff_X11_285 rfl (k100 hI.2.1.1.1) rfl ?_
    rw [e26]
    refine g_icmp_ge (tgt := 73) dX11_served_9 (by decide) rfl (fun _ => ?_) (fun h_ => absurd (nI_le (Nat.le_refl _) (by omega)) h_)
    refine g_iload_n dX11_served_73 rfl rfl rfl ?_
    exact g_iret dX11_served_74 rfl (by first | rfl | exact b01 | exact nb01 hv01) (⟨rfl, hI⟩)
  · have e26 := hI.2.1.e26.1
    have hct := fb_ct_le (fun p => guin Mc EV p (wishD Mc p)) i
    have ect : fb_ct (fun p => guin Mc EV p (wishD Mc p)) (i + 1) = fb_ct (fun p => guin Mc EV p (wishD Mc p)) i + (if guin Mc EV i (wishD Mc i) then 1 else 0) := rfl
    have hwd : wishD Mc i < 7 := by rw [ewd]; exact Nat.mod_lt _ (by decide)
    have cp : ∀ {Ma Mb : gM}, gFr (fun c => c = 114) Ma Mb → QS (fun c => c = 114 ∨ c = 1000) Mc M0 Ma n E EV (gmi Mc 25) → QS (fun c => c = 114 ∨ c = 1000) Mc M0 Mb n E EV (gmi Mc 25) := by
      intro Ma Mb g1 h
      have hx2 : xFr (fun c => c = 114 ∨ c = 1000) Ma Mb := (g1.x (by decide)).mono (fun c q => Or.inl q)
      exact ⟨h.1.tr hx2, h.2.1.x hx2 hS (h.2.1.1.x hx2 hS (g1.2.2.1 115) (g1.2.2.2 116 (by decide))), fun k hk => by rw [g1.2.2.2 113 (by decide)]; exact h.2.2 k hk⟩
    refine g_iload_n dX11_served_4 rfl rfl rfl ?_
    refine g_aload_n dX11_served_5 rfl rfl rfl ?_
    refine g_getI dX11_served_6 ff_X11_285 rfl (k100 hI.2.1.1.1) rfl ?_
    rw [e26]
    refine g_icmp_ge (tgt := 73) dX11_served_9 (by decide) rfl (fun h_ => absurd h_ (nI_ge hi (by omega))) (fun _ => ?_)
    refine g_aload_n dX11_served_12 rfl rfl rfl ?_
    refine g_getR dX11_served_13 ff_X11_61 rfl (k100 hI.2.1.1.1) (r100_32 hI.2.1.1.1) rfl ?_
    refine g_aload_n dX11_served_16 rfl rfl rfl ?_
    refine g_getR dX11_served_17 ff_X11_64 rfl (k100 hI.2.1.1.1) (r100_33 hI.2.1.1.1) rfl ?_
    refine g_callSq dX11_served_20 lm_X11_410 mv_X11_copy (r_copy (d := d + 35) hx hI.2.1.1.1 hI.2.2) rfl rfl (Nat.le_of_ble_eq_true rfl) (gFit_room (by omega)) rfl (fun v M2 hQ => ?_)
    obtain ⟨rfl, hf⟩ := hQ
    obtain ⟨g1, g2, g3⟩ := hf
    have hI2 := cp g1 hI
    have hwo := r_wishOf (d := d + 35) hx hI2.2.1 hI2.2.2 hi h66 (show D0 < 2 ^ 30 by omega)
    rw [← ewd] at hwo
    have loop : ∀ (k j : Nat) (M3 : gM), j + k = wishD Mc i → QS (fun c => c = 114 ∨ c = 1000) Mc M0 M3 n E EV (gmi Mc 25) → RowR M3 114 (agN (gmi Mc 25) (tv Mc 3 8) (tv Mc 3 7) j) → gW X (gRoom (d + 36) 0 0) (gZ X gN0 0 0 (fun v M2 => v = some (.int (nI (fb_ct (fun p => guin Mc EV p (wishD Mc p)) (tv Mc 3 7)))) ∧ QS (fun c => c = 114 ∨ c = 1000) Mc M0 M2 n E EV (gmi Mc 25))) gN0 yX11_served cX11_served 4 (some .int) 29 [(0, .ref 100), (1, .int (nI (fb_ct (fun p => guin Mc EV p (wishD Mc p)) i))), (2, .int (nI i)), (3, .int (nI k))] [] M3 0 0 := by
      intro k
      induction k with
      | zero =>
        intro j M3 hj hJ hR3
        have hj2 : j = wishD Mc i := by omega
        subst hj2
        obtain ⟨i1, i2, -⟩ := agN_ok (D := tv Mc 3 8) (P := tv Mc 3 7) hRng hlf h66 hD0 h6 (wishD Mc i) (by omega)
        have hgn := agN_gun (EV := EV) hT hRng hlf h66 hD0 (show wishD Mc i ≤ 1000 by omega) hi
        refine g_iload_n dX11_served_29 rfl rfl rfl ?_
        refine g_if_le (tgt := 47) dX11_served_30 (by decide) rfl (fun _ => ?_) (fun h_ => absurd (by decide) h_)
        refine g_iload_n dX11_served_47 rfl rfl rfl ?_
        refine g_aload_n dX11_served_48 rfl rfl rfl ?_
        refine g_aload_n dX11_served_49 rfl rfl rfl ?_
        refine g_getR dX11_served_50 ff_X11_64 rfl (k100 hJ.2.1.1.1) (r100_33 hJ.2.1.1.1) rfl ?_
        refine g_iload_n dX11_served_53 rfl rfl rfl ?_
        refine g_callVq (ci := 11) dX11_served_54 lm_X11_370 mv_X11_isGuilty (r_isGuilty (d := d) hx hZ hJ.2.1 (Or.inr rfl) hR3 i1 i2 hi) rfl rfl (k100 hJ.2.1.1.1) rfl rfl (Nat.le_of_ble_eq_true rfl) (gFit_room (by omega)) rfl (fun v M2 hQ => ?_)
        obtain ⟨rfl, hf⟩ := hQ
        have hJ2 := hJ.q hf.1 hf.2
        rw [hgn]
        by_cases hg : guin Mc EV i (wishD Mc i) = true
        · rw [ib_t hg]
          rw [if_pos hg] at ect
          refine g_if_eq (tgt := 64) dX11_served_57 (by decide) rfl (fun h_ => absurd h_ (by decide)) (fun _ => ?_)
          refine g_iconst (v := 1) dX11_served_60 (by decide) rfl ?_
          refine g_goto (tgt := 65) dX11_served_61 (by decide) ?_
          refine g_iadd dX11_served_65 rfl ?_
          rw [nI_1]
          refine g_istore_n dX11_served_66 rfl (by decide) rfl ?_
          refine g_iincV (c := 1) dX11_served_67 rfl (by decide) (by decide) rfl ?_
          refine g_goto (tgt := 4) dX11_served_70 (by decide) ?_
          exact g_go (ih _ hJ2) ⟨rfl, by rw [ect]; rfl, by rw [← nI_1 i]; rfl, trivial⟩
        · rw [ib_f hg]
          rw [if_neg hg, Nat.add_zero] at ect
          refine g_if_eq (tgt := 64) dX11_served_57 (by decide) rfl (fun _ => ?_) (fun h_ => absurd (by decide) h_)
          refine g_iconst (v := 0) dX11_served_64 (by decide) rfl ?_
          refine g_iadd dX11_served_65 rfl ?_
          rw [Int32.add_zero]
          refine g_istore_n dX11_served_66 rfl (by decide) rfl ?_
          refine g_iincV (c := 1) dX11_served_67 rfl (by decide) (by decide) rfl ?_
          refine g_goto (tgt := 4) dX11_served_70 (by decide) ?_
          exact g_go (ih _ hJ2) ⟨rfl, by rw [ect]; rfl, by rw [← nI_1 i]; rfl, trivial⟩
      | succ k ihk =>
        intro j M3 hj hJ hR3
        refine g_iload_n dX11_served_29 rfl rfl rfl ?_
        refine g_if_le (tgt := 47) dX11_served_30 (by decide) rfl (fun h_ => absurd h_ (nI_nle (show 0 < k + 1 by omega) (by omega))) (fun _ => ?_)
        refine g_aload_n dX11_served_33 rfl rfl rfl ?_
        refine g_aload_n dX11_served_34 rfl rfl rfl ?_
        refine g_getR dX11_served_35 ff_X11_64 rfl (k100 hJ.2.1.1.1) (r100_33 hJ.2.1.1.1) rfl ?_
        refine g_callVq (ci := 11) dX11_served_38 lm_X11_386 mv_X11_ages (r_ages (d := d + 34) hx hJ.2.1 (Or.inr rfl) hR3) rfl rfl (k100 hJ.2.1.1.1) rfl rfl (Nat.le_of_ble_eq_true rfl) (gFit_room (by omega)) rfl (fun v M2 hQ => ?_)
        obtain ⟨rfl, hf⟩ := hQ
        have hW := hf
        refine g_iincV (c := -1) dX11_served_41 rfl (by decide) (by decide) rfl ?_
        refine g_goto (tgt := 29) dX11_served_44 (by decide) ?_
        exact g_go (ihk (j + 1) _ (by omega) (cp hW.1 hJ) hW.2.1) ⟨rfl, rfl, rfl, by rw [show k = k + 1 - 1 by omega, ← nI_m1' (show 0 < k + 1 by omega)]; rfl, trivial⟩
    refine g_aload_n dX11_served_23 rfl rfl rfl ?_
    refine g_iload_n dX11_served_24 rfl rfl rfl ?_
    refine g_callVdi (ci := 11) dX11_served_25 lm_X11_465 mv_X11_wishOf (hwo) rfl rfl (k100 hI2.2.1.1.1) rfl rfl (Nat.le_of_ble_eq_true rfl) (gFit_room (by omega)) rfl ?_
    refine g_istore_n dX11_served_28 rfl (by decide) rfl ?_
    exact g_go (loop (wishD Mc i) 0 _ (by omega) hI2 g2) ⟨rfl, rfl, rfl, rfl, trivial⟩
end H12
