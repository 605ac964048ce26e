section H13
variable {X : gX} {Mc M : gM} {d n A c : Nat} {E : Nat → LE} {EV : EVt} {F : Nat → Int32}
theorem or0 (a : Nat) : nI a ||| 0 = nI a := by rw [show (0 : Int32) = nI 0 from rfl, fa_or, Nat.or_zero]
set_option maxRecDepth 20000 in
set_option maxHeartbeats 2000000 in
theorem r_all (hx : gXok X) (hZ : gSt X) (h0 : R0 Mc M n E EV) (hN : RNow Mc M) (hq : 1 ≤ tv Mc 3 7 → 1 ≤ tv Mc 3 8) {w : Int32} : gPos X (d + 37) yX11_all cX11_all 4 (some .int) [.ref 100, .int w] M (fun v M2 => v = some (.int (if gmi Mc 3 7 = 0 then -1 else allV Mc EV w)) ∧ xFr (fun c => c = 114 ∨ c = 1000) M M2 ∧ RQ M2 n E EV) := by
  have hL := h0.1.1
  have hT := h0.2.1
  have h6 := hT.1.2
  obtain ⟨hrow, hlog, hRng, hlf, -, D0, hD0, h66⟩ := hN
  have hQ0 : QS (fun c => c = 114 ∨ c = 1000) Mc M (gwI M 100 0 0) n E EV (gmi Mc 25) := QS.th h0 hrow (Or.inr rfl)
  have h1 := hQ0.2.1
  have e26c : gmi (gwI M 100 0 0) 100 26 = gmi Mc 3 7 := h1.2.2.1
  have hgu0 : ∀ p, p < tv Mc 3 7 → gunF Mc EV (gmi Mc 25) p = guin Mc EV p 0 := fun p hp => agN_gun (EV := EV) (k := 0) hT hRng hlf h66 hD0 (by decide) hp
  refine gMet.of hx (by decide) (Nat.le_of_ble_eq_true rfl) ?_
  by_cases hp0 : gmi Mc 3 7 = 0
  · rw [if_pos hp0]
    refine g_aload_n dX11_all_0 rfl rfl rfl ?_
    refine g_iconst (v := 0) dX11_all_1 (by decide) rfl ?_
    refine g_putI dX11_all_2 fp_X11_90 rfl rfl rfl (k100 hL) rfl ?_
    refine g_aload_n dX11_all_5 rfl rfl rfl ?_
    refine g_getI dX11_all_6 ff_X11_285 rfl (k100 (gLay_I hL)) rfl ?_
    rw [e26c]
    refine g_if_ne (tgt := 14) dX11_all_9 (by decide) rfl (fun h_ => absurd (hp0) h_) (fun _ => ?_)
    refine g_iconst (v := -1) dX11_all_12 (by decide) rfl ?_
    exact g_iret dX11_all_13 rfl (by first | rfl | exact b01 | exact nb01 hv01) (⟨rfl, hQ0.1, h1.1⟩)
  · rw [if_neg hp0]
    have h1P : 1 ≤ tv Mc 3 7 := Nat.pos_of_ne_zero (fun z => hp0 (by rw [hT.1.1, z]; rfl))
    have h1D := hq h1P
    have gr : ∀ k : Nat, k < 6 → gW X (gRoom (d + 37) 0 0) (gZ X gN0 0 0 (fun v M2 => v = some (.int (allV Mc EV (nI k))) ∧ xFr (fun c => c = 114 ∨ c = 1000) M M2 ∧ RQ M2 n E EV)) gN0 yX11_all cX11_all 4 (some .int) 72 [(0, .ref 100), (1, .int (nI k))] [] (gwI M 100 0 0) 0 0 := by
      intro k hk
      have hg := r_greatest (d := d + 32) hx h1 hQ0.2.2 hlf h1P h1D hk
      have ev : allV Mc EV (nI k) = nI (bx (measV Mc (nI k)) ((if k < 4 then tv Mc 3 7 else tv Mc 3 8) - 1)) := by
        unfold allV
        rw [if_neg (nI_pos (by omega)), if_pos (show nI k < 6 from (qlt k 6 rfl rfl (by omega) (by decide)).mpr hk)]
        by_cases h4 : k < 4
        · rw [if_pos h4, if_pos (show nI k < 4 from (qlt k 4 rfl rfl (by omega) (by decide)).mpr h4)]
        · rw [if_neg h4, if_neg (fun z : nI k < 4 => h4 ((qlt k 4 rfl rfl (by omega) (by decide)).mp z))]
      rw [ev]
      refine g_aload_n dX11_all_72 rfl rfl rfl ?_
      refine g_iload_n dX11_all_73 rfl rfl rfl ?_
      refine g_callVdi (ci := 11) dX11_all_74 lm_X11_471 mv_X11_greatest (hg) rfl rfl (k100 h1.1.1) rfl rfl (Nat.le_of_ble_eq_true rfl) (gFit_room (by omega)) rfl ?_
      exact g_iret dX11_all_77 rfl (by first | rfl | exact b01 | exact nb01 hv01) (⟨rfl, hQ0.1, h1.1⟩)
    refine g_aload_n dX11_all_0 rfl rfl rfl ?_
    refine g_iconst (v := 0) dX11_all_1 (by decide) rfl ?_
    refine g_putI dX11_all_2 fp_X11_90 rfl rfl rfl (k100 hL) rfl ?_
    refine g_aload_n dX11_all_5 rfl rfl rfl ?_
    refine g_getI dX11_all_6 ff_X11_285 rfl (k100 (gLay_I hL)) rfl ?_
    rw [e26c]
    refine g_if_ne (tgt := 14) dX11_all_9 (by decide) rfl (fun _ => ?_) (fun h_ => absurd h_ (hp0))
    refine g_iconst (v := 0) dX11_all_14 (by decide) rfl ?_
    refine g_istore_n dX11_all_15 rfl (by decide) rfl ?_
    refine g_iload_n dX11_all_16 rfl rfl rfl ?_
    by_cases e17_0 : w = 0
    · rw [e17_0]
      refine g_tableIn (off := 55) (tgt := 72) dX11_all_17 (by decide) (by decide) (by decide) (by decide) ?_
      first
        | exact g_go (gr 0 (by decide)) ⟨rfl, rfl, trivial⟩
        | exact g_go (gr 1 (by decide)) ⟨rfl, rfl, trivial⟩
        | exact g_go (gr 2 (by decide)) ⟨rfl, rfl, trivial⟩
        | exact g_go (gr 3 (by decide)) ⟨rfl, rfl, trivial⟩
        | exact g_go (gr 4 (by decide)) ⟨rfl, rfl, trivial⟩
        | exact g_go (gr 5 (by decide)) ⟨rfl, rfl, trivial⟩
    by_cases e17_1 : w = 1
    · rw [e17_1]
      refine g_tableIn (off := 55) (tgt := 72) dX11_all_17 (by decide) (by decide) (by decide) (by decide) ?_
      first
        | exact g_go (gr 0 (by decide)) ⟨rfl, rfl, trivial⟩
        | exact g_go (gr 1 (by decide)) ⟨rfl, rfl, trivial⟩
        | exact g_go (gr 2 (by decide)) ⟨rfl, rfl, trivial⟩
        | exact g_go (gr 3 (by decide)) ⟨rfl, rfl, trivial⟩
        | exact g_go (gr 4 (by decide)) ⟨rfl, rfl, trivial⟩
        | exact g_go (gr 5 (by decide)) ⟨rfl, rfl, trivial⟩
    by_cases e17_2 : w = 2
    · rw [e17_2]
      refine g_tableIn (off := 55) (tgt := 72) dX11_all_17 (by decide) (by decide) (by decide) (by decide) ?_
      first
        | exact g_go (gr 0 (by decide)) ⟨rfl, rfl, trivial⟩
        | exact g_go (gr 1 (by decide)) ⟨rfl, rfl, trivial⟩
        | exact g_go (gr 2 (by decide)) ⟨rfl, rfl, trivial⟩
        | exact g_go (gr 3 (by decide)) ⟨rfl, rfl, trivial⟩
        | exact g_go (gr 4 (by decide)) ⟨rfl, rfl, trivial⟩
        | exact g_go (gr 5 (by decide)) ⟨rfl, rfl, trivial⟩
    by_cases e17_3 : w = 3
    · rw [e17_3]
      refine g_tableIn (off := 55) (tgt := 72) dX11_all_17 (by decide) (by decide) (by decide) (by decide) ?_
      first
        | exact g_go (gr 0 (by decide)) ⟨rfl, rfl, trivial⟩
        | exact g_go (gr 1 (by decide)) ⟨rfl, rfl, trivial⟩
        | exact g_go (gr 2 (by decide)) ⟨rfl, rfl, trivial⟩
        | exact g_go (gr 3 (by decide)) ⟨rfl, rfl, trivial⟩
        | exact g_go (gr 4 (by decide)) ⟨rfl, rfl, trivial⟩
        | exact g_go (gr 5 (by decide)) ⟨rfl, rfl, trivial⟩
    by_cases e17_4 : w = 4
    · rw [e17_4]
      refine g_tableIn (off := 55) (tgt := 72) dX11_all_17 (by decide) (by decide) (by decide) (by decide) ?_
      first
        | exact g_go (gr 0 (by decide)) ⟨rfl, rfl, trivial⟩
        | exact g_go (gr 1 (by decide)) ⟨rfl, rfl, trivial⟩
        | exact g_go (gr 2 (by decide)) ⟨rfl, rfl, trivial⟩
        | exact g_go (gr 3 (by decide)) ⟨rfl, rfl, trivial⟩
        | exact g_go (gr 4 (by decide)) ⟨rfl, rfl, trivial⟩
        | exact g_go (gr 5 (by decide)) ⟨rfl, rfl, trivial⟩
    by_cases e17_5 : w = 5
    · rw [e17_5]
      refine g_tableIn (off := 55) (tgt := 72) dX11_all_17 (by decide) (by decide) (by decide) (by decide) ?_
      first
        | exact g_go (gr 0 (by decide)) ⟨rfl, rfl, trivial⟩
        | exact g_go (gr 1 (by decide)) ⟨rfl, rfl, trivial⟩
        | exact g_go (gr 2 (by decide)) ⟨rfl, rfl, trivial⟩
        | exact g_go (gr 3 (by decide)) ⟨rfl, rfl, trivial⟩
        | exact g_go (gr 4 (by decide)) ⟨rfl, rfl, trivial⟩
        | exact g_go (gr 5 (by decide)) ⟨rfl, rfl, trivial⟩
    by_cases e17_6 : w = 6
    · rw [e17_6]
      refine g_tableIn (off := 61) (tgt := 78) dX11_all_17 (by decide) (by decide) (by decide) (by decide) ?_
      have ev : allV Mc EV 6 = nI (bsum (fun p => guin Mc EV p 0) (tv Mc 3 7)) := by unfold allV; rw [if_neg (by decide), if_neg (by decide), if_pos rfl]
      rw [ev]
      refine g_iconst (v := 0) dX11_all_78 (by decide) rfl ?_
      refine g_istore_n dX11_all_79 rfl (by decide) rfl ?_
      refine g_loopM (fun i => [(0, .ref 100), (2, .int (nI (bsum (fun p => guin Mc EV p 0) i))), (3, .int (nI i))]) (fun i M1 => QS (fun c => c = 114 ∨ c = 1000) Mc M M1 n E EV (gmi Mc 25)) (tv Mc 3 7) 0 (by omega) ⟨rfl, rfl, rfl, trivial⟩ hQ0 (fun M1 hI => ?_) (fun i M1 _ hi hI ih => ?_)
      · have e26 := hI.2.1.e26.1
        refine g_iload_n dX11_all_80 rfl rfl rfl ?_
        refine g_aload_n dX11_all_81 rfl rfl rfl ?_
        refine g_getI dX11_all_82 ff_X11_285 rfl (k100 hI.2.1.1.1) rfl ?_
        rw [e26]
        refine g_icmp_ge (tgt := 116) dX11_all_85 (by decide) rfl (fun _ => ?_) (fun h_ => absurd (nI_le (Nat.le_refl _) (by omega)) h_)
        refine g_iload_n dX11_all_116 rfl rfl rfl ?_
        exact g_iret dX11_all_117 rfl (by first | rfl | exact b01 | exact nb01 hv01) (⟨rfl, hI.1, hI.2.1.1⟩)
      · have e26 := hI.2.1.e26.1
        have hlt := bsum_lt (fun p => guin Mc EV p 0) i
        have eb : bsum (fun p => guin Mc EV p 0) (i + 1) = bsum (fun p => guin Mc EV p 0) i + (if guin Mc EV i 0 then 2 ^ i else 0) := rfl
        refine g_iload_n dX11_all_80 rfl rfl rfl ?_
        refine g_aload_n dX11_all_81 rfl rfl rfl ?_
        refine g_getI dX11_all_82 ff_X11_285 rfl (k100 hI.2.1.1.1) rfl ?_
        rw [e26]
        refine g_icmp_ge (tgt := 116) dX11_all_85 (by decide) rfl (fun h_ => absurd h_ (nI_ge hi (by omega))) (fun _ => ?_)
        refine g_iload_n dX11_all_88 rfl rfl rfl ?_
        refine g_aload_n dX11_all_89 rfl rfl rfl ?_
        refine g_aload_n dX11_all_90 rfl rfl rfl ?_
        refine g_getR dX11_all_91 ff_X11_61 rfl (k100 hI.2.1.1.1) (r100_32 hI.2.1.1.1) rfl ?_
        refine g_iload_n dX11_all_94 rfl rfl rfl ?_
        refine g_callVq (ci := 11) dX11_all_95 lm_X11_370 mv_X11_isGuilty (r_isGuilty (d := d + 1) hx hZ hI.2.1 (Or.inl rfl) hI.2.2 hRng hlf hi) rfl rfl (k100 hI.2.1.1.1) rfl rfl (Nat.le_of_ble_eq_true rfl) (gFit_room (by omega)) rfl (fun v M2 hQ => ?_)
        obtain ⟨rfl, hf⟩ := hQ
        have hI2 := hI.q hf.1 hf.2
        rw [hgu0 i hi]
        by_cases hg : guin Mc EV i 0 = true
        · rw [ib_t hg]
          rw [if_pos hg] at eb
          refine g_if_eq (tgt := 107) dX11_all_98 (by decide) rfl (fun h_ => absurd h_ (by decide)) (fun _ => ?_)
          refine g_iconst (v := 1) dX11_all_101 (by decide) rfl ?_
          refine g_iload_n dX11_all_102 rfl rfl rfl ?_
          refine g_ishl dX11_all_103 rfl ?_
          refine g_goto (tgt := 108) dX11_all_104 (by decide) ?_
          refine g_ior dX11_all_108 rfl ?_
          rw [bt_or hlt (by omega)]
          refine g_istore_n dX11_all_109 rfl (by decide) rfl ?_
          refine g_iincV (c := 1) dX11_all_110 rfl (by decide) (by decide) rfl ?_
          refine g_goto (tgt := 80) dX11_all_113 (by decide) ?_
          exact g_go (ih _ hI2) ⟨rfl, by rw [eb]; rfl, by rw [← nI_1 i]; rfl, trivial⟩
        · rw [ib_f hg]
          rw [if_neg hg, Nat.add_zero] at eb
          refine g_if_eq (tgt := 107) dX11_all_98 (by decide) rfl (fun _ => ?_) (fun h_ => absurd (by decide) h_)
          refine g_iconst (v := 0) dX11_all_107 (by decide) rfl ?_
          refine g_ior dX11_all_108 rfl ?_
          rw [or0]
          refine g_istore_n dX11_all_109 rfl (by decide) rfl ?_
          refine g_iincV (c := 1) dX11_all_110 rfl (by decide) (by decide) rfl ?_
          refine g_goto (tgt := 80) dX11_all_113 (by decide) ?_
          exact g_go (ih _ hI2) ⟨rfl, by rw [eb]; rfl, by rw [← nI_1 i]; rfl, trivial⟩
    by_cases e17_7 : w = 7
    · rw [e17_7]
      refine g_tableIn (off := 101) (tgt := 118) dX11_all_17 (by decide) (by decide) (by decide) (by decide) ?_
      have ev : allV Mc EV 7 = nI (smo Mc 25) := by unfold allV; rw [if_neg (by decide), if_neg (by decide), if_neg (by decide), if_pos rfl]
      rw [ev]
      refine g_aload_n dX11_all_118 rfl rfl rfl ?_
      refine g_aload_n dX11_all_119 rfl rfl rfl ?_
      refine g_getR dX11_all_120 ff_X11_61 rfl (k100 h1.1.1) (r100_32 h1.1.1) rfl ?_
      refine g_callVdi (ci := 11) dX11_all_123 lm_X11_382 mv_X11_smooth (r_smooth (d := d + 36) hx h1 (Or.inl rfl) hQ0.2.2) rfl rfl (k100 h1.1.1) rfl rfl (Nat.le_of_ble_eq_true rfl) (gFit_room (by omega)) rfl ?_
      exact g_iret dX11_all_126 rfl (by first | rfl | exact b01 | exact nb01 hv01) (⟨rfl, hQ0.1, h1.1⟩)
    by_cases e17_8 : w = 8
    · rw [e17_8]
      refine g_tableIn (off := 110) (tgt := 127) dX11_all_17 (by decide) (by decide) (by decide) (by decide) ?_
      have ev : allV Mc EV 8 = nI (bsum (fun p => decide (dset Mc 25 p 0 = 0)) (tv Mc 3 7)) := by unfold allV; rw [if_neg (by decide), if_neg (by decide), if_neg (by decide), if_neg (by decide), if_pos rfl]
      rw [ev]
      refine g_iconst (v := 0) dX11_all_127 (by decide) rfl ?_
      refine g_istore_n dX11_all_128 rfl (by decide) rfl ?_
      refine g_loopM (fun i => [(0, .ref 100), (2, .int (nI (bsum (fun p => decide (dset Mc 25 p 0 = 0)) i))), (3, .int (nI i))]) (fun i M1 => M1 = gwI M 100 0 0) (tv Mc 3 7) 0 (by omega) ⟨rfl, rfl, rfl, trivial⟩ rfl (fun M1 hI => ?_) (fun i M1 _ hi hI ih => ?_)
      · subst hI
        have e26 := h1.e26.1
        refine g_iload_n dX11_all_129 rfl rfl rfl ?_
        refine g_aload_n dX11_all_130 rfl rfl rfl ?_
        refine g_getI dX11_all_131 ff_X11_285 rfl (k100 h1.1.1) rfl ?_
        rw [e26]
        refine g_icmp_ge (tgt := 165) dX11_all_134 (by decide) rfl (fun _ => ?_) (fun h_ => absurd (nI_le (Nat.le_refl _) (by omega)) h_)
        refine g_iload_n dX11_all_165 rfl rfl rfl ?_
        exact g_iret dX11_all_166 rfl (by first | rfl | exact b01 | exact nb01 hv01) (⟨rfl, hQ0.1, h1.1⟩)
      · subst hI
        have e26 := h1.e26.1
        have hlt := bsum_lt (fun p => decide (dset Mc 25 p 0 = 0)) i
        have eb : bsum (fun p => decide (dset Mc 25 p 0 = 0)) (i + 1) = bsum (fun p => decide (dset Mc 25 p 0 = 0)) i + (if decide (dset Mc 25 i 0 = 0) then 2 ^ i else 0) := rfl
        have s1 := r_setOf (d := d + 35) hx h1 (Or.inl rfl) hQ0.2.2 hlf (show i < 6 by omega)
        rw [show dsF (gmi Mc 25) (tv Mc 3 8) i 0 = dset Mc 25 i 0 from rfl] at s1
        have hz : nI (dset Mc 25 i 0) = 0 ↔ dset Mc 25 i 0 = 0 := qeq _ 0 rfl rfl (by have := dset_lt hT 25 i 0; omega) (by decide)
        refine g_iload_n dX11_all_129 rfl rfl rfl ?_
        refine g_aload_n dX11_all_130 rfl rfl rfl ?_
        refine g_getI dX11_all_131 ff_X11_285 rfl (k100 h1.1.1) rfl ?_
        rw [e26]
        refine g_icmp_ge (tgt := 165) dX11_all_134 (by decide) rfl (fun h_ => absurd h_ (nI_ge hi (by omega))) (fun _ => ?_)
        refine g_iload_n dX11_all_137 rfl rfl rfl ?_
        refine g_aload_n dX11_all_138 rfl rfl rfl ?_
        refine g_aload_n dX11_all_139 rfl rfl rfl ?_
        refine g_getR dX11_all_140 ff_X11_61 rfl (k100 h1.1.1) (r100_32 h1.1.1) rfl ?_
        refine g_iload_n dX11_all_143 rfl rfl rfl ?_
        refine g_callVdi (ci := 11) dX11_all_144 lm_X11_335 mv_X11_setOf (s1) rfl rfl (k100 h1.1.1) rfl rfl (Nat.le_of_ble_eq_true rfl) (gFit_room (by omega)) rfl ?_
        refine g_if_ne (tgt := 156) dX11_all_147 (by decide) rfl (fun h147 => ?_) (fun h147 => ?_)
        · rw [decide_eq_false (fun z => h147 (hz.mpr z)), if_neg Bool.false_ne_true, Nat.add_zero] at eb
          refine g_iconst (v := 0) dX11_all_156 (by decide) rfl ?_
          refine g_ior dX11_all_157 rfl ?_
          first | rw [bt_or hlt (by omega)] | rw [or0]
          refine g_istore_n dX11_all_158 rfl (by decide) rfl ?_
          refine g_iincV (c := 1) dX11_all_159 rfl (by decide) (by decide) rfl ?_
          refine g_goto (tgt := 129) dX11_all_162 (by decide) ?_
          exact g_go (ih _ rfl) ⟨rfl, by rw [eb]; rfl, by rw [← nI_1 i]; rfl, trivial⟩
        · rw [decide_eq_true (hz.mp h147), if_pos rfl] at eb
          refine g_iconst (v := 1) dX11_all_150 (by decide) rfl ?_
          refine g_iload_n dX11_all_151 rfl rfl rfl ?_
          refine g_ishl dX11_all_152 rfl ?_
          refine g_goto (tgt := 157) dX11_all_153 (by decide) ?_
          refine g_ior dX11_all_157 rfl ?_
          first | rw [bt_or hlt (by omega)] | rw [or0]
          refine g_istore_n dX11_all_158 rfl (by decide) rfl ?_
          refine g_iincV (c := 1) dX11_all_159 rfl (by decide) (by decide) rfl ?_
          refine g_goto (tgt := 129) dX11_all_162 (by decide) ?_
          exact g_go (ih _ rfl) ⟨rfl, by rw [eb]; rfl, by rw [← nI_1 i]; rfl, trivial⟩
    by_cases e17_9 : w = 9
    · rw [e17_9]
      refine g_tableIn (off := 150) (tgt := 167) dX11_all_17 (by decide) (by decide) (by decide) (by decide) ?_
      have ev : allV Mc EV 9 = nI (fb_ct (fun p => guin Mc EV p (wishD Mc p)) (tv Mc 3 7)) := by unfold allV; rw [if_neg (by decide), if_neg (by decide), if_neg (by decide), if_neg (by decide), if_neg (by decide), if_pos rfl]
      rw [ev]
      refine g_aload_n dX11_all_167 rfl rfl rfl ?_
      refine g_callVq (ci := 11) dX11_all_168 lm_X11_474 mv_X11_served (r_served (d := d) hx hZ hQ0 hRng hlf h66 hD0) rfl rfl (k100 h1.1.1) rfl rfl (Nat.le_of_ble_eq_true rfl) (gFit_room (by omega)) rfl (fun v M2 hQ => ?_)
      obtain ⟨rfl, hf⟩ := hQ
      exact g_iret dX11_all_171 rfl (by first | rfl | exact b01 | exact nb01 hv01) (⟨rfl, hf.1, hf.2.1.1⟩)
    refine g_tableOut (tgt := 172) dX11_all_17 (swo 0 10 (by decide) (fun k hk => match k, hk with | 0, _ => e17_0 | 1, _ => e17_1 | 2, _ => e17_2 | 3, _ => e17_3 | 4, _ => e17_4 | 5, _ => e17_5 | 6, _ => e17_6 | 7, _ => e17_7 | 8, _ => e17_8 | 9, _ => e17_9 | (k + 10), hk => absurd hk (by omega))) (by decide) ?_
    have ev : allV Mc EV w = -1 := by
      unfold allV
      by_cases hneg : w < 0
      · rw [if_pos hneg]
      · rw [if_neg hneg, if_neg (fun z => ?_), if_neg e17_6, if_neg e17_7, if_neg e17_8, if_neg e17_9]
        obtain ⟨ew, lw⟩ := in_row (n := 6) rfl (by decide) ⟨Int32.not_lt.mp hneg, z⟩
        rcases (show tn w = 0 ∨ tn w = 1 ∨ tn w = 2 ∨ tn w = 3 ∨ tn w = 4 ∨ tn w = 5 by omega) with y | y | y | y | y | y <;> rw [y] at ew
        · exact e17_0 ew
        · exact e17_1 ew
        · exact e17_2 ew
        · exact e17_3 ew
        · exact e17_4 ew
        · exact e17_5 ew
    rw [ev]
    refine g_iconst (v := -1) dX11_all_172 (by decide) rfl ?_
    exact g_iret dX11_all_173 rfl (by first | rfl | exact b01 | exact nb01 hv01) (⟨rfl, hQ0.1, h1.1⟩)
/-- small numbers of the two -/
def RMs (Mc M : gM) : Prop := gmi M 100 35 = gmi Mc 0 15 ∧ gmi M 100 34 = gmi Mc 20 4 ∧ gmi M 100 7 = gmi Mc 20 3 ∧ gmi M 100 6 = gmi Mc 1 1 ∧ gmi M 100 30 = gmi Mc 0 6 ∧ gmi M 100 44 = gmi Mc 75 5 ∧ gmi M 100 39 = gmi Mc 33 1
set_option maxRecDepth 20000 in
theorem r_count (hx : gXok X) (h0 : R0 Mc M n E EV) (hN : RNow Mc M) (hm : RMs Mc M) {w : Int32} : gDet X (d + 0) yX11_count cX11_count 2 (some .int) [.ref 100, .int w] M (some (.int (countV Mc w))) (gwI M 100 0 0) := by
  have hL := h0.1.1
  obtain ⟨hrow, hlog, hRng, hlf, -, D0, hD0, h66⟩ := hN
  obtain ⟨m1, m2, m3, m4, m5, m6, m7⟩ := hm
  have fl : ∀ j, j ≠ 0 → gmi (gwI M 100 0 0) 100 j = gmi M 100 j := fun j hj => by rw [gmi_I, va_up_ne _ _ hj]
  have e113 : gmi (gwI M 100 0 0) 113 = gmi M 113 := gmi_In _ _ _ (by decide)
  have elog : gmi M 113 67 = imin 60 (gmi Mc 25 66) := by
    rw [hlog.1, h66, tn_nI (by omega), show (60 : Int32) = nI 60 from rfl, iminN (by decide) (by omega)]
  refine gMet.of hx (by decide) (Nat.le_of_ble_eq_true rfl) ?_
  unfold countV
  refine g_aload_n dX11_count_0 rfl rfl rfl ?_
  refine g_iconst (v := 0) dX11_count_1 (by decide) rfl ?_
  refine g_putI dX11_count_2 fp_X11_90 rfl rfl rfl (k100 hL) rfl ?_
  refine g_iload_n dX11_count_5 rfl rfl rfl ?_
  by_cases e6_0 : w = 0
  · rw [e6_0]
    refine g_tableIn (off := 74) (tgt := 80) dX11_count_6 (by decide) (by decide) (by decide) (by decide) ?_
    refine g_aload_n dX11_count_80 rfl rfl rfl ?_
    refine g_getI dX11_count_81 ff_X11_285 rfl (k100 (gLay_I hL)) rfl ?_
    rw [if_pos rfl, fl 26 (by decide), h0.2.2.1]
    exact g_iret dX11_count_84 rfl (by first | rfl | exact b01 | exact nb01 hv01) (⟨by first | rfl | assumption | exact gFr.rf | grind [ib], by first | rfl | assumption | exact gFr.rf | grind [ib]⟩)
  by_cases e6_1 : w = 1
  · rw [e6_1]
    refine g_tableIn (off := 79) (tgt := 85) dX11_count_6 (by decide) (by decide) (by decide) (by decide) ?_
    refine g_aload_n dX11_count_85 rfl rfl rfl ?_
    refine g_getI dX11_count_86 ff_X11_288 rfl (k100 (gLay_I hL)) rfl ?_
    rw [if_neg (by decide), if_pos rfl, fl 27 (by decide), h0.2.2.2.1]
    exact g_iret dX11_count_89 rfl (by first | rfl | exact b01 | exact nb01 hv01) (⟨by first | rfl | assumption | exact gFr.rf | grind [ib], by first | rfl | assumption | exact gFr.rf | grind [ib]⟩)
  by_cases e6_2 : w = 2
  · rw [e6_2]
    refine g_tableIn (off := 84) (tgt := 90) dX11_count_6 (by decide) (by decide) (by decide) (by decide) ?_
    refine g_aload_n dX11_count_90 rfl rfl rfl ?_
    refine g_getI dX11_count_91 ff_X11_277 rfl (k100 (gLay_I hL)) rfl ?_
    rw [if_neg (by decide), if_neg (by decide), if_pos rfl, fl 7 (by decide), m3]
    exact g_iret dX11_count_94 rfl (by first | rfl | exact b01 | exact nb01 hv01) (⟨by first | rfl | assumption | exact gFr.rf | grind [ib], by first | rfl | assumption | exact gFr.rf | grind [ib]⟩)
  by_cases e6_3 : w = 3
  · rw [e6_3]
    refine g_tableIn (off := 89) (tgt := 95) dX11_count_6 (by decide) (by decide) (by decide) (by decide) ?_
    refine g_aload_n dX11_count_95 rfl rfl rfl ?_
    refine g_getI dX11_count_96 ff_X11_280 rfl (k100 (gLay_I hL)) rfl ?_
    rw [if_neg (by decide), if_neg (by decide), if_neg (by decide), if_pos rfl, fl 30 (by decide), m5]
    exact g_iret dX11_count_99 rfl (by first | rfl | exact b01 | exact nb01 hv01) (⟨by first | rfl | assumption | exact gFr.rf | grind [ib], by first | rfl | assumption | exact gFr.rf | grind [ib]⟩)
  by_cases e6_4 : w = 4
  · rw [e6_4]
    refine g_tableIn (off := 94) (tgt := 100) dX11_count_6 (by decide) (by decide) (by decide) (by decide) ?_
    refine g_aload_n dX11_count_100 rfl rfl rfl ?_
    refine g_getI dX11_count_101 ff_X11_103 rfl (k100 (gLay_I hL)) rfl ?_
    rw [if_neg (by decide), if_neg (by decide), if_neg (by decide), if_neg (by decide), if_pos rfl, fl 6 (by decide), m4]
    exact g_iret dX11_count_104 rfl (by first | rfl | exact b01 | exact nb01 hv01) (⟨by first | rfl | assumption | exact gFr.rf | grind [ib], by first | rfl | assumption | exact gFr.rf | grind [ib]⟩)
  by_cases e6_5 : w = 5
  · rw [e6_5]
    refine g_tableIn (off := 99) (tgt := 105) dX11_count_6 (by decide) (by decide) (by decide) (by decide) ?_
    refine g_aload_n dX11_count_105 rfl rfl rfl ?_
    refine g_getI dX11_count_106 ff_X11_67 rfl (k100 (gLay_I hL)) rfl ?_
    rw [if_neg (by decide), if_neg (by decide), if_neg (by decide), if_neg (by decide), if_neg (by decide), if_pos rfl, fl 34 (by decide), m2]
    exact g_iret dX11_count_109 rfl (by first | rfl | exact b01 | exact nb01 hv01) (⟨by first | rfl | assumption | exact gFr.rf | grind [ib], by first | rfl | assumption | exact gFr.rf | grind [ib]⟩)
  by_cases e6_6 : w = 6
  · rw [e6_6]
    refine g_tableIn (off := 104) (tgt := 110) dX11_count_6 (by decide) (by decide) (by decide) (by decide) ?_
    refine g_aload_n dX11_count_110 rfl rfl rfl ?_
    refine g_getR dX11_count_111 ff_X11_61 rfl (k100 (gLay_I hL)) (r100_32 (gLay_I hL)) rfl ?_
    refine g_bipush (v := 65) dX11_count_114 (by decide) rfl ?_
    refine g_iald (i := 65) dX11_count_116 (k113 (gLay_I hL)) (l113 (gLay_I hL)) rfl (by decide) rfl ?_
    rw [if_neg (by decide), if_neg (by decide), if_neg (by decide), if_neg (by decide), if_neg (by decide), if_neg (by decide), if_pos rfl, e113, hrow 65 (by decide), show cix 65 = 66 from rfl]
    exact g_iret dX11_count_117 rfl (by first | rfl | exact b01 | exact nb01 hv01) (⟨by first | rfl | assumption | exact gFr.rf | grind [ib], by first | rfl | assumption | exact gFr.rf | grind [ib]⟩)
  by_cases e6_7 : w = 7
  · rw [e6_7]
    refine g_tableIn (off := 112) (tgt := 118) dX11_count_6 (by decide) (by decide) (by decide) (by decide) ?_
    refine g_aload_n dX11_count_118 rfl rfl rfl ?_
    refine g_getR dX11_count_119 ff_X11_61 rfl (k100 (gLay_I hL)) (r100_32 (gLay_I hL)) rfl ?_
    refine g_bipush (v := 64) dX11_count_122 (by decide) rfl ?_
    refine g_iald (i := 64) dX11_count_124 (k113 (gLay_I hL)) (l113 (gLay_I hL)) rfl (by decide) rfl ?_
    rw [if_neg (by decide), if_neg (by decide), if_neg (by decide), if_neg (by decide), if_neg (by decide), if_neg (by decide), if_neg (by decide), if_pos rfl, e113, hrow 64 (by decide), show cix 64 = 65 from rfl]
    exact g_iret dX11_count_125 rfl (by first | rfl | exact b01 | exact nb01 hv01) (⟨by first | rfl | assumption | exact gFr.rf | grind [ib], by first | rfl | assumption | exact gFr.rf | grind [ib]⟩)
  by_cases e6_8 : w = 8
  · rw [e6_8]
    refine g_tableIn (off := 120) (tgt := 126) dX11_count_6 (by decide) (by decide) (by decide) (by decide) ?_
    refine g_aload_n dX11_count_126 rfl rfl rfl ?_
    refine g_getR dX11_count_127 ff_X11_61 rfl (k100 (gLay_I hL)) (r100_32 (gLay_I hL)) rfl ?_
    refine g_bipush (v := 61) dX11_count_130 (by decide) rfl ?_
    refine g_iald (i := 61) dX11_count_132 (k113 (gLay_I hL)) (l113 (gLay_I hL)) rfl (by decide) rfl ?_
    rw [if_neg (by decide), if_neg (by decide), if_neg (by decide), if_neg (by decide), if_neg (by decide), if_neg (by decide), if_neg (by decide), if_neg (by decide), if_pos rfl, e113, hrow 61 (by decide), show cix 61 = 62 from rfl]
    exact g_iret dX11_count_133 rfl (by first | rfl | exact b01 | exact nb01 hv01) (⟨by first | rfl | assumption | exact gFr.rf | grind [ib], by first | rfl | assumption | exact gFr.rf | grind [ib]⟩)
  by_cases e6_9 : w = 9
  · rw [e6_9]
    refine g_tableIn (off := 128) (tgt := 134) dX11_count_6 (by decide) (by decide) (by decide) (by decide) ?_
    refine g_aload_n dX11_count_134 rfl rfl rfl ?_
    refine g_getR dX11_count_135 ff_X11_61 rfl (k100 (gLay_I hL)) (r100_32 (gLay_I hL)) rfl ?_
    refine g_bipush (v := 62) dX11_count_138 (by decide) rfl ?_
    refine g_iald (i := 62) dX11_count_140 (k113 (gLay_I hL)) (l113 (gLay_I hL)) rfl (by decide) rfl ?_
    rw [if_neg (by decide), if_neg (by decide), if_neg (by decide), if_neg (by decide), if_neg (by decide), if_neg (by decide), if_neg (by decide), if_neg (by decide), if_neg (by decide), if_pos rfl, e113, hrow 62 (by decide), show cix 62 = 63 from rfl]
    exact g_iret dX11_count_141 rfl (by first | rfl | exact b01 | exact nb01 hv01) (⟨by first | rfl | assumption | exact gFr.rf | grind [ib], by first | rfl | assumption | exact gFr.rf | grind [ib]⟩)
  by_cases e6_10 : w = 10
  · rw [e6_10]
    refine g_tableIn (off := 136) (tgt := 142) dX11_count_6 (by decide) (by decide) (by decide) (by decide) ?_
    refine g_aload_n dX11_count_142 rfl rfl rfl ?_
    refine g_getR dX11_count_143 ff_X11_61 rfl (k100 (gLay_I hL)) (r100_32 (gLay_I hL)) rfl ?_
    refine g_bipush (v := 63) dX11_count_146 (by decide) rfl ?_
    refine g_iald (i := 63) dX11_count_148 (k113 (gLay_I hL)) (l113 (gLay_I hL)) rfl (by decide) rfl ?_
    rw [if_neg (by decide), if_neg (by decide), if_neg (by decide), if_neg (by decide), if_neg (by decide), if_neg (by decide), if_neg (by decide), if_neg (by decide), if_neg (by decide), if_neg (by decide), if_pos rfl, e113, hrow 63 (by decide), show cix 63 = 64 from rfl]
    exact g_iret dX11_count_149 rfl (by first | rfl | exact b01 | exact nb01 hv01) (⟨by first | rfl | assumption | exact gFr.rf | grind [ib], by first | rfl | assumption | exact gFr.rf | grind [ib]⟩)
  by_cases e6_11 : w = 11
  · rw [e6_11]
    refine g_tableIn (off := 144) (tgt := 150) dX11_count_6 (by decide) (by decide) (by decide) (by decide) ?_
    refine g_aload_n dX11_count_150 rfl rfl rfl ?_
    refine g_getI dX11_count_151 ff_X11_71 rfl (k100 (gLay_I hL)) rfl ?_
    rw [if_neg (by decide), if_neg (by decide), if_neg (by decide), if_neg (by decide), if_neg (by decide), if_neg (by decide), if_neg (by decide), if_neg (by decide), if_neg (by decide), if_neg (by decide), if_neg (by decide), if_pos rfl, fl 35 (by decide), m1]
    exact g_iret dX11_count_154 rfl (by first | rfl | exact b01 | exact nb01 hv01) (⟨by first | rfl | assumption | exact gFr.rf | grind [ib], by first | rfl | assumption | exact gFr.rf | grind [ib]⟩)
  by_cases e6_12 : w = 12
  · rw [e6_12]
    refine g_tableIn (off := 149) (tgt := 155) dX11_count_6 (by decide) (by decide) (by decide) (by decide) ?_
    refine g_aload_n dX11_count_155 rfl rfl rfl ?_
    refine g_getI dX11_count_156 ff_X11_291 rfl (k100 (gLay_I hL)) rfl ?_
    rw [if_neg (by decide), if_neg (by decide), if_neg (by decide), if_neg (by decide), if_neg (by decide), if_neg (by decide), if_neg (by decide), if_neg (by decide), if_neg (by decide), if_neg (by decide), if_neg (by decide), if_neg (by decide), if_pos rfl, fl 44 (by decide), m6]
    exact g_iret dX11_count_159 rfl (by first | rfl | exact b01 | exact nb01 hv01) (⟨by first | rfl | assumption | exact gFr.rf | grind [ib], by first | rfl | assumption | exact gFr.rf | grind [ib]⟩)
  by_cases e6_13 : w = 13
  · rw [e6_13]
    refine g_tableIn (off := 154) (tgt := 160) dX11_count_6 (by decide) (by decide) (by decide) (by decide) ?_
    refine g_aload_n dX11_count_160 rfl rfl rfl ?_
    refine g_getR dX11_count_161 ff_X11_61 rfl (k100 (gLay_I hL)) (r100_32 (gLay_I hL)) rfl ?_
    refine g_bipush (v := 67) dX11_count_164 (by decide) rfl ?_
    refine g_iald (i := 67) dX11_count_166 (k113 (gLay_I hL)) (l113 (gLay_I hL)) rfl (by decide) rfl ?_
    rw [if_neg (by decide), if_neg (by decide), if_neg (by decide), if_neg (by decide), if_neg (by decide), if_neg (by decide), if_neg (by decide), if_neg (by decide), if_neg (by decide), if_neg (by decide), if_neg (by decide), if_neg (by decide), if_neg (by decide), if_pos rfl, e113, elog]
    exact g_iret dX11_count_167 rfl (by first | rfl | exact b01 | exact nb01 hv01) (⟨by first | rfl | assumption | exact gFr.rf | grind [ib], by first | rfl | assumption | exact gFr.rf | grind [ib]⟩)
  by_cases e6_14 : w = 14
  · rw [e6_14]
    refine g_tableIn (off := 162) (tgt := 168) dX11_count_6 (by decide) (by decide) (by decide) (by decide) ?_
    refine g_aload_n dX11_count_168 rfl rfl rfl ?_
    refine g_getI dX11_count_169 ff_X11_294 rfl (k100 (gLay_I hL)) rfl ?_
    rw [if_neg (by decide), if_neg (by decide), if_neg (by decide), if_neg (by decide), if_neg (by decide), if_neg (by decide), if_neg (by decide), if_neg (by decide), if_neg (by decide), if_neg (by decide), if_neg (by decide), if_neg (by decide), if_neg (by decide), if_neg (by decide), if_pos rfl, fl 39 (by decide), m7]
    exact g_iret dX11_count_172 rfl (by first | rfl | exact b01 | exact nb01 hv01) (⟨by first | rfl | assumption | exact gFr.rf | grind [ib], by first | rfl | assumption | exact gFr.rf | grind [ib]⟩)
  refine g_tableOut (tgt := 173) dX11_count_6 (swo 0 15 (by decide) (fun k hk => match k, hk with | 0, _ => e6_0 | 1, _ => e6_1 | 2, _ => e6_2 | 3, _ => e6_3 | 4, _ => e6_4 | 5, _ => e6_5 | 6, _ => e6_6 | 7, _ => e6_7 | 8, _ => e6_8 | 9, _ => e6_9 | 10, _ => e6_10 | 11, _ => e6_11 | 12, _ => e6_12 | 13, _ => e6_13 | 14, _ => e6_14 | (k + 15), hk => absurd hk (by omega))) (by decide) ?_
  refine g_ldcw dX11_count_173 lq_X11_409 rfl ?_
  rw [if_neg e6_0, if_neg e6_1, if_neg e6_2, if_neg e6_3, if_neg e6_4, if_neg e6_5, if_neg e6_6, if_neg e6_7, if_neg e6_8, if_neg e6_9, if_neg e6_10, if_neg e6_11, if_neg e6_12, if_neg e6_13, if_neg e6_14]
  exact g_iret dX11_count_176 rfl (by first | rfl | exact b01 | exact nb01 hv01) (⟨by first | rfl | assumption | exact gFr.rf | grind [ib], by first | rfl | assumption | exact gFr.rf | grind [ib]⟩)
end H13
