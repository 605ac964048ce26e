def scB : Nat → Prop := fun c => c = 1000 ∨ c = 1041 ∨ c = 1042
section H15
variable {X : gX} {Mc M : gM} {d n A c : Nat} {E : Nat → LE} {EV : EVt} {F : Nat → Int32}
set_option maxRecDepth 20000 in
theorem r_areGuilty (hx : gXok X) (hZ : gSt X) {S : Nat → Prop} {M0 : gM} (hQ : QS S Mc M0 M n E EV (gmi Mc 25)) (hRng : RngF (gmi Mc 25)) (hlf : LeftF (gmi Mc 25)) {q b : Nat} (hq : q < 64) (hb : b < 256) : gPos X (d + 35) yX11_areGuilty cX11_areGuilty 4 (some .boolean) [.ref 100, .int (nI q), .int (nI b)] M (fun v M2 => v = some (.int (ib (allG Mc EV q b (tv Mc 3 7) = true))) ∧ QS S Mc M0 M2 n E EV (gmi Mc 25) ∧ qFr M M2) := by
  have hT := hQ.2.1.2.1
  have h6 := hT.1.2
  have hL := hQ.2.1.1.1
  refine gMet.of hx (by decide) (Nat.le_of_ble_eq_true rfl) ?_
  refine g_iconst (v := 0) dX11_areGuilty_0 (by decide) rfl ?_
  refine g_istore_n dX11_areGuilty_1 rfl (by decide) rfl ?_
  refine g_loopM (fun i => [(0, .ref 100), (1, .int (nI q)), (2, .int (nI b)), (3, .int (nI i))]) (fun i M1 => (QS S Mc M0 M1 n E EV (gmi Mc 25) ∧ qFr M M1) ∧ allG Mc EV q b i = true) (tv Mc 3 7) 0 (by omega) ⟨rfl, rfl, rfl, rfl, trivial⟩ ⟨⟨hQ, qFr.rf⟩, rfl⟩ (fun M1 hI => ?_) (fun i M1 _ hi hI ih => ?_)
  · have e26 := hI.1.1.2.1.e26.1
    refine g_iload_n dX11_areGuilty_2 rfl rfl rfl ?_
    refine g_aload_n dX11_areGuilty_3 rfl rfl rfl ?_
    refine g_getI dX11_areGuilty_4 ff_X11_285 rfl (k100 hI.1.1.2.1.1.1) rfl ?_
    rw [e26]
    refine g_icmp_ge (tgt := 49) dX11_areGuilty_7 (by decide) rfl (fun _ => ?_) (fun h_ => absurd (nI_le (Nat.le_refl _) (by omega)) h_)
    refine g_iconst (v := 1) dX11_areGuilty_49 (by decide) rfl ?_
    exact g_iret dX11_areGuilty_50 rfl (by first | rfl | exact b01 | exact nb01 hv01) (⟨by rw [ib_t hI.2], hI.1⟩)
  · have e26 := hI.1.1.2.1.e26.1
    have hds := dset_lt hT 25 i 0
    have s1 := r_setOf (d := d + 33) hx hI.1.1.2.1 (Or.inl rfl) hI.1.1.2.2 hlf (show i < 6 by omega)
    rw [show dsF (gmi Mc 25) (tv Mc 3 8) i 0 = dset Mc 25 i 0 from rfl] at s1
    have eg : allG Mc EV q b (i + 1) = (allG Mc EV q b i && (!q.testBit i || gub Mc EV i (b ||| dset Mc 25 i 0))) := rfl
    refine g_iload_n dX11_areGuilty_2 rfl rfl rfl ?_
    refine g_aload_n dX11_areGuilty_3 rfl rfl rfl ?_
    refine g_getI dX11_areGuilty_4 ff_X11_285 rfl (k100 hI.1.1.2.1.1.1) rfl ?_
    rw [e26]
    refine g_icmp_ge (tgt := 49) dX11_areGuilty_7 (by decide) rfl (fun h_ => absurd h_ (nI_ge hi (by omega))) (fun _ => ?_)
    refine g_iload_n dX11_areGuilty_10 rfl rfl rfl ?_
    refine g_iload_n dX11_areGuilty_11 rfl rfl rfl ?_
    refine g_callSdi dX11_areGuilty_12 lm_X11_223 mv_X11_has (r_has (d := d + 34) hx (show q < 2 ^ 31 by omega) (show i < 32 by omega)) rfl rfl (Nat.le_of_ble_eq_true rfl) (gFit_room (by omega)) rfl ?_
    refine g_ieq (tgt := 43) dX11_areGuilty_15 (by decide) rfl (fun h15 => ?_) (fun h15 => ?_)
    · refine g_iincV (c := 1) dX11_areGuilty_43 rfl (by decide) (by decide) rfl ?_
      refine g_goto (tgt := 2) dX11_areGuilty_46 (by decide) ?_
      first
        | exact g_go (ih _ ⟨⟨hQ2, hq2⟩, by rw [eg, hI.2, gub_rd.mpr h38, Bool.or_true]; rfl⟩) ⟨rfl, rfl, rfl, by rw [← nI_1 i]; rfl, trivial⟩
        | exact g_go (ih _ ⟨hI.1, by rw [eg, hI.2, Bool.eq_false_iff.mpr h15]; rfl⟩) ⟨rfl, rfl, rfl, by rw [← nI_1 i]; rfl, trivial⟩
    · refine g_aload_n dX11_areGuilty_18 rfl rfl rfl ?_
      refine g_aload_n dX11_areGuilty_19 rfl rfl rfl ?_
      refine g_getR dX11_areGuilty_20 ff_X11_61 rfl (k100 hI.1.1.2.1.1.1) (r100_32 hI.1.1.2.1.1.1) rfl ?_
      refine g_iload_n dX11_areGuilty_23 rfl rfl rfl ?_
      refine g_aload_n dX11_areGuilty_24 rfl rfl rfl ?_
      refine g_aload_n dX11_areGuilty_25 rfl rfl rfl ?_
      refine g_getR dX11_areGuilty_26 ff_X11_61 rfl (k100 hI.1.1.2.1.1.1) (r100_32 hI.1.1.2.1.1.1) rfl ?_
      refine g_iload_n dX11_areGuilty_29 rfl rfl rfl ?_
      refine g_callVdi (ci := 11) dX11_areGuilty_30 lm_X11_335 mv_X11_setOf (s1) rfl rfl (k100 hI.1.1.2.1.1.1) rfl rfl (Nat.le_of_ble_eq_true rfl) (gFit_room (by omega)) rfl ?_
      refine g_iload_n dX11_areGuilty_33 rfl rfl rfl ?_
      refine g_ior dX11_areGuilty_34 rfl ?_
      rw [fa_or, Nat.or_comm]
      refine g_callVq (ci := 11) dX11_areGuilty_35 lm_X11_339 mv_X11_readWith (r_readWith (d := d) hx hZ hI.1.1.2.1 (Or.inl rfl) hI.1.1.2.2 hRng hi (bt_orlt hb hds)) rfl rfl (k100 hI.1.1.2.1.1.1) rfl rfl (Nat.le_of_ble_eq_true rfl) (gFit_room (by omega)) rfl (fun v M2 hQ => ?_)
      obtain ⟨rfl, hf⟩ := hQ
      have hQ2 := hI.1.1.q hf.1 hf.2
      have hq2 := hI.1.2.tr hf.1
      refine g_if_gt (tgt := 43) dX11_areGuilty_38 (by decide) rfl (fun h38 => ?_) (fun h38 => ?_)
      · refine g_iincV (c := 1) dX11_areGuilty_43 rfl (by decide) (by decide) rfl ?_
        refine g_goto (tgt := 2) dX11_areGuilty_46 (by decide) ?_
        first
          | exact g_go (ih _ ⟨⟨hQ2, hq2⟩, by rw [eg, hI.2, gub_rd.mpr h38, Bool.or_true]; rfl⟩) ⟨rfl, rfl, rfl, by rw [← nI_1 i]; rfl, trivial⟩
          | exact g_go (ih _ ⟨hI.1, by rw [eg, hI.2, Bool.eq_false_iff.mpr h15]; rfl⟩) ⟨rfl, rfl, rfl, by rw [← nI_1 i]; rfl, trivial⟩
      · refine g_iconst (v := 0) dX11_areGuilty_41 (by decide) rfl ?_
        exact g_iret dX11_areGuilty_42 rfl (by first | rfl | exact b01 | exact nb01 hv01) (⟨by rw [allG_false (i := i) (by rw [h15, Bool.eq_false_iff.mpr (fun z => h38 (gub_rd.mp z))]; rfl) _ hi]; rfl, hQ2, hq2⟩)
theorem hmA_i {q b : Nat} (hT : TownOK Mc) (hb : b < 256) : ∀ k, k ≤ 6 → ssum q (fun p => ssum (bdif b (dset Mc 25 p 0)) (tv Mc 8) (tv Mc 3 8)) k ≤ k * 100 := fun k _ => ssum_le (fun p _ => Nat.le_trans (ssum_le (m := 9) (fun e he => (hT.2.2.2.1 e (by have := hT.2.1.2; omega)).2)) (by have := hT.2.1.2; omega))
set_option maxRecDepth 20000 in
theorem r_harmOf (hx : gXok X) (h0 : R0 Mc M n E EV) (hR : RowR M 113 (gmi Mc 25)) (hlf : LeftF (gmi Mc 25)) {q b : Nat} (hq : q < 64) (hb : b < 256) : gDet X (d + 2) yX11_harmOf cX11_harmOf 5 (some .int) [.ref 100, .int (nI q), .int (nI b)] M (some (.int (nI (hmA Mc q b)))) M := by
  have hT := h0.2.1
  have h6 := hT.1.2
  have hL := h0.1.1
  obtain ⟨e26, -⟩ := h0.e26
  refine gMet.of hx (by decide) (Nat.le_of_ble_eq_true rfl) ?_
  unfold hmA
  refine g_iconst (v := 0) dX11_harmOf_0 (by decide) rfl ?_
  refine g_istore_n dX11_harmOf_1 rfl (by decide) rfl ?_
  refine g_iconst (v := 0) dX11_harmOf_2 (by decide) rfl ?_
  refine g_istore dX11_harmOf_3 (by decide) rfl ?_
  refine g_loop (fun i => [(0, .ref 100), (1, .int (nI q)), (2, .int (nI b)), (3, .int (nI (ssum q (fun p => ssum (bdif b (dset Mc 25 p 0)) (tv Mc 8) (tv Mc 3 8)) i))), (4, .int (nI i))]) (fun _ => M) (tv Mc 3 7) 0 (by omega) ⟨rfl, rfl, rfl, rfl, rfl, trivial⟩ rfl ?_ (fun i _ hi ih => ?_)
  · refine g_iload dX11_harmOf_5 rfl rfl ?_
    refine g_aload_n dX11_harmOf_7 rfl rfl rfl ?_
    refine g_getI dX11_harmOf_8 ff_X11_285 rfl (k100 hL) rfl ?_
    rw [e26]
    refine g_icmp_ge (tgt := 55) dX11_harmOf_11 (by decide) rfl (fun _ => ?_) (fun h_ => absurd (nI_le (Nat.le_refl _) (by omega)) h_)
    refine g_iload_n dX11_harmOf_55 rfl rfl rfl ?_
    exact g_iret dX11_harmOf_56 rfl (by first | rfl | exact b01 | exact nb01 hv01) (⟨by first | rfl | assumption | exact gFr.rf | grind [ib], by first | rfl | assumption | exact gFr.rf | grind [ib]⟩)
  · have s1 := r_setOf (d := d) hx h0 (Or.inl rfl) hR hlf (show i < 6 by omega)
    rw [show dsF (gmi Mc 25) (tv Mc 3 8) i 0 = dset Mc 25 i 0 from rfl] at s1
    have es : ssum q (fun p => ssum (bdif b (dset Mc 25 p 0)) (tv Mc 8) (tv Mc 3 8)) (i + 1) = ssum q (fun p => ssum (bdif b (dset Mc 25 p 0)) (tv Mc 8) (tv Mc 3 8)) i + (if q.testBit i then ssum (bdif b (dset Mc 25 i 0)) (tv Mc 8) (tv Mc 3 8) else 0) := rfl
    refine g_iload dX11_harmOf_5 rfl rfl ?_
    refine g_aload_n dX11_harmOf_7 rfl rfl rfl ?_
    refine g_getI dX11_harmOf_8 ff_X11_285 rfl (k100 hL) rfl ?_
    rw [e26]
    refine g_icmp_ge (tgt := 55) dX11_harmOf_11 (by decide) rfl (fun h_ => absurd h_ (nI_ge hi (by omega))) (fun _ => ?_)
    refine g_iload_n dX11_harmOf_14 rfl rfl rfl ?_
    refine g_iload_n dX11_harmOf_15 rfl rfl rfl ?_
    refine g_iload dX11_harmOf_16 rfl rfl ?_
    refine g_callSdi dX11_harmOf_18 lm_X11_223 mv_X11_has (r_has (d := d + 1) hx (show q < 2 ^ 31 by omega) (show i < 32 by omega)) rfl rfl (Nat.le_of_ble_eq_true rfl) (gFit_room (by omega)) rfl ?_
    refine g_ieq (tgt := 46) dX11_harmOf_21 (by decide) rfl (fun h21 => ?_) (fun h21 => ?_)
    · refine g_iconst (v := 0) dX11_harmOf_46 (by decide) rfl ?_
      refine g_iadd dX11_harmOf_47 rfl ?_
      refine g_istore_n dX11_harmOf_48 rfl (by decide) rfl ?_
      refine g_iincV (c := 1) dX11_harmOf_49 rfl (by decide) (by decide) rfl ?_
      first
        | (rw [if_pos h21] at es
           refine g_goto (tgt := 5) dX11_harmOf_52 (by decide) ?_
           exact g_go ih ⟨rfl, rfl, rfl, by rw [es, ← nI_add]; rfl, by rw [← nI_1 i]; rfl, trivial⟩)
        | (rw [if_neg h21, Nat.add_zero] at es
           refine g_goto (tgt := 5) dX11_harmOf_52 (by decide) ?_
           exact g_go ih ⟨rfl, rfl, rfl, by rw [es]; exact congrArg (fun y => some (Value.int y)) (Int32.add_zero _), by rw [← nI_1 i]; rfl, trivial⟩)
    · refine g_aload_n dX11_harmOf_24 rfl rfl rfl ?_
      refine g_iload_n dX11_harmOf_25 rfl rfl rfl ?_
      refine g_aload_n dX11_harmOf_26 rfl rfl rfl ?_
      refine g_aload_n dX11_harmOf_27 rfl rfl rfl ?_
      refine g_getR dX11_harmOf_28 ff_X11_61 rfl (k100 hL) (r100_32 hL) rfl ?_
      refine g_iload dX11_harmOf_31 rfl rfl ?_
      refine g_callVdi (ci := 11) dX11_harmOf_33 lm_X11_335 mv_X11_setOf (s1) rfl rfl (k100 hL) rfl rfl (Nat.le_of_ble_eq_true rfl) (gFit_room (by omega)) rfl ?_
      refine g_iconst (v := -1) dX11_harmOf_36 (by decide) rfl ?_
      refine g_ixor dX11_harmOf_37 rfl ?_
      refine g_iand dX11_harmOf_38 rfl ?_
      refine g_iconst (v := 1) dX11_harmOf_39 (by decide) rfl ?_
      rw [bt_andn, show dset Mc 25 i 0 = dset Mc 25 i 0 from rfl]
      refine g_callVdi (ci := 11) dX11_harmOf_40 lm_X11_324 mv_X11_sumOf (r_sumOf (d := d) (c := 8) (z := 1) hx h0 (bdif_lt (b := dset Mc 25 i 0) hb) (Or.inr ⟨rfl, rfl⟩)) rfl rfl (k100 hL) rfl rfl (Nat.le_of_ble_eq_true rfl) (gFit_room (by omega)) rfl ?_
      refine g_goto (tgt := 47) dX11_harmOf_43 (by decide) ?_
      refine g_iadd dX11_harmOf_47 rfl ?_
      refine g_istore_n dX11_harmOf_48 rfl (by decide) rfl ?_
      refine g_iincV (c := 1) dX11_harmOf_49 rfl (by decide) (by decide) rfl ?_
      first
        | (rw [if_pos h21] at es
           refine g_goto (tgt := 5) dX11_harmOf_52 (by decide) ?_
           exact g_go ih ⟨rfl, rfl, rfl, by rw [es, ← nI_add]; rfl, by rw [← nI_1 i]; rfl, trivial⟩)
        | (rw [if_neg h21, Nat.add_zero] at es
           refine g_goto (tgt := 5) dX11_harmOf_52 (by decide) ?_
           exact g_go ih ⟨rfl, rfl, rfl, by rw [es]; exact congrArg (fun y => some (Value.int y)) (Int32.add_zero _), by rw [← nI_1 i]; rfl, trivial⟩)
/-- the best so far -/
def BeS (M1 : gM) (s : Int32 × Int32) : Prop := gmi M1 100 41 = s.1 ∧ (¬ s.1 = -1 → gmi M1 100 42 = s.2)
theorem QS.best {M0 M1 : gM} {v w : Int32} (h : QS scB Mc M0 M1 n E EV F) : QS scB Mc M0 (gwI (gwI M1 100 41 v) 100 42 w) n E EV F := ⟨(h.1.tr (xFr.wf (Or.inr (Or.inl rfl)))).tr (xFr.wf (Or.inr (Or.inr rfl))), (h.2.1.wf (by decide) (by decide) (by decide) (by decide)).wf (by decide) (by decide) (by decide) (by decide), (h.2.2.wf (by decide)).wf (by decide)⟩
theorem BeS.q {M1 M2 : gM} {s : Int32 × Int32} (h : BeS M1 s) (hq : qFr M1 M2) : BeS M2 s := by
  unfold BeS
  rw [hq.2.2.2.2.2 41 (by decide) (by decide), hq.2.2.2.2.2 42 (by decide) (by decide)]
  exact h
theorem bet_c {bs h x y : Int32} {k : Nat} (hxy : ¬ bs = -1 → x = y) : bet (bs, x) k h ↔ bet (bs, y) k h := by
  by_cases z : bs = -1
  · exact ⟨fun _ => Or.inl z, fun _ => Or.inl z⟩
  · rw [hxy z]
set_option maxRecDepth 20000 in
set_option maxHeartbeats 1000000 in
theorem r_cover (hx : gXok X) (hZ : gSt X) (h0 : R0 Mc M n E EV) (hN : RNow Mc M) {x z : Int32} : gPos X (d + 36) yX11_cover cX11_cover 4 (some .int) [.ref 100, .int x, .int z] M (fun v M2 => v = some (.int (if ¬ x < 1 ∧ x < nI (2 ^ tv Mc 3 7) then cheapV Mc EV (tn x) z else -1)) ∧ xFr scB M M2 ∧ RQ M2 n E EV) := by
  have hL := h0.1.1
  have hT := h0.2.1
  have h6 := hT.1.2
  have h8 := hT.2.1.2
  have h256 : 2 ^ tv Mc 3 8 ≤ 256 := Nat.le_trans (bt_pow h8) (by decide)
  have h64 : 2 ^ tv Mc 3 7 ≤ 64 := Nat.le_trans (bt_pow h6) (by decide)
  have h1p : 1 ≤ 2 ^ tv Mc 3 7 := Nat.one_le_two_pow
  obtain ⟨hrow, hlog, hRng, hlf, -, D0, hD0, h66⟩ := hN
  have hQ0 : QS scB Mc M (gwI M 100 0 0) n E EV (gmi Mc 25) := QS.th h0 hrow (Or.inl rfl)
  have h1 := hQ0.2.1
  have e26 := h1.e26.1
  have e26c : gmi (gwI M 100 0 0) 100 26 = gmi Mc 3 7 := h1.2.2.1
  refine gMet.of hx (by decide) (Nat.le_of_ble_eq_true rfl) ?_
  have hxi : (1 ≤ x ∧ x ≤ nI (2 ^ tv Mc 3 7) - 1) ↔ (¬ x < 1 ∧ x < nI (2 ^ tv Mc 3 7)) := by
    rw [nI_m1 (by omega), Int32.lt_iff_toInt_lt, Int32.lt_iff_toInt_lt, Int32.le_iff_toInt_le, Int32.le_iff_toInt_le, nI_toInt (by omega), nI_toInt (by omega), show (1 : Int32).toInt = 1 from rfl]
    omega
  by_cases hxc : ¬ x < 1 ∧ x < nI (2 ^ tv Mc 3 7)
  · rw [if_pos hxc]
    have hp0 : ¬ gmi Mc 3 7 = 0 := fun y => by
      have : tv Mc 3 7 = 0 := by unfold tv; rw [y]; rfl
      rw [this] at hxc
      have := hxc.2
      exact hxc.1 this
    obtain ⟨ex, lx⟩ := in_row (n := 2 ^ tv Mc 3 7) rfl (by omega) ⟨Int32.le_trans (by decide) (Int32.not_lt.mp hxc.1), hxc.2⟩
    unfold cheapV
    by_cases hz : 0 ≤ z ∧ z ≤ 1
    · rw [if_pos ⟨Int32.not_lt.mpr hz.1, hz.2⟩]
      generalize hq : tn x = q at *
      have hq64 : q < 64 := by omega
      refine g_aload_n dX11_cover_0 rfl rfl rfl ?_
      refine g_iconst (v := 0) dX11_cover_1 (by decide) rfl ?_
      refine g_putI dX11_cover_2 fp_X11_90 rfl rfl rfl (k100 hL) rfl ?_
      refine g_aload_n dX11_cover_5 rfl rfl rfl ?_
      refine g_getI dX11_cover_6 ff_X11_285 rfl (k100 (gLay_I hL)) rfl ?_
      rw [e26c]
      refine g_if_eq (tgt := 40) dX11_cover_9 (by decide) rfl (fun h_ => absurd h_ (hp0)) (fun _ => ?_)
      refine g_iload_n dX11_cover_12 rfl rfl rfl ?_
      refine g_i2l dX11_cover_13 rfl ?_
      refine g_lconst (v := 1) dX11_cover_14 (by decide) rfl ?_
      refine g_iconst (v := 1) dX11_cover_15 (by decide) rfl ?_
      refine g_aload_n dX11_cover_16 rfl rfl rfl ?_
      refine g_getI dX11_cover_17 ff_X11_285 rfl (k100 (gLay_I hL)) rfl ?_
      refine g_ishl dX11_cover_20 rfl ?_
      refine g_iconst (v := 1) dX11_cover_21 (by decide) rfl ?_
      refine g_isub dX11_cover_22 rfl ?_
      refine g_i2l dX11_cover_23 rfl ?_
      rw [e26, bt_one _ (by omega)]
      refine g_callSdi dX11_cover_24 lm_X11_211 mv_X11_isIn (r_isIn (d := d + 35) (l := 1) (h := nI (2 ^ tv Mc 3 7) - 1) hx rfl (by decide) rfl) rfl rfl (Nat.le_of_ble_eq_true rfl) (gFit_room (by omega)) rfl ?_
      rw [ib_t (hxi.mpr hxc)]
      refine g_if_eq (tgt := 40) dX11_cover_27 (by decide) rfl (fun h_ => absurd h_ (by decide)) (fun _ => ?_)
      refine g_iload_n dX11_cover_30 rfl rfl rfl ?_
      refine g_i2l dX11_cover_31 rfl ?_
      refine g_lconst (v := 0) dX11_cover_32 (by decide) rfl ?_
      refine g_lconst (v := 1) dX11_cover_33 (by decide) rfl ?_
      refine g_callSdi dX11_cover_34 lm_X11_211 mv_X11_isIn (r_isIn (d := d + 35) (l := 0) (h := 1) hx rfl (by decide) (by decide)) rfl rfl (Nat.le_of_ble_eq_true rfl) (gFit_room (by omega)) rfl ?_
      rw [ib_t hz]
      refine g_if_ne (tgt := 42) dX11_cover_37 (by decide) rfl (fun _ => ?_) (fun h_ => absurd h_ (by decide))
      refine g_aload_n dX11_cover_42 rfl rfl rfl ?_
      refine g_iconst (v := -1) dX11_cover_43 (by decide) rfl ?_
      refine g_putI dX11_cover_44 fp_X11_421 rfl rfl rfl (k100 (gLay_I hL)) rfl ?_
      refine g_iconst (v := 0) dX11_cover_47 (by decide) rfl ?_
      refine g_istore_n dX11_cover_48 rfl (by decide) rfl ?_
      have hQ1 : QS scB Mc M (gwI (gwI M 100 0 0) 100 41 (-1)) n E EV (gmi Mc 25) := ⟨hQ0.1.tr (xFr.wf (Or.inr (Or.inl rfl))), h1.wf (by decide) (by decide) (by decide) (by decide), hQ0.2.2.wf (by decide)⟩
      have hB1 : BeS (gwI (gwI M 100 0 0) 100 41 (-1)) (chS Mc EV q 0) := ⟨by rw [gmi_I, va_up_self]; rfl, fun y => absurd rfl y⟩
      refine g_loopM (fun i => [(0, .ref 100), (1, .int x), (2, .int z), (3, .int (nI i))]) (fun i M1 => QS scB Mc M M1 n E EV (gmi Mc 25) ∧ BeS M1 (chS Mc EV q i)) (2 ^ tv Mc 3 8) 0 (Nat.zero_le _) ⟨rfl, rfl, rfl, rfl, trivial⟩ ⟨hQ1, hB1⟩ (fun M1 hI => ?_) (fun i M1 _ hi hI ih => ?_)
      · have e27 := hI.1.2.1.e26.2.1
        by_cases hz0 : z = 0
        · rw [if_pos hz0]
          refine g_iload_n dX11_cover_49 rfl rfl rfl ?_
          refine g_iconst (v := 1) dX11_cover_50 (by decide) rfl ?_
          refine g_aload_n dX11_cover_51 rfl rfl rfl ?_
          refine g_getI dX11_cover_52 ff_X11_288 rfl (k100 hI.1.2.1.1.1) rfl ?_
          refine g_ishl dX11_cover_55 rfl ?_
          rw [e27, bt_one _ (by omega)]
          refine g_icmp_ge (tgt := 85) dX11_cover_56 (by decide) rfl (fun _ => ?_) (fun h_ => absurd (nI_le (Nat.le_refl _) (by omega)) h_)
          refine g_aload_n dX11_cover_85 rfl rfl rfl ?_
          refine g_getI dX11_cover_86 ff_X11_421 rfl (k100 hI.1.2.1.1.1) rfl ?_
          refine g_iconst (v := -1) dX11_cover_89 (by decide) rfl ?_
          rw [hI.2.1]
          refine g_icmp_eq (tgt := 97) dX11_cover_90 (by decide) rfl (fun h90 => ?_) (fun h90 => ?_)
          · refine g_aload_n dX11_cover_97 rfl rfl rfl ?_
            refine g_getI dX11_cover_98 ff_X11_421 rfl (k100 hI.1.2.1.1.1) rfl ?_
            refine g_goto (tgt := 108) dX11_cover_101 (by decide) ?_
            rw [hI.2.1]
            exact g_iret dX11_cover_108 rfl (by first | rfl | exact b01 | exact nb01 hv01) (⟨rfl, hI.1.1, hI.1.2.1.1⟩)
          · refine g_iload_n dX11_cover_93 rfl rfl rfl ?_
            refine g_if_ne (tgt := 104) dX11_cover_94 (by decide) rfl (fun h_ => absurd (hz0) h_) (fun _ => ?_)
            refine g_aload_n dX11_cover_97 rfl rfl rfl ?_
            refine g_getI dX11_cover_98 ff_X11_421 rfl (k100 hI.1.2.1.1.1) rfl ?_
            refine g_goto (tgt := 108) dX11_cover_101 (by decide) ?_
            rw [hI.2.1]
            exact g_iret dX11_cover_108 rfl (by first | rfl | exact b01 | exact nb01 hv01) (⟨rfl, hI.1.1, hI.1.2.1.1⟩)
        · rw [if_neg hz0]
          by_cases hno : (chS Mc EV q (2 ^ tv Mc 3 8)).1 = -1
          · have he : chS Mc EV q (2 ^ tv Mc 3 8) = (-1, -1) := (chS_1 (Mc := Mc) (EV := EV) q _).resolve_right (fun ⟨m, hm, y⟩ => by rw [y] at hno; exact neg1 (by omega) hno)
            refine g_iload_n dX11_cover_49 rfl rfl rfl ?_
            refine g_iconst (v := 1) dX11_cover_50 (by decide) rfl ?_
            refine g_aload_n dX11_cover_51 rfl rfl rfl ?_
            refine g_getI dX11_cover_52 ff_X11_288 rfl (k100 hI.1.2.1.1.1) rfl ?_
            refine g_ishl dX11_cover_55 rfl ?_
            rw [e27, bt_one _ (by omega)]
            refine g_icmp_ge (tgt := 85) dX11_cover_56 (by decide) rfl (fun _ => ?_) (fun h_ => absurd (nI_le (Nat.le_refl _) (by omega)) h_)
            refine g_aload_n dX11_cover_85 rfl rfl rfl ?_
            refine g_getI dX11_cover_86 ff_X11_421 rfl (k100 hI.1.2.1.1.1) rfl ?_
            refine g_iconst (v := -1) dX11_cover_89 (by decide) rfl ?_
            rw [hI.2.1]
            refine g_icmp_eq (tgt := 97) dX11_cover_90 (by decide) rfl (fun _ => ?_) (fun h_ => absurd (hno) h_)
            refine g_aload_n dX11_cover_97 rfl rfl rfl ?_
            refine g_getI dX11_cover_98 ff_X11_421 rfl (k100 hI.1.2.1.1.1) rfl ?_
            refine g_goto (tgt := 108) dX11_cover_101 (by decide) ?_
            rw [hI.2.1]
            exact g_iret dX11_cover_108 rfl (by first | rfl | exact b01 | exact nb01 hv01) (⟨by rw [he], hI.1.1, hI.1.2.1.1⟩)
          · refine g_iload_n dX11_cover_49 rfl rfl rfl ?_
            refine g_iconst (v := 1) dX11_cover_50 (by decide) rfl ?_
            refine g_aload_n dX11_cover_51 rfl rfl rfl ?_
            refine g_getI dX11_cover_52 ff_X11_288 rfl (k100 hI.1.2.1.1.1) rfl ?_
            refine g_ishl dX11_cover_55 rfl ?_
            rw [e27, bt_one _ (by omega)]
            refine g_icmp_ge (tgt := 85) dX11_cover_56 (by decide) rfl (fun _ => ?_) (fun h_ => absurd (nI_le (Nat.le_refl _) (by omega)) h_)
            refine g_aload_n dX11_cover_85 rfl rfl rfl ?_
            refine g_getI dX11_cover_86 ff_X11_421 rfl (k100 hI.1.2.1.1.1) rfl ?_
            refine g_iconst (v := -1) dX11_cover_89 (by decide) rfl ?_
            rw [hI.2.1]
            refine g_icmp_eq (tgt := 97) dX11_cover_90 (by decide) rfl (fun h_ => absurd h_ (hno)) (fun _ => ?_)
            refine g_iload_n dX11_cover_93 rfl rfl rfl ?_
            refine g_if_ne (tgt := 104) dX11_cover_94 (by decide) rfl (fun _ => ?_) (fun h_ => absurd h_ (hz0))
            refine g_aload_n dX11_cover_104 rfl rfl rfl ?_
            refine g_getI dX11_cover_105 ff_X11_424 rfl (k100 hI.1.2.1.1.1) rfl ?_
            rw [hI.2.2 hno]
            exact g_iret dX11_cover_108 rfl (by first | rfl | exact b01 | exact nb01 hv01) (⟨rfl, hI.1.1, hI.1.2.1.1⟩)
      · have e27 := hI.1.2.1.e26.2.1
        have hag := r_areGuilty (d := d) hx hZ hI.1 hRng hlf hq64 (show i < 256 by omega)
        rw [← ex] at hag
        have ech : chS Mc EV q (i + 1) = if bet (chS Mc EV q i) i (nI (hmA Mc q i)) ∧ allG Mc EV q i (tv Mc 3 7) = true then (nI i, nI (hmA Mc q i)) else chS Mc EV q i := rfl
        refine g_iload_n dX11_cover_49 rfl rfl rfl ?_
        refine g_iconst (v := 1) dX11_cover_50 (by decide) rfl ?_
        refine g_aload_n dX11_cover_51 rfl rfl rfl ?_
        refine g_getI dX11_cover_52 ff_X11_288 rfl (k100 hI.1.2.1.1.1) rfl ?_
        refine g_ishl dX11_cover_55 rfl ?_
        rw [e27, bt_one _ (by omega)]
        refine g_icmp_ge (tgt := 85) dX11_cover_56 (by decide) rfl (fun h_ => absurd h_ (nI_ge hi (by omega))) (fun _ => ?_)
        refine g_aload_n dX11_cover_59 rfl rfl rfl ?_
        refine g_iload_n dX11_cover_60 rfl rfl rfl ?_
        refine g_iload_n dX11_cover_61 rfl rfl rfl ?_
        refine g_callVq (ci := 11) dX11_cover_62 lm_X11_431 mv_X11_areGuilty (hag) rfl rfl (k100 hI.1.2.1.1.1) rfl rfl (Nat.le_of_ble_eq_true rfl) (gFit_room (by omega)) rfl (fun v M2 hQ => ?_)
        obtain ⟨rfl, hf⟩ := hQ
        obtain ⟨hQ2, hq2⟩ := hf
        have hB2 := hI.2.q hq2
        by_cases hg : allG Mc EV q i (tv Mc 3 7) = true
        · rw [ib_t hg]
          have hhm := r_harmOf (d := d + 33) hx hQ2.2.1 hQ2.2.2 hlf hq64 (show i < 256 by omega)
          rw [← ex] at hhm
          have hms := r_meetsSet (d := d + 34) (h := nI (hmA Mc q i)) hx hQ2.2.1.1.1 (show i < 256 by omega) hB2.1 ((chS_1 (Mc := Mc) (EV := EV) q i).elim (fun y => Or.inl (by rw [y])) (fun ⟨m, hm, y⟩ => Or.inr ⟨m, hm, by rw [y]⟩))
          have hbc := bet_c (k := i) (h := nI (hmA Mc q i)) (bs := (chS Mc EV q i).1) (x := gmi M2 100 42) (y := (chS Mc EV q i).2) hB2.2
          by_cases hbt : bet (chS Mc EV q i) i (nI (hmA Mc q i))
          · rw [if_pos (hbc.mpr hbt)] at hms
            rw [if_pos ⟨hbt, hg⟩] at ech
            refine g_if_eq (tgt := 79) dX11_cover_65 (by decide) rfl (fun h_ => absurd h_ (by decide)) (fun _ => ?_)
            refine g_aload_n dX11_cover_68 rfl rfl rfl ?_
            refine g_iload_n dX11_cover_69 rfl rfl rfl ?_
            refine g_aload_n dX11_cover_70 rfl rfl rfl ?_
            refine g_iload_n dX11_cover_71 rfl rfl rfl ?_
            refine g_iload_n dX11_cover_72 rfl rfl rfl ?_
            refine g_callVdi (ci := 11) dX11_cover_73 lm_X11_434 mv_X11_harmOf (hhm) rfl rfl (k100 hQ2.2.1.1.1) rfl rfl (Nat.le_of_ble_eq_true rfl) (gFit_room (by omega)) rfl ?_
            refine g_callVdv (ci := 11) dX11_cover_76 lm_X11_427 mv_X11_meetsSet (hms) rfl rfl (k100 hQ2.2.1.1.1) rfl rfl (Nat.le_of_ble_eq_true rfl) (gFit_room (by omega)) rfl ?_
            refine g_iincV (c := 1) dX11_cover_79 rfl (by decide) (by decide) rfl ?_
            refine g_goto (tgt := 49) dX11_cover_82 (by decide) ?_
            exact g_go (ih _ ⟨hQ2.best, by rw [ech]; exact ⟨by rw [gmi_I, va_up_ne _ _ (by decide), gmi_I, va_up_self], fun _ => by rw [gmi_I, va_up_self]⟩⟩) ⟨rfl, rfl, rfl, by rw [← nI_1 i]; rfl, trivial⟩
          · rw [if_neg (fun y => hbt (hbc.mp y))] at hms
            rw [if_neg (fun y => hbt y.1)] at ech
            refine g_if_eq (tgt := 79) dX11_cover_65 (by decide) rfl (fun h_ => absurd h_ (by decide)) (fun _ => ?_)
            refine g_aload_n dX11_cover_68 rfl rfl rfl ?_
            refine g_iload_n dX11_cover_69 rfl rfl rfl ?_
            refine g_aload_n dX11_cover_70 rfl rfl rfl ?_
            refine g_iload_n dX11_cover_71 rfl rfl rfl ?_
            refine g_iload_n dX11_cover_72 rfl rfl rfl ?_
            refine g_callVdi (ci := 11) dX11_cover_73 lm_X11_434 mv_X11_harmOf (hhm) rfl rfl (k100 hQ2.2.1.1.1) rfl rfl (Nat.le_of_ble_eq_true rfl) (gFit_room (by omega)) rfl ?_
            refine g_callVdv (ci := 11) dX11_cover_76 lm_X11_427 mv_X11_meetsSet (hms) rfl rfl (k100 hQ2.2.1.1.1) rfl rfl (Nat.le_of_ble_eq_true rfl) (gFit_room (by omega)) rfl ?_
            refine g_iincV (c := 1) dX11_cover_79 rfl (by decide) (by decide) rfl ?_
            refine g_goto (tgt := 49) dX11_cover_82 (by decide) ?_
            exact g_go (ih _ ⟨hQ2, by rw [ech]; exact hB2⟩) ⟨rfl, rfl, rfl, by rw [← nI_1 i]; rfl, trivial⟩
        · rw [ib_f hg]
          rw [if_neg (fun y => hg y.2)] at ech
          refine g_if_eq (tgt := 79) dX11_cover_65 (by decide) rfl (fun _ => ?_) (fun h_ => absurd (by decide) h_)
          refine g_iincV (c := 1) dX11_cover_79 rfl (by decide) (by decide) rfl ?_
          refine g_goto (tgt := 49) dX11_cover_82 (by decide) ?_
          exact g_go (ih _ ⟨hQ2, by rw [ech]; exact hB2⟩) ⟨rfl, rfl, rfl, by rw [← nI_1 i]; rfl, trivial⟩
    · rw [if_neg (fun y => hz ⟨Int32.not_lt.mp y.1, y.2⟩)]
      refine g_aload_n dX11_cover_0 rfl rfl rfl ?_
      refine g_iconst (v := 0) dX11_cover_1 (by decide) rfl ?_
      refine g_putI dX11_cover_2 fp_X11_90 rfl rfl rfl (k100 hL) rfl ?_
      refine g_aload_n dX11_cover_5 rfl rfl rfl ?_
      refine g_getI dX11_cover_6 ff_X11_285 rfl (k100 (gLay_I hL)) rfl ?_
      rw [e26c]
      refine g_if_eq (tgt := 40) dX11_cover_9 (by decide) rfl (fun h_ => absurd h_ (hp0)) (fun _ => ?_)
      refine g_iload_n dX11_cover_12 rfl rfl rfl ?_
      refine g_i2l dX11_cover_13 rfl ?_
      refine g_lconst (v := 1) dX11_cover_14 (by decide) rfl ?_
      refine g_iconst (v := 1) dX11_cover_15 (by decide) rfl ?_
      refine g_aload_n dX11_cover_16 rfl rfl rfl ?_
      refine g_getI dX11_cover_17 ff_X11_285 rfl (k100 (gLay_I hL)) rfl ?_
      refine g_ishl dX11_cover_20 rfl ?_
      refine g_iconst (v := 1) dX11_cover_21 (by decide) rfl ?_
      refine g_isub dX11_cover_22 rfl ?_
      refine g_i2l dX11_cover_23 rfl ?_
      rw [e26, bt_one _ (by omega)]
      refine g_callSdi dX11_cover_24 lm_X11_211 mv_X11_isIn (r_isIn (d := d + 35) (l := 1) (h := nI (2 ^ tv Mc 3 7) - 1) hx rfl (by decide) rfl) rfl rfl (Nat.le_of_ble_eq_true rfl) (gFit_room (by omega)) rfl ?_
      rw [ib_t (hxi.mpr hxc)]
      refine g_if_eq (tgt := 40) dX11_cover_27 (by decide) rfl (fun h_ => absurd h_ (by decide)) (fun _ => ?_)
      refine g_iload_n dX11_cover_30 rfl rfl rfl ?_
      refine g_i2l dX11_cover_31 rfl ?_
      refine g_lconst (v := 0) dX11_cover_32 (by decide) rfl ?_
      refine g_lconst (v := 1) dX11_cover_33 (by decide) rfl ?_
      refine g_callSdi dX11_cover_34 lm_X11_211 mv_X11_isIn (r_isIn (d := d + 35) (l := 0) (h := 1) hx rfl (by decide) (by decide)) rfl rfl (Nat.le_of_ble_eq_true rfl) (gFit_room (by omega)) rfl ?_
      rw [ib_f hz]
      refine g_if_ne (tgt := 42) dX11_cover_37 (by decide) rfl (fun h_ => absurd (by decide) h_) (fun _ => ?_)
      refine g_iconst (v := -1) dX11_cover_40 (by decide) rfl ?_
      exact g_iret dX11_cover_41 rfl (by first | rfl | exact b01 | exact nb01 hv01) (⟨rfl, hQ0.1, h1.1⟩)
  · rw [if_neg hxc]
    refine g_aload_n dX11_cover_0 rfl rfl rfl ?_
    refine g_iconst (v := 0) dX11_cover_1 (by decide) rfl ?_
    refine g_putI dX11_cover_2 fp_X11_90 rfl rfl rfl (k100 hL) rfl ?_
    refine g_aload_n dX11_cover_5 rfl rfl rfl ?_
    refine g_getI dX11_cover_6 ff_X11_285 rfl (k100 (gLay_I hL)) rfl ?_
    rw [e26c]
    refine g_if_eq (tgt := 40) dX11_cover_9 (by decide) rfl (fun h9 => ?_) (fun h9 => ?_)
    · refine g_iconst (v := -1) dX11_cover_40 (by decide) rfl ?_
      exact g_iret dX11_cover_41 rfl (by first | rfl | exact b01 | exact nb01 hv01) (⟨rfl, hQ0.1, h1.1⟩)
    · refine g_iload_n dX11_cover_12 rfl rfl rfl ?_
      refine g_i2l dX11_cover_13 rfl ?_
      refine g_lconst (v := 1) dX11_cover_14 (by decide) rfl ?_
      refine g_iconst (v := 1) dX11_cover_15 (by decide) rfl ?_
      refine g_aload_n dX11_cover_16 rfl rfl rfl ?_
      refine g_getI dX11_cover_17 ff_X11_285 rfl (k100 (gLay_I hL)) rfl ?_
      refine g_ishl dX11_cover_20 rfl ?_
      refine g_iconst (v := 1) dX11_cover_21 (by decide) rfl ?_
      refine g_isub dX11_cover_22 rfl ?_
      refine g_i2l dX11_cover_23 rfl ?_
      rw [e26, bt_one _ (by omega)]
      refine g_callSdi dX11_cover_24 lm_X11_211 mv_X11_isIn (r_isIn (d := d + 35) (l := 1) (h := nI (2 ^ tv Mc 3 7) - 1) hx rfl (by decide) rfl) rfl rfl (Nat.le_of_ble_eq_true rfl) (gFit_room (by omega)) rfl ?_
      rw [ib_f (fun y => hxc (hxi.mp y))]
      refine g_if_eq (tgt := 40) dX11_cover_27 (by decide) rfl (fun _ => ?_) (fun h_ => absurd (by decide) h_)
      refine g_iconst (v := -1) dX11_cover_40 (by decide) rfl ?_
      exact g_iret dX11_cover_41 rfl (by first | rfl | exact b01 | exact nb01 hv01) (⟨rfl, hQ0.1, h1.1⟩)
end H15
