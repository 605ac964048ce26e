section H8
variable {X : gX} {Mc M : gM} {d n A : Nat} {E : Nat → LE} {EV : EVt} {F : Nat → Int32} {S : Nat → Prop}
def vB (Mc : gM) (EV : EVt) (p : Nat) (m : Int32) : Bool := decide (0 < rd EV (imax 0 (nI (heft Mc (dset Mc 25 p 0)) + m)) (gmi Mc 5 p) (gmi Mc 25 p) (ibc (nI (dset Mc 25 p 0))) (gmi Mc 25 66) (gmi Mc 25 (6 + p)))
theorem mo_ok : ∀ h, h < 100 → ∀ a, a < 4 → ∀ b, b < 3 → imax 0 (nI h + (2 * nI a - 3 * nI b)) = nI (h + 2 * a - 3 * b) := by decide +kernel
theorem RngF.mn {F : Nat → Int32} (h : RngF F) {p : Nat} (hp : p < 6) : imin 99 (F p + 0) = F p := by
  obtain ⟨m, hm, e⟩ := h.1 p hp
  rw [e, Int32.add_zero, show (99 : Int32) = nI 99 from rfl, iminN (by decide) (by omega), Nat.min_eq_right hm]
theorem verB_eq (hR : RngF (gmi Mc 25)) {p a b : Nat} (hp : p < 6) (hb : b < 3) : verB Mc EV p (3 * a + b) = vB Mc EV p (2 * nI a - 3 * nI b) := by
  unfold verB vB
  rw [show (3 * a + b) / 3 = a by omega, show (3 * a + b) % 3 = b by omega, hR.mn hp, Int32.add_zero, show nI (heft Mc (dset Mc 25 p 0)) + 2 * nI a - 3 * nI b = nI (heft Mc (dset Mc 25 p 0)) + (2 * nI a - 3 * nI b) by simp only [Int32.sub_eq_add_neg]; ac_rfl]
set_option maxRecDepth 20000 in
theorem r_seems (hx : gXok X) (hZ : gSt X) {M0 : gM} (hQ : QS S Mc M0 M n E EV (gmi Mc 25)) (hRng : RngF (gmi Mc 25)) (hlf : LeftF (gmi Mc 25)) {p a b : Nat} (hp : p < tv Mc 3 7) (ha : a < 4) (hb : b < 3) : gPos X (d + 34) yX11_seems cX11_seems 4 (some .boolean) [.ref 100, .int (nI p), .int (2 * nI a - 3 * nI b)] M (fun v M2 => v = some (.int (ib (verB Mc EV p (3 * a + b) = true))) ∧ QS S Mc M0 M2 n E EV (gmi Mc 25)) := by
  obtain ⟨-, h0, hR⟩ := id hQ
  have hL := h0.1.1
  have hp6 := Nat.lt_of_lt_of_le hp h0.2.1.1.2
  obtain ⟨be, hbe, eb⟩ := hRng.1 p hp6
  obtain ⟨sh, hsh, es⟩ := hRng.2.1 p hp6
  obtain ⟨D, hD, eD⟩ := hRng.2.2
  have hds := dset_lt h0.2.1 25 p 0
  obtain ⟨epc, hpc⟩ := pc8 _ hds
  have r1 : gmi M 113 (10 * p) = nI be := by rw [hR _ (by omega), cix_b p hp6, eb]
  have r2 : gmi M 113 (10 * p + 1) = nI sh := by rw [hR _ (by omega), cix_s p hp6, es]
  have r3 : gmi M 113 65 = nI D := by rw [hR _ (by omega)]; exact eD
  have s1 := r_setOf (d := d + 32) hx h0 (Or.inl rfl) hR hlf hp6
  rw [show dsF (gmi Mc 25) (tv Mc 3 8) p 0 = dset Mc 25 p 0 from rfl] at s1
  have hh := heft_72 (b := dset Mc 25 p 0) h0.2.1
  have hh72 := heft_le h0.2.1 (dset Mc 25 p 0)
  have hmo := mo_ok _ hh a ha b hb
  rw [verB_eq hRng hp6 hb]
  have hv : (vB Mc EV p (2 * nI a - 3 * nI b) = true) ↔ 0 < rd EV (nI (heft Mc (dset Mc 25 p 0) + 2 * a - 3 * b)) (gmi Mc 5 p) (nI be) (nI (pcn (dset Mc 25 p 0))) (nI (D % 7)) (nI sh) := by
    unfold vB
    rw [decide_eq_true_iff, hmo, eb, es, eD, epc, rd_mod (by omega)]
  refine gMet.of hx (by decide) (Nat.le_of_ble_eq_true rfl) ?_
  refine g_aload_n dX11_seems_0 rfl rfl rfl ?_
  refine g_aload_n dX11_seems_1 rfl rfl rfl ?_
  refine g_getR dX11_seems_2 ff_X11_61 rfl (k100 hL) (r100_32 hL) rfl ?_
  refine g_iload_n dX11_seems_5 rfl rfl rfl ?_
  refine g_callVdi (ci := 11) dX11_seems_6 lm_X11_335 mv_X11_setOf (s1) rfl rfl (k100 hL) rfl rfl (Nat.le_of_ble_eq_true rfl) (gFit_room (by omega)) rfl ?_
  refine g_istore_n dX11_seems_9 rfl (by decide) rfl ?_
  refine g_aload_n dX11_seems_10 rfl rfl rfl ?_
  refine g_iload_n dX11_seems_11 rfl rfl rfl ?_
  refine g_iconst (v := 0) dX11_seems_12 (by decide) rfl ?_
  refine g_aload_n dX11_seems_13 rfl rfl rfl ?_
  refine g_iload_n dX11_seems_14 rfl rfl rfl ?_
  refine g_iconst (v := 0) dX11_seems_15 (by decide) rfl ?_
  refine g_callVdi (ci := 11) dX11_seems_16 lm_X11_324 mv_X11_sumOf (r_sumOf (d := d + 32) (c := 7) (z := 0) hx h0 hds (Or.inl ⟨rfl, rfl⟩)) rfl rfl (k100 hL) rfl rfl (Nat.le_of_ble_eq_true rfl) (gFit_room (by omega)) rfl ?_
  refine g_iload_n dX11_seems_19 rfl rfl rfl ?_
  refine g_iadd dX11_seems_20 rfl ?_
  refine g_callSdi dX11_seems_21 lm_X11_318 mv_J9_max_7cf53 (c_max (d := d + 33) hx) rfl rfl (Nat.le_of_ble_eq_true rfl) (gFit_room (by omega)) rfl ?_
  rw [show ssum (dset Mc 25 p 0) (tv Mc 7) (tv Mc 3 8) = heft Mc (dset Mc 25 p 0) from rfl, hmo]
  refine g_aload_n dX11_seems_24 rfl rfl rfl ?_
  refine g_getR dX11_seems_25 ff_X11_61 rfl (k100 hL) (r100_32 hL) rfl ?_
  refine g_bipush (v := 10) dX11_seems_28 (by decide) rfl ?_
  refine g_iload_n dX11_seems_30 rfl rfl rfl ?_
  refine g_imul dX11_seems_31 rfl ?_
  refine g_iconst (v := 0) dX11_seems_32 (by decide) rfl ?_
  refine g_iadd dX11_seems_33 rfl ?_
  rw [show (10 : Int32) = nI 10 from rfl, show (0 : Int32) = nI 0 from rfl, pk_mul, nI_add, Nat.add_zero]
  refine g_iald (i := (10 * p)) dX11_seems_34 (k113 hL) (l113 hL) (nI_toInt (by omega)) (by omega) rfl ?_
  rw [r1]
  refine g_iload_n dX11_seems_35 rfl rfl rfl ?_
  refine g_callSdi dX11_seems_36 lm_X11_327 mv_J6_bitCount_0f7a4 (c_bitCount (d := d + 33) hx) rfl rfl (Nat.le_of_ble_eq_true rfl) (gFit_room (by omega)) rfl ?_
  rw [epc]
  refine g_aload_n dX11_seems_39 rfl rfl rfl ?_
  refine g_getR dX11_seems_40 ff_X11_61 rfl (k100 hL) (r100_32 hL) rfl ?_
  refine g_bipush (v := 65) dX11_seems_43 (by decide) rfl ?_
  refine g_iald (i := 65) dX11_seems_45 (k113 hL) (l113 hL) rfl (by decide) rfl ?_
  rw [r3]
  refine g_bipush (v := 7) dX11_seems_46 (by decide) rfl ?_
  refine g_irem dX11_seems_48 (by decide) rfl ?_
  rw [show (7 : Int32) = nI 7 from rfl, pk_rem (by omega) (by decide) (by decide)]
  refine g_aload_n dX11_seems_49 rfl rfl rfl ?_
  refine g_getR dX11_seems_50 ff_X11_61 rfl (k100 hL) (r100_32 hL) rfl ?_
  refine g_bipush (v := 10) dX11_seems_53 (by decide) rfl ?_
  refine g_iload_n dX11_seems_55 rfl rfl rfl ?_
  refine g_imul dX11_seems_56 rfl ?_
  refine g_iconst (v := 1) dX11_seems_57 (by decide) rfl ?_
  refine g_iadd dX11_seems_58 rfl ?_
  rw [show (10 : Int32) = nI 10 from rfl, show (1 : Int32) = nI 1 from rfl, pk_mul, nI_add]
  refine g_iald (i := (10 * p + 1)) dX11_seems_59 (k113 hL) (l113 hL) (nI_toInt (by omega)) (by omega) rfl ?_
  rw [r2]
  refine g_callVq (ci := 11) dX11_seems_60 lm_X11_332 mv_X11_readBy (r_readBy (d := d) hx hZ h0 hp (show heft Mc (dset Mc 25 p 0) + 2 * a - 3 * b < 100 by omega) (show be < 100 by omega) hpc (Nat.mod_lt _ (by decide)) (show sh < 1000 by omega)) rfl rfl (k100 hL) rfl rfl (Nat.le_of_ble_eq_true rfl) (gFit_room (by omega)) rfl (fun v M2 hQ => ?_)
  obtain ⟨rfl, hf⟩ := hQ
  refine g_if_le (tgt := 70) dX11_seems_63 (by decide) rfl (fun h63 => ?_) (fun h63 => ?_)
  · have hr : ¬ vB Mc EV p (2 * nI a - 3 * nI b) = true := fun q => Int32.not_lt.mpr h63 (hv.mp q)
    refine g_iconst (v := 0) dX11_seems_70 (by decide) rfl ?_
    exact g_iret dX11_seems_71 rfl (by first | rfl | exact b01 | exact nb01 hv01) (⟨by first | rw [ib_t hr] | rw [ib_f hr], hQ.q hf.1 hf.2⟩)
  · have hr : vB Mc EV p (2 * nI a - 3 * nI b) = true := hv.mpr (Int32.not_le.mp h63)
    refine g_iconst (v := 1) dX11_seems_66 (by decide) rfl ?_
    refine g_goto (tgt := 71) dX11_seems_67 (by decide) ?_
    exact g_iret dX11_seems_71 rfl (by first | rfl | exact b01 | exact nb01 hv01) (⟨by first | rw [ib_t hr] | rw [ib_f hr], hQ.q hf.1 hf.2⟩)
def gmV (V : Nat → Bool) (x y : Nat) (w : Int32) : Int32 := if w = 0 then gpV V x y else gbV V x y
set_option maxRecDepth 20000 in
theorem r_gameOf (hx : gXok X) (hZ : gSt X) {M0 : gM} (hQ : QS S Mc M0 M n E EV (gmi Mc 25)) (hRng : RngF (gmi Mc 25)) (hlf : LeftF (gmi Mc 25)) {p a b : Nat} (hp : p < tv Mc 3 7) (ha : a < 4) (hb : b < 3) {w : Int32} : gPos X (d + 35) yX11_gameOf cX11_gameOf 6 (some .int) [.ref 100, .int (nI p), .int (nI a), .int (nI b), .int w] M (fun v M2 => v = some (.int (gmV (verB Mc EV p) a b w)) ∧ QS S Mc M0 M2 n E EV (gmi Mc 25)) := by
  have hL := hQ.2.1.1.1
  refine gMet.of hx (by decide) (Nat.le_of_ble_eq_true rfl) ?_
  unfold gmV
  refine g_aload_n dX11_gameOf_0 rfl rfl rfl ?_
  refine g_iload_n dX11_gameOf_1 rfl rfl rfl ?_
  refine g_iconst (v := 2) dX11_gameOf_2 (by decide) rfl ?_
  refine g_iload_n dX11_gameOf_3 rfl rfl rfl ?_
  refine g_imul dX11_gameOf_4 rfl ?_
  refine g_iconst (v := 3) dX11_gameOf_5 (by decide) rfl ?_
  refine g_iload_n dX11_gameOf_6 rfl rfl rfl ?_
  refine g_imul dX11_gameOf_7 rfl ?_
  refine g_isub dX11_gameOf_8 rfl ?_
  refine g_callVq (ci := 11) dX11_gameOf_9 lm_X11_449 mv_X11_seems (r_seems (d := d) hx hZ hQ hRng hlf hp ha hb) rfl rfl (k100 hL) rfl rfl (Nat.le_of_ble_eq_true rfl) (gFit_room (by omega)) rfl (fun v M2 hQ => ?_)
  obtain ⟨rfl, hf⟩ := hQ
  have hQ1 := hf
  by_cases w0 : w = 0
  · rw [if_pos w0]
    unfold gpV
    by_cases hv : verB Mc EV p (3 * a + b) = true
    · rw [ib_t hv]
      refine g_istore dX11_gameOf_12 (by decide) rfl ?_
      refine g_iload dX11_gameOf_14 rfl rfl ?_
      refine g_if_ne (tgt := 33) dX11_gameOf_16 (by decide) rfl (fun h_ => absurd (w0) h_) (fun _ => ?_)
      refine g_iload dX11_gameOf_19 rfl rfl ?_
      refine g_if_eq (tgt := 29) dX11_gameOf_21 (by decide) rfl (fun h_ => absurd h_ (by decide)) (fun _ => ?_)
      refine g_bipush (v := 6) dX11_gameOf_24 (by decide) rfl ?_
      refine g_goto (tgt := 30) dX11_gameOf_26 (by decide) ?_
      refine g_iload_n dX11_gameOf_30 rfl rfl rfl ?_
      refine g_isub dX11_gameOf_31 rfl ?_
      exact g_iret dX11_gameOf_32 rfl (by first | rfl | exact b01 | exact nb01 hv01) (⟨rfl, hQ1⟩)
    · rw [ib_f hv]
      refine g_istore dX11_gameOf_12 (by decide) rfl ?_
      refine g_iload dX11_gameOf_14 rfl rfl ?_
      refine g_if_ne (tgt := 33) dX11_gameOf_16 (by decide) rfl (fun h_ => absurd (w0) h_) (fun _ => ?_)
      refine g_iload dX11_gameOf_19 rfl rfl ?_
      refine g_if_eq (tgt := 29) dX11_gameOf_21 (by decide) rfl (fun _ => ?_) (fun h_ => absurd (by decide) h_)
      refine g_iconst (v := 0) dX11_gameOf_29 (by decide) rfl ?_
      refine g_iload_n dX11_gameOf_30 rfl rfl rfl ?_
      refine g_isub dX11_gameOf_31 rfl ?_
      exact g_iret dX11_gameOf_32 rfl (by first | rfl | exact b01 | exact nb01 hv01) (⟨rfl, hQ1⟩)
  · rw [if_neg w0]
    unfold gbV
    have hs0 := r_seems (d := d) hx hZ hQ1 hRng hlf hp (a := 0) (b := 0) (by decide) (by decide)
    rw [show (2 : Int32) * nI 0 - 3 * nI 0 = 0 from by decide] at hs0
    refine g_istore dX11_gameOf_12 (by decide) rfl ?_
    refine g_iload dX11_gameOf_14 rfl rfl ?_
    refine g_if_ne (tgt := 33) dX11_gameOf_16 (by decide) rfl (fun _ => ?_) (fun h_ => absurd h_ (w0))
    refine g_iload dX11_gameOf_33 rfl rfl ?_
    refine g_aload_n dX11_gameOf_35 rfl rfl rfl ?_
    refine g_iload_n dX11_gameOf_36 rfl rfl rfl ?_
    refine g_iconst (v := 0) dX11_gameOf_37 (by decide) rfl ?_
    refine g_callVq (ci := 11) dX11_gameOf_38 lm_X11_449 mv_X11_seems (hs0) rfl rfl (k100 hQ1.2.1.1.1) rfl rfl (Nat.le_of_ble_eq_true rfl) (gFit_room (by omega)) rfl (fun v M2 hQ => ?_)
    obtain ⟨rfl, hf⟩ := hQ
    have hQ2 := hf
    have hiff : (ib (verB Mc EV p (3 * a + b) = true) = ib (verB Mc EV p (3 * 0 + 0) = true)) ↔ verB Mc EV p (3 * a + b) = verB Mc EV p 0 := by
      show (ib (verB Mc EV p (3 * a + b) = true) = ib (verB Mc EV p 0 = true)) ↔ _
      cases verB Mc EV p (3 * a + b) <;> cases verB Mc EV p 0 <;> decide
    by_cases hv : verB Mc EV p (3 * a + b) = verB Mc EV p 0
    · rw [if_pos hv]
      refine g_icmp_ne (tgt := 48) dX11_gameOf_41 (by decide) rfl (fun h_ => absurd (hiff.mpr hv) h_) (fun _ => ?_)
      refine g_iconst (v := 5) dX11_gameOf_44 (by decide) rfl ?_
      refine g_goto (tgt := 49) dX11_gameOf_45 (by decide) ?_
      refine g_iload_n dX11_gameOf_49 rfl rfl rfl ?_
      refine g_isub dX11_gameOf_50 rfl ?_
      exact g_iret dX11_gameOf_51 rfl (by first | rfl | exact b01 | exact nb01 hv01) (⟨rfl, hQ2⟩)
    · rw [if_neg hv]
      refine g_icmp_ne (tgt := 48) dX11_gameOf_41 (by decide) rfl (fun _ => ?_) (fun h_ => absurd h_ (fun z => hv (hiff.mp z)))
      refine g_iconst (v := 0) dX11_gameOf_48 (by decide) rfl ?_
      refine g_iload_n dX11_gameOf_49 rfl rfl rfl ?_
      refine g_isub dX11_gameOf_50 rfl ?_
      exact g_iret dX11_gameOf_51 rfl (by first | rfl | exact b01 | exact nb01 hv01) (⟨rfl, hQ2⟩)
set_option maxRecDepth 20000 in
theorem r_game (hx : gXok X) (hZ : gSt X) (h0 : R0 Mc M n E EV) (hN : RNow Mc M) {x a b w : Int32} : gPos X (d + 36) yX11_game cX11_game 5 (some .int) [.ref 100, .int x, .int a, .int b, .int w] M (fun v M2 => v = some (.int (if inP Mc x ∧ (0 ≤ a ∧ a ≤ 3) ∧ (0 ≤ b ∧ b ≤ 2) ∧ (0 ≤ w ∧ w ≤ 1) then (if w = 0 then gpV (verB Mc EV (tn x)) (tn a) (tn b) else gbV (verB Mc EV (tn x)) (tn a) (tn b)) else -1000000)) ∧ xFr (fun c => c = 1000) M M2 ∧ RQ M2 n E EV) := by
  have hL := h0.1.1
  have hT := h0.2.1
  obtain ⟨hrow, hlog, hRng, hlf, -, D0, hD0, h66⟩ := hN
  have hQ0 : QS (fun c => c = 1000) Mc M (gwI M 100 0 0) n E EV (gmi Mc 25) := QS.th h0 hrow rfl
  have h1 := hQ0.2.1
  refine gMet.of hx (by decide) (Nat.le_of_ble_eq_true rfl) ?_
  by_cases hc : inP Mc x ∧ (0 ≤ a ∧ a ≤ 3) ∧ (0 ≤ b ∧ b ≤ 2) ∧ (0 ≤ w ∧ w ≤ 1)
  · rw [if_pos hc]
    obtain ⟨hp, ha, hb, hw⟩ := hc
    obtain ⟨ex, lx⟩ := in_row hT.1.1 (by have := hT.1.2; omega) hp
    obtain ⟨ea, la⟩ := le_row (m := 3) (by decide) ha
    obtain ⟨eb, lb⟩ := le_row (m := 2) (by decide) hb
    have hg := r_gameOf (d := d) (w := w) hx hZ hQ0 hRng hlf lx (show tn a < 4 by omega) (show tn b < 3 by omega)
    rw [← ex, ← ea, ← eb] at hg
    refine g_aload_n dX11_game_0 rfl rfl rfl ?_
    refine g_iconst (v := 0) dX11_game_1 (by decide) rfl ?_
    refine g_putI dX11_game_2 fp_X11_90 rfl rfl rfl (k100 hL) rfl ?_
    refine g_aload_n dX11_game_5 rfl rfl rfl ?_
    refine g_iload_n dX11_game_6 rfl rfl rfl ?_
    refine g_callVdi (ci := 11) dX11_game_7 lm_X11_342 mv_X11_isPerson (h1.isP (d := d + 35) hx) rfl rfl (k100 (gLay_I hL)) rfl rfl (Nat.le_of_ble_eq_true rfl) (gFit_room (by omega)) rfl ?_
    rw [ib_t hp]
    refine g_if_eq (tgt := 60) dX11_game_10 (by decide) rfl (fun h_ => absurd h_ (by decide)) (fun _ => ?_)
    refine g_iload_n dX11_game_13 rfl rfl rfl ?_
    refine g_i2l dX11_game_14 rfl ?_
    refine g_lconst (v := 0) dX11_game_15 (by decide) rfl ?_
    refine g_ldc2 dX11_game_16 lq_X11_452 rfl ?_
    refine g_callSdi dX11_game_19 lm_X11_211 mv_X11_isIn (r_isIn (d := d + 35) (l := 0) (h := 3) hx rfl (by decide) (by decide)) rfl rfl (Nat.le_of_ble_eq_true rfl) (gFit_room (by omega)) rfl ?_
    rw [ib_t ha]
    refine g_if_eq (tgt := 60) dX11_game_22 (by decide) rfl (fun h_ => absurd h_ (by decide)) (fun _ => ?_)
    refine g_iload_n dX11_game_25 rfl rfl rfl ?_
    refine g_i2l dX11_game_26 rfl ?_
    refine g_lconst (v := 0) dX11_game_27 (by decide) rfl ?_
    refine g_ldc2 dX11_game_28 lq_X11_266 rfl ?_
    refine g_callSdi dX11_game_31 lm_X11_211 mv_X11_isIn (r_isIn (d := d + 35) (l := 0) (h := 2) hx rfl (by decide) (by decide)) rfl rfl (Nat.le_of_ble_eq_true rfl) (gFit_room (by omega)) rfl ?_
    rw [ib_t hb]
    refine g_if_eq (tgt := 60) dX11_game_34 (by decide) rfl (fun h_ => absurd h_ (by decide)) (fun _ => ?_)
    refine g_iload dX11_game_37 rfl rfl ?_
    refine g_i2l dX11_game_39 rfl ?_
    refine g_lconst (v := 0) dX11_game_40 (by decide) rfl ?_
    refine g_lconst (v := 1) dX11_game_41 (by decide) rfl ?_
    refine g_callSdi dX11_game_42 lm_X11_211 mv_X11_isIn (r_isIn (d := d + 35) (l := 0) (h := 1) hx rfl (by decide) (by decide)) rfl rfl (Nat.le_of_ble_eq_true rfl) (gFit_room (by omega)) rfl ?_
    rw [ib_t hw]
    refine g_if_eq (tgt := 60) dX11_game_45 (by decide) rfl (fun h_ => absurd h_ (by decide)) (fun _ => ?_)
    refine g_aload_n dX11_game_48 rfl rfl rfl ?_
    refine g_iload_n dX11_game_49 rfl rfl rfl ?_
    refine g_iload_n dX11_game_50 rfl rfl rfl ?_
    refine g_iload_n dX11_game_51 rfl rfl rfl ?_
    refine g_iload dX11_game_52 rfl rfl ?_
    refine g_callVq (ci := 11) dX11_game_54 lm_X11_454 mv_X11_gameOf (hg) rfl rfl (k100 (gLay_I hL)) rfl rfl (Nat.le_of_ble_eq_true rfl) (gFit_room (by omega)) rfl (fun v M2 hQ => ?_)
    obtain ⟨rfl, hf⟩ := hQ
    refine g_goto (tgt := 63) dX11_game_57 (by decide) ?_
    exact g_iret dX11_game_63 rfl (by first | rfl | exact b01 | exact nb01 hv01) (⟨rfl, hf.1, hf.2.1.1⟩)
  · rw [if_neg hc]
    refine g_aload_n dX11_game_0 rfl rfl rfl ?_
    refine g_iconst (v := 0) dX11_game_1 (by decide) rfl ?_
    refine g_putI dX11_game_2 fp_X11_90 rfl rfl rfl (k100 hL) rfl ?_
    refine g_aload_n dX11_game_5 rfl rfl rfl ?_
    refine g_iload_n dX11_game_6 rfl rfl rfl ?_
    refine g_callVdi (ci := 11) dX11_game_7 lm_X11_342 mv_X11_isPerson (h1.isP (d := d + 35) hx) rfl rfl (k100 (gLay_I hL)) rfl rfl (Nat.le_of_ble_eq_true rfl) (gFit_room (by omega)) rfl ?_
    refine g_ieq (tgt := 60) dX11_game_10 (by decide) rfl (fun h10 => ?_) (fun h10 => ?_)
    · refine g_ldcw dX11_game_60 lq_X11_409 rfl ?_
      exact g_iret dX11_game_63 rfl (by first | rfl | exact b01 | exact nb01 hv01) (⟨rfl, hQ0.1, h1.1⟩)
    · refine g_iload_n dX11_game_13 rfl rfl rfl ?_
      refine g_i2l dX11_game_14 rfl ?_
      refine g_lconst (v := 0) dX11_game_15 (by decide) rfl ?_
      refine g_ldc2 dX11_game_16 lq_X11_452 rfl ?_
      refine g_callSdi dX11_game_19 lm_X11_211 mv_X11_isIn (r_isIn (d := d + 35) (l := 0) (h := 3) hx rfl (by decide) (by decide)) rfl rfl (Nat.le_of_ble_eq_true rfl) (gFit_room (by omega)) rfl ?_
      refine g_ieq (tgt := 60) dX11_game_22 (by decide) rfl (fun h22 => ?_) (fun h22 => ?_)
      · refine g_ldcw dX11_game_60 lq_X11_409 rfl ?_
        exact g_iret dX11_game_63 rfl (by first | rfl | exact b01 | exact nb01 hv01) (⟨rfl, hQ0.1, h1.1⟩)
      · refine g_iload_n dX11_game_25 rfl rfl rfl ?_
        refine g_i2l dX11_game_26 rfl ?_
        refine g_lconst (v := 0) dX11_game_27 (by decide) rfl ?_
        refine g_ldc2 dX11_game_28 lq_X11_266 rfl ?_
        refine g_callSdi dX11_game_31 lm_X11_211 mv_X11_isIn (r_isIn (d := d + 35) (l := 0) (h := 2) hx rfl (by decide) (by decide)) rfl rfl (Nat.le_of_ble_eq_true rfl) (gFit_room (by omega)) rfl ?_
        refine g_ieq (tgt := 60) dX11_game_34 (by decide) rfl (fun h34 => ?_) (fun h34 => ?_)
        · refine g_ldcw dX11_game_60 lq_X11_409 rfl ?_
          exact g_iret dX11_game_63 rfl (by first | rfl | exact b01 | exact nb01 hv01) (⟨rfl, hQ0.1, h1.1⟩)
        · refine g_iload dX11_game_37 rfl rfl ?_
          refine g_i2l dX11_game_39 rfl ?_
          refine g_lconst (v := 0) dX11_game_40 (by decide) rfl ?_
          refine g_lconst (v := 1) dX11_game_41 (by decide) rfl ?_
          refine g_callSdi dX11_game_42 lm_X11_211 mv_X11_isIn (r_isIn (d := d + 35) (l := 0) (h := 1) hx rfl (by decide) (by decide)) rfl rfl (Nat.le_of_ble_eq_true rfl) (gFit_room (by omega)) rfl ?_
          rw [ib_f (fun z => hc ⟨h10, h22, h34, z⟩)]
          refine g_if_eq (tgt := 60) dX11_game_45 (by decide) rfl (fun _ => ?_) (fun h_ => absurd (by decide) h_)
          refine g_ldcw dX11_game_60 lq_X11_409 rfl ?_
          exact g_iret dX11_game_63 rfl (by first | rfl | exact b01 | exact nb01 hv01) (⟨rfl, hQ0.1, h1.1⟩)
/-- sights -/
def RSi (Mc M : gM) (c : Nat) : Prop := gmi M 100 44 = nI c ∧ gmi Mc 75 5 = nI c ∧ c ≤ 10 ∧ ∀ i, i < c → gmi M 118 (3 * i) = gmi Mc 76 i ∧ gmi M 118 (3 * i + 1) = gmi Mc 77 i ∧ gmi M 118 (3 * i + 2) = gmi Mc 78 i ∧ (∃ m, m < 100 ∧ gmi Mc 77 i = nI m) ∧ (gmi Mc 78 i = 0 ∨ gmi Mc 78 i = 1)
theorem RSi.x {M2 : gM} {c : Nat} (h : RSi Mc M c) (hf : xFr S M M2) (h1 : ¬ S 118) (h2 : ¬ S 1044) : RSi Mc M2 c := by
  unfold RSi
  rw [hf.2.2.2.2.2.2 44 (by decide) (by decide) h2, hf.2.2.2.2.2.1 118 (by decide) (by decide) (by decide) h1]
  exact h
set_option maxRecDepth 20000 in
theorem r_wouldBe (hx : gXok X) (hZ : gSt X) (h0 : R0 Mc M n E EV) {p s b : Nat} (hp : p < tv Mc 3 7) (hs : s < 256) (hb : b < 100) : gPos X (d + 34) yX11_wouldBe cX11_wouldBe 4 (some .boolean) [.ref 100, .int (nI p), .int (nI s), .int (nI b)] M (fun v M2 => v = some (.int (ib (rdS Mc EV p (nI (heft Mc s)) (ibc (nI s)) (nI b) = true))) ∧ qFr M M2 ∧ RQ M2 n E EV) := by
  have hL := h0.1.1
  obtain ⟨epc, hpc⟩ := pc8 s hs
  have hv : (rdS Mc EV p (nI (heft Mc s)) (ibc (nI s)) (nI b) = true) ↔ 0 < rd EV (nI (heft Mc s)) (gmi Mc 5 p) (nI b) (nI (pcn s)) (nI 0) (nI 0) := by unfold rdS; rw [decide_eq_true_iff, epc]; rfl
  refine gMet.of hx (by decide) (Nat.le_of_ble_eq_true rfl) ?_
  refine g_aload_n dX11_wouldBe_0 rfl rfl rfl ?_
  refine g_iload_n dX11_wouldBe_1 rfl rfl rfl ?_
  refine g_aload_n dX11_wouldBe_2 rfl rfl rfl ?_
  refine g_iload_n dX11_wouldBe_3 rfl rfl rfl ?_
  refine g_iconst (v := 0) dX11_wouldBe_4 (by decide) rfl ?_
  refine g_callVdi (ci := 11) dX11_wouldBe_5 lm_X11_324 mv_X11_sumOf (r_sumOf (d := d + 32) (c := 7) (z := 0) hx h0 hs (Or.inl ⟨rfl, rfl⟩)) rfl rfl (k100 hL) rfl rfl (Nat.le_of_ble_eq_true rfl) (gFit_room (by omega)) rfl ?_
  refine g_iload_n dX11_wouldBe_8 rfl rfl rfl ?_
  refine g_iload_n dX11_wouldBe_9 rfl rfl rfl ?_
  refine g_callSdi dX11_wouldBe_10 lm_X11_327 mv_J6_bitCount_0f7a4 (c_bitCount (d := d + 33) hx) rfl rfl (Nat.le_of_ble_eq_true rfl) (gFit_room (by omega)) rfl ?_
  rw [epc]
  refine g_iconst (v := 0) dX11_wouldBe_13 (by decide) rfl ?_
  refine g_iconst (v := 0) dX11_wouldBe_14 (by decide) rfl ?_
  refine g_callVq (ci := 11) dX11_wouldBe_15 lm_X11_332 mv_X11_readBy (r_readBy (d := d) (w := 0) (t := 0) hx hZ h0 hp (heft_72 (b := s) h0.2.1) hb hpc (by decide) (by decide)) rfl rfl (k100 hL) rfl rfl (Nat.le_of_ble_eq_true rfl) (gFit_room (by omega)) rfl (fun v M2 hQ => ?_)
  obtain ⟨rfl, hf⟩ := hQ
  refine g_if_le (tgt := 25) dX11_wouldBe_18 (by decide) rfl (fun h18 => ?_) (fun h18 => ?_)
  · have hr : ¬ rdS Mc EV p (nI (heft Mc s)) (nI (pcn s)) (nI b) = true := fun q => Int32.not_lt.mpr h18 (hv.mp (by rw [epc]; exact q))
    refine g_iconst (v := 0) dX11_wouldBe_25 (by decide) rfl ?_
    exact g_iret dX11_wouldBe_26 rfl (by first | rfl | exact b01 | exact nb01 hv01) (⟨by first | rw [ib_t hr] | rw [ib_f hr], hf⟩)
  · have hr : rdS Mc EV p (nI (heft Mc s)) (nI (pcn s)) (nI b) = true := by rw [← epc]; exact hv.mpr (Int32.not_le.mp h18)
    refine g_iconst (v := 1) dX11_wouldBe_21 (by decide) rfl ?_
    refine g_goto (tgt := 26) dX11_wouldBe_22 (by decide) ?_
    exact g_iret dX11_wouldBe_26 rfl (by first | rfl | exact b01 | exact nb01 hv01) (⟨by first | rw [ib_t hr] | rw [ib_f hr], hf⟩)
end H8
