/-- what a row holds -/
def RngF (F : Nat → Int32) : Prop := (∀ p, p < 6 → ∃ m, m ≤ 99 ∧ F p = nI m) ∧ (∀ p, p < 6 → ∃ m, m ≤ 999 ∧ F (6 + p) = nI m) ∧ ∃ m, m < 2 ^ 30 ∧ F 66 = nI m
theorem pc8 : ∀ b, b < 256 → ibc (nI b) = nI (pcn b) ∧ pcn b < 9 := by decide +kernel
theorem dsF_256 {F : Nat → Int32} {D p n : Nat} (hD : D ≤ 8) : dsF F D p n < 256 := Nat.lt_of_lt_of_le (bsum_lt _ _) (bt_pow hD)
theorem heft_72 {M : gM} {b : Nat} (hT : TownOK M) : heft M b < 100 := by
  have h8 := hT.2.1.2
  have h := ssum_le (b := b) (f := tv M 7) (m := 9) (n := tv M 3 8) (fun k hk => (hT.2.2.1 k (by omega)).2)
  unfold heft
  omega
section G3
variable {X : gX} {Mc M : gM} {d n : Nat} {E : Nat → LE} {EV : EVt}
theorem rd_mod {g s b m t : Int32} {w : Nat} (hw : w < 2 ^ 31) : rd EV g s b m (nI (w % 7)) t = rd EV g s b m (nI w) t := by
  unfold rd rdw
  cases EV with
  | none => rfl
  | some E =>
    dsimp only
    rw [show (7 : Int32) = nI 7 from rfl, pk_rem hw (by decide) (by decide), pk_rem (by omega) (by decide) (by decide), Nat.mod_mod]
set_option maxRecDepth 20000 in
theorem r_readBy (hx : gXok X) (hZ : gSt X) (h0 : R0 Mc M n E EV) {p g b m w t : Nat} (hp : p < tv Mc 3 7) (h1 : g < 100) (h3 : b < 100) (h4 : m < 9) (h5 : w < 7) (h6 : t < 1000) : gPos X (d + 33) yX11_readBy cX11_readBy 8 (some .int) [.ref 100, .int (nI p), .int (nI g), .int (nI b), .int (nI m), .int (nI w), .int (nI t)] M (fun v M2 => v = some (.int (rd EV (nI g) (gmi Mc 5 p) (nI b) (nI m) (nI w) (nI t))) ∧ qFr M M2 ∧ RQ M2 n E EV) := by
  obtain ⟨hQ, hT, hR⟩ := h0
  have hL := hQ.1
  have hp6 := Nat.lt_of_lt_of_le hp hT.1.2
  obtain ⟨e5, b5⟩ := hT.2.2.2.2.2.1 p hp6
  have hfk := (hR.2.2.1 p hp).2.1
  refine gMet.of hx (by decide) (Nat.le_of_ble_eq_true rfl) ?_
  rw [e5]
  rcases hQ.2.2.2 with ⟨rfl, hlw⟩ | ⟨k, hk, rfl, hlw⟩
  · refine g_aload_n dX11_readBy_0 rfl rfl rfl ?_
    refine g_getR dX11_readBy_1 ff_X11_43 rfl (k100 hL) (r100_20 hL) rfl ?_
    refine g_iconst (v := 3) dX11_readBy_4 (by decide) rfl ?_
    refine g_iload_n dX11_readBy_5 rfl rfl rfl ?_
    refine g_imul dX11_readBy_6 rfl ?_
    refine g_iconst (v := 1) dX11_readBy_7 (by decide) rfl ?_
    refine g_iadd dX11_readBy_8 rfl ?_
    rw [show (3 : Int32) = nI 3 from rfl, show (1 : Int32) = nI 1 from rfl, pk_mul, nI_add]
    refine g_iald (i := (3 * p + 1)) dX11_readBy_9 (k107 hL) (l107 hL) (nI_toInt (by omega)) (by omega) rfl ?_
    rw [hfk, e5]
    refine g_istore dX11_readBy_10 (by decide) rfl ?_
    refine g_aload_n dX11_readBy_12 rfl rfl rfl ?_
    refine g_getI dX11_readBy_13 ff_X11_67 rfl (k100 hL) rfl ?_
    refine g_iconst (v := -1) dX11_readBy_16 (by decide) rfl ?_
    rw [hlw]
    refine g_icmp_ne (tgt := 35) dX11_readBy_17 (by decide) rfl (fun h_ => absurd (rfl) h_) (fun _ => ?_)
    refine g_bipush (v := -99) dX11_readBy_20 (by decide) rfl ?_
    refine g_bipush (v := 99) dX11_readBy_22 (by decide) rfl ?_
    refine g_iload_n dX11_readBy_24 rfl rfl rfl ?_
    refine g_iload dX11_readBy_25 rfl rfl ?_
    refine g_isub dX11_readBy_27 rfl ?_
    refine g_callSdi dX11_readBy_28 lm_X11_316 mv_J9_min_7cf53 (c_min (d := d + 32) hx) rfl rfl (Nat.le_of_ble_eq_true rfl) (gFit_room (by omega)) rfl ?_
    refine g_callSdi dX11_readBy_31 lm_X11_318 mv_J9_max_7cf53 (c_max (d := d + 32) hx) rfl rfl (Nat.le_of_ble_eq_true rfl) (gFit_room (by omega)) rfl ?_
    exact g_iret dX11_readBy_34 rfl (by first | rfl | exact b01 | exact nb01 hv01) (⟨rfl, qFr.rf, hQ⟩)
  · have hn4 := hQ.2.1.2.1
    refine g_aload_n dX11_readBy_0 rfl rfl rfl ?_
    refine g_getR dX11_readBy_1 ff_X11_43 rfl (k100 hL) (r100_20 hL) rfl ?_
    refine g_iconst (v := 3) dX11_readBy_4 (by decide) rfl ?_
    refine g_iload_n dX11_readBy_5 rfl rfl rfl ?_
    refine g_imul dX11_readBy_6 rfl ?_
    refine g_iconst (v := 1) dX11_readBy_7 (by decide) rfl ?_
    refine g_iadd dX11_readBy_8 rfl ?_
    rw [show (3 : Int32) = nI 3 from rfl, show (1 : Int32) = nI 1 from rfl, pk_mul, nI_add]
    refine g_iald (i := (3 * p + 1)) dX11_readBy_9 (k107 hL) (l107 hL) (nI_toInt (by omega)) (by omega) rfl ?_
    rw [hfk, e5]
    refine g_istore dX11_readBy_10 (by decide) rfl ?_
    refine g_aload_n dX11_readBy_12 rfl rfl rfl ?_
    refine g_getI dX11_readBy_13 ff_X11_67 rfl (k100 hL) rfl ?_
    refine g_iconst (v := -1) dX11_readBy_16 (by decide) rfl ?_
    rw [hlw]
    refine g_icmp_ne (tgt := 35) dX11_readBy_17 (by decide) rfl (fun _ => ?_) (fun h_ => absurd h_ (neg1 (by omega)))
    refine g_aload_n dX11_readBy_35 rfl rfl rfl ?_
    refine g_iload_n dX11_readBy_36 rfl rfl rfl ?_
    refine g_iload dX11_readBy_37 rfl rfl ?_
    refine g_iload_n dX11_readBy_39 rfl rfl rfl ?_
    refine g_iload dX11_readBy_40 rfl rfl ?_
    refine g_iload dX11_readBy_42 rfl rfl ?_
    refine g_iload dX11_readBy_44 rfl rfl ?_
    refine g_callVq (ci := 11) dX11_readBy_46 lm_X11_320 mv_X11_worthOf (r_worthOf (d := d) hx hZ hQ hk hlw h1 (show tv Mc 5 p < 10 by omega) h3 h4 h5 h6) rfl rfl (k100 hL) rfl rfl (Nat.le_of_ble_eq_true rfl) (gFit_room (by omega)) rfl (fun v M2 hQ => ?_)
    obtain ⟨rfl, hf⟩ := hQ
    exact g_iret dX11_readBy_49 rfl (by first | rfl | exact b01 | exact nb01 hv01) (⟨by unfold rd rdw cl99; dsimp only; rw [show (7 : Int32) = nI 7 from rfl, pk_rem (by omega) (by decide) (by decide), Nat.mod_eq_of_lt h5], hf⟩)
set_option maxRecDepth 20000 in
theorem r_readWith (hx : gXok X) (hZ : gSt X) (h0 : R0 Mc M n E EV) {w p b : Nat} (hw : w = 113 ∨ w = 114) {F : Nat → Int32} (hR : RowR M w F) (hF : RngF F) (hp : p < tv Mc 3 7) (hb : b < 256) : gPos X (d + 34) yX11_readWith cX11_readWith 4 (some .int) [.ref 100, .ref w, .int (nI p), .int (nI b)] M (fun v M2 => v = some (.int (rd EV (nI (heft Mc b)) (gmi Mc 5 p) (F p) (ibc (nI b)) (F 66) (F (6 + p)))) ∧ qFr M M2 ∧ RQ M2 n E EV) := by
  have hL := h0.1.1
  have hp6 := Nat.lt_of_lt_of_le hp h0.2.1.1.2
  obtain ⟨k_w, l_w⟩ := wlay hL hw
  obtain ⟨be, hbe, eb⟩ := hF.1 p hp6
  obtain ⟨sh, hsh, es⟩ := hF.2.1 p hp6
  obtain ⟨D, hD, eD⟩ := hF.2.2
  obtain ⟨epc, hpc⟩ := pc8 b hb
  have r1 : gmi M w (10 * p) = nI be := by rw [hR _ (by omega), cix_b p hp6, eb]
  have r2 : gmi M w (10 * p + 1) = nI sh := by rw [hR _ (by omega), cix_s p hp6, es]
  have r3 : gmi M w 65 = nI D := by rw [hR _ (by omega)]; exact eD
  refine gMet.of hx (by decide) (Nat.le_of_ble_eq_true rfl) ?_
  rw [eb, es, eD, epc, ← rd_mod (show D < 2 ^ 31 by omega)]
  refine g_aload_n dX11_readWith_0 rfl rfl rfl ?_
  refine g_iload_n dX11_readWith_1 rfl rfl rfl ?_
  refine g_aload_n dX11_readWith_2 rfl rfl rfl ?_
  refine g_iload_n dX11_readWith_3 rfl rfl rfl ?_
  refine g_iconst (v := 0) dX11_readWith_4 (by decide) rfl ?_
  refine g_callVdi (ci := 11) dX11_readWith_5 lm_X11_324 mv_X11_sumOf (r_sumOf (d := d + 32) (c := 7) (z := 0) hx h0 hb (Or.inl ⟨rfl, rfl⟩)) rfl rfl (k100 hL) rfl rfl (Nat.le_of_ble_eq_true rfl) (gFit_room (by omega)) rfl ?_
  refine g_aload_n dX11_readWith_8 rfl rfl rfl ?_
  refine g_bipush (v := 10) dX11_readWith_9 (by decide) rfl ?_
  refine g_iload_n dX11_readWith_11 rfl rfl rfl ?_
  refine g_imul dX11_readWith_12 rfl ?_
  refine g_iconst (v := 0) dX11_readWith_13 (by decide) rfl ?_
  refine g_iadd dX11_readWith_14 rfl ?_
  rw [show (10 : Int32) = nI 10 from rfl, show (0 : Int32) = nI 0 from rfl, pk_mul, nI_add, Nat.add_zero]
  refine g_iald (i := (10 * p)) dX11_readWith_15 (k_w) (l_w) (nI_toInt (by omega)) (by omega) rfl ?_
  rw [r1]
  refine g_iload_n dX11_readWith_16 rfl rfl rfl ?_
  refine g_callSdi dX11_readWith_17 lm_X11_327 mv_J6_bitCount_0f7a4 (c_bitCount (d := d + 33) hx) rfl rfl (Nat.le_of_ble_eq_true rfl) (gFit_room (by omega)) rfl ?_
  rw [epc]
  refine g_aload_n dX11_readWith_20 rfl rfl rfl ?_
  refine g_bipush (v := 65) dX11_readWith_21 (by decide) rfl ?_
  refine g_iald (i := 65) dX11_readWith_23 (k_w) (l_w) rfl (by decide) rfl ?_
  rw [r3]
  refine g_bipush (v := 7) dX11_readWith_24 (by decide) rfl ?_
  refine g_irem dX11_readWith_26 (by decide) rfl ?_
  rw [show (7 : Int32) = nI 7 from rfl, pk_rem (by omega) (by decide) (by decide)]
  refine g_aload_n dX11_readWith_27 rfl rfl rfl ?_
  refine g_bipush (v := 10) dX11_readWith_28 (by decide) rfl ?_
  refine g_iload_n dX11_readWith_30 rfl rfl rfl ?_
  refine g_imul dX11_readWith_31 rfl ?_
  refine g_iconst (v := 1) dX11_readWith_32 (by decide) rfl ?_
  refine g_iadd dX11_readWith_33 rfl ?_
  rw [show (10 : Int32) = nI 10 from rfl, show (1 : Int32) = nI 1 from rfl, pk_mul, nI_add]
  refine g_iald (i := (10 * p + 1)) dX11_readWith_34 (k_w) (l_w) (nI_toInt (by omega)) (by omega) rfl ?_
  rw [r2]
  refine g_callVq (ci := 11) dX11_readWith_35 lm_X11_332 mv_X11_readBy (r_readBy (d := d) hx hZ h0 hp (heft_72 h0.2.1) (show be < 100 by omega) hpc (Nat.mod_lt _ (by decide)) (show sh < 1000 by omega)) rfl rfl (k100 hL) rfl rfl (Nat.le_of_ble_eq_true rfl) (gFit_room (by omega)) rfl (fun v M2 hQ => ?_)
  obtain ⟨rfl, hf⟩ := hQ
  exact g_iret dX11_readWith_38 rfl (by first | rfl | exact b01 | exact nb01 hv01) (⟨rfl, hf⟩)
theorem r_isGuilty (hx : gXok X) (hZ : gSt X) (h0 : R0 Mc M n E EV) {w p : Nat} (hw : w = 113 ∨ w = 114) {F : Nat → Int32} (hR : RowR M w F) (hF : RngF F) (hFl : LeftF F) (hp : p < tv Mc 3 7) : gPos X (d + 35) yX11_isGuilty cX11_isGuilty 3 (some .boolean) [.ref 100, .ref w, .int (nI p)] M (fun v M2 => v = some (.int (ib (gunF Mc EV F p = true))) ∧ qFr M M2 ∧ RQ M2 n E EV) := by
  have hL := h0.1.1
  have hp6 := Nat.lt_of_lt_of_le hp h0.2.1.1.2
  refine gMet.of hx (by decide) (Nat.le_of_ble_eq_true rfl) ?_
  have hg : (gunF Mc EV F p = true) ↔ 0 < rd EV (nI (heft Mc (dsF F (tv Mc 3 8) p 0))) (gmi Mc 5 p) (F p) (ibc (nI (dsF F (tv Mc 3 8) p 0))) (F 66) (F (6 + p)) := by unfold gunF gubF; rw [decide_eq_true_iff]
  refine g_aload_n dX11_isGuilty_0 rfl rfl rfl ?_
  refine g_aload_n dX11_isGuilty_1 rfl rfl rfl ?_
  refine g_iload_n dX11_isGuilty_2 rfl rfl rfl ?_
  refine g_aload_n dX11_isGuilty_3 rfl rfl rfl ?_
  refine g_aload_n dX11_isGuilty_4 rfl rfl rfl ?_
  refine g_iload_n dX11_isGuilty_5 rfl rfl rfl ?_
  refine g_callVdi (ci := 11) dX11_isGuilty_6 lm_X11_335 mv_X11_setOf (r_setOf (d := d + 33) hx h0 hw hR hFl hp6) rfl rfl (k100 hL) rfl rfl (Nat.le_of_ble_eq_true rfl) (gFit_room (by omega)) rfl ?_
  refine g_callVq (ci := 11) dX11_isGuilty_9 lm_X11_339 mv_X11_readWith (r_readWith (d := d) hx hZ h0 hw hR hF hp (dsF_256 h0.2.1.2.1.2)) rfl rfl (k100 hL) rfl rfl (Nat.le_of_ble_eq_true rfl) (gFit_room (by omega)) rfl (fun v M2 hQ => ?_)
  obtain ⟨rfl, hf⟩ := hQ
  refine g_if_le (tgt := 19) dX11_isGuilty_12 (by decide) rfl (fun h12 => ?_) (fun h12 => ?_)
  · have hr : ¬ gunF Mc EV F p = true := fun q => Int32.not_lt.mpr h12 (hg.mp q)
    refine g_iconst (v := 0) dX11_isGuilty_19 (by decide) rfl ?_
    exact g_iret dX11_isGuilty_20 rfl (by first | rfl | exact b01 | exact nb01 hv01) (⟨by first | rw [ib_t hr] | rw [ib_f hr], hf⟩)
  · have hr : gunF Mc EV F p = true := hg.mpr (Int32.not_le.mp h12)
    refine g_iconst (v := 1) dX11_isGuilty_15 (by decide) rfl ?_
    refine g_goto (tgt := 20) dX11_isGuilty_16 (by decide) ?_
    exact g_iret dX11_isGuilty_20 rfl (by first | rfl | exact b01 | exact nb01 hv01) (⟨by first | rw [ib_t hr] | rw [ib_f hr], hf⟩)
end G3
