section N2
variable {X : gX} {M : gM} {d : Nat}
theorem grt_lt : ∀ q ∈ grt, q.1 < 200 := by decide +kernel
theorem grt_le : ∀ q ∈ grt, q.2.2 < 200 := by decide +kernel
set_option maxRecDepth 20000 in
theorem c_takeDraft (hx : gXok X) (hW : gNw X) (hL : gLay M) {a b : Nat} (ha : 200 ≤ a) (hab : a + 5 ≤ b) (hb5 : b + 4 < 5000) (r_19_1 : gmr M 19 1 = some a) (h0 : ∀ c, b ≤ c → c ≤ b + 4 → gkd M c = 0) : gMet X (d + 2) yX3_takeDraft cX3_takeDraft 2 (some (.object "GuiltyShave$Law")) [.ref 19] M (fun c => b ≤ c ∧ c ≤ b + 4) 5 433 (fun v M2 => v = some (.ref a) ∧ LawAt M2 b ∧ gmr M2 19 = va_up (gmr M 19) 1 (some b) ∧ (gkd M2 19 = gkd M 19 ∧ gln M2 19 = gln M 19 ∧ gmi M2 19 = gmi M 19 ∧ gml M2 19 = gml M 19) ∧ ∀ c, c ≠ 19 → (c < b ∨ b + 4 < c) → gSm M M2 c) := by
  refine gMet.of hx (by decide) (Nat.le_of_ble_eq_true rfl) ?_
  refine g_aload_n dX3_takeDraft_0 rfl rfl rfl ?_
  refine g_getR dX3_takeDraft_1 ff_X3_12 rfl (k19 hL) (r_19_1) rfl ?_
  refine g_astore_n dX3_takeDraft_4 rfl (by decide) rfl ?_
  refine g_aload_n dX3_takeDraft_5 rfl rfl rfl ?_
  refine g_new (ci := 2) (b := b) dX3_takeDraft_6 rfl lc_X3_9 lt_X2 ln_X2 (h0 b (by omega) (by omega)) (by omega) ⟨by omega, by omega⟩ (alqc (ne_ref (by omega)) (alqc (ne_ref (by omega)) alq0)) (al1 (by omega)) (by decide) (by decide) rfl ?_
  refine g_dup dX3_takeDraft_9 rfl rfl ?_
  have hb3 : gkd (gwN M b 3 0) b = 3 := gkd_Ns
  refine g_callIN (As := []) dX3_takeDraft_10 (fun U hU => (hW U hU).1 _ (List.mem_of_getElem? (i := 2) rfl)) mv_X2_init (c_lawInit (d := d) hx hb3 (fun c h1 h2 => by rw [gkd_Nn (show c ≠ b by omega)]; exact h0 c (by omega) h2) hb5) rfl rfl (Nat.le_of_ble_eq_true rfl) (gFit_room (by omega)) (by decide) (by decide) (fun c hc => ⟨by have := hc.1; omega, by have := hc.2; omega⟩) (anqc (anr (fun q => by have := q.1; omega)) (anqc (anr (fun q => by have := q.1; omega)) anq0)) (anc (anr (fun q => by have := q.1; omega)) (anc (anr (fun q => by have := q.1; omega)) an0)) rfl (fun v M2 hQ => ?_)
  obtain ⟨rfl, hA, hB, hC⟩ := hQ
  have hs : ∀ c, (c < b ∨ b + 4 < c) → gSm M M2 c := fun c hc => (gSm.rf.wN (show c ≠ b by omega)).tr (hC c hc)
  have h19 := hs 19 (by omega)
  refine g_putR dX3_takeDraft_13 fp_X3_12 rfl (by rw [h19.1]; exact k19 hL) (Or.inl (by rw [hA.1]; decide)) rfl ?_
  refine g_aload_n dX3_takeDraft_16 rfl rfl rfl ?_
  exact g_aret dX3_takeDraft_17 rfl (Or.inl ⟨_, rfl⟩) (Or.inr ⟨_, rfl⟩) ⟨rfl, ⟨hA.1, hA.2.1, hA.2.2.1, hA.2.2.2.1, hA.2.2.2.2.1, by rw [gmr_Rn (show b ≠ 19 by omega)]; exact hA.2.2.2.2.2.1, by rw [gmr_Rn (show b ≠ 19 by omega)]; exact hA.2.2.2.2.2.2.1, by rw [gmr_Rn (show b ≠ 19 by omega)]; exact hA.2.2.2.2.2.2.2.1, by rw [gmr_Rn (show b ≠ 19 by omega)]; exact hA.2.2.2.2.2.2.2.2⟩, by rw [gmr_Rs, h19.2.2.2.1], ⟨h19.1, h19.2.1, h19.2.2.1, h19.2.2.2.2⟩, fun c h1 h2 => (hs c h2).wR h1⟩
set_option maxRecDepth 20000 in
theorem c_enact (hx : gXok X) (hL : gLay M) {a n : Nat} (hn : gmi M 20 3 = nI n) (h4 : n < 4) (ha : gkd M a = 3) : gDet X (d + 0) yX0_enact cX0_enact 2 (some .int) [.ref 20, .ref a] M (some (.int (nI n))) (gwI (gwR M 21 n (some a)) 20 3 (nI (n + 1))) := by
  refine gMet.of hx (by decide) (Nat.le_of_ble_eq_true rfl) ?_
  have hL2 : gkd (gwR M 21 n (some a)) 20 = 1 := (show gkd M 20 = 1 from k20 hL)
  refine g_aload_n dX0_enact_0 rfl rfl rfl ?_
  refine g_getI dX0_enact_1 ff_X0_29 rfl (k20 hL) rfl ?_
  refine g_iconst (v := 4) dX0_enact_4 (by decide) rfl ?_
  rw [hn]
  refine g_icmp_ne (tgt := 10) dX0_enact_5 (by decide) rfl (fun _ => ?_) (fun h_ => absurd h_ (fun q => absurd ((qeq n 4 rfl rfl (by omega) (by decide)).mp q) (by omega)))
  refine g_aload_n dX0_enact_10 rfl rfl rfl ?_
  refine g_getR dX0_enact_11 ff_X0_11 rfl (k20 hL) (r20_1 hL) rfl ?_
  refine g_aload_n dX0_enact_14 rfl rfl rfl ?_
  refine g_getI dX0_enact_15 ff_X0_29 rfl (k20 hL) rfl ?_
  rw [hn]
  refine g_aload_n dX0_enact_18 rfl rfl rfl ?_
  refine g_aast5 (i := n) dX0_enact_19 (k21 hL) (l21 hL) (nI_toInt (by omega)) h4 ha rfl ?_
  refine g_aload_n dX0_enact_20 rfl rfl rfl ?_
  refine g_dup dX0_enact_21 rfl rfl ?_
  refine g_getI dX0_enact_22 ff_X0_29 rfl hL2 rfl ?_
  have e : gmi (gwR M 21 n (some a)) 20 3 = nI n := hn
  rw [e]
  refine g_iconst (v := 1) dX0_enact_25 (by decide) rfl ?_
  refine g_iadd dX0_enact_26 rfl ?_
  rw [nI_1]
  refine g_putI dX0_enact_27 fp_X0_29 rfl rfl rfl hL2 rfl ?_
  refine g_aload_n dX0_enact_30 rfl rfl rfl ?_
  refine g_getI dX0_enact_31 ff_X0_29 rfl hL2 rfl ?_
  rw [gmi_I, va_up_self]
  refine g_iconst (v := 1) dX0_enact_34 (by decide) rfl ?_
  refine g_isub dX0_enact_35 rfl ?_
  rw [nI_pred]
  exact g_iret dX0_enact_36 rfl rfl ⟨rfl, rfl⟩
/-- a law more -/
def AddL (M M2 : gM) (n : Nat) : Prop := (∀ c, c < 200 + 5 * (n + 1) ∨ 200 + 5 * (n + 1) + 4 < c → gkd M2 c = gkd M c ∧ gln M2 c = gln M c ∧ gml M2 c = gml M c) ∧ (∀ c, c < 200 + 5 * (n + 1) ∨ 200 + 5 * (n + 1) + 4 < c → c ≠ 1 → c ≠ 20 → gmi M2 c = gmi M c) ∧ (∀ c, c < 200 + 5 * (n + 1) ∨ 200 + 5 * (n + 1) + 4 < c → c ≠ 19 → c ≠ 21 → gmr M2 c = gmr M c) ∧ gmi M2 1 = va_up (gmi M 1) 1 0 ∧ gmi M2 20 = va_up (gmi M 20) 3 (nI (n + 1)) ∧ gmr M2 19 = va_up (gmr M 19) 1 (some (200 + 5 * (n + 1))) ∧ gmr M2 21 = va_up (gmr M 21) n (some (200 + 5 * n)) ∧ LawAt M2 (200 + 5 * (n + 1))
theorem c_addLaw4 (hx : gXok X) (hL : gLay M) (hn : gmi M 20 3 = nI 4) : gDet X (d + 0) yX10_addLaw cX10_addLaw 1 (some .int) [.ref 0] M (some (.int (-1))) M := by
  refine gMet.of hx (by decide) (Nat.le_of_ble_eq_true rfl) ?_
  refine g_aload_n dX10_addLaw_0 rfl rfl rfl ?_
  refine g_getR dX10_addLaw_1 ff_X10_40 rfl (k0 hL) (r0_4 hL) rfl ?_
  refine g_getI dX10_addLaw_4 ff_X10_144 rfl (k20 hL) rfl ?_
  refine g_iconst (v := 4) dX10_addLaw_7 (by decide) rfl ?_
  rw [hn]
  refine g_icmp_ne (tgt := 13) dX10_addLaw_8 (by decide) rfl (fun h_ => absurd (rfl) h_) (fun _ => ?_)
  refine g_iconst (v := -1) dX10_addLaw_11 (by decide) rfl ?_
  exact g_iret dX10_addLaw_12 rfl (by first | rfl | exact b01) (⟨by first | rfl | assumption | exact gFr.rf | grind [ib], by first | rfl | assumption | exact gFr.rf | grind [ib]⟩)
set_option maxRecDepth 20000 in
theorem c_addLaw (hx : gXok X) (hW : gNw X) (hL : gLay M) {n : Nat} (hn : gmi M 20 3 = nI n) (h4 : n < 4) (r_19_1 : gmr M 19 1 = some (200 + 5 * n)) (hla : LawAt M (200 + 5 * n)) (h0 : ∀ c, 200 + 5 * (n + 1) ≤ c → c ≤ 200 + 5 * (n + 1) + 4 → gkd M c = 0) : gMet X (d + 3) yX10_addLaw cX10_addLaw 1 (some .int) [.ref 0] M (fun c => 200 + 5 * (n + 1) ≤ c ∧ c ≤ 200 + 5 * (n + 1) + 4) 5 433 (fun v M2 => v = some (.int (nI n)) ∧ AddL M M2 n) := by
  refine gMet.of hx (by decide) (Nat.le_of_ble_eq_true rfl) ?_
  refine g_aload_n dX10_addLaw_0 rfl rfl rfl ?_
  refine g_getR dX10_addLaw_1 ff_X10_40 rfl (k0 hL) (r0_4 hL) rfl ?_
  refine g_getI dX10_addLaw_4 ff_X10_144 rfl (k20 hL) rfl ?_
  refine g_iconst (v := 4) dX10_addLaw_7 (by decide) rfl ?_
  rw [hn]
  refine g_icmp_ne (tgt := 13) dX10_addLaw_8 (by decide) rfl (fun _ => ?_) (fun h_ => absurd h_ (fun q => absurd ((qeq n 4 rfl rfl (by omega) (by decide)).mp q) (by omega)))
  refine g_aload_n dX10_addLaw_13 rfl rfl rfl ?_
  refine g_getR dX10_addLaw_14 ff_X10_10 rfl (k0 hL) (r0_0 hL) rfl ?_
  refine g_iconst (v := 0) dX10_addLaw_17 (by decide) rfl ?_
  refine g_putI dX10_addLaw_18 fp_X10_99 rfl rfl rfl (k1 hL) rfl ?_
  refine g_aload_n dX10_addLaw_21 rfl rfl rfl ?_
  refine g_getR dX10_addLaw_22 ff_X10_40 rfl (k0 (gLay_I hL)) (r0_4 (gLay_I hL)) rfl ?_
  refine g_aload_n dX10_addLaw_25 rfl rfl rfl ?_
  refine g_getR dX10_addLaw_26 ff_X10_31 rfl (k0 (gLay_I hL)) (r0_3 (gLay_I hL)) rfl ?_
  refine g_callV (ci := 3) (As := []) dX10_addLaw_29 lm_X10_147 mv_X3_takeDraft (c_takeDraft (d := d) hx hW (gLay_I hL) (a := 200 + 5 * n) (b := 200 + 5 * (n + 1)) (by omega) (by omega) (by omega) r_19_1 h0) rfl rfl (k19 (gLay_I hL)) rfl rfl (Nat.le_of_ble_eq_true rfl) (gFit_room (by omega)) (by decide) (by decide) (fun c hc => hc) (anqc (anr (fun q => by have := q.1; omega)) anq0) (anc (anr (fun q => by have := q.1; omega)) an0) rfl (fun v M2 hQ => ?_)
  obtain ⟨rfl, hA, hB, hC, hD⟩ := hQ
  have hq : ∀ c, c < 200 → gkd M2 c = gkd M c := fun c hc => by
    by_cases e : c = 19
    · rw [e, hC.1]; rfl
    · rw [(hD c e (by omega)).1]; rfl
  have hl : ∀ c, c < 200 → gln M2 c = gln M c := fun c hc => by
    by_cases e : c = 19
    · rw [e, hC.2.1]; rfl
    · rw [(hD c e (by omega)).2.1]; rfl
  have hL2 : gLay M2 := ⟨fun c hc => (hq c (by omega)).trans (hL.1 c hc), fun c hc => (hl c (by omega)).trans (hL.2.1 c hc), fun q hq2 => by
    by_cases e : q.1 = 19
    · rw [e, hB]
      have := hL.2.2 q hq2
      rw [e] at this
      by_cases e1 : q.2.1 = 1
      · rw [e1] at this; exact absurd (this.symm.trans r_19_1) (fun z => absurd hq2 (by have z2 := Option.some.inj z; exact fun z3 => absurd (grt_le q z3) (by omega)))
      · rw [va_up_ne _ _ e1]; exact this
    · have hlt := grt_lt q hq2
      rw [(hD q.1 e (by omega)).2.2.2.1]
      exact hL.2.2 q hq2⟩
  have hn2 : gmi M2 20 3 = nI n := by rw [(hD 20 (by decide) (by omega)).2.2.1, gmi_In _ _ _ (by decide)]; exact hn
  have ha2 : gkd M2 (200 + 5 * n) = 3 := by rw [(hD _ (by omega) (by omega)).1]; exact hla.1
  refine g_callVdi (ci := 0) (As := [.ref (200 + 5 * n)]) dX10_addLaw_32 lm_X10_151 mv_X0_enact (c_enact (d := d + 2) hx hL2 hn2 h4 ha2) rfl rfl (k20 hL2) rfl rfl (Nat.le_of_ble_eq_true rfl) (gFit_room (by omega)) rfl ?_
  refine g_iret dX10_addLaw_35 rfl rfl ⟨rfl, fun c hc => ?_, fun c hc h1 h2 => ?_, fun c hc h1 h2 => ?_, ?_, ?_, ?_, ?_, ?_⟩
  · by_cases e : c = 19
    · rw [e]; exact ⟨hC.1, hC.2.1, hC.2.2.2⟩
    · have := hD c e hc
      exact ⟨this.1, this.2.1, this.2.2.2.2⟩
  · rw [gmi_In _ _ _ h2]
    show gmi M2 c = _
    by_cases e : c = 19
    · rw [e, hC.2.2.1]; rfl
    · rw [(hD c e hc).2.2.1, gmi_In _ _ _ h1]
  · show gmr (gwR M2 21 n _) c = _
    rw [gmr_Rn h2, (hD c h1 hc).2.2.2.1]; rfl
  · rw [gmi_In _ _ _ (by decide)]
    show gmi M2 1 = _
    rw [(hD 1 (by decide) (by omega)).2.2.1, gmi_I]
  · rw [gmi_I]
    show va_up (gmi M2 20) 3 _ = _
    rw [(hD 20 (by decide) (by omega)).2.2.1, gmi_In _ _ _ (by decide)]
  · show gmr (gwR M2 21 n _) 19 = _
    rw [gmr_Rn (by decide), hB]; rfl
  · show gmr (gwR M2 21 n _) 21 = _
    rw [gmr_Rs, (hD 21 (by decide) (by omega)).2.2.2.1]; rfl
  · refine ⟨hA.1, hA.2.1, hA.2.2.1, hA.2.2.2.1, hA.2.2.2.2.1, ?_, ?_, ?_, ?_⟩
    · show gmr (gwR M2 21 n _) _ 0 = _
      rw [gmr_Rn (by omega)]; exact hA.2.2.2.2.2.1
    · show gmr (gwR M2 21 n _) _ 1 = _
      rw [gmr_Rn (by omega)]; exact hA.2.2.2.2.2.2.1
    · show gmr (gwR M2 21 n _) _ 2 = _
      rw [gmr_Rn (by omega)]; exact hA.2.2.2.2.2.2.2.1
    · show gmr (gwR M2 21 n _) _ 3 = _
      rw [gmr_Rn (by omega)]; exact hA.2.2.2.2.2.2.2.2
end N2
