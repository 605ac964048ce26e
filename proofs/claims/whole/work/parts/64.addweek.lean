section N3
variable {X : gX} {M : gM} {d : Nat}
/-- a week more -/
def AddW (M M2 : gM) (n : Nat) : Prop := (∀ c, c < 300 + 5 * (n + 1) ∨ 300 + 5 * (n + 1) + 4 < c → gkd M2 c = gkd M c ∧ gln M2 c = gln M c ∧ gml M2 c = gml M c) ∧ (∀ c, c < 300 + 5 * (n + 1) ∨ 300 + 5 * (n + 1) + 4 < c → c ≠ 1 → c ≠ 0 → gmi M2 c = gmi M c) ∧ (∀ c, c < 300 + 5 * (n + 1) ∨ 300 + 5 * (n + 1) + 4 < c → c ≠ 0 → c ≠ 23 → gmr M2 c = gmr M c) ∧ gmi M2 1 = va_up (gmi M 1) 1 0 ∧ gmi M2 0 = va_up (gmi M 0) 6 (nI (n + 1)) ∧ gmr M2 0 = va_up (gmr M 0) 7 (some (300 + 5 * (n + 1))) ∧ gmr M2 23 = va_up (gmr M 23) n (some (300 + 5 * n)) ∧ WkAt M2 (300 + 5 * (n + 1)) ∧ gkd M2 (300 + 5 * (n + 1) + 4) = gkd M (300 + 5 * (n + 1) + 4)
theorem c_addWeek4 (hx : gXok X) (hL : gLay M) (hn : gmi M 0 6 = nI 4) : gDet X (d + 0) yX10_addWeek cX10_addWeek 1 (some .int) [.ref 0] M (some (.int (-1))) M := by
  refine gMet.of hx (by decide) (Nat.le_of_ble_eq_true rfl) ?_
  refine g_aload_n dX10_addWeek_0 rfl rfl rfl ?_
  refine g_getI dX10_addWeek_1 ff_X10_155 rfl (k0 hL) rfl ?_
  refine g_iconst (v := 4) dX10_addWeek_4 (by decide) rfl ?_
  rw [hn]
  refine g_icmp_ne (tgt := 10) dX10_addWeek_5 (by decide) rfl (fun h_ => absurd (rfl) h_) (fun _ => ?_)
  refine g_iconst (v := -1) dX10_addWeek_8 (by decide) rfl ?_
  exact g_iret dX10_addWeek_9 rfl rfl ⟨rfl, rfl⟩
set_option maxRecDepth 20000 in
set_option maxHeartbeats 1000000 in
theorem c_addWeek (hx : gXok X) (hW : gNw X) (hL : gLay M) {n : Nat} (hn : gmi M 0 6 = nI n) (h4 : n < 4) (r_0_7 : gmr M 0 7 = some (300 + 5 * n)) (hwk : WkAt M (300 + 5 * n)) (h0 : ∀ c, 300 + 5 * (n + 1) ≤ c → c ≤ 300 + 5 * (n + 1) + 4 → gkd M c = 0) : gMet X (d + 2) yX10_addWeek cX10_addWeek 1 (some .int) [.ref 0] M (fun c => 300 + 5 * (n + 1) ≤ c ∧ c ≤ 300 + 5 * (n + 1) + 4) 4 52 (fun v M2 => v = some (.int (nI n)) ∧ AddW M M2 n) := by
  refine gMet.of hx (by decide) (Nat.le_of_ble_eq_true rfl) ?_
  generalize hb : 300 + 5 * (n + 1) = b at *
  have hb5 : b + 4 < 5000 := by omega
  refine g_aload_n dX10_addWeek_0 rfl rfl rfl ?_
  refine g_getI dX10_addWeek_1 ff_X10_155 rfl (k0 hL) rfl ?_
  refine g_iconst (v := 4) dX10_addWeek_4 (by decide) rfl ?_
  rw [hn]
  refine g_icmp_ne (tgt := 10) dX10_addWeek_5 (by decide) rfl (fun _ => ?_) (fun h_ => absurd h_ (fun q => absurd ((qeq n 4 rfl rfl (by omega) (by decide)).mp q) (by omega)))
  refine g_aload_n dX10_addWeek_10 rfl rfl rfl ?_
  refine g_getR dX10_addWeek_11 ff_X10_46 rfl (k0 hL) (r0_5 hL) rfl ?_
  refine g_aload_n dX10_addWeek_14 rfl rfl rfl ?_
  refine g_getI dX10_addWeek_15 ff_X10_155 rfl (k0 hL) rfl ?_
  rw [hn]
  refine g_aload_n dX10_addWeek_18 rfl rfl rfl ?_
  refine g_getR dX10_addWeek_19 ff_X10_51 rfl (k0 hL) (r_0_7) rfl ?_
  refine g_aast6 (i := n) dX10_addWeek_22 (k23 hL) (l23 hL) (nI_toInt (by omega)) h4 hwk.1 rfl ?_
  refine g_aload_n dX10_addWeek_23 rfl rfl rfl ?_
  refine g_new (ci := 9) (b := b) dX10_addWeek_24 rfl lc_X10_44 lt_X9 ln_X9 (show gkd M b = 0 from h0 b (by omega) (by omega)) (by omega) ⟨by omega, by omega⟩ (alqc (ne_ref (by omega)) alq0) (al1 (by omega)) (by decide) (by decide) rfl ?_
  refine g_dup dX10_addWeek_27 rfl rfl ?_
  generalize hM1 : gwN (gwR M 23 n (some (300 + 5 * n))) b (9 + 1) 0 = M1
  have s1 : ∀ c, c ≠ b → c ≠ 23 → gSm M M1 c := fun c h1 h2 => by rw [← hM1]; exact (gSm.rf.wR h2).wN h1
  have s2 : gkd M1 b = 10 := by rw [← hM1]; exact gkd_Ns
  have s3 : gkd M1 23 = gkd M 23 ∧ gln M1 23 = gln M 23 ∧ gmi M1 23 = gmi M 23 ∧ gml M1 23 = gml M 23 ∧ gmr M1 23 = va_up (gmr M 23) n (some (300 + 5 * n)) := by
    rw [← hM1, gkd_Nn (show 23 ≠ b by omega), gln_Nn (show 23 ≠ b by omega), gmi_Nn (show 23 ≠ b by omega), gml_Nn (show 23 ≠ b by omega), gmr_Nn (show 23 ≠ b by omega), gmr_Rs]
    exact ⟨rfl, rfl, rfl, rfl, rfl⟩
  clear hM1
  refine g_callIN (As := []) dX10_addWeek_28 (fun U hU => (hW U hU).1 _ (List.mem_of_getElem? (i := 3) rfl)) mv_X9_init (c_weekInit (d := d) hx s2 (fun c h1 h2 => by rw [(s1 c (by omega) (by omega)).1]; exact h0 c (by omega) (by omega)) (by omega)) rfl rfl (Nat.le_of_ble_eq_true rfl) (gFit_room (by omega)) (by decide) (by decide) (fun c hc => ⟨by have := hc.1; omega, by have := hc.2; omega⟩) (anqc (anr (fun q => by have := q.1; omega)) anq0) (anc (anr (fun q => by have := q.1; omega)) (anc (anr (fun q => by have := q.1; omega)) an0)) rfl (fun v M2 hQ => ?_)
  obtain ⟨rfl, hA, hB, hC⟩ := hQ
  have hs : ∀ c, c ≠ 23 → (c < b ∨ b + 3 < c) → gSm M M2 c := fun c h2 hc => (s1 c (by omega) h2).tr (hC c hc)
  have h23 := hC 23 (by omega)
  have k0' : gkd M2 0 = 11 := by rw [(hs 0 (by decide) (by omega)).1]; exact k0 hL
  refine g_putR dX10_addWeek_31 fp_X10_51 rfl k0' (Or.inl (by rw [hA.1]; decide)) rfl ?_
  generalize hM3 : gwR M2 0 7 (some b) = M3
  have t1 : ∀ c, c ≠ 0 → gSm M2 M3 c := fun c h1 => by rw [← hM3]; exact gSm.rf.wR h1
  have t2 : gkd M3 0 = gkd M 0 ∧ gln M3 0 = gln M 0 ∧ gmi M3 0 = gmi M 0 ∧ gml M3 0 = gml M 0 ∧ gmr M3 0 = va_up (gmr M 0) 7 (some b) := by
    have h := hs 0 (by decide) (by omega)
    rw [← hM3, gmr_Rs, h.2.2.2.1]
    exact ⟨h.1, h.2.1, h.2.2.1, h.2.2.2.2, rfl⟩
  clear hM3
  have k1' : gkd M3 1 = 8 := by rw [(t1 1 (by decide)).1, (hs 1 (by decide) (by omega)).1]; exact k1 hL
  have k0'' : gkd M3 0 = 11 := t2.1.trans (k0 hL)
  have r00 : gmr M3 0 0 = some 1 := by rw [t2.2.2.2.2, va_up_ne _ _ (by decide)]; exact r0_0 hL
  refine g_aload_n dX10_addWeek_34 rfl rfl rfl ?_
  refine g_getR dX10_addWeek_35 ff_X10_10 rfl k0'' r00 rfl ?_
  refine g_iconst (v := 0) dX10_addWeek_38 (by decide) rfl ?_
  refine g_putI dX10_addWeek_39 fp_X10_99 rfl rfl rfl k1' rfl ?_
  refine g_aload_n dX10_addWeek_42 rfl rfl rfl ?_
  refine g_dup dX10_addWeek_43 rfl rfl ?_
  refine g_getI dX10_addWeek_44 ff_X10_155 rfl k0'' rfl ?_
  rw [gmi_In _ _ _ (show 0 ≠ 1 by decide), t2.2.2.1, hn]
  refine g_iconst (v := 1) dX10_addWeek_47 (by decide) rfl ?_
  refine g_iadd dX10_addWeek_48 rfl ?_
  rw [nI_1]
  refine g_putI dX10_addWeek_49 fp_X10_155 rfl rfl rfl k0'' rfl ?_
  refine g_aload_n dX10_addWeek_52 rfl rfl rfl ?_
  refine g_getI dX10_addWeek_53 ff_X10_155 rfl k0'' rfl ?_
  rw [gmi_I, va_up_self]
  refine g_iconst (v := 1) dX10_addWeek_56 (by decide) rfl ?_
  refine g_isub dX10_addWeek_57 rfl ?_
  rw [nI_pred]
  have full : ∀ c, c ≠ 23 → c ≠ 0 → (c < b ∨ b + 3 < c) → gSm M M3 c := fun c h1 h2 h3 => (hs c h1 h3).tr (t1 c h2)
  have f23 := t1 23 (by decide)
  refine g_iret dX10_addWeek_58 rfl rfl ⟨rfl, fun c hc => ?_, fun c hc h1 h2 => ?_, fun c hc h1 h2 => ?_, ?_, ?_, ?_, ?_, ?_, ?_⟩
  · rw [hb] at hc
    by_cases e : c = 0
    · rw [e]; exact ⟨t2.1, t2.2.1, t2.2.2.2.1⟩
    · by_cases e2 : c = 23
      · rw [e2]; exact ⟨f23.1.trans (h23.1.trans s3.1), f23.2.1.trans (h23.2.1.trans s3.2.1), f23.2.2.2.2.trans (h23.2.2.2.2.trans s3.2.2.2.1)⟩
      · have := full c e2 e (by omega)
        exact ⟨this.1, this.2.1, this.2.2.2.2⟩
  · rw [hb] at hc
    rw [gmi_In _ _ _ h2, gmi_In _ _ _ h1]
    by_cases e2 : c = 23
    · rw [e2]; exact f23.2.2.1.trans (h23.2.2.1.trans s3.2.2.1)
    · exact (full c e2 h2 (by omega)).2.2.1
  · rw [hb] at hc
    exact (full c h2 h1 (by omega)).2.2.2.1
  · rw [gmi_In _ _ _ (show 1 ≠ 0 by decide), gmi_I, (full 1 (by decide) (by decide) (by omega)).2.2.1]
  · rw [gmi_I, gmi_In _ _ _ (show 0 ≠ 1 by decide), t2.2.2.1]
  · rw [hb]; exact t2.2.2.2.2
  · exact f23.2.2.2.1.trans (h23.2.2.2.1.trans s3.2.2.2.2)
  · rw [hb]
    obtain ⟨w1, w2, w3, w4, w5, w6, w7⟩ := hA
    have z := fun c (h : c ≠ 0) => t1 c h
    exact ⟨(z b (by omega)).1.trans w1, ⟨(z _ (by omega)).1.trans w2.1, (z _ (by omega)).2.1.trans w2.2⟩, ⟨(z _ (by omega)).1.trans w3.1, (z _ (by omega)).2.1.trans w3.2⟩, ⟨(z _ (by omega)).1.trans w4.1, (z _ (by omega)).2.1.trans w4.2⟩, by show gmr M3 b 0 = _; rw [(z b (by omega)).2.2.2.1]; exact w5, by show gmr M3 b 1 = _; rw [(z b (by omega)).2.2.2.1]; exact w6, by show gmr M3 b 2 = _; rw [(z b (by omega)).2.2.2.1]; exact w7⟩
  · rw [hb]
    exact (full (b + 4) (by omega) (by omega) (by omega)).1
end N3
