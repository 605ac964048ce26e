section H4
variable {X : gX} {Mc M : gM} {d n A : Nat} {E : Nat → LE} {EV : EVt} {F : Nat → Int32}
theorem Rem.r0 {M2 : gM} (h : Rem M M2 A) (h0 : R0 Mc M n E EV) : R0 Mc M2 n E EV := by
  have hS : Nt (fun c => c = 117 ∨ c = 1039) := ⟨by decide, by decide, by decide, by decide, by decide, by decide, by decide, by decide, by decide⟩
  exact h0.x h.1 hS (h0.1.x h.1 hS h.2.1 h.2.2.1)
theorem Rem.row {M2 : gM} (h : Rem M M2 A) (hR : RowR M 113 F) : RowR M2 113 F := fun k hk => by rw [h.1.2.2.2.2.2.1 113 (by decide) (by decide) (by decide) (by decide)]; exact hR k hk
/-- an act: remembered, then the row is G -/
def Act (M M2 : gM) (A : Nat) (G : Nat → Int32) : Prop := ∃ M1, Rem (gwI M 100 0 0) M1 A ∧ RW M1 M2 113 G
theorem th39 (h : gmi M 100 39 = nI A) : gmi (gwI M 100 0 0) 100 39 = nI A := by rw [gmi_I, va_up_ne _ _ (by decide)]; exact h
theorem tk_lt {F : Nat → Int32} {i j : Nat} {v h : Int32} (hj : 12 ≤ j) (hj2 : j < 60) : takeF F i v h j = va_up F i v j := by unfold takeF; rw [va_up_ne _ _ (by omega)]
theorem LeftF.up {F : Nat → Int32} {i m : Nat} (h : LeftF F) (hm : m ≤ 9) : LeftF (va_up F i (nI m)) := fun j h1 h2 => by
  by_cases e : j = i
  · exact ⟨m, by rw [e, va_up_self], hm⟩
  · rw [va_up_ne _ _ e]; exact h j h1 h2
theorem LeftF.oth {F : Nat → Int32} {i : Nat} {v : Int32} (h : LeftF F) (hi : i < 12 ∨ 60 ≤ i) : LeftF (va_up F i v) := fun j h1 h2 => by rw [va_up_ne _ _ (by omega)]; exact h j h1 h2
set_option maxRecDepth 20000 in
theorem r_commit (hx : gXok X) (h0 : R0 Mc M n E EV) (hN : RowR M 113 F) (hF : LeftF F) (hA : gmi M 100 39 = nI A) (hA40 : A ≤ 40) {x z : Int32} : gPos X (d + 3) yX11_commit cX11_commit 3 (some .int) [.ref 100, .int x, .int z] M (fun v M2 => v = some (.int (if mayTakeF Mc F x z then nI (heft Mc (dsF (takeF F (12 + tn x * 8 + tn z) (gmi Mc 9 (tn z)) (gmi Mc 8 (tn z))) (tv Mc 3 8) (tn x) 0)) else -1)) ∧ (mayTakeF Mc F x z → Act M M2 A (takeF F (12 + tn x * 8 + tn z) (gmi Mc 9 (tn z)) (gmi Mc 8 (tn z)))) ∧ (¬ mayTakeF Mc F x z → M2 = gwI M 100 0 0)) := by
  have hL := h0.1.1
  have h1 := h0.th (v := 0)
  have hT := h0.2.1
  have hN1 := hN.wf (j := 0) (v := 0) (show 113 ≠ 100 by decide)
  refine gMet.of hx (by decide) (Nat.le_of_ble_eq_true rfl) ?_
  by_cases hc : mayTakeF Mc F x z
  · rw [if_pos hc]
    obtain ⟨ex, lx⟩ := in_row hT.1.1 (by have := hT.1.2; omega) hc.1.1
    obtain ⟨ez, lz⟩ := in_row hT.2.1.1 (by have := hT.2.1.2; omega) hc.1.2
    have m6 := Nat.lt_of_lt_of_le lx hT.1.2
    have m8 := Nat.lt_of_lt_of_le lz hT.2.1.2
    have o9 := hT.2.2.2.2.1 (tn z) m8
    have hF2 : LeftF (takeF F (12 + tn x * 8 + tn z) (gmi Mc 9 (tn z)) (gmi Mc 8 (tn z))) := by
      unfold takeF
      rw [o9.1]
      exact (hF.up o9.2).oth (Or.inr (by decide))
    refine g_aload_n dX11_commit_0 rfl rfl rfl ?_
    refine g_iconst (v := 0) dX11_commit_1 (by decide) rfl ?_
    refine g_putI dX11_commit_2 fp_X11_90 rfl rfl rfl (k100 hL) rfl ?_
    refine g_aload_n dX11_commit_5 rfl rfl rfl ?_
    refine g_aload_n dX11_commit_6 rfl rfl rfl ?_
    refine g_getR dX11_commit_7 ff_X11_61 rfl (k100 (gLay_I hL)) (r100_32 (gLay_I hL)) rfl ?_
    refine g_iload_n dX11_commit_10 rfl rfl rfl ?_
    refine g_iload_n dX11_commit_11 rfl rfl rfl ?_
    refine g_callVdi (ci := 11) dX11_commit_12 lm_X11_350 mv_X11_canCommit (r_canCommit (d := d + 1) hx h1 (Or.inl rfl) hN1) rfl rfl (k100 (gLay_I hL)) rfl rfl (Nat.le_of_ble_eq_true rfl) (gFit_room (by omega)) rfl ?_
    rw [ib_t hc]
    refine g_if_ne (tgt := 20) dX11_commit_15 (by decide) rfl (fun _ => ?_) (fun h_ => absurd h_ (by decide))
    refine g_aload_n dX11_commit_20 rfl rfl rfl ?_
    refine g_callVq (ci := 11) dX11_commit_21 lm_X11_354 mv_X11_remember (r_remember (d := d + 2) hx h1.1.1 (th39 hA) hA40) rfl rfl (k100 (gLay_I hL)) rfl rfl (Nat.le_of_ble_eq_true rfl) (gFit_room (by omega)) rfl (fun v M2 hQ => ?_)
    obtain ⟨rfl, hf⟩ := hQ
    have hr := hf
    have h2 := hr.r0 h1
    have hN2 := hr.row hN1
    have hcm := r_commits (d := d + 1) hx h2 (Or.inl rfl) hN2 m6 lz
    rw [← ex, ← ez] at hcm
    refine g_aload_n dX11_commit_24 rfl rfl rfl ?_
    refine g_aload_n dX11_commit_25 rfl rfl rfl ?_
    refine g_getR dX11_commit_26 ff_X11_61 rfl (k100 h2.1.1) (r100_32 h2.1.1) rfl ?_
    refine g_iload_n dX11_commit_29 rfl rfl rfl ?_
    refine g_iload_n dX11_commit_30 rfl rfl rfl ?_
    refine g_callVq (ci := 11) dX11_commit_31 lm_X11_357 mv_X11_commits (hcm) rfl rfl (k100 h2.1.1) rfl rfl (Nat.le_of_ble_eq_true rfl) (gFit_room (by omega)) rfl (fun v M2 hQ => ?_)
    obtain ⟨rfl, hf⟩ := hQ
    have hW := hf
    have h3 := hW.r0 h2 (Or.inl rfl)
    have hgu := r_guiltOf (d := d) hx h3 hW.2.1 hF2 m6
    rw [← ex] at hgu
    refine g_aload_n dX11_commit_34 rfl rfl rfl ?_
    refine g_iload_n dX11_commit_35 rfl rfl rfl ?_
    refine g_callVdi (ci := 11) dX11_commit_36 lm_X11_361 mv_X11_guiltOf (hgu) rfl rfl (k100 h3.1.1) rfl rfl (Nat.le_of_ble_eq_true rfl) (gFit_room (by omega)) rfl ?_
    exact g_iret dX11_commit_39 rfl (by first | rfl | exact b01 | exact nb01 hv01) (⟨rfl, fun _ => ⟨_, hr, hW⟩, fun q => absurd hc q⟩)
  · rw [if_neg hc]
    refine g_aload_n dX11_commit_0 rfl rfl rfl ?_
    refine g_iconst (v := 0) dX11_commit_1 (by decide) rfl ?_
    refine g_putI dX11_commit_2 fp_X11_90 rfl rfl rfl (k100 hL) rfl ?_
    refine g_aload_n dX11_commit_5 rfl rfl rfl ?_
    refine g_aload_n dX11_commit_6 rfl rfl rfl ?_
    refine g_getR dX11_commit_7 ff_X11_61 rfl (k100 (gLay_I hL)) (r100_32 (gLay_I hL)) rfl ?_
    refine g_iload_n dX11_commit_10 rfl rfl rfl ?_
    refine g_iload_n dX11_commit_11 rfl rfl rfl ?_
    refine g_callVdi (ci := 11) dX11_commit_12 lm_X11_350 mv_X11_canCommit (r_canCommit (d := d + 1) hx h1 (Or.inl rfl) hN1) rfl rfl (k100 (gLay_I hL)) rfl rfl (Nat.le_of_ble_eq_true rfl) (gFit_room (by omega)) rfl ?_
    rw [ib_f hc]
    refine g_if_ne (tgt := 20) dX11_commit_15 (by decide) rfl (fun h_ => absurd (by decide) h_) (fun _ => ?_)
    refine g_iconst (v := -1) dX11_commit_18 (by decide) rfl ?_
    exact g_iret dX11_commit_19 rfl (by first | rfl | exact b01 | exact nb01 hv01) (⟨rfl, fun q => absurd q hc, fun _ => rfl⟩)
set_option maxRecDepth 20000 in
theorem r_atone (hx : gXok X) (h0 : R0 Mc M n E EV) (hN : RowR M 113 F) (hF : LeftF F) (hA : gmi M 100 39 = nI A) (hA40 : A ≤ 40) {x z : Int32} : gPos X (d + 3) yX11_atone cX11_atone 3 (some .int) [.ref 100, .int x, .int z] M (fun v M2 => v = some (.int (if mayAtoneF Mc F x z then nI (heft Mc (dsF (atoneF F (12 + tn x * 8 + tn z)) (tv Mc 3 8) (tn x) 0)) else -1)) ∧ (mayAtoneF Mc F x z → Act M M2 A (atoneF F (12 + tn x * 8 + tn z))) ∧ (¬ mayAtoneF Mc F x z → M2 = gwI M 100 0 0)) := by
  have hL := h0.1.1
  have h1 := h0.th (v := 0)
  have hT := h0.2.1
  have hN1 := hN.wf (j := 0) (v := 0) (show 113 ≠ 100 by decide)
  refine gMet.of hx (by decide) (Nat.le_of_ble_eq_true rfl) ?_
  by_cases hc : mayAtoneF Mc F x z
  · rw [if_pos hc]
    obtain ⟨ex, lx⟩ := in_row hT.1.1 (by have := hT.1.2; omega) hc.1.1
    obtain ⟨ez, lz⟩ := in_row hT.2.1.1 (by have := hT.2.1.2; omega) hc.1.2
    have m6 := Nat.lt_of_lt_of_le lx hT.1.2
    have m8 := Nat.lt_of_lt_of_le lz hT.2.1.2
    have hF2 : LeftF (atoneF F (12 + tn x * 8 + tn z)) := by
      unfold atoneF
      exact (hF.up (m := 0) (by decide)).oth (Or.inr (by decide))
    refine g_aload_n dX11_atone_0 rfl rfl rfl ?_
    refine g_iconst (v := 0) dX11_atone_1 (by decide) rfl ?_
    refine g_putI dX11_atone_2 fp_X11_90 rfl rfl rfl (k100 hL) rfl ?_
    refine g_aload_n dX11_atone_5 rfl rfl rfl ?_
    refine g_aload_n dX11_atone_6 rfl rfl rfl ?_
    refine g_getR dX11_atone_7 ff_X11_61 rfl (k100 (gLay_I hL)) (r100_32 (gLay_I hL)) rfl ?_
    refine g_iload_n dX11_atone_10 rfl rfl rfl ?_
    refine g_iload_n dX11_atone_11 rfl rfl rfl ?_
    refine g_callVdi (ci := 11) dX11_atone_12 lm_X11_364 mv_X11_canAtone (r_canAtone (d := d + 1) hx h1 (Or.inl rfl) hN1) rfl rfl (k100 (gLay_I hL)) rfl rfl (Nat.le_of_ble_eq_true rfl) (gFit_room (by omega)) rfl ?_
    rw [ib_t hc]
    refine g_if_ne (tgt := 20) dX11_atone_15 (by decide) rfl (fun _ => ?_) (fun h_ => absurd h_ (by decide))
    refine g_aload_n dX11_atone_20 rfl rfl rfl ?_
    refine g_callVq (ci := 11) dX11_atone_21 lm_X11_354 mv_X11_remember (r_remember (d := d + 2) hx h1.1.1 (th39 hA) hA40) rfl rfl (k100 (gLay_I hL)) rfl rfl (Nat.le_of_ble_eq_true rfl) (gFit_room (by omega)) rfl (fun v M2 hQ => ?_)
    obtain ⟨rfl, hf⟩ := hQ
    have hr := hf
    have h2 := hr.r0 h1
    have hN2 := hr.row hN1
    have hcm := r_atones (d := d + 2) hx h2 (Or.inl rfl) hN2 m6 m8
    rw [← ex, ← ez] at hcm
    refine g_aload_n dX11_atone_24 rfl rfl rfl ?_
    refine g_getR dX11_atone_25 ff_X11_61 rfl (k100 h2.1.1) (r100_32 h2.1.1) rfl ?_
    refine g_iload_n dX11_atone_28 rfl rfl rfl ?_
    refine g_iload_n dX11_atone_29 rfl rfl rfl ?_
    refine g_callSq dX11_atone_30 lm_X11_367 mv_X11_atones (hcm) rfl rfl (Nat.le_of_ble_eq_true rfl) (gFit_room (by omega)) rfl (fun v M2 hQ => ?_)
    obtain ⟨rfl, hf⟩ := hQ
    have hW := hf
    have h3 := hW.r0 h2 (Or.inl rfl)
    have hgu := r_guiltOf (d := d) hx h3 hW.2.1 hF2 m6
    rw [← ex] at hgu
    refine g_aload_n dX11_atone_33 rfl rfl rfl ?_
    refine g_iload_n dX11_atone_34 rfl rfl rfl ?_
    refine g_callVdi (ci := 11) dX11_atone_35 lm_X11_361 mv_X11_guiltOf (hgu) rfl rfl (k100 h3.1.1) rfl rfl (Nat.le_of_ble_eq_true rfl) (gFit_room (by omega)) rfl ?_
    exact g_iret dX11_atone_38 rfl (by first | rfl | exact b01 | exact nb01 hv01) (⟨rfl, fun _ => ⟨_, hr, hW⟩, fun q => absurd hc q⟩)
  · rw [if_neg hc]
    refine g_aload_n dX11_atone_0 rfl rfl rfl ?_
    refine g_iconst (v := 0) dX11_atone_1 (by decide) rfl ?_
    refine g_putI dX11_atone_2 fp_X11_90 rfl rfl rfl (k100 hL) rfl ?_
    refine g_aload_n dX11_atone_5 rfl rfl rfl ?_
    refine g_aload_n dX11_atone_6 rfl rfl rfl ?_
    refine g_getR dX11_atone_7 ff_X11_61 rfl (k100 (gLay_I hL)) (r100_32 (gLay_I hL)) rfl ?_
    refine g_iload_n dX11_atone_10 rfl rfl rfl ?_
    refine g_iload_n dX11_atone_11 rfl rfl rfl ?_
    refine g_callVdi (ci := 11) dX11_atone_12 lm_X11_364 mv_X11_canAtone (r_canAtone (d := d + 1) hx h1 (Or.inl rfl) hN1) rfl rfl (k100 (gLay_I hL)) rfl rfl (Nat.le_of_ble_eq_true rfl) (gFit_room (by omega)) rfl ?_
    rw [ib_f hc]
    refine g_if_ne (tgt := 20) dX11_atone_15 (by decide) rfl (fun h_ => absurd (by decide) h_) (fun _ => ?_)
    refine g_iconst (v := -1) dX11_atone_18 (by decide) rfl ?_
    exact g_iret dX11_atone_19 rfl (by first | rfl | exact b01 | exact nb01 hv01) (⟨rfl, fun q => absurd q hc, fun _ => rfl⟩)
set_option maxRecDepth 20000 in
theorem r_shave (hx : gXok X) (hZ : gSt X) (h0 : R0 Mc M n E EV) (hN : RowR M 113 F) (hR : RngF F) (hF : LeftF F) (hA : gmi M 100 39 = nI A) (hA40 : A ≤ 40) {x : Int32} : gPos X (d + 37) yX11_shave cX11_shave 2 (some .int) [.ref 100, .int x] M (fun v M2 => v = some (.int (if mayGoF Mc F x then ib (gunF Mc EV F (tn x) = true) else -1)) ∧ (mayGoF Mc F x → ∃ M1, Rem (gwI M 100 0 0) M1 A ∧ QW Mc M1 M2 n E EV 113 (goF (gunF Mc EV F (tn x)) F (tn x) (gmi Mc 3 9))) ∧ (¬ mayGoF Mc F x → M2 = gwI M 100 0 0)) := by
  have hL := h0.1.1
  have h1 := h0.th (v := 0)
  have hT := h0.2.1
  have hN1 := hN.wf (j := 0) (v := 0) (show 113 ≠ 100 by decide)
  refine gMet.of hx (by decide) (Nat.le_of_ble_eq_true rfl) ?_
  by_cases hc : mayGoF Mc F x
  · rw [if_pos hc]
    obtain ⟨ex, lx⟩ := in_row hT.1.1 (by have := hT.1.2; omega) hc.1
    refine g_aload_n dX11_shave_0 rfl rfl rfl ?_
    refine g_iconst (v := 0) dX11_shave_1 (by decide) rfl ?_
    refine g_putI dX11_shave_2 fp_X11_90 rfl rfl rfl (k100 hL) rfl ?_
    refine g_aload_n dX11_shave_5 rfl rfl rfl ?_
    refine g_aload_n dX11_shave_6 rfl rfl rfl ?_
    refine g_getR dX11_shave_7 ff_X11_61 rfl (k100 (gLay_I hL)) (r100_32 (gLay_I hL)) rfl ?_
    refine g_iload_n dX11_shave_10 rfl rfl rfl ?_
    refine g_callVdi (ci := 11) dX11_shave_11 lm_X11_374 mv_X11_canGo (r_canGo (d := d + 35) hx h1 (Or.inl rfl) hN1) rfl rfl (k100 (gLay_I hL)) rfl rfl (Nat.le_of_ble_eq_true rfl) (gFit_room (by omega)) rfl ?_
    rw [ib_t hc]
    refine g_if_ne (tgt := 19) dX11_shave_14 (by decide) rfl (fun _ => ?_) (fun h_ => absurd h_ (by decide))
    refine g_aload_n dX11_shave_19 rfl rfl rfl ?_
    refine g_callVq (ci := 11) dX11_shave_20 lm_X11_354 mv_X11_remember (r_remember (d := d + 36) hx h1.1.1 (th39 hA) hA40) rfl rfl (k100 (gLay_I hL)) rfl rfl (Nat.le_of_ble_eq_true rfl) (gFit_room (by omega)) rfl (fun v M2 hQ => ?_)
    obtain ⟨rfl, hf⟩ := hQ
    have hr := hf
    have h2 := hr.r0 h1
    have hgo := r_goes (d := d) hx hZ h2 (Or.inl rfl) (hr.row hN1) hR hF lx
    rw [← ex] at hgo
    refine g_aload_n dX11_shave_23 rfl rfl rfl ?_
    refine g_aload_n dX11_shave_24 rfl rfl rfl ?_
    refine g_getR dX11_shave_25 ff_X11_61 rfl (k100 h2.1.1) (r100_32 h2.1.1) rfl ?_
    refine g_iload_n dX11_shave_28 rfl rfl rfl ?_
    refine g_callVq (ci := 11) dX11_shave_29 lm_X11_377 mv_X11_goes (hgo) rfl rfl (k100 h2.1.1) rfl rfl (Nat.le_of_ble_eq_true rfl) (gFit_room (by omega)) rfl (fun v M2 hQ => ?_)
    obtain ⟨rfl, hf⟩ := hQ
    exact g_iret dX11_shave_32 rfl (by first | rfl | exact b01 | exact nb01 hv01) (⟨rfl, fun _ => ⟨_, hr, hf⟩, fun q => absurd hc q⟩)
  · rw [if_neg hc]
    refine g_aload_n dX11_shave_0 rfl rfl rfl ?_
    refine g_iconst (v := 0) dX11_shave_1 (by decide) rfl ?_
    refine g_putI dX11_shave_2 fp_X11_90 rfl rfl rfl (k100 hL) rfl ?_
    refine g_aload_n dX11_shave_5 rfl rfl rfl ?_
    refine g_aload_n dX11_shave_6 rfl rfl rfl ?_
    refine g_getR dX11_shave_7 ff_X11_61 rfl (k100 (gLay_I hL)) (r100_32 (gLay_I hL)) rfl ?_
    refine g_iload_n dX11_shave_10 rfl rfl rfl ?_
    refine g_callVdi (ci := 11) dX11_shave_11 lm_X11_374 mv_X11_canGo (r_canGo (d := d + 35) hx h1 (Or.inl rfl) hN1) rfl rfl (k100 (gLay_I hL)) rfl rfl (Nat.le_of_ble_eq_true rfl) (gFit_room (by omega)) rfl ?_
    rw [ib_f hc]
    refine g_if_ne (tgt := 19) dX11_shave_14 (by decide) rfl (fun h_ => absurd (by decide) h_) (fun _ => ?_)
    refine g_iconst (v := -1) dX11_shave_17 (by decide) rfl ?_
    exact g_iret dX11_shave_18 rfl (by first | rfl | exact b01 | exact nb01 hv01) (⟨rfl, fun q => absurd q hc, fun _ => rfl⟩)
abbrev mayGiveF (M : gM) (F : Nat → Int32) (x : Int32) : Prop := ¬ gmi M 3 7 = 0 ∧ ¬ x < 1 ∧ ¬ 50 < x ∧ F 65 + x ≤ 999
set_option maxRecDepth 20000 in
theorem r_give (hx : gXok X) (h0 : R0 Mc M n E EV) (hN : RowR M 113 F) (hA : gmi M 100 39 = nI A) (hA40 : A ≤ 40) {x : Int32} : gPos X (d + 1) yX11_give cX11_give 2 (some .int) [.ref 100, .int x] M (fun v M2 => v = some (.int (if mayGiveF Mc F x then F 65 + x else -1)) ∧ (mayGiveF Mc F x → Act M M2 A (va_up F 65 (F 65 + x))) ∧ (¬ mayGiveF Mc F x → M2 = gwI M 100 0 0)) := by
  have hL := h0.1.1
  have h1 := h0.th (v := 0)
  have hN1 := hN.wf (j := 0) (v := 0) (show 113 ≠ 100 by decide)
  have e26 : gmi (gwI M 100 0 0) 100 26 = gmi Mc 3 7 := h1.2.2.1
  have r64 : gmi (gwI M 100 0 0) 113 64 = F 65 := hN1 64 (by decide)
  refine gMet.of hx (by decide) (Nat.le_of_ble_eq_true rfl) ?_
  by_cases hc : mayGiveF Mc F x
  · rw [if_pos hc]
    refine g_aload_n dX11_give_0 rfl rfl rfl ?_
    refine g_iconst (v := 0) dX11_give_1 (by decide) rfl ?_
    refine g_putI dX11_give_2 fp_X11_90 rfl rfl rfl (k100 hL) rfl ?_
    refine g_aload_n dX11_give_5 rfl rfl rfl ?_
    refine g_getI dX11_give_6 ff_X11_285 rfl (k100 (gLay_I hL)) rfl ?_
    rw [e26]
    refine g_if_eq (tgt := 39) dX11_give_9 (by decide) rfl (fun h_ => absurd h_ (hc.1)) (fun _ => ?_)
    refine g_iload_n dX11_give_12 rfl rfl rfl ?_
    refine g_i2l dX11_give_13 rfl ?_
    refine g_lconst (v := 1) dX11_give_14 (by decide) rfl ?_
    refine g_ldc2 dX11_give_15 lq_X11_380 rfl ?_
    refine g_callSdi dX11_give_18 lm_X11_211 mv_X11_isIn (r_isIn (d := d) (l := 1) (h := 50) hx rfl (by decide) (by decide)) rfl rfl (Nat.le_of_ble_eq_true rfl) (gFit_room (by omega)) rfl ?_
    rw [ib_t ⟨Int32.not_lt.mp hc.2.1, Int32.not_lt.mp hc.2.2.1⟩]
    refine g_if_eq (tgt := 39) dX11_give_21 (by decide) rfl (fun h_ => absurd h_ (by decide)) (fun _ => ?_)
    refine g_aload_n dX11_give_24 rfl rfl rfl ?_
    refine g_getR dX11_give_25 ff_X11_61 rfl (k100 (gLay_I hL)) (r100_32 (gLay_I hL)) rfl ?_
    refine g_bipush (v := 64) dX11_give_28 (by decide) rfl ?_
    refine g_iald (i := 64) dX11_give_30 (k113 (gLay_I hL)) (l113 (gLay_I hL)) rfl (by decide) rfl ?_
    rw [r64]
    refine g_iload_n dX11_give_31 rfl rfl rfl ?_
    refine g_iadd dX11_give_32 rfl ?_
    refine g_sipush (v := 999) dX11_give_33 (by decide) rfl ?_
    refine g_icmp_le (tgt := 41) dX11_give_36 (by decide) rfl (fun _ => ?_) (fun h_ => absurd (hc.2.2.2) h_)
    refine g_aload_n dX11_give_41 rfl rfl rfl ?_
    refine g_callVq (ci := 11) dX11_give_42 lm_X11_354 mv_X11_remember (r_remember (d := d) hx h1.1.1 (th39 hA) hA40) rfl rfl (k100 (gLay_I hL)) rfl rfl (Nat.le_of_ble_eq_true rfl) (gFit_room (by omega)) rfl (fun v M2 hQ => ?_)
    obtain ⟨rfl, hf⟩ := hQ
    have hr := hf
    have h2 := hr.r0 h1
    have hN2 := hr.row hN1
    have hW := (RW.rf hN2).st (v := F 65 + x) (show 64 < 67 by decide)
    rw [show cix 64 = 65 from rfl] at hW
    refine g_aload_n dX11_give_45 rfl rfl rfl ?_
    refine g_getR dX11_give_46 ff_X11_61 rfl (k100 h2.1.1) (r100_32 h2.1.1) rfl ?_
    refine g_bipush (v := 64) dX11_give_49 (by decide) rfl ?_
    refine g_dup2 dX11_give_51 rfl rfl rfl ?_
    refine g_iald (i := 64) dX11_give_52 (k113 h2.1.1) (l113 h2.1.1) rfl (by decide) rfl ?_
    rw [hN2 64 (by decide), show cix 64 = 65 from rfl]
    refine g_iload_n dX11_give_53 rfl rfl rfl ?_
    refine g_iadd dX11_give_54 rfl ?_
    refine g_iast (i := 64) dX11_give_55 (k113 h2.1.1) (l113 h2.1.1) rfl (by decide) rfl ?_
    refine g_aload_n dX11_give_56 rfl rfl rfl ?_
    refine g_getR dX11_give_57 ff_X11_61 rfl (k100 (gLay_I h2.1.1)) (r100_32 (gLay_I h2.1.1)) rfl ?_
    refine g_bipush (v := 64) dX11_give_60 (by decide) rfl ?_
    refine g_iald (i := 64) dX11_give_62 (k113 (gLay_I h2.1.1)) (l113 (gLay_I h2.1.1)) rfl (by decide) rfl ?_
    rw [gmi_I, va_up_self]
    exact g_iret dX11_give_63 rfl (by first | rfl | exact b01 | exact nb01 hv01) (⟨rfl, fun _ => ⟨_, hr, hW⟩, fun q => absurd hc q⟩)
  · rw [if_neg hc]
    by_cases h7 : gmi Mc 3 7 = 0
    · refine g_aload_n dX11_give_0 rfl rfl rfl ?_
      refine g_iconst (v := 0) dX11_give_1 (by decide) rfl ?_
      refine g_putI dX11_give_2 fp_X11_90 rfl rfl rfl (k100 hL) rfl ?_
      refine g_aload_n dX11_give_5 rfl rfl rfl ?_
      refine g_getI dX11_give_6 ff_X11_285 rfl (k100 (gLay_I hL)) rfl ?_
      rw [e26]
      refine g_if_eq (tgt := 39) dX11_give_9 (by decide) rfl (fun _ => ?_) (fun h_ => absurd (h7) h_)
      refine g_iconst (v := -1) dX11_give_39 (by decide) rfl ?_
      exact g_iret dX11_give_40 rfl (by first | rfl | exact b01 | exact nb01 hv01) (⟨rfl, fun q => absurd q hc, fun _ => rfl⟩)
    · by_cases hi : 1 ≤ x ∧ x ≤ 50
      · refine g_aload_n dX11_give_0 rfl rfl rfl ?_
        refine g_iconst (v := 0) dX11_give_1 (by decide) rfl ?_
        refine g_putI dX11_give_2 fp_X11_90 rfl rfl rfl (k100 hL) rfl ?_
        refine g_aload_n dX11_give_5 rfl rfl rfl ?_
        refine g_getI dX11_give_6 ff_X11_285 rfl (k100 (gLay_I hL)) rfl ?_
        rw [e26]
        refine g_if_eq (tgt := 39) dX11_give_9 (by decide) rfl (fun h_ => absurd h_ (h7)) (fun _ => ?_)
        refine g_iload_n dX11_give_12 rfl rfl rfl ?_
        refine g_i2l dX11_give_13 rfl ?_
        refine g_lconst (v := 1) dX11_give_14 (by decide) rfl ?_
        refine g_ldc2 dX11_give_15 lq_X11_380 rfl ?_
        refine g_callSdi dX11_give_18 lm_X11_211 mv_X11_isIn (r_isIn (d := d) (l := 1) (h := 50) hx rfl (by decide) (by decide)) rfl rfl (Nat.le_of_ble_eq_true rfl) (gFit_room (by omega)) rfl ?_
        rw [ib_t hi]
        refine g_if_eq (tgt := 39) dX11_give_21 (by decide) rfl (fun h_ => absurd h_ (by decide)) (fun _ => ?_)
        refine g_aload_n dX11_give_24 rfl rfl rfl ?_
        refine g_getR dX11_give_25 ff_X11_61 rfl (k100 (gLay_I hL)) (r100_32 (gLay_I hL)) rfl ?_
        refine g_bipush (v := 64) dX11_give_28 (by decide) rfl ?_
        refine g_iald (i := 64) dX11_give_30 (k113 (gLay_I hL)) (l113 (gLay_I hL)) rfl (by decide) rfl ?_
        rw [r64]
        refine g_iload_n dX11_give_31 rfl rfl rfl ?_
        refine g_iadd dX11_give_32 rfl ?_
        refine g_sipush (v := 999) dX11_give_33 (by decide) rfl ?_
        refine g_icmp_le (tgt := 41) dX11_give_36 (by decide) rfl (fun h_ => absurd h_ (fun z => hc ⟨h7, Int32.not_lt.mpr hi.1, Int32.not_lt.mpr hi.2, z⟩)) (fun _ => ?_)
        refine g_iconst (v := -1) dX11_give_39 (by decide) rfl ?_
        exact g_iret dX11_give_40 rfl (by first | rfl | exact b01 | exact nb01 hv01) (⟨rfl, fun q => absurd q hc, fun _ => rfl⟩)
      · refine g_aload_n dX11_give_0 rfl rfl rfl ?_
        refine g_iconst (v := 0) dX11_give_1 (by decide) rfl ?_
        refine g_putI dX11_give_2 fp_X11_90 rfl rfl rfl (k100 hL) rfl ?_
        refine g_aload_n dX11_give_5 rfl rfl rfl ?_
        refine g_getI dX11_give_6 ff_X11_285 rfl (k100 (gLay_I hL)) rfl ?_
        rw [e26]
        refine g_if_eq (tgt := 39) dX11_give_9 (by decide) rfl (fun h_ => absurd h_ (h7)) (fun _ => ?_)
        refine g_iload_n dX11_give_12 rfl rfl rfl ?_
        refine g_i2l dX11_give_13 rfl ?_
        refine g_lconst (v := 1) dX11_give_14 (by decide) rfl ?_
        refine g_ldc2 dX11_give_15 lq_X11_380 rfl ?_
        refine g_callSdi dX11_give_18 lm_X11_211 mv_X11_isIn (r_isIn (d := d) (l := 1) (h := 50) hx rfl (by decide) (by decide)) rfl rfl (Nat.le_of_ble_eq_true rfl) (gFit_room (by omega)) rfl ?_
        rw [ib_f hi]
        refine g_if_eq (tgt := 39) dX11_give_21 (by decide) rfl (fun _ => ?_) (fun h_ => absurd (by decide) h_)
        refine g_iconst (v := -1) dX11_give_39 (by decide) rfl ?_
        exact g_iret dX11_give_40 rfl (by first | rfl | exact b01 | exact nb01 hv01) (⟨rfl, fun q => absurd q hc, fun _ => rfl⟩)
set_option maxRecDepth 20000 in
theorem r_day (hx : gXok X) (h0 : R0 Mc M n E EV) (hN : RowR M 113 F) {m D c : Nat} (hm : F 64 = nI m) (hm9 : m ≤ 9999) (hD : F 66 = nI D) (hD9 : D ≤ 999) (hc : gmi M 113 67 = nI c) (hc60 : c ≤ 60) (hA : gmi M 100 39 = nI A) (hA40 : A ≤ 40) : gPos X (d + 3) yX11_day cX11_day 1 (some .int) [.ref 100] M (fun v M2 => v = some (.int (if ¬ gmi Mc 3 7 = 0 ∧ ¬ D = 999 then ibc (nI (smoF F (tv Mc 3 7))) else -1)) ∧ ((¬ gmi Mc 3 7 = 0 ∧ ¬ D = 999) → ∃ M1, Rem (gwI M 100 0 0) M1 A ∧ DayW Mc M1 M2 113 F c) ∧ (¬ (¬ gmi Mc 3 7 = 0 ∧ ¬ D = 999) → M2 = gwI M 100 0 0)) := by
  have hL := h0.1.1
  have h1 := h0.th (v := 0)
  have hN1 := hN.wf (j := 0) (v := 0) (show 113 ≠ 100 by decide)
  have e26 : gmi (gwI M 100 0 0) 100 26 = gmi Mc 3 7 := h1.2.2.1
  have r65 : gmi (gwI M 100 0 0) 113 65 = nI D := (hN1 65 (by decide)).trans hD
  have hd9 : nI D = 999 ↔ D = 999 := qeq D 999 rfl rfl (by omega) (by decide)
  refine gMet.of hx (by decide) (Nat.le_of_ble_eq_true rfl) ?_
  by_cases hq : ¬ gmi Mc 3 7 = 0 ∧ ¬ D = 999
  · rw [if_pos hq]
    refine g_aload_n dX11_day_0 rfl rfl rfl ?_
    refine g_iconst (v := 0) dX11_day_1 (by decide) rfl ?_
    refine g_putI dX11_day_2 fp_X11_90 rfl rfl rfl (k100 hL) rfl ?_
    refine g_aload_n dX11_day_5 rfl rfl rfl ?_
    refine g_getI dX11_day_6 ff_X11_285 rfl (k100 (gLay_I hL)) rfl ?_
    rw [e26]
    refine g_if_eq (tgt := 25) dX11_day_9 (by decide) rfl (fun h_ => absurd h_ (hq.1)) (fun _ => ?_)
    refine g_aload_n dX11_day_12 rfl rfl rfl ?_
    refine g_getR dX11_day_13 ff_X11_61 rfl (k100 (gLay_I hL)) (r100_32 (gLay_I hL)) rfl ?_
    refine g_bipush (v := 65) dX11_day_16 (by decide) rfl ?_
    refine g_iald (i := 65) dX11_day_18 (k113 (gLay_I hL)) (l113 (gLay_I hL)) rfl (by decide) rfl ?_
    rw [r65]
    refine g_sipush (v := 999) dX11_day_19 (by decide) rfl ?_
    refine g_icmp_ne (tgt := 27) dX11_day_22 (by decide) rfl (fun _ => ?_) (fun h_ => absurd h_ (fun z => hq.2 (hd9.mp z)))
    refine g_aload_n dX11_day_27 rfl rfl rfl ?_
    refine g_callVq (ci := 11) dX11_day_28 lm_X11_354 mv_X11_remember (r_remember (d := d + 2) hx h1.1.1 (th39 hA) hA40) rfl rfl (k100 (gLay_I hL)) rfl rfl (Nat.le_of_ble_eq_true rfl) (gFit_room (by omega)) rfl (fun v M2 hQ => ?_)
    obtain ⟨rfl, hf⟩ := hQ
    have hr := hf
    have h2 := hr.r0 h1
    have hc2 : gmi M2 113 67 = nI c := by rw [hr.1.2.2.2.2.2.1 113 (by decide) (by decide) (by decide) (by decide), gmi_In _ _ _ (by decide)]; exact hc
    refine g_aload_n dX11_day_31 rfl rfl rfl ?_
    refine g_aload_n dX11_day_32 rfl rfl rfl ?_
    refine g_getR dX11_day_33 ff_X11_61 rfl (k100 h2.1.1) (r100_32 h2.1.1) rfl ?_
    refine g_callVq (ci := 11) dX11_day_36 lm_X11_390 mv_X11_goDay (r_goDay (d := d) hx h2 (Or.inl rfl) (hr.row hN1) hm hm9 hD (by omega) hc2 hc60) rfl rfl (k100 h2.1.1) rfl rfl (Nat.le_of_ble_eq_true rfl) (gFit_room (by omega)) rfl (fun v M2 hQ => ?_)
    obtain ⟨rfl, hf⟩ := hQ
    exact g_iret dX11_day_39 rfl (by first | rfl | exact b01 | exact nb01 hv01) (⟨rfl, fun _ => ⟨_, hr, hf⟩, fun q => absurd hq q⟩)
  · rw [if_neg hq]
    refine g_aload_n dX11_day_0 rfl rfl rfl ?_
    refine g_iconst (v := 0) dX11_day_1 (by decide) rfl ?_
    refine g_putI dX11_day_2 fp_X11_90 rfl rfl rfl (k100 hL) rfl ?_
    refine g_aload_n dX11_day_5 rfl rfl rfl ?_
    refine g_getI dX11_day_6 ff_X11_285 rfl (k100 (gLay_I hL)) rfl ?_
    rw [e26]
    refine g_if_eq (tgt := 25) dX11_day_9 (by decide) rfl (fun h9 => ?_) (fun h9 => ?_)
    · refine g_iconst (v := -1) dX11_day_25 (by decide) rfl ?_
      exact g_iret dX11_day_26 rfl (by first | rfl | exact b01 | exact nb01 hv01) (⟨rfl, fun q => absurd q hq, fun _ => rfl⟩)
    · refine g_aload_n dX11_day_12 rfl rfl rfl ?_
      refine g_getR dX11_day_13 ff_X11_61 rfl (k100 (gLay_I hL)) (r100_32 (gLay_I hL)) rfl ?_
      refine g_bipush (v := 65) dX11_day_16 (by decide) rfl ?_
      refine g_iald (i := 65) dX11_day_18 (k113 (gLay_I hL)) (l113 (gLay_I hL)) rfl (by decide) rfl ?_
      rw [r65]
      refine g_sipush (v := 999) dX11_day_19 (by decide) rfl ?_
      refine g_icmp_ne (tgt := 27) dX11_day_22 (by decide) rfl (fun h_ => absurd (hd9.mpr (Decidable.by_contra (fun z => hq ⟨h9, z⟩))) h_) (fun _ => ?_)
      refine g_iconst (v := -1) dX11_day_25 (by decide) rfl ?_
      exact g_iret dX11_day_26 rfl (by first | rfl | exact b01 | exact nb01 hv01) (⟨rfl, fun q => absurd q hq, fun _ => rfl⟩)
end H4
