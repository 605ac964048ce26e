section G6
variable {X : gX} {Mc M : gM} {d n : Nat} {E : Nat → LE} {EV : EVt} {S : Nat → Prop} {w p e : Nat} {F : Nat → Int32}
abbrev mayTakeF (M : gM) (F : Nat → Int32) (x z : Int32) : Prop := (inP M x ∧ inD M z) ∧ F (12 + tn x * 8 + tn z) = 0
abbrev mayAtoneF (M : gM) (F : Nat → Int32) (x z : Int32) : Prop := (inP M x ∧ inD M z) ∧ ¬ F (12 + tn x * 8 + tn z) ≤ 0 ∧ ¬ F 65 < 2
theorem R0.isP (h0 : R0 Mc M n E EV) (hx : gXok X) {x : Int32} : gDet X (d + 0) yX11_isPerson cX11_isPerson 2 (some .boolean) [.ref 100, .int x] M (some (.int (ib (inP Mc x)))) M := by
  have h := r_isPerson (d := d) hx h0.1.1 (x := x)
  rw [h0.2.2.1] at h
  have e : ib (¬ x < 0 ∧ x < gmi Mc 3 7) = ib (inP Mc x) := by
    by_cases z : inP Mc x
    · rw [ib_t z, ib_t ⟨Int32.not_lt.mpr z.1, z.2⟩]
    · rw [ib_f z, ib_f (fun q => z ⟨Int32.not_lt.mp q.1, q.2⟩)]
  rw [← e]
  exact h
theorem R0.isD (h0 : R0 Mc M n E EV) (hx : gXok X) {x : Int32} : gDet X (d + 0) yX11_isDeed cX11_isDeed 2 (some .boolean) [.ref 100, .int x] M (some (.int (ib (inD Mc x)))) M := by
  have h := r_isDeed (d := d) hx h0.1.1 (x := x)
  rw [h0.2.2.2.1] at h
  have e : ib (¬ x < 0 ∧ x < gmi Mc 3 8) = ib (inD Mc x) := by
    by_cases z : inD Mc x
    · rw [ib_t z, ib_t ⟨Int32.not_lt.mpr z.1, z.2⟩]
    · rw [ib_f z, ib_f (fun q => z ⟨Int32.not_lt.mp q.1, q.2⟩)]
  rw [← e]
  exact h
set_option maxRecDepth 20000 in
theorem r_canCommit (hx : gXok X) (h0 : R0 Mc M n E EV) (hw : w = 113 ∨ w = 114) (hR : RowR M w F) {x z : Int32} : gDet X (d + 1) yX11_canCommit cX11_canCommit 4 (some .boolean) [.ref 100, .ref w, .int x, .int z] M (some (.int (ib (mayTakeF Mc F x z)))) M := by
  have hL := h0.1.1
  have hT := h0.2.1
  refine gMet.of hx (by decide) (Nat.le_of_ble_eq_true rfl) ?_
  by_cases hp : inP Mc x
  · by_cases hd : inD Mc z
    · obtain ⟨ex, lx⟩ := in_row hT.1.1 (by have := hT.1.2; omega) hp
      obtain ⟨ez, lz⟩ := in_row hT.2.1.1 (by have := hT.2.1.2; omega) hd
      have mx := Nat.lt_of_lt_of_le lx hT.1.2
      have mz := Nat.lt_of_lt_of_le lz hT.2.1.2
      have hl := r_left0 (d := d) hx hL hw hR mx mz
      rw [← ex, ← ez] at hl
      refine g_aload_n dX11_canCommit_0 rfl rfl rfl ?_
      refine g_iload_n dX11_canCommit_1 rfl rfl rfl ?_
      refine g_callVdi (ci := 11) dX11_canCommit_2 lm_X11_342 mv_X11_isPerson (h0.isP (d := d) hx) rfl rfl (k100 hL) rfl rfl (Nat.le_of_ble_eq_true rfl) (gFit_room (by omega)) rfl ?_
      rw [ib_t hp]
      refine g_if_eq (tgt := 29) dX11_canCommit_5 (by decide) rfl (fun h_ => absurd h_ (by decide)) (fun _ => ?_)
      refine g_aload_n dX11_canCommit_8 rfl rfl rfl ?_
      refine g_iload_n dX11_canCommit_9 rfl rfl rfl ?_
      refine g_callVdi (ci := 11) dX11_canCommit_10 lm_X11_347 mv_X11_isDeed (h0.isD (d := d) hx) rfl rfl (k100 hL) rfl rfl (Nat.le_of_ble_eq_true rfl) (gFit_room (by omega)) rfl ?_
      rw [ib_t hd]
      refine g_if_eq (tgt := 29) dX11_canCommit_13 (by decide) rfl (fun h_ => absurd h_ (by decide)) (fun _ => ?_)
      refine g_aload_n dX11_canCommit_16 rfl rfl rfl ?_
      refine g_iload_n dX11_canCommit_17 rfl rfl rfl ?_
      refine g_iload_n dX11_canCommit_18 rfl rfl rfl ?_
      refine g_callSdi dX11_canCommit_19 lm_X11_300 mv_X11_left0 (hl) rfl rfl (Nat.le_of_ble_eq_true rfl) (gFit_room (by omega)) rfl ?_
      refine g_if_ne (tgt := 29) dX11_canCommit_22 (by decide) rfl (fun h22 => ?_) (fun h22 => ?_)
      · have hr : ¬ mayTakeF Mc F x z := fun q => h22 q.2
        refine g_iconst (v := 0) dX11_canCommit_29 (by decide) rfl ?_
        exact g_iret dX11_canCommit_30 rfl (by first | rfl | exact b01 | exact nb01 hv01) (⟨by first | rw [ib_t hr] | rw [ib_f hr], rfl⟩)
      · have hr : mayTakeF Mc F x z := ⟨⟨hp, hd⟩, h22⟩
        refine g_iconst (v := 1) dX11_canCommit_25 (by decide) rfl ?_
        refine g_goto (tgt := 30) dX11_canCommit_26 (by decide) ?_
        exact g_iret dX11_canCommit_30 rfl (by first | rfl | exact b01 | exact nb01 hv01) (⟨by first | rw [ib_t hr] | rw [ib_f hr], rfl⟩)
    · refine g_aload_n dX11_canCommit_0 rfl rfl rfl ?_
      refine g_iload_n dX11_canCommit_1 rfl rfl rfl ?_
      refine g_callVdi (ci := 11) dX11_canCommit_2 lm_X11_342 mv_X11_isPerson (h0.isP (d := d) hx) rfl rfl (k100 hL) rfl rfl (Nat.le_of_ble_eq_true rfl) (gFit_room (by omega)) rfl ?_
      rw [ib_t hp]
      refine g_if_eq (tgt := 29) dX11_canCommit_5 (by decide) rfl (fun h_ => absurd h_ (by decide)) (fun _ => ?_)
      refine g_aload_n dX11_canCommit_8 rfl rfl rfl ?_
      refine g_iload_n dX11_canCommit_9 rfl rfl rfl ?_
      refine g_callVdi (ci := 11) dX11_canCommit_10 lm_X11_347 mv_X11_isDeed (h0.isD (d := d) hx) rfl rfl (k100 hL) rfl rfl (Nat.le_of_ble_eq_true rfl) (gFit_room (by omega)) rfl ?_
      rw [ib_f hd]
      refine g_if_eq (tgt := 29) dX11_canCommit_13 (by decide) rfl (fun _ => ?_) (fun h_ => absurd (by decide) h_)
      refine g_iconst (v := 0) dX11_canCommit_29 (by decide) rfl ?_
      exact g_iret dX11_canCommit_30 rfl (by first | rfl | exact b01 | exact nb01 hv01) (⟨by rw [ib_f (fun q : mayTakeF Mc F x z => hd q.1.2)], rfl⟩)
  · refine g_aload_n dX11_canCommit_0 rfl rfl rfl ?_
    refine g_iload_n dX11_canCommit_1 rfl rfl rfl ?_
    refine g_callVdi (ci := 11) dX11_canCommit_2 lm_X11_342 mv_X11_isPerson (h0.isP (d := d) hx) rfl rfl (k100 hL) rfl rfl (Nat.le_of_ble_eq_true rfl) (gFit_room (by omega)) rfl ?_
    rw [ib_f hp]
    refine g_if_eq (tgt := 29) dX11_canCommit_5 (by decide) rfl (fun _ => ?_) (fun h_ => absurd (by decide) h_)
    refine g_iconst (v := 0) dX11_canCommit_29 (by decide) rfl ?_
    exact g_iret dX11_canCommit_30 rfl (by first | rfl | exact b01 | exact nb01 hv01) (⟨by rw [ib_f (fun q : mayTakeF Mc F x z => hp q.1.1)], rfl⟩)
set_option maxRecDepth 20000 in
theorem r_canAtone (hx : gXok X) (h0 : R0 Mc M n E EV) (hw : w = 113 ∨ w = 114) (hR : RowR M w F) {x z : Int32} : gDet X (d + 1) yX11_canAtone cX11_canAtone 4 (some .boolean) [.ref 100, .ref w, .int x, .int z] M (some (.int (ib (mayAtoneF Mc F x z)))) M := by
  have hL := h0.1.1
  have hT := h0.2.1
  obtain ⟨k_w, l_w⟩ := wlay hL hw
  refine gMet.of hx (by decide) (Nat.le_of_ble_eq_true rfl) ?_
  by_cases hp : inP Mc x
  · by_cases hd : inD Mc z
    · obtain ⟨ex, lx⟩ := in_row hT.1.1 (by have := hT.1.2; omega) hp
      obtain ⟨ez, lz⟩ := in_row hT.2.1.1 (by have := hT.2.1.2; omega) hd
      have mx := Nat.lt_of_lt_of_le lx hT.1.2
      have mz := Nat.lt_of_lt_of_le lz hT.2.1.2
      have hl := r_left0 (d := d) hx hL hw hR mx mz
      rw [← ex, ← ez] at hl
      refine g_aload_n dX11_canAtone_0 rfl rfl rfl ?_
      refine g_iload_n dX11_canAtone_1 rfl rfl rfl ?_
      refine g_callVdi (ci := 11) dX11_canAtone_2 lm_X11_342 mv_X11_isPerson (h0.isP (d := d) hx) rfl rfl (k100 hL) rfl rfl (Nat.le_of_ble_eq_true rfl) (gFit_room (by omega)) rfl ?_
      rw [ib_t hp]
      refine g_if_eq (tgt := 37) dX11_canAtone_5 (by decide) rfl (fun h_ => absurd h_ (by decide)) (fun _ => ?_)
      refine g_aload_n dX11_canAtone_8 rfl rfl rfl ?_
      refine g_iload_n dX11_canAtone_9 rfl rfl rfl ?_
      refine g_callVdi (ci := 11) dX11_canAtone_10 lm_X11_347 mv_X11_isDeed (h0.isD (d := d) hx) rfl rfl (k100 hL) rfl rfl (Nat.le_of_ble_eq_true rfl) (gFit_room (by omega)) rfl ?_
      rw [ib_t hd]
      refine g_if_eq (tgt := 37) dX11_canAtone_13 (by decide) rfl (fun h_ => absurd h_ (by decide)) (fun _ => ?_)
      refine g_aload_n dX11_canAtone_16 rfl rfl rfl ?_
      refine g_iload_n dX11_canAtone_17 rfl rfl rfl ?_
      refine g_iload_n dX11_canAtone_18 rfl rfl rfl ?_
      refine g_callSdi dX11_canAtone_19 lm_X11_300 mv_X11_left0 (hl) rfl rfl (Nat.le_of_ble_eq_true rfl) (gFit_room (by omega)) rfl ?_
      refine g_if_le (tgt := 37) dX11_canAtone_22 (by decide) rfl (fun h22 => ?_) (fun h22 => ?_)
      · have hr : ¬ mayAtoneF Mc F x z := by first | exact fun q => q.2.1 h22 | exact fun q => q.2.2 h30
        refine g_iconst (v := 0) dX11_canAtone_37 (by decide) rfl ?_
        exact g_iret dX11_canAtone_38 rfl (by first | rfl | exact b01 | exact nb01 hv01) (⟨by first | rw [ib_t hr] | rw [ib_f hr], rfl⟩)
      · refine g_aload_n dX11_canAtone_25 rfl rfl rfl ?_
        refine g_bipush (v := 64) dX11_canAtone_26 (by decide) rfl ?_
        refine g_iald (i := 64) dX11_canAtone_28 (k_w) (l_w) rfl (by decide) rfl ?_
        rw [hR 64 (by decide), show cix 64 = 65 from rfl]
        refine g_iconst (v := 2) dX11_canAtone_29 (by decide) rfl ?_
        refine g_icmp_lt (tgt := 37) dX11_canAtone_30 (by decide) rfl (fun h30 => ?_) (fun h30 => ?_)
        · have hr : ¬ mayAtoneF Mc F x z := by first | exact fun q => q.2.1 h22 | exact fun q => q.2.2 h30
          refine g_iconst (v := 0) dX11_canAtone_37 (by decide) rfl ?_
          exact g_iret dX11_canAtone_38 rfl (by first | rfl | exact b01 | exact nb01 hv01) (⟨by first | rw [ib_t hr] | rw [ib_f hr], rfl⟩)
        · have hr : mayAtoneF Mc F x z := ⟨⟨hp, hd⟩, h22, h30⟩
          refine g_iconst (v := 1) dX11_canAtone_33 (by decide) rfl ?_
          refine g_goto (tgt := 38) dX11_canAtone_34 (by decide) ?_
          exact g_iret dX11_canAtone_38 rfl (by first | rfl | exact b01 | exact nb01 hv01) (⟨by first | rw [ib_t hr] | rw [ib_f hr], rfl⟩)
    · refine g_aload_n dX11_canAtone_0 rfl rfl rfl ?_
      refine g_iload_n dX11_canAtone_1 rfl rfl rfl ?_
      refine g_callVdi (ci := 11) dX11_canAtone_2 lm_X11_342 mv_X11_isPerson (h0.isP (d := d) hx) rfl rfl (k100 hL) rfl rfl (Nat.le_of_ble_eq_true rfl) (gFit_room (by omega)) rfl ?_
      rw [ib_t hp]
      refine g_if_eq (tgt := 37) dX11_canAtone_5 (by decide) rfl (fun h_ => absurd h_ (by decide)) (fun _ => ?_)
      refine g_aload_n dX11_canAtone_8 rfl rfl rfl ?_
      refine g_iload_n dX11_canAtone_9 rfl rfl rfl ?_
      refine g_callVdi (ci := 11) dX11_canAtone_10 lm_X11_347 mv_X11_isDeed (h0.isD (d := d) hx) rfl rfl (k100 hL) rfl rfl (Nat.le_of_ble_eq_true rfl) (gFit_room (by omega)) rfl ?_
      rw [ib_f hd]
      refine g_if_eq (tgt := 37) dX11_canAtone_13 (by decide) rfl (fun _ => ?_) (fun h_ => absurd (by decide) h_)
      refine g_iconst (v := 0) dX11_canAtone_37 (by decide) rfl ?_
      exact g_iret dX11_canAtone_38 rfl (by first | rfl | exact b01 | exact nb01 hv01) (⟨by rw [ib_f (fun q : mayAtoneF Mc F x z => hd q.1.2)], rfl⟩)
  · refine g_aload_n dX11_canAtone_0 rfl rfl rfl ?_
    refine g_iload_n dX11_canAtone_1 rfl rfl rfl ?_
    refine g_callVdi (ci := 11) dX11_canAtone_2 lm_X11_342 mv_X11_isPerson (h0.isP (d := d) hx) rfl rfl (k100 hL) rfl rfl (Nat.le_of_ble_eq_true rfl) (gFit_room (by omega)) rfl ?_
    rw [ib_f hp]
    refine g_if_eq (tgt := 37) dX11_canAtone_5 (by decide) rfl (fun _ => ?_) (fun h_ => absurd (by decide) h_)
    refine g_iconst (v := 0) dX11_canAtone_37 (by decide) rfl ?_
    exact g_iret dX11_canAtone_38 rfl (by first | rfl | exact b01 | exact nb01 hv01) (⟨by rw [ib_f (fun q : mayAtoneF Mc F x z => hp q.1.1)], rfl⟩)
set_option maxRecDepth 20000 in
theorem r_canGo (hx : gXok X) (h0 : R0 Mc M n E EV) (hw : w = 113 ∨ w = 114) (hR : RowR M w F) {x : Int32} : gDet X (d + 1) yX11_canGo cX11_canGo 3 (some .boolean) [.ref 100, .ref w, .int x] M (some (.int (ib (mayGoF Mc F x)))) M := by
  have hL := h0.1.1
  obtain ⟨k_w, l_w⟩ := wlay hL hw
  refine gMet.of hx (by decide) (Nat.le_of_ble_eq_true rfl) ?_
  refine g_aload_n dX11_canGo_0 rfl rfl rfl ?_
  refine g_iload_n dX11_canGo_1 rfl rfl rfl ?_
  refine g_callVdi (ci := 11) dX11_canGo_2 lm_X11_342 mv_X11_isPerson (h0.isP (d := d) hx) rfl rfl (k100 hL) rfl rfl (Nat.le_of_ble_eq_true rfl) (gFit_room (by omega)) rfl ?_
  refine g_ieq (tgt := 23) dX11_canGo_5 (by decide) rfl (fun h5 => ?_) (fun h5 => ?_)
  · have hr : ¬ mayGoF Mc F x := by first | exact fun q => h5 q.1 | exact fun q => q.2 h16
    refine g_iconst (v := 0) dX11_canGo_23 (by decide) rfl ?_
    exact g_iret dX11_canGo_24 rfl (by first | rfl | exact b01 | exact nb01 hv01) (⟨by first | rw [ib_t hr] | rw [ib_f hr], rfl⟩)
  · refine g_aload_n dX11_canGo_8 rfl rfl rfl ?_
    refine g_bipush (v := 60) dX11_canGo_9 (by decide) rfl ?_
    refine g_iald (i := 60) dX11_canGo_11 (k_w) (l_w) rfl (by decide) rfl ?_
    rw [hR 60 (by decide), show cix 60 = 60 from rfl]
    refine g_iload_n dX11_canGo_12 rfl rfl rfl ?_
    refine g_callSdi dX11_canGo_13 lm_X11_223 mv_X11_has (r_hasR (d := d) hx) rfl rfl (Nat.le_of_ble_eq_true rfl) (gFit_room (by omega)) rfl ?_
    refine g_ine (tgt := 23) dX11_canGo_16 (by decide) rfl (fun h16 => ?_) (fun h16 => ?_)
    · have hr : ¬ mayGoF Mc F x := by first | exact fun q => h5 q.1 | exact fun q => q.2 h16
      refine g_iconst (v := 0) dX11_canGo_23 (by decide) rfl ?_
      exact g_iret dX11_canGo_24 rfl (by first | rfl | exact b01 | exact nb01 hv01) (⟨by first | rw [ib_t hr] | rw [ib_f hr], rfl⟩)
    · have hr : mayGoF Mc F x := ⟨h5, h16⟩
      refine g_iconst (v := 1) dX11_canGo_19 (by decide) rfl ?_
      refine g_goto (tgt := 24) dX11_canGo_20 (by decide) ?_
      exact g_iret dX11_canGo_24 rfl (by first | rfl | exact b01 | exact nb01 hv01) (⟨by first | rw [ib_t hr] | rw [ib_f hr], rfl⟩)
/-- an act that may read: the row w is F -/
def QW (Mc M M2 : gM) (n : Nat) (E : Nat → LE) (EV : EVt) (w : Nat) (F : Nat → Int32) : Prop := xFr (fun c => c = w) M M2 ∧ R0 Mc M2 n E EV ∧ RowR M2 w F ∧ ∀ k, 67 ≤ k → gmi M2 w k = gmi M w k
theorem RW.q {M2 : gM} (h : RW M M2 w F) (h0 : R0 Mc M n E EV) (hw : w = 113 ∨ w = 114) : QW Mc M M2 n E EV w F := ⟨h.1.x (by omega), h.r0 h0 hw, h.2.1, h.2.2⟩
theorem QW.tr {M1 M2 : gM} {G : Nat → Int32} (h : QW Mc M M1 n E EV w G) (h2 : QW Mc M1 M2 n E EV w F) : QW Mc M M2 n E EV w F := ⟨h.1.tr h2.1, h2.2.1, h2.2.2.1, fun k hk => (h2.2.2.2 k hk).trans (h.2.2.2 k hk)⟩
set_option maxRecDepth 20000 in
set_option maxHeartbeats 1000000 in
theorem r_goes (hx : gXok X) (hZ : gSt X) (h0 : R0 Mc M n E EV) (hw : w = 113 ∨ w = 114) (hR : RowR M w F) (hF : RngF F) (hFl : LeftF F) (hp : p < tv Mc 3 7) : gPos X (d + 36) yX11_goes cX11_goes 4 (some .int) [.ref 100, .ref w, .int (nI p)] M (fun v M2 => v = some (.int (ib (gunF Mc EV F p = true))) ∧ QW Mc M M2 n E EV w (goF (gunF Mc EV F p) F p (gmi Mc 3 9))) := by
  have hL := h0.1.1
  have hp6 := Nat.lt_of_lt_of_le hp h0.2.1.1.2
  refine gMet.of hx (by decide) (Nat.le_of_ble_eq_true rfl) ?_
  refine g_aload_n dX11_goes_0 rfl rfl rfl ?_
  refine g_aload_n dX11_goes_1 rfl rfl rfl ?_
  refine g_iload_n dX11_goes_2 rfl rfl rfl ?_
  refine g_callVq (ci := 11) dX11_goes_3 lm_X11_370 mv_X11_isGuilty (r_isGuilty (d := d) hx hZ h0 hw hR hF hFl hp) rfl rfl (k100 hL) rfl rfl (Nat.le_of_ble_eq_true rfl) (gFit_room (by omega)) rfl (fun v M2 hQ => ?_)
  obtain ⟨rfl, hf⟩ := hQ
  obtain ⟨hq1, hQ1⟩ := hf
  have h1 := h0.fr hq1 hQ1
  have hR1 := hR.fr hq1 hw
  have hlog1 : ∀ k, 67 ≤ k → gmi M2 w k = gmi M w k := fun k _ => by rw [hq1.2.2.2.2.1 w (by omega) (by omega) (by omega)]
  have hL1 := h1.1.1
  obtain ⟨k_w, l_w⟩ := wlay hL1 hw
  have hn : gmi M2 105 0 = gmi Mc 3 9 := h1.2.2.2.2.2.2.1
  -- went
  refine g_istore_n dX11_goes_6 rfl (by decide) rfl ?_
  refine g_aload_n dX11_goes_7 rfl rfl rfl ?_
  refine g_bipush (v := 60) dX11_goes_8 (by decide) rfl ?_
  refine g_dup2 dX11_goes_10 rfl rfl rfl ?_
  refine g_iald (i := 60) dX11_goes_11 (k_w) (l_w) rfl (by decide) rfl ?_
  rw [hR1 60 (by decide), show cix 60 = 60 from rfl]
  refine g_iconst (v := 1) dX11_goes_12 (by decide) rfl ?_
  refine g_iload_n dX11_goes_13 rfl rfl rfl ?_
  refine g_ishl dX11_goes_14 rfl ?_
  refine g_ior dX11_goes_15 rfl ?_
  refine g_iast (i := 60) dX11_goes_16 (k_w) (l_w) rfl (by decide) rfl ?_
  have hW := (RW.rf hR1).st (v := F 60 ||| ((1 : Int32) <<< (nI p &&& 31))) (show 60 < 67 by decide)
  rw [show cix 60 = 60 from rfl] at hW
  generalize gwI M2 w 60 (F 60 ||| ((1 : Int32) <<< (nI p &&& 31))) = M3 at hW ⊢
  have hL3 := hW.1.lay hL1
  have n3 : gmi M3 105 0 = gmi Mc 3 9 := by rw [hW.1.2.2.2 105 (by omega)]; exact hn
  obtain ⟨k_w, l_w⟩ := wlay hL3 hw
  have fin : ∀ {M4 : gM} {G : Nat → Int32}, RW M2 M4 w G → QW Mc M M4 n E EV w G := fun hW4 => ⟨(qFr.x hq1).tr (hW4.1.x (by omega)), hW4.r0 h1 hw, hW4.2.1, fun k hk => (hW4.2.2 k hk).trans (hlog1 k hk)⟩
  by_cases hg : gunF Mc EV F p = true
  · rw [ib_t hg, show goF (gunF Mc EV F p) F p (gmi Mc 3 9) = goG F p from by unfold goF; rw [if_pos hg]]
    refine g_iload_n dX11_goes_17 rfl rfl rfl ?_
    refine g_if_eq (tgt := 66) dX11_goes_18 (by decide) rfl (fun h_ => absurd h_ (by decide)) (fun _ => ?_)
    refine g_aload_n dX11_goes_21 rfl rfl rfl ?_
    refine g_bipush (v := 10) dX11_goes_22 (by decide) rfl ?_
    refine g_iload_n dX11_goes_24 rfl rfl rfl ?_
    refine g_imul dX11_goes_25 rfl ?_
    refine g_iconst (v := 0) dX11_goes_26 (by decide) rfl ?_
    refine g_iadd dX11_goes_27 rfl ?_
    refine g_iconst (v := 0) dX11_goes_28 (by decide) rfl ?_
    rw [show (10 : Int32) = nI 10 from rfl, show (0 : Int32) = nI 0 from rfl, pk_mul, nI_add, Nat.add_zero]
    refine g_iast (i := (10 * p)) dX11_goes_29 (k_w) (l_w) (nI_toInt (by omega)) (by omega) rfl ?_
    have hW4 := hW.st (v := 0) (show 10 * p < 67 by omega)
    rw [cix_b p hp6] at hW4
    rw [show nI 0 = (0 : Int32) from rfl]
    generalize gwI M3 w (10 * p) 0 = M4 at hW4 ⊢
    have hL4 := hW4.1.lay hL1
    obtain ⟨k_w, l_w⟩ := wlay hL4 hw
    refine g_aload_n dX11_goes_30 rfl rfl rfl ?_
    refine g_bipush (v := 10) dX11_goes_31 (by decide) rfl ?_
    refine g_iload_n dX11_goes_33 rfl rfl rfl ?_
    refine g_imul dX11_goes_34 rfl ?_
    refine g_iconst (v := 1) dX11_goes_35 (by decide) rfl ?_
    refine g_iadd dX11_goes_36 rfl ?_
    refine g_sipush (v := 999) dX11_goes_37 (by decide) rfl ?_
    refine g_aload_n dX11_goes_40 rfl rfl rfl ?_
    refine g_bipush (v := 10) dX11_goes_41 (by decide) rfl ?_
    refine g_iload_n dX11_goes_43 rfl rfl rfl ?_
    refine g_imul dX11_goes_44 rfl ?_
    refine g_iconst (v := 1) dX11_goes_45 (by decide) rfl ?_
    refine g_iadd dX11_goes_46 rfl ?_
    rw [show (10 : Int32) = nI 10 from rfl, show (1 : Int32) = nI 1 from rfl, pk_mul, nI_add]
    refine g_iald (i := (10 * p + 1)) dX11_goes_47 (k_w) (l_w) (nI_toInt (by omega)) (by omega) rfl ?_
    rw [hW4.2.1 _ (show 10 * p + 1 < 67 by omega), cix_s p hp6]
    refine g_iconst (v := 1) dX11_goes_48 (by decide) rfl ?_
    refine g_iadd dX11_goes_49 rfl ?_
    refine g_callSdi dX11_goes_50 lm_X11_316 mv_J9_min_7cf53 (c_min (d := d + 35) hx) rfl rfl (Nat.le_of_ble_eq_true rfl) (gFit_room (by omega)) rfl ?_
    refine g_iast (i := (10 * p + 1)) dX11_goes_53 (k_w) (l_w) (nI_toInt (by omega)) (by omega) rfl ?_
    have hW5 := hW4.st (v := imin 999 (va_up (va_up F 60 (F 60 ||| ((1 : Int32) <<< (nI p &&& 31)))) p 0 (6 + p) + 1)) (show 10 * p + 1 < 67 by omega)
    rw [cix_s p hp6] at hW5
    generalize gwI M4 w (10 * p + 1) (imin 999 (va_up (va_up F 60 (F 60 ||| ((1 : Int32) <<< (nI p &&& 31)))) p 0 (6 + p) + 1)) = M5 at hW5 ⊢
    have hL5 := hW5.1.lay hL1
    obtain ⟨k_w, l_w⟩ := wlay hL5 hw
    refine g_aload_n dX11_goes_54 rfl rfl rfl ?_
    refine g_bipush (v := 66) dX11_goes_55 (by decide) rfl ?_
    refine g_dup2 dX11_goes_57 rfl rfl rfl ?_
    refine g_iald (i := 66) dX11_goes_58 (k_w) (l_w) rfl (by decide) rfl ?_
    rw [hW5.2.1 66 (by decide), show cix 66 = 61 from rfl]
    refine g_iconst (v := 1) dX11_goes_59 (by decide) rfl ?_
    refine g_iload_n dX11_goes_60 rfl rfl rfl ?_
    refine g_ishl dX11_goes_61 rfl ?_
    refine g_ior dX11_goes_62 rfl ?_
    refine g_iast (i := 66) dX11_goes_63 (k_w) (l_w) rfl (by decide) rfl ?_
    refine g_iconst (v := 1) dX11_goes_64 (by decide) rfl ?_
    exact g_iret dX11_goes_65 rfl (by first | rfl | exact b01 | exact nb01 hv01) (⟨rfl, fin (hW5.st (show 66 < 67 by decide))⟩)
  · rw [ib_f hg, show goF (gunF Mc EV F p) F p (gmi Mc 3 9) = goN F p (gmi Mc 3 9) from by unfold goF; rw [if_neg hg]]
    refine g_iload_n dX11_goes_17 rfl rfl rfl ?_
    refine g_if_eq (tgt := 66) dX11_goes_18 (by decide) rfl (fun _ => ?_) (fun h_ => absurd (by decide) h_)
    refine g_aload_n dX11_goes_66 rfl rfl rfl ?_
    refine g_bipush (v := 62) dX11_goes_67 (by decide) rfl ?_
    refine g_sipush (v := 999) dX11_goes_69 (by decide) rfl ?_
    refine g_aload_n dX11_goes_72 rfl rfl rfl ?_
    refine g_bipush (v := 62) dX11_goes_73 (by decide) rfl ?_
    refine g_iald (i := 62) dX11_goes_75 (k_w) (l_w) rfl (by decide) rfl ?_
    rw [hW.2.1 62 (by decide), show cix 62 = 63 from rfl]
    refine g_iconst (v := 1) dX11_goes_76 (by decide) rfl ?_
    refine g_iadd dX11_goes_77 rfl ?_
    refine g_callSdi dX11_goes_78 lm_X11_316 mv_J9_min_7cf53 (c_min (d := d + 35) hx) rfl rfl (Nat.le_of_ble_eq_true rfl) (gFit_room (by omega)) rfl ?_
    refine g_iast (i := 62) dX11_goes_81 (k_w) (l_w) rfl (by decide) rfl ?_
    have hW4 := hW.st (v := imin 999 (va_up F 60 (F 60 ||| ((1 : Int32) <<< (nI p &&& 31))) 63 + 1)) (show 62 < 67 by decide)
    rw [show cix 62 = 63 from rfl] at hW4
    generalize gwI M3 w 62 (imin 999 (va_up F 60 (F 60 ||| ((1 : Int32) <<< (nI p &&& 31))) 63 + 1)) = M4 at hW4 ⊢
    have hL4 := hW4.1.lay hL1
    have n4 : gmi M4 105 0 = gmi Mc 3 9 := by rw [hW4.1.2.2.2 105 (by omega)]; exact hn
    obtain ⟨k_w, l_w⟩ := wlay hL4 hw
    refine g_aload_n dX11_goes_82 rfl rfl rfl ?_
    refine g_bipush (v := 64) dX11_goes_83 (by decide) rfl ?_
    refine g_iconst (v := 0) dX11_goes_85 (by decide) rfl ?_
    refine g_aload_n dX11_goes_86 rfl rfl rfl ?_
    refine g_bipush (v := 64) dX11_goes_87 (by decide) rfl ?_
    refine g_iald (i := 64) dX11_goes_89 (k_w) (l_w) rfl (by decide) rfl ?_
    rw [hW4.2.1 64 (by decide), show cix 64 = 65 from rfl]
    refine g_aload_n dX11_goes_90 rfl rfl rfl ?_
    refine g_getR dX11_goes_91 ff_X11_37 rfl (k100 hL4) (r100_18 hL4) rfl ?_
    refine g_iconst (v := 0) dX11_goes_94 (by decide) rfl ?_
    refine g_iald (i := 0) dX11_goes_95 (k105 hL4) (l105 hL4) rfl (by decide) rfl ?_
    rw [n4]
    refine g_isub dX11_goes_96 rfl ?_
    refine g_callSdi dX11_goes_97 lm_X11_318 mv_J9_max_7cf53 (c_max (d := d + 35) hx) rfl rfl (Nat.le_of_ble_eq_true rfl) (gFit_room (by omega)) rfl ?_
    refine g_iast (i := 64) dX11_goes_100 (k_w) (l_w) rfl (by decide) rfl ?_
    refine g_iconst (v := 0) dX11_goes_101 (by decide) rfl ?_
    exact g_iret dX11_goes_102 rfl (by first | rfl | exact b01 | exact nb01 hv01) (⟨rfl, fin (hW4.st (show 64 < 67 by decide))⟩)
end G6
