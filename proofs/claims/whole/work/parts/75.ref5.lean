section F5
variable {X : gX} {M : gM} {d : Nat} {b nb off : Nat} {T : Nat → Nat} {L i : Nat} {lt : Nat → Int32}
theorem nt01 {x : Int32} (h : x = 0 ∨ x = 1) : (1 - x = 0 ∨ 1 - x = 1) ∧ (x = 0 → 1 - x = 1) ∧ (¬ x = 0 → 1 - x = 0) := by
  rcases h with rfl | rfl
  · exact ⟨by decide, fun _ => by decide, fun z => absurd rfl z⟩
  · exact ⟨by decide, fun z => absurd z (by decide), fun _ => by decide⟩
set_option maxRecDepth 20000 in
set_option maxHeartbeats 2000000 in
theorem r_unit (hx : gXok X) {w : Nat} {o : LO} (ho : SanO L o) (hB : BolO o) (h6 : o = none → w = 6) (hC0 : CmOK X (d + 3) b nb off T L w lt 0 0 (fun i => thP (smP T L o i) (cmP T L o (smP T L o i).2.2.2 (smP T L o i).2.1))) (hI : ∀ q, o = some q → w < 6 ∧ CdOK X (d + 3) b nb off T L (w + 1) lt 0 0 q.2.1 ∧ UnOK X (d + 3) b nb off T L (w + 1) lt q.2.2) : UnOK X (d + 4) b nb off T L w lt (unP T L o) := by
  intro M i h hlt
  have hL := h.1.1
  have h240 := h.1.2.2.2.2.2.1.2.2.1
  have hnL := nxt_le (T := T) h.2.2.1
  refine gMet.of hx (by decide) (Nat.le_of_ble_eq_true rfl) ?_
  unfold unP
  refine g_aload_n dX11_unit_0 rfl rfl rfl ?_
  refine g_callVq (ci := 11) dX11_unit_1 lm_X11_132 mv_X11_look (r_look (d := d + 3) hx h) rfl rfl (k100 hL) rfl rfl (Nat.le_of_ble_eq_true rfl) (gFit_room (by omega)) rfl (fun v M2 hQ => ?_)
  obtain ⟨rfl, hf⟩ := hQ
  obtain ⟨hf1, h1⟩ := hf
  have i33 := h.is (j := i) (c := 33) (by decide)
  have i40 := h.is (j := i) (c := 40) (by decide)
  have hnx : thP (smP T L o (nxt T L i)) (cmP T L o (smP T L o (nxt T L i)).2.2.2 (smP T L o (nxt T L i)).2.1) = thP (smP T L o i) (cmP T L o (smP T L o i).2.2.2 (smP T L o i).2.1) := by rw [smP_nxt]
  by_cases hs : isS T L i 33 = true ∨ isS T L i 40 = true
  · rw [if_pos hs]
    have hpL : nxt T L i < L := hs.elim (fun q => (isS_in q).1) (fun q => (isS_in q).1)
    clear hnx
    by_cases c33 : isS T L i 33 = true
    · rw [(isS_in c33).2, i33.mp c33]
      generalize hp : nxt T L i = p at *
      cases o with
      | none =>
        have hw := h6 rfl
        subst hw
        refine g_istore_n dX11_unit_4 rfl (by decide) rfl ?_
        refine g_iload_n dX11_unit_5 rfl rfl rfl ?_
        refine g_bipush (v := 33) dX11_unit_6 (by decide) rfl ?_
        refine g_icmp_ne (tgt := 45) dX11_unit_8 (by decide) rfl (fun h_ => absurd (rfl) h_) (fun _ => ?_)
        refine g_aload_n dX11_unit_11 rfl rfl rfl ?_
        refine g_callVq (ci := 11) dX11_unit_12 lm_X11_152 mv_X11_goesIn (r_goesIn6 (d := d + 2) hx h1) rfl rfl (k100 h1.1.1) rfl rfl (Nat.le_of_ble_eq_true rfl) (gFit_room (by omega)) rfl (fun v M2 hQ => ?_)
        obtain ⟨rfl, hf⟩ := hQ
        refine g_if_ne (tgt := 20) dX11_unit_15 (by decide) rfl (fun h_ => absurd (by decide) h_) (fun _ => ?_)
        refine g_iconst (v := 0) dX11_unit_18 (by decide) rfl ?_
        exact g_iret dX11_unit_19 rfl (by first | rfl | exact b01 | exact nb01 hv01) (RB_f2 (hf1.tr hf.1) (hf.2.ft (by omega)) (Or.inl rfl))
      | some q =>
        obtain ⟨hw, -, hU⟩ := hI q rfl
        have hbl := (hB q rfl (p + 1)).2
        show gW _ _ (gZ X gN0 0 0 (RB M lt b nb off T L w (ntP (q.2.2 (p + 1))))) _ _ _ _ _ _ _ _ _ _ _
        unfold ntP
        refine g_istore_n dX11_unit_4 rfl (by decide) rfl ?_
        refine g_iload_n dX11_unit_5 rfl rfl rfl ?_
        refine g_bipush (v := 33) dX11_unit_6 (by decide) rfl ?_
        refine g_icmp_ne (tgt := 45) dX11_unit_8 (by decide) rfl (fun h_ => absurd (rfl) h_) (fun _ => ?_)
        refine g_aload_n dX11_unit_11 rfl rfl rfl ?_
        refine g_callVq (ci := 11) dX11_unit_12 lm_X11_152 mv_X11_goesIn (r_goesIn (d := d + 2) hx h1 hpL hw) rfl rfl (k100 h1.1.1) rfl rfl (Nat.le_of_ble_eq_true rfl) (gFit_room (by omega)) rfl (fun v M2 hQ => ?_)
        obtain ⟨rfl, hf⟩ := hQ
        refine g_if_ne (tgt := 20) dX11_unit_15 (by decide) rfl (fun _ => ?_) (fun h_ => absurd h_ (by decide))
        obtain ⟨hf2, h2⟩ := hf
        refine g_aload_n dX11_unit_20 rfl rfl rfl ?_
        refine g_callVq (ci := 11) dX11_unit_21 lm_X11_178 mv_X11_unit (hU h2 (hlt.fr (hf1.tr hf2))) rfl rfl (k100 h2.1.1) rfl rfl (Nat.le_of_ble_eq_true rfl) (gFit_room (by omega)) rfl (fun v M2 hQ => ?_)
        obtain ⟨xr, rfl, hf⟩ := hQ
        obtain ⟨hf3, hok, hbad, hx01⟩ := hf
        generalize q.2.2 (p + 1) = r at *
        have hfa := ((hf1.tr hf2).tr hf3).tr (iFr.put (M := M2) (v := gmi M2 100 12 - 1) (Or.inr (Or.inr rfl)))
        by_cases hr : r.1 = true
        · rw [if_pos hr]
          obtain ⟨h3, rfl⟩ := hok hr
          have hd4 : gmi M2 100 12 - 1 = nI w := by rw [h3.2.2.2.2, nI_pred]
          have h4 := h3.dp (v := w)
          rw [← hd4] at h4
          have hn := nt01 (hbl hr lt)
          refine g_istore_n dX11_unit_24 rfl (by decide) rfl ?_
          refine g_aload_n dX11_unit_25 rfl rfl rfl ?_
          refine g_dup dX11_unit_26 rfl rfl ?_
          refine g_getI dX11_unit_27 ff_X11_125 rfl (k100 h3.1.1) rfl ?_
          refine g_iconst (v := 1) dX11_unit_30 (by decide) rfl ?_
          refine g_isub dX11_unit_31 rfl ?_
          refine g_putI dX11_unit_32 fp_X11_125 rfl rfl rfl (k100 h3.1.1) rfl ?_
          refine g_iload_n dX11_unit_35 rfl rfl rfl ?_
          refine g_if_ne (tgt := 43) dX11_unit_36 (by decide) rfl (fun h36 => ?_) (fun h36 => ?_)
          · refine g_iconst (v := 0) dX11_unit_43 (by decide) rfl ?_
            exact g_iret dX11_unit_44 rfl (by first | rfl | exact b01 | exact nb01 hv01) (⟨_, rfl, hfa, fun _ => ⟨h4, by first | exact (hn.2.1 h36).symm | exact (hn.2.2 h36).symm⟩, fun z => absurd rfl z, by first | exact Or.inl rfl | exact Or.inr rfl⟩)
          · refine g_iconst (v := 1) dX11_unit_39 (by decide) rfl ?_
            refine g_goto (tgt := 44) dX11_unit_40 (by decide) ?_
            exact g_iret dX11_unit_44 rfl (by first | rfl | exact b01 | exact nb01 hv01) (⟨_, rfl, hfa, fun _ => ⟨h4, by first | exact (hn.2.1 h36).symm | exact (hn.2.2 h36).symm⟩, fun z => absurd rfl z, by first | exact Or.inl rfl | exact Or.inr rfl⟩)
        · rw [if_neg hr]
          have hb3 := hbad hr
          refine g_istore_n dX11_unit_24 rfl (by decide) rfl ?_
          refine g_aload_n dX11_unit_25 rfl rfl rfl ?_
          refine g_dup dX11_unit_26 rfl rfl ?_
          refine g_getI dX11_unit_27 ff_X11_125 rfl (k100 (hf3.1.lay h2.1.1)) rfl ?_
          refine g_iconst (v := 1) dX11_unit_30 (by decide) rfl ?_
          refine g_isub dX11_unit_31 rfl ?_
          refine g_putI dX11_unit_32 fp_X11_125 rfl rfl rfl (k100 (hf3.1.lay h2.1.1)) rfl ?_
          refine g_iload_n dX11_unit_35 rfl rfl rfl ?_
          refine g_if_ne (tgt := 43) dX11_unit_36 (by decide) rfl (fun h36 => ?_) (fun h36 => ?_)
          · refine g_iconst (v := 0) dX11_unit_43 (by decide) rfl ?_
            exact g_iret dX11_unit_44 rfl (by first | rfl | exact b01 | exact nb01 hv01) (RB_f2 hfa (by rw [gmi_I, va_up_ne _ _ (show (11 : Nat) ≠ 12 by decide)]; exact hb3) (by first | exact Or.inl rfl | exact Or.inr rfl))
          · refine g_iconst (v := 1) dX11_unit_39 (by decide) rfl ?_
            refine g_goto (tgt := 44) dX11_unit_40 (by decide) ?_
            exact g_iret dX11_unit_44 rfl (by first | rfl | exact b01 | exact nb01 hv01) (RB_f2 hfa (by rw [gmi_I, va_up_ne _ _ (show (11 : Nat) ≠ 12 by decide)]; exact hb3) (by first | exact Or.inl rfl | exact Or.inr rfl))
    · have c40 := hs.resolve_left c33
      rw [(isS_in c40).2, i40.mp c40]
      have n33 : ¬ sgn T L (nxt T L i) = 33 := fun z => c33 (i33.mpr z)
      generalize hp : nxt T L i = p at *
      cases o with
      | none =>
        have hw := h6 rfl
        subst hw
        refine g_istore_n dX11_unit_4 rfl (by decide) rfl ?_
        refine g_iload_n dX11_unit_5 rfl rfl rfl ?_
        refine g_bipush (v := 33) dX11_unit_6 (by decide) rfl ?_
        refine g_icmp_ne (tgt := 45) dX11_unit_8 (by decide) rfl (fun _ => ?_) (fun h_ => absurd h_ (by decide))
        refine g_iload_n dX11_unit_45 rfl rfl rfl ?_
        refine g_bipush (v := 40) dX11_unit_46 (by decide) rfl ?_
        refine g_icmp_ne (tgt := 90) dX11_unit_48 (by decide) rfl (fun h_ => absurd (rfl) h_) (fun _ => ?_)
        refine g_aload_n dX11_unit_51 rfl rfl rfl ?_
        refine g_callVq (ci := 11) dX11_unit_52 lm_X11_152 mv_X11_goesIn (r_goesIn6 (d := d + 2) hx h1) rfl rfl (k100 h1.1.1) rfl rfl (Nat.le_of_ble_eq_true rfl) (gFit_room (by omega)) rfl (fun v M2 hQ => ?_)
        obtain ⟨rfl, hf⟩ := hQ
        refine g_if_ne (tgt := 60) dX11_unit_55 (by decide) rfl (fun h_ => absurd (by decide) h_) (fun _ => ?_)
        refine g_iconst (v := 0) dX11_unit_58 (by decide) rfl ?_
        exact g_iret dX11_unit_59 rfl (by first | rfl | exact b01 | exact nb01 hv01) (RB_f2 (hf1.tr hf.1) (hf.2.ft (by omega)) (Or.inl rfl))
      | some q =>
        obtain ⟨hw, hC, -⟩ := hI q rfl
        show gW _ _ (gZ X gN0 0 0 (RB M lt b nb off T L w (clP T L 41 (q.2.1 (p + 1))))) _ _ _ _ _ _ _ _ _ _ _
        unfold clP
        refine g_istore_n dX11_unit_4 rfl (by decide) rfl ?_
        refine g_iload_n dX11_unit_5 rfl rfl rfl ?_
        refine g_bipush (v := 33) dX11_unit_6 (by decide) rfl ?_
        refine g_icmp_ne (tgt := 45) dX11_unit_8 (by decide) rfl (fun _ => ?_) (fun h_ => absurd h_ (by decide))
        refine g_iload_n dX11_unit_45 rfl rfl rfl ?_
        refine g_bipush (v := 40) dX11_unit_46 (by decide) rfl ?_
        refine g_icmp_ne (tgt := 90) dX11_unit_48 (by decide) rfl (fun h_ => absurd (rfl) h_) (fun _ => ?_)
        refine g_aload_n dX11_unit_51 rfl rfl rfl ?_
        refine g_callVq (ci := 11) dX11_unit_52 lm_X11_152 mv_X11_goesIn (r_goesIn (d := d + 2) hx h1 hpL hw) rfl rfl (k100 h1.1.1) rfl rfl (Nat.le_of_ble_eq_true rfl) (gFit_room (by omega)) rfl (fun v M2 hQ => ?_)
        obtain ⟨rfl, hf⟩ := hQ
        refine g_if_ne (tgt := 60) dX11_unit_55 (by decide) rfl (fun _ => ?_) (fun h_ => absurd h_ (by decide))
        obtain ⟨hf2, h2⟩ := hf
        refine g_aload_n dX11_unit_60 rfl rfl rfl ?_
        refine g_iconst (v := 0) dX11_unit_61 (by decide) rfl ?_
        refine g_iconst (v := 0) dX11_unit_62 (by decide) rfl ?_
        refine g_callVq (ci := 11) dX11_unit_63 lm_X11_181 mv_X11_condition (hC h2 (hlt.fr (hf1.tr hf2))) rfl rfl (k100 h2.1.1) rfl rfl (Nat.le_of_ble_eq_true rfl) (gFit_room (by omega)) rfl (fun v M2 hQ => ?_)
        obtain ⟨xr, rfl, hf⟩ := hQ
        obtain ⟨hf3, hok, hbad, hv01⟩ := hf
        generalize q.2.1 (p + 1) = r at *
        by_cases hr : r.1 = true
        · rw [if_pos hr]
          obtain ⟨h3, hxr⟩ := hok hr
          have hnr := nxt_le (T := T) h3.2.2.1
          refine g_istore_n dX11_unit_66 rfl (by decide) rfl ?_
          refine g_aload_n dX11_unit_67 rfl rfl rfl ?_
          refine g_bipush (v := 41) dX11_unit_68 (by decide) rfl ?_
          refine g_callVq (ci := 11) dX11_unit_70 lm_X11_158 mv_X11_takes (r_takes0 (d := d + 2) hx h3 (c := 41) (by decide)) rfl rfl (k100 h3.1.1) rfl rfl (Nat.le_of_ble_eq_true rfl) (gFit_room (by omega)) rfl (fun v M2 hQ => ?_)
          obtain ⟨rfl, hf⟩ := hQ
          obtain ⟨hf4, hy, hn⟩ := hf
          by_cases hc : isS T L r.2.1 41 = true
          · rw [if_pos hc, ib_t hc]
            have h4 := hy hc
            refine g_if_ne (tgt := 78) dX11_unit_73 (by decide) rfl (fun _ => ?_) (fun h_ => absurd h_ (by decide))
            refine g_aload_n dX11_unit_78 rfl rfl rfl ?_
            refine g_dup dX11_unit_79 rfl rfl ?_
            refine g_getI dX11_unit_80 ff_X11_125 rfl (k100 h4.1.1) rfl ?_
            refine g_iconst (v := 1) dX11_unit_83 (by decide) rfl ?_
            refine g_isub dX11_unit_84 rfl ?_
            rw [h4.2.2.2.2, nI_pred]
            refine g_putI dX11_unit_85 fp_X11_125 rfl rfl rfl (k100 h4.1.1) rfl ?_
            refine g_iload_n dX11_unit_88 rfl rfl rfl ?_
            exact g_iret dX11_unit_89 rfl (by first | rfl | exact b01 | exact nb01 hv01) (⟨_, rfl, (((hf1.tr hf2).tr hf3).tr hf4).tr (iFr.put (Or.inr (Or.inr rfl))), fun _ => ⟨h4.dp, hxr⟩, fun z => absurd rfl z, hv01⟩)
          · rw [if_neg hc, ib_f hc]
            have h4 := hn hc
            refine g_if_ne (tgt := 78) dX11_unit_73 (by decide) rfl (fun h_ => absurd (by decide) h_) (fun _ => ?_)
            refine g_iconst (v := 0) dX11_unit_76 (by decide) rfl ?_
            exact g_iret dX11_unit_77 rfl (by first | rfl | exact b01 | exact nb01 hv01) (RB_f2 (((hf1.tr hf2).tr hf3).tr hf4) (h4.ft (by omega)) (Or.inl rfl))
        · rw [if_neg hr]
          have h3 := hbad hr
          refine g_istore_n dX11_unit_66 rfl (by decide) rfl ?_
          refine g_aload_n dX11_unit_67 rfl rfl rfl ?_
          refine g_bipush (v := 41) dX11_unit_68 (by decide) rfl ?_
          refine g_callVdi (ci := 11) dX11_unit_70 lm_X11_158 mv_X11_takes (r_takes1 (d := d + 2) hx (hf3.1.lay h2.1.1) h3.2) rfl rfl (k100 (hf3.1.lay h2.1.1)) rfl rfl (Nat.le_of_ble_eq_true rfl) (gFit_room (by omega)) rfl ?_
          refine g_if_ne (tgt := 78) dX11_unit_73 (by decide) rfl (fun h_ => absurd (by decide) h_) (fun _ => ?_)
          refine g_iconst (v := 0) dX11_unit_76 (by decide) rfl ?_
          exact g_iret dX11_unit_77 rfl (by first | rfl | exact b01 | exact nb01 hv01) (RB_f2 ((hf1.tr hf2).tr hf3) h3 (Or.inl rfl))
  · rw [if_neg hs]
    refine g_istore_n dX11_unit_4 rfl (by decide) rfl ?_
    refine g_iload_n dX11_unit_5 rfl rfl rfl ?_
    refine g_bipush (v := 33) dX11_unit_6 (by decide) rfl ?_
    refine g_icmp_ne (tgt := 45) dX11_unit_8 (by decide) rfl (fun _ => ?_) (fun h_ => absurd h_ (fun z => hs (Or.inl (i33.mpr z))))
    refine g_iload_n dX11_unit_45 rfl rfl rfl ?_
    refine g_bipush (v := 40) dX11_unit_46 (by decide) rfl ?_
    refine g_icmp_ne (tgt := 90) dX11_unit_48 (by decide) rfl (fun _ => ?_) (fun h_ => absurd h_ (fun z => hs (Or.inr (i40.mpr z))))
    refine g_aload_n dX11_unit_90 rfl rfl rfl ?_
    refine g_iconst (v := 0) dX11_unit_91 (by decide) rfl ?_
    refine g_iconst (v := 0) dX11_unit_92 (by decide) rfl ?_
    refine g_callVq (ci := 11) dX11_unit_93 lm_X11_185 mv_X11_compares (hC0 h1 (hlt.fr hf1)) rfl rfl (k100 h1.1.1) rfl rfl (Nat.le_of_ble_eq_true rfl) (gFit_room (by omega)) rfl (fun v M2 hQ => ?_)
    obtain ⟨xr, rfl, hf⟩ := hQ
    dsimp only at hf
    rw [hnx] at hf
    obtain ⟨hf3, hok, hbad, hv01⟩ := hf
    exact g_iret dX11_unit_96 rfl (nb01 hv01) ⟨_, rfl, hf1.tr hf3, hok, hbad, hv01⟩
theorem jn1 {f : Int32} {w p : Nat} (h : PS M b nb off T L i f w) : (sgn T L p = 38 ↔ jnP T L 1 p = 7) ∧ (jnP T L 1 p = 0 ↔ ¬ sgn T L p = 38) := by
  have e1 := h.sg (j := p) (c := 38) (by decide)
  rw [show (nI 38 : Int32) = 38 from rfl] at e1
  rw [e1]
  unfold jnP jof
  by_cases hp : p < L
  · rw [if_pos hp]
    by_cases h1 : T p = 38
    · simp [h1, hp]
    · simp [h1]
  · simp [hp]
set_option maxRecDepth 20000 in
set_option maxHeartbeats 2000000 in
theorem r_partL (hx : gXok X) {w : Nat} {f : Nat → PR} (hs : SanF L f) (hbf : ∀ i, Bol (f i)) (hA : UnOK X (d + 2) b nb off T L w lt f) {M0 : gM} {r : PR} (hr : r.1 = true) (hrb : Bol r) (hlt : LtR M0 lt) (hf1 : iFr M0 M) (h1 : PS M b nb off T L r.2.1 (-1) w) : gW X (gRoom (d + 3) 0 0) (gZ X gN0 0 0 (RB M0 lt b nb off T L w (sqP T L f 1 r))) gN0 yX11_part cX11_part 5 (some .boolean) 18 [(0, .ref 100), (3, .int (r.2.2.2 lt))] [] M 0 0 := by
  have h240 := h1.1.2.2.2.2.2.1.2.2.1
  unfold sqP
  rw [if_pos hr]
  generalize hR : (((lpP T L f 1 240 r.2.1 r.2.2.2).1, (lpP T L f 1 240 r.2.1 r.2.2.2).2.1, r.2.2.1 ++ (lpP T L f 1 240 r.2.1 r.2.2.2).2.2.1, (lpP T L f 1 240 r.2.1 r.2.2.2).2.2.2) : PR) = R
  have tail : ∀ (M1 : gM) (a x : Int32), (a = 0 ∨ a = 1) → (x = 0 ∨ x = 1) → gLay M1 → gW X (gRoom (d + 3) 0 0) (gZ X gN0 0 0 (RB M0 lt b nb off T L w R)) gN0 yX11_part cX11_part 5 (some .boolean) 18 [(0, .ref 100), (3, .int (clampL (jv 7 a.toInt64 x.toInt64)))] [] M1 0 0 → gW X (gRoom (d + 3) 0 0) (gZ X gN0 0 0 (RB M0 lt b nb off T L w R)) gN0 yX11_part cX11_part 5 (some .boolean) 49 [(0, .ref 100), (3, .int a)] [.int x] M1 0 0 := by
    intro M1 a x ha hx2 hL1 hk
    rcases ha with rfl | rfl
    · rcases hx2 with rfl | rfl
      · refine g_istore dX11_part_49 (by decide) rfl ?_
        refine g_iload_n dX11_part_51 rfl rfl rfl ?_
        refine g_if_eq (tgt := 64) dX11_part_52 (by decide) rfl (fun _ => ?_) (fun h_ => absurd (by decide) h_)
        refine g_iconst (v := 0) dX11_part_64 (by decide) rfl ?_
        refine g_istore_n dX11_part_65 rfl (by decide) rfl ?_
        refine g_goto (tgt := 18) dX11_part_66 (by decide) ?_
        exact g_go hk ⟨rfl, rfl, trivial⟩
      · refine g_istore dX11_part_49 (by decide) rfl ?_
        refine g_iload_n dX11_part_51 rfl rfl rfl ?_
        refine g_if_eq (tgt := 64) dX11_part_52 (by decide) rfl (fun _ => ?_) (fun h_ => absurd (by decide) h_)
        refine g_iconst (v := 0) dX11_part_64 (by decide) rfl ?_
        refine g_istore_n dX11_part_65 rfl (by decide) rfl ?_
        refine g_goto (tgt := 18) dX11_part_66 (by decide) ?_
        exact g_go hk ⟨rfl, rfl, trivial⟩
    · rcases hx2 with rfl | rfl
      · refine g_istore dX11_part_49 (by decide) rfl ?_
        refine g_iload_n dX11_part_51 rfl rfl rfl ?_
        refine g_if_eq (tgt := 64) dX11_part_52 (by decide) rfl (fun h_ => absurd h_ (by decide)) (fun _ => ?_)
        refine g_iload dX11_part_55 rfl rfl ?_
        refine g_if_eq (tgt := 64) dX11_part_57 (by decide) rfl (fun _ => ?_) (fun h_ => absurd (by decide) h_)
        refine g_iconst (v := 0) dX11_part_64 (by decide) rfl ?_
        refine g_istore_n dX11_part_65 rfl (by decide) rfl ?_
        refine g_goto (tgt := 18) dX11_part_66 (by decide) ?_
        exact g_go hk ⟨rfl, rfl, trivial⟩
      · refine g_istore dX11_part_49 (by decide) rfl ?_
        refine g_iload_n dX11_part_51 rfl rfl rfl ?_
        refine g_if_eq (tgt := 64) dX11_part_52 (by decide) rfl (fun h_ => absurd h_ (by decide)) (fun _ => ?_)
        refine g_iload dX11_part_55 rfl rfl ?_
        refine g_if_eq (tgt := 64) dX11_part_57 (by decide) rfl (fun h_ => absurd h_ (by decide)) (fun _ => ?_)
        refine g_iconst (v := 1) dX11_part_60 (by decide) rfl ?_
        refine g_goto (tgt := 65) dX11_part_61 (by decide) ?_
        refine g_istore_n dX11_part_65 rfl (by decide) rfl ?_
        refine g_goto (tgt := 18) dX11_part_66 (by decide) ?_
        exact g_go hk ⟨rfl, rfl, trivial⟩
  have exitB : ∀ (M1 : gM) (a : Int32) (p : Nat), (a = 0 ∨ a = 1) → gLay M1 → iFr M0 M1 → gmi M1 100 11 = nI p ∧ ¬ gmi M1 100 11 = -1 → R.1 = false → R.2.1 = p → gW X (gRoom (d + 3) 0 0) (gZ X gN0 0 0 (RB M0 lt b nb off T L w R)) gN0 yX11_part cX11_part 5 (some .boolean) 18 [(0, .ref 100), (3, .int a)] [] M1 0 0 := by
    intro M1 a p hv01 hL1 hF hb e1 e2
    refine g_aload_n dX11_part_18 rfl rfl rfl ?_
    refine g_getI dX11_part_19 ff_X11_122 rfl (k100 hL1) rfl ?_
    refine g_iconst (v := -1) dX11_part_22 (by decide) rfl ?_
    refine g_icmp_ne (tgt := 69) dX11_part_23 (by decide) rfl (fun _ => ?_) (fun h_ => absurd h_ (hb.2))
    refine g_iload_n dX11_part_69 rfl rfl rfl ?_
    exact g_iret dX11_part_70 rfl (by first | rfl | exact b01 | exact nb01 hv01) (⟨_, rfl, hF, fun z => absurd (e1.symm.trans z) Bool.false_ne_true, fun _ => by rw [e2]; exact hb, hv01⟩)
  have main : ∀ (n : Nat) (M1 : gM) (j : Nat) (E : LE), L ≤ j + n → (∀ lt, E lt = 0 ∨ E lt = 1) → iFr M0 M1 → PS M1 b nb off T L j (-1) w → R.1 = (lpP T L f 1 n j E).1 → R.2.1 = (lpP T L f 1 n j E).2.1 → (R.1 = true → R.2.2.2 = (lpP T L f 1 n j E).2.2.2) → gW X (gRoom (d + 3) 0 0) (gZ X gN0 0 0 (RB M0 lt b nb off T L w R)) gN0 yX11_part cX11_part 5 (some .boolean) 18 [(0, .ref 100), (3, .int (E lt))] [] M1 0 0 := by
    have exitG : ∀ (M1 : gM) (j n : Nat) (E : LE), (∀ lt, E lt = 0 ∨ E lt = 1) → jnP T L 1 (nxt T L j) = 0 → iFr M0 M1 → PS M1 b nb off T L j (-1) w → R.1 = (lpP T L f 1 n j E).1 → R.2.1 = (lpP T L f 1 n j E).2.1 → (R.1 = true → R.2.2.2 = (lpP T L f 1 n j E).2.2.2) → gW X (gRoom (d + 3) 0 0) (gZ X gN0 0 0 (RB M0 lt b nb off T L w R)) gN0 yX11_part cX11_part 5 (some .boolean) 18 [(0, .ref 100), (3, .int (E lt))] [] M1 0 0 := by
      intro M1 j n E hE h0 hF h1 e1 e2 e3
      rw [lpP_end h0] at e1 e2 e3
      have f1 : R.1 = true := e1
      have f2 : R.2.1 = nxt T L j := e2
      have f3 := e3 f1
      have hne := (jn1 h1).2.mp h0
      have hv01 := hE lt
      refine g_aload_n dX11_part_18 rfl rfl rfl ?_
      refine g_getI dX11_part_19 ff_X11_122 rfl (k100 h1.1.1) rfl ?_
      refine g_iconst (v := -1) dX11_part_22 (by decide) rfl ?_
      rw [h1.2.2.2.1]
      refine g_icmp_ne (tgt := 69) dX11_part_23 (by decide) rfl (fun h_ => absurd (rfl) h_) (fun _ => ?_)
      refine g_aload_n dX11_part_26 rfl rfl rfl ?_
      refine g_callVq (ci := 11) dX11_part_27 lm_X11_132 mv_X11_look (r_look (d := d + 2) hx h1) rfl rfl (k100 h1.1.1) rfl rfl (Nat.le_of_ble_eq_true rfl) (gFit_room (by omega)) rfl (fun v M2 hQ => ?_)
      obtain ⟨rfl, hf⟩ := hQ
      refine g_bipush (v := 38) dX11_part_30 (by decide) rfl ?_
      refine g_icmp_ne (tgt := 69) dX11_part_32 (by decide) rfl (fun _ => ?_) (fun h_ => absurd h_ (hne))
      refine g_iload_n dX11_part_69 rfl rfl rfl ?_
      exact g_iret dX11_part_70 rfl (by first | rfl | exact b01 | exact nb01 hv01) (⟨_, rfl, hF.tr hf.1, fun _ => ⟨by rw [f2]; exact hf.2, by rw [f3]⟩, fun z => absurd f1 z, hv01⟩)
    intro n
    induction n with
    | zero =>
      intro M1 j E hj hE hF h1 e1 e2 e3
      exact exitG M1 j 0 E hE (jnP_end (by omega)) hF h1 e1 e2 e3
    | succ n ih =>
      intro M1 j E hj hE hF h1 e1 e2 e3
      by_cases h0 : jnP T L 1 (nxt T L j) = 0
      · exact exitG M1 j (n + 1) E hE h0 hF h1 e1 e2 e3
      · unfold lpP at e1 e2 e3
        rw [if_neg h0] at e1 e2 e3
        have hp := jnP_in h0
        have hgj := nxt_ge (T := T) (L := L) (i := j)
        have hjj := jn1 h1 (p := nxt T L j)
        have hsf := hs (nxt T L j + 1) hp
        have hbl := hbf (nxt T L j + 1)
        have hc : sgn T L (nxt T L j) = 38 := Decidable.by_contra (fun z => h0 (hjj.2.mpr z))
        rw [hjj.1.mp hc] at e1 e2 e3
        refine g_aload_n dX11_part_18 rfl rfl rfl ?_
        refine g_getI dX11_part_19 ff_X11_122 rfl (k100 h1.1.1) rfl ?_
        refine g_iconst (v := -1) dX11_part_22 (by decide) rfl ?_
        rw [h1.2.2.2.1]
        refine g_icmp_ne (tgt := 69) dX11_part_23 (by decide) rfl (fun h_ => absurd (rfl) h_) (fun _ => ?_)
        refine g_aload_n dX11_part_26 rfl rfl rfl ?_
        refine g_callVq (ci := 11) dX11_part_27 lm_X11_132 mv_X11_look (r_look (d := d + 2) hx h1) rfl rfl (k100 h1.1.1) rfl rfl (Nat.le_of_ble_eq_true rfl) (gFit_room (by omega)) rfl (fun v M2 hQ => ?_)
        obtain ⟨rfl, hf⟩ := hQ
        refine g_bipush (v := 38) dX11_part_30 (by decide) rfl ?_
        obtain ⟨hf2, h2⟩ := hf
        refine g_icmp_ne (tgt := 69) dX11_part_32 (by decide) rfl (fun h_ => absurd (hc) h_) (fun _ => ?_)
        refine g_aload_n dX11_part_35 rfl rfl rfl ?_
        refine g_dup dX11_part_36 rfl rfl ?_
        refine g_getI dX11_part_37 ff_X11_113 rfl (k100 h2.1.1) rfl ?_
        refine g_iconst (v := 1) dX11_part_40 (by decide) rfl ?_
        refine g_iadd dX11_part_41 rfl ?_
        rw [h2.2.1, nI_1]
        refine g_putI dX11_part_42 fp_X11_113 rfl rfl rfl (k100 h2.1.1) rfl ?_
        refine g_aload_n dX11_part_45 rfl rfl rfl ?_
        have h3 := h2.at (j := nxt T L j + 1) hp
        have hF3 := (hF.tr hf2).tr (iFr.put (M := M2) (v := nI (nxt T L j + 1)) (Or.inl rfl))
        refine g_callVq (ci := 11) dX11_part_46 lm_X11_178 mv_X11_unit (hA h3 (hlt.fr hF3)) rfl rfl (k100 (gLay_I h2.1.1)) rfl rfl (Nat.le_of_ble_eq_true rfl) (gFit_room (by omega)) rfl (fun v M2 hQ => ?_)
        obtain ⟨xr, rfl, hf⟩ := hQ
        obtain ⟨hf4, hok4, hbad4, hx01⟩ := hf
        generalize f (nxt T L j + 1) = r2 at *
        by_cases hr2 : r2.1 = true
        · rw [if_pos hr2] at e1 e2 e3
          obtain ⟨h4, rfl⟩ := hok4 hr2
          exact g_go (tail _ _ _ (hE lt) hx01 h4.1.1 (ih _ r2.2.1 (jnE 7 E r2.2.2.2) (by have := (hsf.2 hr2).1; omega) (fun lt => jn67 (Or.inr rfl) (hE lt) (hbl hr2 lt)) (hF3.tr hf4) h4 e1 e2 e3)) ⟨rfl, rfl, trivial⟩
        · rw [if_neg hr2] at e1 e2 e3
          exact g_go (tail _ _ _ (hE lt) hx01 (hf4.1.lay h3.1.1) (exitB _ _ _ (jn67 (Or.inr rfl) (hE lt) hx01) (hf4.1.lay h3.1.1) (hF3.tr hf4) (hbad4 hr2) e1 e2)) ⟨rfl, rfl, trivial⟩
  exact main 240 M r.2.1 r.2.2.2 (by omega) (hrb hr) hf1 h1 (by rw [← hR]) (by rw [← hR]) (fun _ => by rw [← hR])
theorem jn0 {f : Int32} {w p : Nat} (h : PS M b nb off T L i f w) : (sgn T L p = 124 ↔ jnP T L 0 p = 6) ∧ (jnP T L 0 p = 0 ↔ ¬ sgn T L p = 124) := by
  have e1 := h.sg (j := p) (c := 124) (by decide)
  rw [show (nI 124 : Int32) = 124 from rfl] at e1
  rw [e1]
  unfold jnP jof
  by_cases hp : p < L
  · rw [if_pos hp]
    by_cases h1 : T p = 124
    · simp [h1, hp]
    · simp [h1]
  · simp [hp]
set_option maxRecDepth 20000 in
set_option maxHeartbeats 2000000 in
theorem r_conditionL (hx : gXok X) {w : Nat} {f : Nat → PR} (hs : SanF L f) (hbf : ∀ i, Bol (f i)) (hA : PaOK X (d + 2) b nb off T L w lt 0 0 f) {M0 : gM} {r : PR} (hr : r.1 = true) (hrb : Bol r) (hlt : LtR M0 lt) (hf1 : iFr M0 M) (h1 : PS M b nb off T L r.2.1 (-1) w) : gW X (gRoom (d + 3) 0 0) (gZ X gN0 0 0 (RB M0 lt b nb off T L w (sqP T L f 0 r))) gN0 yX11_condition cX11_condition 5 (some .boolean) 7 [(0, .ref 100), (3, .int (r.2.2.2 lt))] [] M 0 0 := by
  have h240 := h1.1.2.2.2.2.2.1.2.2.1
  unfold sqP
  rw [if_pos hr]
  generalize hR : (((lpP T L f 0 240 r.2.1 r.2.2.2).1, (lpP T L f 0 240 r.2.1 r.2.2.2).2.1, r.2.2.1 ++ (lpP T L f 0 240 r.2.1 r.2.2.2).2.2.1, (lpP T L f 0 240 r.2.1 r.2.2.2).2.2.2) : PR) = R
  have tail : ∀ (M1 : gM) (a x : Int32), (a = 0 ∨ a = 1) → (x = 0 ∨ x = 1) → gLay M1 → gW X (gRoom (d + 3) 0 0) (gZ X gN0 0 0 (RB M0 lt b nb off T L w R)) gN0 yX11_condition cX11_condition 5 (some .boolean) 7 [(0, .ref 100), (3, .int (clampL (jv 6 a.toInt64 x.toInt64)))] [] M1 0 0 → gW X (gRoom (d + 3) 0 0) (gZ X gN0 0 0 (RB M0 lt b nb off T L w R)) gN0 yX11_condition cX11_condition 5 (some .boolean) 40 [(0, .ref 100), (3, .int a)] [.int x] M1 0 0 := by
    intro M1 a x ha hx2 hL1 hk
    rcases ha with rfl | rfl
    · rcases hx2 with rfl | rfl
      · refine g_istore dX11_condition_40 (by decide) rfl ?_
        refine g_iload_n dX11_condition_42 rfl rfl rfl ?_
        refine g_if_ne (tgt := 51) dX11_condition_43 (by decide) rfl (fun h_ => absurd (by decide) h_) (fun _ => ?_)
        refine g_iload dX11_condition_46 rfl rfl ?_
        refine g_if_eq (tgt := 55) dX11_condition_48 (by decide) rfl (fun _ => ?_) (fun h_ => absurd (by decide) h_)
        refine g_iconst (v := 0) dX11_condition_55 (by decide) rfl ?_
        refine g_istore_n dX11_condition_56 rfl (by decide) rfl ?_
        refine g_goto (tgt := 7) dX11_condition_57 (by decide) ?_
        exact g_go hk ⟨rfl, rfl, trivial⟩
      · refine g_istore dX11_condition_40 (by decide) rfl ?_
        refine g_iload_n dX11_condition_42 rfl rfl rfl ?_
        refine g_if_ne (tgt := 51) dX11_condition_43 (by decide) rfl (fun h_ => absurd (by decide) h_) (fun _ => ?_)
        refine g_iload dX11_condition_46 rfl rfl ?_
        refine g_if_eq (tgt := 55) dX11_condition_48 (by decide) rfl (fun h_ => absurd h_ (by decide)) (fun _ => ?_)
        refine g_iconst (v := 1) dX11_condition_51 (by decide) rfl ?_
        refine g_goto (tgt := 56) dX11_condition_52 (by decide) ?_
        refine g_istore_n dX11_condition_56 rfl (by decide) rfl ?_
        refine g_goto (tgt := 7) dX11_condition_57 (by decide) ?_
        exact g_go hk ⟨rfl, rfl, trivial⟩
    · rcases hx2 with rfl | rfl
      · refine g_istore dX11_condition_40 (by decide) rfl ?_
        refine g_iload_n dX11_condition_42 rfl rfl rfl ?_
        refine g_if_ne (tgt := 51) dX11_condition_43 (by decide) rfl (fun _ => ?_) (fun h_ => absurd h_ (by decide))
        refine g_iconst (v := 1) dX11_condition_51 (by decide) rfl ?_
        refine g_goto (tgt := 56) dX11_condition_52 (by decide) ?_
        refine g_istore_n dX11_condition_56 rfl (by decide) rfl ?_
        refine g_goto (tgt := 7) dX11_condition_57 (by decide) ?_
        exact g_go hk ⟨rfl, rfl, trivial⟩
      · refine g_istore dX11_condition_40 (by decide) rfl ?_
        refine g_iload_n dX11_condition_42 rfl rfl rfl ?_
        refine g_if_ne (tgt := 51) dX11_condition_43 (by decide) rfl (fun _ => ?_) (fun h_ => absurd h_ (by decide))
        refine g_iconst (v := 1) dX11_condition_51 (by decide) rfl ?_
        refine g_goto (tgt := 56) dX11_condition_52 (by decide) ?_
        refine g_istore_n dX11_condition_56 rfl (by decide) rfl ?_
        refine g_goto (tgt := 7) dX11_condition_57 (by decide) ?_
        exact g_go hk ⟨rfl, rfl, trivial⟩
  have exitB : ∀ (M1 : gM) (a : Int32) (p : Nat), (a = 0 ∨ a = 1) → gLay M1 → iFr M0 M1 → gmi M1 100 11 = nI p ∧ ¬ gmi M1 100 11 = -1 → R.1 = false → R.2.1 = p → gW X (gRoom (d + 3) 0 0) (gZ X gN0 0 0 (RB M0 lt b nb off T L w R)) gN0 yX11_condition cX11_condition 5 (some .boolean) 7 [(0, .ref 100), (3, .int a)] [] M1 0 0 := by
    intro M1 a p hv01 hL1 hF hb e1 e2
    refine g_aload_n dX11_condition_7 rfl rfl rfl ?_
    refine g_getI dX11_condition_8 ff_X11_122 rfl (k100 hL1) rfl ?_
    refine g_iconst (v := -1) dX11_condition_11 (by decide) rfl ?_
    refine g_icmp_ne (tgt := 60) dX11_condition_12 (by decide) rfl (fun _ => ?_) (fun h_ => absurd h_ (hb.2))
    refine g_iload_n dX11_condition_60 rfl rfl rfl ?_
    exact g_iret dX11_condition_61 rfl (by first | rfl | exact b01 | exact nb01 hv01) (⟨_, rfl, hF, fun z => absurd (e1.symm.trans z) Bool.false_ne_true, fun _ => by rw [e2]; exact hb, hv01⟩)
  have main : ∀ (n : Nat) (M1 : gM) (j : Nat) (E : LE), L ≤ j + n → (∀ lt, E lt = 0 ∨ E lt = 1) → iFr M0 M1 → PS M1 b nb off T L j (-1) w → R.1 = (lpP T L f 0 n j E).1 → R.2.1 = (lpP T L f 0 n j E).2.1 → (R.1 = true → R.2.2.2 = (lpP T L f 0 n j E).2.2.2) → gW X (gRoom (d + 3) 0 0) (gZ X gN0 0 0 (RB M0 lt b nb off T L w R)) gN0 yX11_condition cX11_condition 5 (some .boolean) 7 [(0, .ref 100), (3, .int (E lt))] [] M1 0 0 := by
    have exitG : ∀ (M1 : gM) (j n : Nat) (E : LE), (∀ lt, E lt = 0 ∨ E lt = 1) → jnP T L 0 (nxt T L j) = 0 → iFr M0 M1 → PS M1 b nb off T L j (-1) w → R.1 = (lpP T L f 0 n j E).1 → R.2.1 = (lpP T L f 0 n j E).2.1 → (R.1 = true → R.2.2.2 = (lpP T L f 0 n j E).2.2.2) → gW X (gRoom (d + 3) 0 0) (gZ X gN0 0 0 (RB M0 lt b nb off T L w R)) gN0 yX11_condition cX11_condition 5 (some .boolean) 7 [(0, .ref 100), (3, .int (E lt))] [] M1 0 0 := by
      intro M1 j n E hE h0 hF h1 e1 e2 e3
      rw [lpP_end h0] at e1 e2 e3
      have f1 : R.1 = true := e1
      have f2 : R.2.1 = nxt T L j := e2
      have f3 := e3 f1
      have hne := (jn0 h1).2.mp h0
      have hv01 := hE lt
      refine g_aload_n dX11_condition_7 rfl rfl rfl ?_
      refine g_getI dX11_condition_8 ff_X11_122 rfl (k100 h1.1.1) rfl ?_
      refine g_iconst (v := -1) dX11_condition_11 (by decide) rfl ?_
      rw [h1.2.2.2.1]
      refine g_icmp_ne (tgt := 60) dX11_condition_12 (by decide) rfl (fun h_ => absurd (rfl) h_) (fun _ => ?_)
      refine g_aload_n dX11_condition_15 rfl rfl rfl ?_
      refine g_callVq (ci := 11) dX11_condition_16 lm_X11_132 mv_X11_look (r_look (d := d + 2) hx h1) rfl rfl (k100 h1.1.1) rfl rfl (Nat.le_of_ble_eq_true rfl) (gFit_room (by omega)) rfl (fun v M2 hQ => ?_)
      obtain ⟨rfl, hf⟩ := hQ
      refine g_bipush (v := 124) dX11_condition_19 (by decide) rfl ?_
      refine g_icmp_ne (tgt := 60) dX11_condition_21 (by decide) rfl (fun _ => ?_) (fun h_ => absurd h_ (hne))
      refine g_iload_n dX11_condition_60 rfl rfl rfl ?_
      exact g_iret dX11_condition_61 rfl (by first | rfl | exact b01 | exact nb01 hv01) (⟨_, rfl, hF.tr hf.1, fun _ => ⟨by rw [f2]; exact hf.2, by rw [f3]⟩, fun z => absurd f1 z, hv01⟩)
    intro n
    induction n with
    | zero =>
      intro M1 j E hj hE hF h1 e1 e2 e3
      exact exitG M1 j 0 E hE (jnP_end (by omega)) hF h1 e1 e2 e3
    | succ n ih =>
      intro M1 j E hj hE hF h1 e1 e2 e3
      by_cases h0 : jnP T L 0 (nxt T L j) = 0
      · exact exitG M1 j (n + 1) E hE h0 hF h1 e1 e2 e3
      · unfold lpP at e1 e2 e3
        rw [if_neg h0] at e1 e2 e3
        have hp := jnP_in h0
        have hgj := nxt_ge (T := T) (L := L) (i := j)
        have hjj := jn0 h1 (p := nxt T L j)
        have hsf := hs (nxt T L j + 1) hp
        have hbl := hbf (nxt T L j + 1)
        have hc : sgn T L (nxt T L j) = 124 := Decidable.by_contra (fun z => h0 (hjj.2.mpr z))
        rw [hjj.1.mp hc] at e1 e2 e3
        refine g_aload_n dX11_condition_7 rfl rfl rfl ?_
        refine g_getI dX11_condition_8 ff_X11_122 rfl (k100 h1.1.1) rfl ?_
        refine g_iconst (v := -1) dX11_condition_11 (by decide) rfl ?_
        rw [h1.2.2.2.1]
        refine g_icmp_ne (tgt := 60) dX11_condition_12 (by decide) rfl (fun h_ => absurd (rfl) h_) (fun _ => ?_)
        refine g_aload_n dX11_condition_15 rfl rfl rfl ?_
        refine g_callVq (ci := 11) dX11_condition_16 lm_X11_132 mv_X11_look (r_look (d := d + 2) hx h1) rfl rfl (k100 h1.1.1) rfl rfl (Nat.le_of_ble_eq_true rfl) (gFit_room (by omega)) rfl (fun v M2 hQ => ?_)
        obtain ⟨rfl, hf⟩ := hQ
        refine g_bipush (v := 124) dX11_condition_19 (by decide) rfl ?_
        obtain ⟨hf2, h2⟩ := hf
        refine g_icmp_ne (tgt := 60) dX11_condition_21 (by decide) rfl (fun h_ => absurd (hc) h_) (fun _ => ?_)
        refine g_aload_n dX11_condition_24 rfl rfl rfl ?_
        refine g_dup dX11_condition_25 rfl rfl ?_
        refine g_getI dX11_condition_26 ff_X11_113 rfl (k100 h2.1.1) rfl ?_
        refine g_iconst (v := 1) dX11_condition_29 (by decide) rfl ?_
        refine g_iadd dX11_condition_30 rfl ?_
        rw [h2.2.1, nI_1]
        refine g_putI dX11_condition_31 fp_X11_113 rfl rfl rfl (k100 h2.1.1) rfl ?_
        refine g_aload_n dX11_condition_34 rfl rfl rfl ?_
        refine g_iconst (v := 0) dX11_condition_35 (by decide) rfl ?_
        refine g_iconst (v := 0) dX11_condition_36 (by decide) rfl ?_
        have h3 := h2.at (j := nxt T L j + 1) hp
        have hF3 := (hF.tr hf2).tr (iFr.put (M := M2) (v := nI (nxt T L j + 1)) (Or.inl rfl))
        refine g_callVq (ci := 11) dX11_condition_37 lm_X11_188 mv_X11_part (hA h3 (hlt.fr hF3)) rfl rfl (k100 (gLay_I h2.1.1)) rfl rfl (Nat.le_of_ble_eq_true rfl) (gFit_room (by omega)) rfl (fun v M2 hQ => ?_)
        obtain ⟨xr, rfl, hf⟩ := hQ
        obtain ⟨hf4, hok4, hbad4, hx01⟩ := hf
        generalize f (nxt T L j + 1) = r2 at *
        by_cases hr2 : r2.1 = true
        · rw [if_pos hr2] at e1 e2 e3
          obtain ⟨h4, rfl⟩ := hok4 hr2
          exact g_go (tail _ _ _ (hE lt) hx01 h4.1.1 (ih _ r2.2.1 (jnE 6 E r2.2.2.2) (by have := (hsf.2 hr2).1; omega) (fun lt => jn67 (Or.inl rfl) (hE lt) (hbl hr2 lt)) (hF3.tr hf4) h4 e1 e2 e3)) ⟨rfl, rfl, trivial⟩
        · rw [if_neg hr2] at e1 e2 e3
          exact g_go (tail _ _ _ (hE lt) hx01 (hf4.1.lay h3.1.1) (exitB _ _ _ (jn67 (Or.inl rfl) (hE lt) hx01) (hf4.1.lay h3.1.1) (hF3.tr hf4) (hbad4 hr2) e1 e2)) ⟨rfl, rfl, trivial⟩
  exact main 240 M r.2.1 r.2.2.2 (by omega) (hrb hr) hf1 h1 (by rw [← hR]) (by rw [← hR]) (fun _ => by rw [← hR])
theorem r_part0 (hx : gXok X) {w : Nat} {f : Nat → PR} (hs : SanF L f) (hbf : ∀ i, Bol (f i)) {y : Int32} (hA : UnOK X (d + 2) b nb off T L w lt f) : PaOK X (d + 3) b nb off T L w lt 0 y (fun i => sqP T L f 1 (f i)) := by
  intro M i h hlt
  have hL := h.1.1
  refine gMet.of hx (by decide) (Nat.le_of_ble_eq_true rfl) ?_
  dsimp only
  refine g_iload_n dX11_part_0 rfl rfl rfl ?_
  refine g_if_eq (tgt := 13) dX11_part_1 (by decide) rfl (fun _ => ?_) (fun h_ => absurd (by decide) h_)
  refine g_aload_n dX11_part_13 rfl rfl rfl ?_
  refine g_callVq (ci := 11) dX11_part_14 lm_X11_178 mv_X11_unit (hA h hlt) rfl rfl (k100 hL) rfl rfl (Nat.le_of_ble_eq_true rfl) (gFit_room (by omega)) rfl (fun v M2 hQ => ?_)
  obtain ⟨xr, rfl, hf⟩ := hQ
  obtain ⟨hf1, hok, hbad, hv01⟩ := hf
  have hb2 := hbf i
  generalize f i = r at *
  by_cases hr : r.1 = true
  · obtain ⟨h1, rfl⟩ := hok hr
    refine g_istore_n dX11_part_17 rfl (by decide) rfl ?_
    exact g_go (r_partL hx hs hbf hA hr hb2 hlt hf1 h1) ⟨rfl, rfl, trivial⟩
  · unfold sqP
    rw [if_neg hr]
    have h3 := hbad hr
    refine g_istore_n dX11_part_17 rfl (by decide) rfl ?_
    refine g_aload_n dX11_part_18 rfl rfl rfl ?_
    refine g_getI dX11_part_19 ff_X11_122 rfl (k100 (hf1.1.lay hL)) rfl ?_
    refine g_iconst (v := -1) dX11_part_22 (by decide) rfl ?_
    refine g_icmp_ne (tgt := 69) dX11_part_23 (by decide) rfl (fun _ => ?_) (fun h_ => absurd h_ (h3.2))
    refine g_iload_n dX11_part_69 rfl rfl rfl ?_
    exact g_iret dX11_part_70 rfl (by first | rfl | exact b01 | exact nb01 hv01) (RB_f2 hf1 h3 hv01)
theorem r_part1 (hx : gXok X) {w : Nat} {f g : Nat → PR} (hs : SanF L f) (hbf : ∀ i, Bol (f i)) (hbg : ∀ i, Bol (g i)) {y : Int32} (hA : UnOK X (d + 2) b nb off T L w lt f) (hC : CmOK X (d + 2) b nb off T L w lt 1 y g) : PaOK X (d + 3) b nb off T L w lt 1 y (fun i => sqP T L f 1 (g i)) := by
  intro M i h hlt
  have hL := h.1.1
  refine gMet.of hx (by decide) (Nat.le_of_ble_eq_true rfl) ?_
  dsimp only
  refine g_iload_n dX11_part_0 rfl rfl rfl ?_
  refine g_if_eq (tgt := 13) dX11_part_1 (by decide) rfl (fun h_ => absurd h_ (by decide)) (fun _ => ?_)
  refine g_aload_n dX11_part_4 rfl rfl rfl ?_
  refine g_iconst (v := 1) dX11_part_5 (by decide) rfl ?_
  refine g_iload_n dX11_part_6 rfl rfl rfl ?_
  refine g_callVq (ci := 11) dX11_part_7 lm_X11_185 mv_X11_compares (hC h hlt) rfl rfl (k100 hL) rfl rfl (Nat.le_of_ble_eq_true rfl) (gFit_room (by omega)) rfl (fun v M2 hQ => ?_)
  obtain ⟨xr, rfl, hf⟩ := hQ
  refine g_goto (tgt := 17) dX11_part_10 (by decide) ?_
  obtain ⟨hf1, hok, hbad, hv01⟩ := hf
  have hb2 := hbg i
  generalize g i = r at *
  by_cases hr : r.1 = true
  · obtain ⟨h1, rfl⟩ := hok hr
    refine g_istore_n dX11_part_17 rfl (by decide) rfl ?_
    exact g_go (r_partL hx hs hbf hA hr hb2 hlt hf1 h1) ⟨rfl, rfl, trivial⟩
  · unfold sqP
    rw [if_neg hr]
    have h3 := hbad hr
    refine g_istore_n dX11_part_17 rfl (by decide) rfl ?_
    refine g_aload_n dX11_part_18 rfl rfl rfl ?_
    refine g_getI dX11_part_19 ff_X11_122 rfl (k100 (hf1.1.lay hL)) rfl ?_
    refine g_iconst (v := -1) dX11_part_22 (by decide) rfl ?_
    refine g_icmp_ne (tgt := 69) dX11_part_23 (by decide) rfl (fun _ => ?_) (fun h_ => absurd h_ (h3.2))
    refine g_iload_n dX11_part_69 rfl rfl rfl ?_
    exact g_iret dX11_part_70 rfl (by first | rfl | exact b01 | exact nb01 hv01) (RB_f2 hf1 h3 hv01)
theorem r_cond (hx : gXok X) {w : Nat} {f g : Nat → PR} (hs : SanF L f) (hbf : ∀ i, Bol (f i)) (hbg : ∀ i, Bol (g i)) {hb y : Int32} (hA : PaOK X (d + 2) b nb off T L w lt 0 0 f) (hC : PaOK X (d + 2) b nb off T L w lt hb y g) : CdOK X (d + 3) b nb off T L w lt hb y (fun i => sqP T L f 0 (g i)) := by
  intro M i h hlt
  have hL := h.1.1
  refine gMet.of hx (by decide) (Nat.le_of_ble_eq_true rfl) ?_
  dsimp only
  refine g_aload_n dX11_condition_0 rfl rfl rfl ?_
  refine g_iload_n dX11_condition_1 rfl rfl rfl ?_
  refine g_iload_n dX11_condition_2 rfl rfl rfl ?_
  refine g_callVq (ci := 11) dX11_condition_3 lm_X11_188 mv_X11_part (hC h hlt) rfl rfl (k100 hL) rfl rfl (Nat.le_of_ble_eq_true rfl) (gFit_room (by omega)) rfl (fun v M2 hQ => ?_)
  obtain ⟨xr, rfl, hf⟩ := hQ
  obtain ⟨hf1, hok, hbad, hv01⟩ := hf
  have hb2 := hbg i
  generalize g i = r at *
  by_cases hr : r.1 = true
  · obtain ⟨h1, rfl⟩ := hok hr
    refine g_istore_n dX11_condition_6 rfl (by decide) rfl ?_
    exact g_go (r_conditionL hx hs hbf hA hr hb2 hlt hf1 h1) ⟨rfl, rfl, trivial⟩
  · unfold sqP
    rw [if_neg hr]
    have h3 := hbad hr
    refine g_istore_n dX11_condition_6 rfl (by decide) rfl ?_
    refine g_aload_n dX11_condition_7 rfl rfl rfl ?_
    refine g_getI dX11_condition_8 ff_X11_122 rfl (k100 (hf1.1.lay hL)) rfl ?_
    refine g_iconst (v := -1) dX11_condition_11 (by decide) rfl ?_
    refine g_icmp_ne (tgt := 60) dX11_condition_12 (by decide) rfl (fun _ => ?_) (fun h_ => absurd h_ (h3.2))
    refine g_iload_n dX11_condition_60 rfl rfl rfl ?_
    exact g_iret dX11_condition_61 rfl (by first | rfl | exact b01 | exact nb01 hv01) (RB_f2 hf1 h3 hv01)
end F5
