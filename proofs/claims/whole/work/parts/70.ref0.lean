/-! the reference: texts -/
section F0
variable {X : gX} {M : gM} {d : Nat} {b nb off : Nat} {T : Nat → Nat} {L i : Nat}
/-- the text that is gone through -/
def RS (M : gM) (b nb off : Nat) (T : Nat → Nat) (L : Nat) : Prop := gLay M ∧ gmr M 100 5 = some b ∧ (gkd M b = 33 ∧ gln M b = nb) ∧ gmi M 100 8 = nI off ∧ gmi M 100 9 = nI L ∧ (off + L ≤ nb ∧ nb ≤ 960 ∧ L ≤ 240 ∧ b ≠ 100) ∧ ∀ k, k < L → gmi M b (off + k) = (nI (T k)).toInt8.toInt32 ∧ 0 < T k ∧ T k < 256
def iFr (M M2 : gM) : Prop := gFr (fun c => c = 100) M M2 ∧ ∀ j, j ≠ 10 → j ≠ 11 → j ≠ 12 → gmi M2 100 j = gmi M 100 j
theorem iFr.rf : iFr M M := ⟨gFr.rf, fun _ _ _ _ => rfl⟩
theorem iFr.tr {M1 M2 M3 : gM} (h : iFr M1 M2) (h2 : iFr M2 M3) : iFr M1 M3 := ⟨h.1.tr h2.1, fun j a b c => (h2.2 j a b c).trans (h.2 j a b c)⟩
theorem iFr.put {j : Nat} {v : Int32} (h : j = 10 ∨ j = 11 ∨ j = 12) : iFr M (gwI M 100 j v) := ⟨gFr.wI rfl, fun q a b c => by rw [gmi_I, va_up_ne _ _ (by omega)]⟩
theorem RS.fr {M2 : gM} (h : RS M b nb off T L) (hf : iFr M M2) : RS M2 b nb off T L := by
  obtain ⟨h1, h2, h3, h4, h5, h6, h7⟩ := h
  exact ⟨hf.1.lay h1, by rw [hf.1.2.1]; exact h2, by rw [(hf.1.1 b).1, (hf.1.1 b).2]; exact h3, by rw [hf.2 8 (by decide) (by decide) (by decide)]; exact h4, by rw [hf.2 9 (by decide) (by decide) (by decide)]; exact h5, h6, fun k hk => by rw [hf.1.2.2.2 b h6.2.2.2]; exact h7 k hk⟩
/-- at i, the fault f, w deep -/
def PS (M : gM) (b nb off : Nat) (T : Nat → Nat) (L i : Nat) (f : Int32) (w : Nat) : Prop := RS M b nb off T L ∧ gmi M 100 10 = nI i ∧ i ≤ L ∧ gmi M 100 11 = f ∧ gmi M 100 12 = nI w
theorem PS.at {f : Int32} {w j : Nat} (h : PS M b nb off T L i f w) (hj : j ≤ L) : PS (gwI M 100 10 (nI j)) b nb off T L j f w := ⟨h.1.fr (iFr.put (Or.inl rfl)), by rw [gmi_I, va_up_self], hj, by rw [gmi_I, va_up_ne _ _ (by decide)]; exact h.2.2.2.1, by rw [gmi_I, va_up_ne _ _ (by decide)]; exact h.2.2.2.2⟩
theorem PS.flt {f g : Int32} {w : Nat} (h : PS M b nb off T L i f w) : PS (gwI M 100 11 g) b nb off T L i g w := ⟨h.1.fr (iFr.put (Or.inr (Or.inl rfl))), by rw [gmi_I, va_up_ne _ _ (by decide)]; exact h.2.1, h.2.2.1, by rw [gmi_I, va_up_self], by rw [gmi_I, va_up_ne _ _ (by decide)]; exact h.2.2.2.2⟩
theorem PS.dp {f : Int32} {w v : Nat} (h : PS M b nb off T L i f w) : PS (gwI M 100 12 (nI v)) b nb off T L i f v := ⟨h.1.fr (iFr.put (Or.inr (Or.inr rfl))), by rw [gmi_I, va_up_ne _ _ (by decide)]; exact h.2.1, h.2.2.1, by rw [gmi_I, va_up_ne _ _ (by decide)]; exact h.2.2.2.1, by rw [gmi_I, va_up_self]⟩
theorem by_32 : ∀ t, t < 256 → (((nI t).toInt8.toInt32 = 32 ↔ t = 32) ∧ ((nI t).toInt8.toInt32 &&& 255 = nI t)) ∧ (¬ (nI t).toInt8.toInt32 < 48 ↔ 48 ≤ t ∧ t < 128) ∧ (48 ≤ t → t < 128 → ((57 < (nI t).toInt8.toInt32 ↔ 57 < t) ∧ (nI t).toInt8.toInt32 = nI t)) := by decide +kernel
/-- the sign that stands at i -/
theorem RS.byte {x : Int32} (h : RS M b nb off T L) (hi : i < L) (hx : x = nI i) : (nI off + x).toInt = ((off + i : Nat) : Int) ∧ off + i < nb := by
  obtain ⟨h1, h2, h3, h4, h5, h6, h7⟩ := h
  rw [hx, nI_add]
  exact ⟨nI_toInt (by omega), by omega⟩
set_option maxRecDepth 20000 in
set_option maxHeartbeats 1000000 in
theorem r_look (hx : gXok X) {f : Int32} {w : Nat} (h : PS M b nb off T L i f w) : gPos X (d + 0) yX11_look cX11_look 1 (some .int) [.ref 100] M (fun v M2 => v = some (.int (sgn T L (nxt T L i))) ∧ iFr M M2 ∧ PS M2 b nb off T L (nxt T L i) f w) := by
  have hi := h.2.2.1
  refine gMet.of hx (by decide) (Nat.le_of_ble_eq_true rfl) ?_
  have fin : ∀ (M1 : gM) (j : Nat), iFr M M1 → PS M1 b nb off T L j f w → nxt T L i = j → gW X (gRoom (d + 0) 0 0) (gZ X gN0 0 0 (fun v M2 => v = some (.int (sgn T L (nxt T L i))) ∧ iFr M M2 ∧ PS M2 b nb off T L (nxt T L i) f w)) gN0 yX11_look cX11_look 1 (some .int) 43 [(0, .ref 100)] [] M1 0 0 := by
    intro M1 j hF h1 hj
    rw [hj]
    obtain ⟨hL, r_100_5, ⟨k_b, l_b⟩, e8, e9, hb, hT⟩ := id h1.1
    have e10 := h1.2.1
    have hjL := h1.2.2.1
    by_cases hjl : j < L
    · rw [show sgn T L j = nI (T j) from if_pos hjl, ← (by_32 (T j) (hT j hjl).2.2).1.2]
      refine g_aload_n dX11_look_43 rfl rfl rfl ?_
      refine g_getI dX11_look_44 ff_X11_113 rfl (k100 hL) rfl ?_
      refine g_aload_n dX11_look_47 rfl rfl rfl ?_
      refine g_getI dX11_look_48 ff_X11_116 rfl (k100 hL) rfl ?_
      rw [e10, e9]
      refine g_icmp_ge (tgt := 75) dX11_look_51 (by decide) rfl (fun h_ => absurd h_ (nI_ge hjl (by omega))) (fun _ => ?_)
      refine g_aload_n dX11_look_54 rfl rfl rfl ?_
      refine g_getR dX11_look_55 ff_X11_23 rfl (k100 hL) (r_100_5) rfl ?_
      refine g_aload_n dX11_look_58 rfl rfl rfl ?_
      refine g_getI dX11_look_59 ff_X11_119 rfl (k100 hL) rfl ?_
      refine g_aload_n dX11_look_62 rfl rfl rfl ?_
      refine g_getI dX11_look_63 ff_X11_113 rfl (k100 hL) rfl ?_
      rw [e8, e10]
      refine g_iadd dX11_look_66 rfl ?_
      refine g_bald (i := (off + j)) dX11_look_67 (k_b) (l_b) ((h1.1.byte hjl rfl).1) ((h1.1.byte hjl rfl).2) rfl ?_
      rw [(hT j hjl).1]
      refine g_sipush (v := 255) dX11_look_68 (by decide) rfl ?_
      refine g_iand dX11_look_71 rfl ?_
      refine g_goto (tgt := 76) dX11_look_72 (by decide) ?_
      exact g_iret dX11_look_76 rfl (by first | rfl | exact b01) (⟨rfl, hF, h1⟩)
    · rw [show sgn T L j = -1 from if_neg hjl]
      refine g_aload_n dX11_look_43 rfl rfl rfl ?_
      refine g_getI dX11_look_44 ff_X11_113 rfl (k100 hL) rfl ?_
      refine g_aload_n dX11_look_47 rfl rfl rfl ?_
      refine g_getI dX11_look_48 ff_X11_116 rfl (k100 hL) rfl ?_
      rw [e10, e9]
      refine g_icmp_ge (tgt := 75) dX11_look_51 (by decide) rfl (fun _ => ?_) (fun h_ => absurd (nI_le (by omega) (by omega)) h_)
      refine g_iconst (v := -1) dX11_look_75 (by decide) rfl ?_
      exact g_iret dX11_look_76 rfl (by first | rfl | exact b01) (⟨rfl, hF, h1⟩)
  refine g_loopM (fun _ => [(0, .ref 100)]) (fun k M1 => iFr M M1 ∧ PS M1 b nb off T L k f w ∧ nxt T L k = nxt T L i) L i hi ⟨rfl, trivial⟩ ⟨iFr.rf, h, rfl⟩ (fun M1 hI => ?_) (fun k M1 hik hk hI ih => ?_)
  · obtain ⟨hF, h1, hn⟩ := hI
    obtain ⟨hL, r_100_5, ⟨k_b, l_b⟩, e8, e9, hb, hT⟩ := id h1.1
    have e10 := h1.2.1
    refine g_aload_n dX11_look_0 rfl rfl rfl ?_
    refine g_getI dX11_look_1 ff_X11_113 rfl (k100 hL) rfl ?_
    refine g_aload_n dX11_look_4 rfl rfl rfl ?_
    refine g_getI dX11_look_5 ff_X11_116 rfl (k100 hL) rfl ?_
    rw [e10, e9]
    refine g_icmp_ge (tgt := 43) dX11_look_8 (by decide) rfl (fun _ => ?_) (fun h_ => absurd (nI_le (Nat.le_refl _) (by omega)) h_)
    exact fin M1 L hF h1 (by rw [← hn]; exact nxt_e (by omega))
  · obtain ⟨hF, h1, hn⟩ := hI
    obtain ⟨hL, r_100_5, ⟨k_b, l_b⟩, e8, e9, hb, hT⟩ := id h1.1
    have e10 := h1.2.1
    have h32 := (by_32 (T k) (hT k hk).2.2).1.1
    refine g_aload_n dX11_look_0 rfl rfl rfl ?_
    refine g_getI dX11_look_1 ff_X11_113 rfl (k100 hL) rfl ?_
    refine g_aload_n dX11_look_4 rfl rfl rfl ?_
    refine g_getI dX11_look_5 ff_X11_116 rfl (k100 hL) rfl ?_
    rw [e10, e9]
    refine g_icmp_ge (tgt := 43) dX11_look_8 (by decide) rfl (fun h_ => absurd h_ (nI_ge hk (by omega))) (fun _ => ?_)
    refine g_aload_n dX11_look_11 rfl rfl rfl ?_
    refine g_getR dX11_look_12 ff_X11_23 rfl (k100 hL) (r_100_5) rfl ?_
    refine g_aload_n dX11_look_15 rfl rfl rfl ?_
    refine g_getI dX11_look_16 ff_X11_119 rfl (k100 hL) rfl ?_
    refine g_aload_n dX11_look_19 rfl rfl rfl ?_
    refine g_getI dX11_look_20 ff_X11_113 rfl (k100 hL) rfl ?_
    rw [e8, e10]
    refine g_iadd dX11_look_23 rfl ?_
    refine g_bald (i := (off + k)) dX11_look_24 (k_b) (l_b) ((h1.1.byte hk rfl).1) ((h1.1.byte hk rfl).2) rfl ?_
    rw [(hT k hk).1]
    refine g_bipush (v := 32) dX11_look_25 (by decide) rfl ?_
    refine g_icmp_ne (tgt := 43) dX11_look_27 (by decide) rfl (fun h27 => ?_) (fun h27 => ?_)
    · exact fin M1 k hF h1 (by rw [← hn]; exact nxt_e (fun q => h27 (h32.mpr q.2)))
    · refine g_aload_n dX11_look_30 rfl rfl rfl ?_
      refine g_dup dX11_look_31 rfl rfl ?_
      refine g_getI dX11_look_32 ff_X11_113 rfl (k100 hL) rfl ?_
      refine g_iconst (v := 1) dX11_look_35 (by decide) rfl ?_
      refine g_iadd dX11_look_36 rfl ?_
      rw [e10, nI_1]
      refine g_putI dX11_look_37 fp_X11_113 rfl rfl rfl (k100 hL) rfl ?_
      refine g_goto (tgt := 0) dX11_look_40 (by decide) ?_
      exact g_go (ih _ ⟨hF.tr (iFr.put (Or.inl rfl)), h1.at (by omega), by rw [← hn, nxt_s ⟨hk, h32.mp h27⟩]⟩) ⟨rfl, trivial⟩
theorem r_fails0 (hx : gXok X) {w : Nat} (h : PS M b nb off T L i (-1) w) : gPos X (d + 0) yX11_fails cX11_fails 1 (some .boolean) [.ref 100] M (fun v M2 => v = some (.int 0) ∧ iFr M M2 ∧ PS M2 b nb off T L i (nI i) w) := by
  have hL := h.1.1
  refine gMet.of hx (by decide) (Nat.le_of_ble_eq_true rfl) ?_
  refine g_aload_n dX11_fails_0 rfl rfl rfl ?_
  refine g_getI dX11_fails_1 ff_X11_122 rfl (k100 hL) rfl ?_
  refine g_iconst (v := -1) dX11_fails_4 (by decide) rfl ?_
  rw [h.2.2.2.1]
  refine g_icmp_ne (tgt := 16) dX11_fails_5 (by decide) rfl (fun h_ => absurd (rfl) h_) (fun _ => ?_)
  refine g_aload_n dX11_fails_8 rfl rfl rfl ?_
  refine g_aload_n dX11_fails_9 rfl rfl rfl ?_
  refine g_getI dX11_fails_10 ff_X11_113 rfl (k100 hL) rfl ?_
  rw [h.2.1]
  refine g_putI dX11_fails_13 fp_X11_122 rfl rfl rfl (k100 hL) rfl ?_
  refine g_iconst (v := 0) dX11_fails_16 (by decide) rfl ?_
  exact g_iret dX11_fails_17 rfl (by first | rfl | exact b01) (⟨rfl, iFr.put (Or.inr (Or.inl rfl)), h.flt⟩)
theorem r_fails1 (hx : gXok X) (hL : gLay M) (h : ¬ gmi M 100 11 = -1) : gDet X (d + 0) yX11_fails cX11_fails 1 (some .boolean) [.ref 100] M (some (.int 0)) M := by
  refine gMet.of hx (by decide) (Nat.le_of_ble_eq_true rfl) ?_
  refine g_aload_n dX11_fails_0 rfl rfl rfl ?_
  refine g_getI dX11_fails_1 ff_X11_122 rfl (k100 hL) rfl ?_
  refine g_iconst (v := -1) dX11_fails_4 (by decide) rfl ?_
  refine g_icmp_ne (tgt := 16) dX11_fails_5 (by decide) rfl (fun _ => ?_) (fun h_ => absurd h_ (h))
  refine g_iconst (v := 0) dX11_fails_16 (by decide) rfl ?_
  exact g_iret dX11_fails_17 rfl (by first | rfl | exact b01) (⟨by first | rfl | assumption | exact gFr.rf | grind [ib], by first | rfl | assumption | exact gFr.rf | grind [ib]⟩)
theorem r_isDigit (hx : gXok X) {f : Int32} {w : Nat} (h : PS M b nb off T L i f w) : gDet X (d + 0) yX11_isDigit cX11_isDigit 1 (some .boolean) [.ref 100] M (some (.int (ib (dig T L i = true)))) M := by
  obtain ⟨hL, r_100_5, ⟨k_b, l_b⟩, e8, e9, hb, hT⟩ := id h.1
  have e10 := h.2.1
  refine gMet.of hx (by decide) (Nat.le_of_ble_eq_true rfl) ?_
  by_cases hk : i < L
  · have hby := by_32 (T i) (hT i hk).2.2
    refine g_aload_n dX11_isDigit_0 rfl rfl rfl ?_
    refine g_getI dX11_isDigit_1 ff_X11_113 rfl (k100 hL) rfl ?_
    refine g_aload_n dX11_isDigit_4 rfl rfl rfl ?_
    refine g_getI dX11_isDigit_5 ff_X11_116 rfl (k100 hL) rfl ?_
    rw [e10, e9]
    refine g_icmp_ge (tgt := 53) dX11_isDigit_8 (by decide) rfl (fun h_ => absurd h_ (nI_ge hk (by omega))) (fun _ => ?_)
    refine g_aload_n dX11_isDigit_11 rfl rfl rfl ?_
    refine g_getR dX11_isDigit_12 ff_X11_23 rfl (k100 hL) (r_100_5) rfl ?_
    refine g_aload_n dX11_isDigit_15 rfl rfl rfl ?_
    refine g_getI dX11_isDigit_16 ff_X11_119 rfl (k100 hL) rfl ?_
    refine g_aload_n dX11_isDigit_19 rfl rfl rfl ?_
    refine g_getI dX11_isDigit_20 ff_X11_113 rfl (k100 hL) rfl ?_
    rw [e8, e10]
    refine g_iadd dX11_isDigit_23 rfl ?_
    refine g_bald (i := (off + i)) dX11_isDigit_24 (k_b) (l_b) ((h.1.byte hk rfl).1) ((h.1.byte hk rfl).2) rfl ?_
    rw [(hT i hk).1]
    refine g_bipush (v := 48) dX11_isDigit_25 (by decide) rfl ?_
    refine g_icmp_lt (tgt := 53) dX11_isDigit_27 (by decide) rfl (fun h27 => ?_) (fun h27 => ?_)
    · have hd0 : ¬ dig T L i = true := fun q => by have z := dig_lt q; first | exact hby.2.1.mpr ⟨z.2.1, by omega⟩ h27 | exact absurd ((hby.2.2 z.2.1 (by omega)).1.mp h46) (by omega)
      refine g_iconst (v := 0) dX11_isDigit_53 (by decide) rfl ?_
      exact g_iret dX11_isDigit_54 rfl (by first | rfl | exact b01) (⟨by first | rw [ib_t hd1] | rw [ib_f hd0], rfl⟩)
    · refine g_aload_n dX11_isDigit_30 rfl rfl rfl ?_
      refine g_getR dX11_isDigit_31 ff_X11_23 rfl (k100 hL) (r_100_5) rfl ?_
      refine g_aload_n dX11_isDigit_34 rfl rfl rfl ?_
      refine g_getI dX11_isDigit_35 ff_X11_119 rfl (k100 hL) rfl ?_
      refine g_aload_n dX11_isDigit_38 rfl rfl rfl ?_
      refine g_getI dX11_isDigit_39 ff_X11_113 rfl (k100 hL) rfl ?_
      rw [e8, e10]
      refine g_iadd dX11_isDigit_42 rfl ?_
      refine g_bald (i := (off + i)) dX11_isDigit_43 (k_b) (l_b) ((h.1.byte hk rfl).1) ((h.1.byte hk rfl).2) rfl ?_
      rw [(hT i hk).1]
      refine g_bipush (v := 57) dX11_isDigit_44 (by decide) rfl ?_
      refine g_icmp_gt (tgt := 53) dX11_isDigit_46 (by decide) rfl (fun h46 => ?_) (fun h46 => ?_)
      · have hd0 : ¬ dig T L i = true := fun q => by have z := dig_lt q; first | exact hby.2.1.mpr ⟨z.2.1, by omega⟩ h27 | exact absurd ((hby.2.2 z.2.1 (by omega)).1.mp h46) (by omega)
        refine g_iconst (v := 0) dX11_isDigit_53 (by decide) rfl ?_
        exact g_iret dX11_isDigit_54 rfl (by first | rfl | exact b01) (⟨by first | rw [ib_t hd1] | rw [ib_f hd0], rfl⟩)
      · have hd1 : dig T L i = true := by have z := hby.2.1.mp h27; unfold dig; rw [decide_eq_true hk, decide_eq_true z.1, decide_eq_true (show T i ≤ 57 from Nat.le_of_not_lt (fun q => h46 ((hby.2.2 z.1 z.2).1.mpr q)))]; rfl
        refine g_iconst (v := 1) dX11_isDigit_49 (by decide) rfl ?_
        refine g_goto (tgt := 54) dX11_isDigit_50 (by decide) ?_
        exact g_iret dX11_isDigit_54 rfl (by first | rfl | exact b01) (⟨by first | rw [ib_t hd1] | rw [ib_f hd0], rfl⟩)
  · have hd0 : ¬ dig T L i = true := fun q => hk (dig_lt q).1
    have hiL := h.2.2.1
    refine g_aload_n dX11_isDigit_0 rfl rfl rfl ?_
    refine g_getI dX11_isDigit_1 ff_X11_113 rfl (k100 hL) rfl ?_
    refine g_aload_n dX11_isDigit_4 rfl rfl rfl ?_
    refine g_getI dX11_isDigit_5 ff_X11_116 rfl (k100 hL) rfl ?_
    rw [e10, e9]
    refine g_icmp_ge (tgt := 53) dX11_isDigit_8 (by decide) rfl (fun _ => ?_) (fun h_ => absurd (nI_le (by omega) (by omega)) h_)
    refine g_iconst (v := 0) dX11_isDigit_53 (by decide) rfl ?_
    exact g_iret dX11_isDigit_54 rfl (by first | rfl | exact b01) (⟨by rw [ib_f hd0], rfl⟩)
theorem r_goesIn (hx : gXok X) {w : Nat} (h : PS M b nb off T L i (-1) w) (hi : i < L) (hw : w < 6) : gPos X (d + 1) yX11_goesIn cX11_goesIn 1 (some .boolean) [.ref 100] M (fun v M2 => v = some (.int 1) ∧ iFr M M2 ∧ PS M2 b nb off T L (i + 1) (-1) (w + 1)) := by
  have hL := h.1.1
  refine gMet.of hx (by decide) (Nat.le_of_ble_eq_true rfl) ?_
  refine g_aload_n dX11_goesIn_0 rfl rfl rfl ?_
  refine g_getI dX11_goesIn_1 ff_X11_125 rfl (k100 hL) rfl ?_
  refine g_bipush (v := 6) dX11_goesIn_4 (by decide) rfl ?_
  rw [h.2.2.2.2]
  refine g_icmp_ne (tgt := 14) dX11_goesIn_6 (by decide) rfl (fun _ => ?_) (fun h_ => absurd h_ (fun q => absurd ((qeq w 6 rfl rfl (by omega) (by decide)).mp q) (by omega)))
  refine g_aload_n dX11_goesIn_14 rfl rfl rfl ?_
  refine g_dup dX11_goesIn_15 rfl rfl ?_
  refine g_getI dX11_goesIn_16 ff_X11_125 rfl (k100 hL) rfl ?_
  refine g_iconst (v := 1) dX11_goesIn_19 (by decide) rfl ?_
  refine g_iadd dX11_goesIn_20 rfl ?_
  rw [h.2.2.2.2, nI_1]
  refine g_putI dX11_goesIn_21 fp_X11_125 rfl rfl rfl (k100 hL) rfl ?_
  refine g_aload_n dX11_goesIn_24 rfl rfl rfl ?_
  refine g_dup dX11_goesIn_25 rfl rfl ?_
  refine g_getI dX11_goesIn_26 ff_X11_113 rfl (k100 (gLay_I hL)) rfl ?_
  refine g_iconst (v := 1) dX11_goesIn_29 (by decide) rfl ?_
  refine g_iadd dX11_goesIn_30 rfl ?_
  rw [gmi_I, va_up_ne _ _ (show (10 : Nat) ≠ 12 by decide), h.2.1, nI_1]
  refine g_putI dX11_goesIn_31 fp_X11_113 rfl rfl rfl (k100 (gLay_I hL)) rfl ?_
  refine g_iconst (v := 1) dX11_goesIn_34 (by decide) rfl ?_
  exact g_iret dX11_goesIn_35 rfl (by first | rfl | exact b01) (⟨rfl, (iFr.put (Or.inr (Or.inr rfl))).tr (iFr.put (Or.inl rfl)), (h.dp).at (by omega)⟩)
theorem r_goesIn6 (hx : gXok X) (h : PS M b nb off T L i (-1) 6) : gPos X (d + 1) yX11_goesIn cX11_goesIn 1 (some .boolean) [.ref 100] M (fun v M2 => v = some (.int 0) ∧ iFr M M2 ∧ PS M2 b nb off T L i (nI i) 6) := by
  have hL := h.1.1
  refine gMet.of hx (by decide) (Nat.le_of_ble_eq_true rfl) ?_
  refine g_aload_n dX11_goesIn_0 rfl rfl rfl ?_
  refine g_getI dX11_goesIn_1 ff_X11_125 rfl (k100 hL) rfl ?_
  refine g_bipush (v := 6) dX11_goesIn_4 (by decide) rfl ?_
  rw [h.2.2.2.2]
  refine g_icmp_ne (tgt := 14) dX11_goesIn_6 (by decide) rfl (fun h_ => absurd (rfl) h_) (fun _ => ?_)
  refine g_aload_n dX11_goesIn_9 rfl rfl rfl ?_
  refine g_callVq (ci := 11) dX11_goesIn_10 lm_X11_128 mv_X11_fails (r_fails0 (d := d) hx h) rfl rfl (k100 hL) rfl rfl (Nat.le_of_ble_eq_true rfl) (gFit_room (by omega)) rfl (fun v M2 hQ => ?_)
  obtain ⟨rfl, hf⟩ := hQ
  exact g_iret dX11_goesIn_13 rfl (by first | rfl | exact b01) (⟨rfl, hf⟩)
end F0
