section H23
variable {X : gX} {M : gM} {d : Nat} {T : Nat → Nat} {L i : Nat}
/-- a reader of the tape -/
abbrev PT (M : gM) (T : Nat → Nat) (L i : Nat) (f : Int32) (w : Nat) : Prop := PS M 101 240 0 T L i f w
set_option maxRecDepth 20000 in
theorem r_here (hx : gXok X) {f : Int32} {w : Nat} (h : PT M T L i f w) : gDet X (d + 0) yX11_here cX11_here 1 (some .int) [.ref 100] M (some (.int (sgn T L i))) M := by
  obtain ⟨hL, r_100_5, ⟨k_b, l_b⟩, e8, e9, hb, hT⟩ := id h.1
  have h240 := hb.2.2.1
  have hiL := h.2.2.1
  have e10 := h.2.1
  refine gMet.of hx (by decide) (Nat.le_of_ble_eq_true rfl) ?_
  unfold sgn
  by_cases hi : i < L
  · rw [if_pos hi]
    have hby := (by_32 (T i) (hT i hi).2.2).1.2
    have hat := (hT i hi).1
    refine g_aload_n dX11_here_0 rfl rfl rfl ?_
    refine g_getI dX11_here_1 ff_X11_113 rfl (k100 hL) rfl ?_
    refine g_aload_n dX11_here_4 rfl rfl rfl ?_
    refine g_getI dX11_here_5 ff_X11_116 rfl (k100 hL) rfl ?_
    rw [e10, e9]
    refine g_icmp_ge (tgt := 32) dX11_here_8 (by decide) rfl (fun h_ => absurd h_ (nI_ge hi (by omega))) (fun _ => ?_)
    refine g_aload_n dX11_here_11 rfl rfl rfl ?_
    refine g_getR dX11_here_12 ff_X11_23 rfl (k100 hL) (r_100_5) rfl ?_
    refine g_aload_n dX11_here_15 rfl rfl rfl ?_
    refine g_getI dX11_here_16 ff_X11_119 rfl (k100 hL) rfl ?_
    refine g_aload_n dX11_here_19 rfl rfl rfl ?_
    refine g_getI dX11_here_20 ff_X11_113 rfl (k100 hL) rfl ?_
    rw [e8, e10]
    refine g_iadd dX11_here_23 rfl ?_
    refine g_bald (i := (0 + i)) dX11_here_24 (k_b) (l_b) ((h.1.byte hi rfl).1) ((h.1.byte hi rfl).2) rfl ?_
    rw [hat]
    refine g_sipush (v := 255) dX11_here_25 (by decide) rfl ?_
    refine g_iand dX11_here_28 rfl ?_
    refine g_goto (tgt := 33) dX11_here_29 (by decide) ?_
    exact g_iret dX11_here_33 rfl (by first | rfl | exact b01 | exact nb01 hv01) (⟨congrArg (fun y => some (Value.int y)) hby, rfl⟩)
  · rw [if_neg hi]
    refine g_aload_n dX11_here_0 rfl rfl rfl ?_
    refine g_getI dX11_here_1 ff_X11_113 rfl (k100 hL) rfl ?_
    refine g_aload_n dX11_here_4 rfl rfl rfl ?_
    refine g_getI dX11_here_5 ff_X11_116 rfl (k100 hL) rfl ?_
    rw [e10, e9]
    refine g_icmp_ge (tgt := 32) dX11_here_8 (by decide) rfl (fun _ => ?_) (fun h_ => absurd (nI_le (by omega) (by omega)) h_)
    refine g_iconst (v := -1) dX11_here_32 (by decide) rfl ?_
    exact g_iret dX11_here_33 rfl (by first | rfl | exact b01 | exact nb01 hv01) (⟨rfl, rfl⟩)
/-- what reading a number leaves -/
def NO (M : gM) (T : Nat → Nat) (L w : Nat) (r : Bool × Nat × Nat) : Option Value → gM → Prop := fun v M2 => ∃ x, v = some (.int x) ∧ iFr M M2 ∧ (r.1 = true → PT M2 T L r.2.1 (-1) w ∧ x = nI r.2.2) ∧ (¬ r.1 = true → gmi M2 100 11 = nI r.2.1 ∧ ¬ gmi M2 100 11 = -1)
theorem dgs_1 {p v : Nat} (h : dig T L p = true) (n : Nat) : dgs T L (n + 1) p v = dgs T L n (p + 1) (v * 10 + T p - 48) := by
  show (if dig T L p then dgs T L n (p + 1) (v * 10 + T p - 48) else (p, v)) = _
  rw [if_pos h]
theorem dgs_0 {p v : Nat} (h : ¬ dig T L p = true) (n : Nat) : dgs T L (n + 1) p v = (p, v) := by
  show (if dig T L p then dgs T L n (p + 1) (v * 10 + T p - 48) else (p, v)) = _
  rw [if_neg h]
set_option maxRecDepth 20000 in
theorem r_num67 (hx : gXok X) {M0 : gM} {w lo hi q v : Nat} {t : Int32} (hf0 : iFr M0 M) (h : PT M T L q (-1) w) (hq : 0 < q) (hv : v < 100) (hlo : lo < 2 ^ 30) (hhi : hi < 2 ^ 30) {R : Bool × Nat × Nat} (hR : R = if dig T L q then (false, q, 0) else if v < lo ∨ hi < v then (false, q - 1, 0) else (true, q, v)) : gW X (gRoom (d + 1) 0 0) (gZ X gN0 0 0 (NO M0 T L w R)) gN0 yX11_number cX11_number 5 (some .int) 67 [(0, .ref 100), (1, .int (nI lo)), (2, .int (nI hi)), (3, .int t), (4, .int (nI v))] [] M 0 0 := by
  have hL := h.1.1
  have h240 := h.1.2.2.2.2.2.1.2.2.1
  have hqL := h.2.2.1
  by_cases hd : dig T L q = true
  · rw [if_pos hd] at hR
    refine g_aload_n dX11_number_67 rfl rfl rfl ?_
    refine g_callVdi (ci := 11) dX11_number_68 lm_X11_162 mv_X11_isDigit (r_isDigit (d := d) hx h) rfl rfl (k100 hL) rfl rfl (Nat.le_of_ble_eq_true rfl) (gFit_room (by omega)) rfl ?_
    rw [ib_t hd]
    refine g_if_eq (tgt := 81) dX11_number_71 (by decide) rfl (fun h_ => absurd h_ (by decide)) (fun _ => ?_)
    refine g_aload_n dX11_number_74 rfl rfl rfl ?_
    refine g_callVq (ci := 11) dX11_number_75 lm_X11_128 mv_X11_fails (r_fails0 (d := d) hx h) rfl rfl (k100 hL) rfl rfl (Nat.le_of_ble_eq_true rfl) (gFit_room (by omega)) rfl (fun v M2 hQ => ?_)
    obtain ⟨rfl, hf⟩ := hQ
    refine g_pop dX11_number_78 rfl rfl ?_
    refine g_iconst (v := 0) dX11_number_79 (by decide) rfl ?_
    exact g_iret dX11_number_80 rfl (by first | rfl | exact b01 | exact nb01 hv01) (hR ▸ ⟨_, rfl, hf0.tr hf.1, fun z => absurd z Bool.false_ne_true, fun _ => hf.2.ft (show q < 2 ^ 31 by omega)⟩)
  · rw [if_neg hd] at hR
    by_cases hb : v < lo ∨ hi < v
    · rw [if_pos hb] at hR
      have hin : ¬ (nI lo ≤ nI v ∧ nI v ≤ nI hi) := fun y => by
        have y1 := (nI_leI (by omega) (by omega)).mp y.1
        have y2 := (nI_leI (by omega) (by omega)).mp y.2
        omega
      have h2 := h.at (j := q - 1) (show q - 1 ≤ L by omega)
      refine g_aload_n dX11_number_67 rfl rfl rfl ?_
      refine g_callVdi (ci := 11) dX11_number_68 lm_X11_162 mv_X11_isDigit (r_isDigit (d := d) hx h) rfl rfl (k100 hL) rfl rfl (Nat.le_of_ble_eq_true rfl) (gFit_room (by omega)) rfl ?_
      rw [ib_f hd]
      refine g_if_eq (tgt := 81) dX11_number_71 (by decide) rfl (fun _ => ?_) (fun h_ => absurd (by decide) h_)
      refine g_iload dX11_number_81 rfl rfl ?_
      refine g_i2l dX11_number_83 rfl ?_
      refine g_iload_n dX11_number_84 rfl rfl rfl ?_
      refine g_i2l dX11_number_85 rfl ?_
      refine g_iload_n dX11_number_86 rfl rfl rfl ?_
      refine g_i2l dX11_number_87 rfl ?_
      refine g_callSdi dX11_number_88 lm_X11_211 mv_X11_isIn (r_isIn (d := d) (x := nI v) (l := nI lo) (h := nI hi) hx rfl rfl rfl) rfl rfl (Nat.le_of_ble_eq_true rfl) (gFit_room (by omega)) rfl ?_
      rw [ib_f hin]
      refine g_if_ne (tgt := 109) dX11_number_91 (by decide) rfl (fun h_ => absurd (by decide) h_) (fun _ => ?_)
      refine g_aload_n dX11_number_94 rfl rfl rfl ?_
      refine g_dup dX11_number_95 rfl rfl ?_
      refine g_getI dX11_number_96 ff_X11_113 rfl (k100 hL) rfl ?_
      refine g_iconst (v := 1) dX11_number_99 (by decide) rfl ?_
      refine g_isub dX11_number_100 rfl ?_
      rw [h.2.1, nI_m1 hq]
      refine g_putI dX11_number_101 fp_X11_113 rfl rfl rfl (k100 hL) rfl ?_
      refine g_aload_n dX11_number_104 rfl rfl rfl ?_
      refine g_callVq (ci := 11) dX11_number_105 lm_X11_128 mv_X11_fails (r_fails0 (d := d) hx h2) rfl rfl (k100 (gLay_I hL)) rfl rfl (Nat.le_of_ble_eq_true rfl) (gFit_room (by omega)) rfl (fun v M2 hQ => ?_)
      obtain ⟨rfl, hf⟩ := hQ
      refine g_pop dX11_number_108 rfl rfl ?_
      refine g_iload dX11_number_109 rfl rfl ?_
      exact g_iret dX11_number_111 rfl (by first | rfl | exact b01 | exact nb01 hv01) (hR ▸ ⟨_, rfl, (hf0.tr (iFr.put (Or.inl rfl))).tr hf.1, fun z => absurd z Bool.false_ne_true, fun _ => hf.2.ft (show q - 1 < 2 ^ 31 by omega)⟩)
    · rw [if_neg hb] at hR
      have hin : nI lo ≤ nI v ∧ nI v ≤ nI hi := ⟨nI_le (by omega) (by omega), nI_le (by omega) (by omega)⟩
      refine g_aload_n dX11_number_67 rfl rfl rfl ?_
      refine g_callVdi (ci := 11) dX11_number_68 lm_X11_162 mv_X11_isDigit (r_isDigit (d := d) hx h) rfl rfl (k100 hL) rfl rfl (Nat.le_of_ble_eq_true rfl) (gFit_room (by omega)) rfl ?_
      rw [ib_f hd]
      refine g_if_eq (tgt := 81) dX11_number_71 (by decide) rfl (fun _ => ?_) (fun h_ => absurd (by decide) h_)
      refine g_iload dX11_number_81 rfl rfl ?_
      refine g_i2l dX11_number_83 rfl ?_
      refine g_iload_n dX11_number_84 rfl rfl rfl ?_
      refine g_i2l dX11_number_85 rfl ?_
      refine g_iload_n dX11_number_86 rfl rfl rfl ?_
      refine g_i2l dX11_number_87 rfl ?_
      refine g_callSdi dX11_number_88 lm_X11_211 mv_X11_isIn (r_isIn (d := d) (x := nI v) (l := nI lo) (h := nI hi) hx rfl rfl rfl) rfl rfl (Nat.le_of_ble_eq_true rfl) (gFit_room (by omega)) rfl ?_
      rw [ib_t hin]
      refine g_if_ne (tgt := 109) dX11_number_91 (by decide) rfl (fun _ => ?_) (fun h_ => absurd h_ (by decide))
      refine g_iload dX11_number_109 rfl rfl ?_
      exact g_iret dX11_number_111 rfl (by first | rfl | exact b01 | exact nb01 hv01) (hR ▸ ⟨_, rfl, hf0, fun _ => ⟨h, rfl⟩, fun z => absurd rfl z⟩)
set_option maxRecDepth 20000 in
theorem r_number (hx : gXok X) {w lo hi : Nat} (h : PT M T L i (-1) w) (hlo : lo < 2 ^ 30) (hhi : hi < 2 ^ 30) : gPos X (d + 1) yX11_number cX11_number 5 (some .int) [.ref 100, .int (nI lo), .int (nI hi)] M (NO M T L w (numP T L 2 lo hi i)) := by
  have h240 := h.1.2.2.2.2.2.1.2.2.1
  refine gMet.of hx (by decide) (Nat.le_of_ble_eq_true rfl) ?_
  unfold numP
  refine g_aload_n dX11_number_0 rfl rfl rfl ?_
  refine g_callVq (ci := 11) dX11_number_1 lm_X11_132 mv_X11_look (r_look (d := d) hx h) rfl rfl (k100 h.1.1) rfl rfl (Nat.le_of_ble_eq_true rfl) (gFit_room (by omega)) rfl (fun v M2 hQ => ?_)
  obtain ⟨rfl, hf⟩ := hQ
  obtain ⟨f1, h1⟩ := hf
  have hqL := h1.2.2.1
  generalize nxt T L i = p at *
  by_cases hd : dig T L p = true
  · rw [if_pos hd]
    have hdl := dig_lt hd
    have ht : sgn T L p = nI (T p) := if_pos hdl.1
    have e1 := dgs_1 (v := 0) hd 1
    rw [Nat.zero_mul, Nat.zero_add] at e1
    have h2 := h1.at (j := p + 1) (show p + 1 ≤ L by omega)
    have f2 : iFr M (gwI M2 100 10 (nI (p + 1))) := f1.tr (iFr.put (Or.inl rfl))
    rw [ht]
    by_cases hd2 : dig T L (p + 1) = true
    · have hdl2 := dig_lt hd2
      have e2 := dgs_1 (v := T p - 48) hd2 0
      have e3 : dgs T L 2 p 0 = (p + 2, (T p - 48) * 10 + T (p + 1) - 48) := by rw [e1, e2]; rfl
      have ht2 : sgn T L (p + 1) = nI (T (p + 1)) := if_pos hdl2.1
      have h3 := h2.at (j := p + 1 + 1) (show p + 1 + 1 ≤ L by omega)
      rw [e3]
      refine g_istore_n dX11_number_4 rfl (by decide) rfl ?_
      refine g_aload_n dX11_number_5 rfl rfl rfl ?_
      refine g_callVdi (ci := 11) dX11_number_6 lm_X11_162 mv_X11_isDigit (r_isDigit (d := d) hx h1) rfl rfl (k100 h1.1.1) rfl rfl (Nat.le_of_ble_eq_true rfl) (gFit_room (by omega)) rfl ?_
      rw [ib_t hd]
      refine g_if_ne (tgt := 19) dX11_number_9 (by decide) rfl (fun _ => ?_) (fun h_ => absurd h_ (by decide))
      refine g_iload_n dX11_number_19 rfl rfl rfl ?_
      refine g_bipush (v := 48) dX11_number_20 (by decide) rfl ?_
      refine g_isub dX11_number_22 rfl ?_
      rw [show (48 : Int32) = nI 48 from rfl, nI_sub hdl.2.1]
      refine g_istore dX11_number_23 (by decide) rfl ?_
      refine g_aload_n dX11_number_25 rfl rfl rfl ?_
      refine g_dup dX11_number_26 rfl rfl ?_
      refine g_getI dX11_number_27 ff_X11_113 rfl (k100 h1.1.1) rfl ?_
      refine g_iconst (v := 1) dX11_number_30 (by decide) rfl ?_
      refine g_iadd dX11_number_31 rfl ?_
      rw [h1.2.1, nI_1]
      refine g_putI dX11_number_32 fp_X11_113 rfl rfl rfl (k100 h1.1.1) rfl ?_
      refine g_aload_n dX11_number_35 rfl rfl rfl ?_
      refine g_callVdi (ci := 11) dX11_number_36 lm_X11_162 mv_X11_isDigit (r_isDigit (d := d) hx h2) rfl rfl (k100 (gLay_I h1.1.1)) rfl rfl (Nat.le_of_ble_eq_true rfl) (gFit_room (by omega)) rfl ?_
      rw [ib_t hd2]
      refine g_if_eq (tgt := 67) dX11_number_39 (by decide) rfl (fun h_ => absurd h_ (by decide)) (fun _ => ?_)
      refine g_bipush (v := 10) dX11_number_42 (by decide) rfl ?_
      refine g_iload dX11_number_44 rfl rfl ?_
      refine g_imul dX11_number_46 rfl ?_
      refine g_aload_n dX11_number_47 rfl rfl rfl ?_
      refine g_callVdi (ci := 11) dX11_number_48 lm_X11_208 mv_X11_here (r_here (d := d) hx h2) rfl rfl (k100 (gLay_I h1.1.1)) rfl rfl (Nat.le_of_ble_eq_true rfl) (gFit_room (by omega)) rfl ?_
      rw [ht2]
      refine g_iadd dX11_number_51 rfl ?_
      rw [show (10 : Int32) = nI 10 from rfl, pk_mul, nI_add]
      refine g_bipush (v := 48) dX11_number_52 (by decide) rfl ?_
      refine g_isub dX11_number_54 rfl ?_
      rw [show (48 : Int32) = nI 48 from rfl, nI_sub (by omega), show 10 * (T p - 48) + T (p + 1) - 48 = (T p - 48) * 10 + T (p + 1) - 48 by omega]
      refine g_istore dX11_number_55 (by decide) rfl ?_
      refine g_aload_n dX11_number_57 rfl rfl rfl ?_
      refine g_dup dX11_number_58 rfl rfl ?_
      refine g_getI dX11_number_59 ff_X11_113 rfl (k100 (gLay_I h1.1.1)) rfl ?_
      refine g_iconst (v := 1) dX11_number_62 (by decide) rfl ?_
      refine g_iadd dX11_number_63 rfl ?_
      rw [h2.2.1, nI_1]
      refine g_putI dX11_number_64 fp_X11_113 rfl rfl rfl (k100 (gLay_I h1.1.1)) rfl ?_
      exact g_go (r_num67 hx (f2.tr (iFr.put (Or.inl rfl))) h3 (by omega) (by omega) hlo hhi rfl) ⟨rfl, rfl, rfl, rfl, rfl, trivial⟩
    · have e2 := dgs_0 (v := T p - 48) hd2 0
      have e3 : dgs T L 2 p 0 = (p + 1, T p - 48) := by rw [e1, e2]
      rw [e3]
      refine g_istore_n dX11_number_4 rfl (by decide) rfl ?_
      refine g_aload_n dX11_number_5 rfl rfl rfl ?_
      refine g_callVdi (ci := 11) dX11_number_6 lm_X11_162 mv_X11_isDigit (r_isDigit (d := d) hx h1) rfl rfl (k100 h1.1.1) rfl rfl (Nat.le_of_ble_eq_true rfl) (gFit_room (by omega)) rfl ?_
      rw [ib_t hd]
      refine g_if_ne (tgt := 19) dX11_number_9 (by decide) rfl (fun _ => ?_) (fun h_ => absurd h_ (by decide))
      refine g_iload_n dX11_number_19 rfl rfl rfl ?_
      refine g_bipush (v := 48) dX11_number_20 (by decide) rfl ?_
      refine g_isub dX11_number_22 rfl ?_
      rw [show (48 : Int32) = nI 48 from rfl, nI_sub hdl.2.1]
      refine g_istore dX11_number_23 (by decide) rfl ?_
      refine g_aload_n dX11_number_25 rfl rfl rfl ?_
      refine g_dup dX11_number_26 rfl rfl ?_
      refine g_getI dX11_number_27 ff_X11_113 rfl (k100 h1.1.1) rfl ?_
      refine g_iconst (v := 1) dX11_number_30 (by decide) rfl ?_
      refine g_iadd dX11_number_31 rfl ?_
      rw [h1.2.1, nI_1]
      refine g_putI dX11_number_32 fp_X11_113 rfl rfl rfl (k100 h1.1.1) rfl ?_
      refine g_aload_n dX11_number_35 rfl rfl rfl ?_
      refine g_callVdi (ci := 11) dX11_number_36 lm_X11_162 mv_X11_isDigit (r_isDigit (d := d) hx h2) rfl rfl (k100 (gLay_I h1.1.1)) rfl rfl (Nat.le_of_ble_eq_true rfl) (gFit_room (by omega)) rfl ?_
      rw [ib_f hd2]
      refine g_if_eq (tgt := 67) dX11_number_39 (by decide) rfl (fun _ => ?_) (fun h_ => absurd (by decide) h_)
      exact g_go (r_num67 hx f2 h2 (by omega) (by omega) hlo hhi rfl) ⟨rfl, rfl, rfl, rfl, rfl, trivial⟩
  · rw [if_neg hd]
    refine g_istore_n dX11_number_4 rfl (by decide) rfl ?_
    refine g_aload_n dX11_number_5 rfl rfl rfl ?_
    refine g_callVdi (ci := 11) dX11_number_6 lm_X11_162 mv_X11_isDigit (r_isDigit (d := d) hx h1) rfl rfl (k100 h1.1.1) rfl rfl (Nat.le_of_ble_eq_true rfl) (gFit_room (by omega)) rfl ?_
    rw [ib_f hd]
    refine g_if_ne (tgt := 19) dX11_number_9 (by decide) rfl (fun h_ => absurd (by decide) h_) (fun _ => ?_)
    refine g_aload_n dX11_number_12 rfl rfl rfl ?_
    refine g_callVq (ci := 11) dX11_number_13 lm_X11_128 mv_X11_fails (r_fails0 (d := d) hx h1) rfl rfl (k100 h1.1.1) rfl rfl (Nat.le_of_ble_eq_true rfl) (gFit_room (by omega)) rfl (fun v M2 hQ => ?_)
    obtain ⟨rfl, hf⟩ := hQ
    refine g_pop dX11_number_16 rfl rfl ?_
    refine g_iconst (v := 0) dX11_number_17 (by decide) rfl ?_
    exact g_iret dX11_number_18 rfl (by first | rfl | exact b01 | exact nb01 hv01) (⟨_, rfl, f1.tr hf.1, fun z => absurd z Bool.false_ne_true, fun _ => hf.2.ft (show p < 2 ^ 31 by omega)⟩)
set_option maxRecDepth 20000 in
theorem r_digit (hx : gXok X) {w : Nat} (h : PT M T L i (-1) w) : gPos X (d + 1) yX11_digit cX11_digit 2 (some .int) [.ref 100] M (NO M T L w (digP T L i)) := by
  have h240 := h.1.2.2.2.2.2.1.2.2.1
  refine gMet.of hx (by decide) (Nat.le_of_ble_eq_true rfl) ?_
  unfold digP
  refine g_aload_n dX11_digit_0 rfl rfl rfl ?_
  refine g_callVq (ci := 11) dX11_digit_1 lm_X11_132 mv_X11_look (r_look (d := d) hx h) rfl rfl (k100 h.1.1) rfl rfl (Nat.le_of_ble_eq_true rfl) (gFit_room (by omega)) rfl (fun v M2 hQ => ?_)
  obtain ⟨rfl, hf⟩ := hQ
  obtain ⟨f1, h1⟩ := hf
  have hqL := h1.2.2.1
  generalize nxt T L i = p at *
  by_cases hd : dig T L p = true
  · rw [if_pos hd]
    have hdl := dig_lt hd
    have ht : sgn T L p = nI (T p) := if_pos hdl.1
    have h2 := h1.at (j := p + 1) (show p + 1 ≤ L by omega)
    rw [ht]
    refine g_istore_n dX11_digit_4 rfl (by decide) rfl ?_
    refine g_aload_n dX11_digit_5 rfl rfl rfl ?_
    refine g_callVdi (ci := 11) dX11_digit_6 lm_X11_162 mv_X11_isDigit (r_isDigit (d := d) hx h1) rfl rfl (k100 h1.1.1) rfl rfl (Nat.le_of_ble_eq_true rfl) (gFit_room (by omega)) rfl ?_
    rw [ib_t hd]
    refine g_if_ne (tgt := 19) dX11_digit_9 (by decide) rfl (fun _ => ?_) (fun h_ => absurd h_ (by decide))
    refine g_aload_n dX11_digit_19 rfl rfl rfl ?_
    refine g_dup dX11_digit_20 rfl rfl ?_
    refine g_getI dX11_digit_21 ff_X11_113 rfl (k100 h1.1.1) rfl ?_
    refine g_iconst (v := 1) dX11_digit_24 (by decide) rfl ?_
    refine g_iadd dX11_digit_25 rfl ?_
    rw [h1.2.1, nI_1]
    refine g_putI dX11_digit_26 fp_X11_113 rfl rfl rfl (k100 h1.1.1) rfl ?_
    refine g_iload_n dX11_digit_29 rfl rfl rfl ?_
    refine g_bipush (v := 48) dX11_digit_30 (by decide) rfl ?_
    refine g_isub dX11_digit_32 rfl ?_
    rw [show (48 : Int32) = nI 48 from rfl, nI_sub hdl.2.1]
    exact g_iret dX11_digit_33 rfl (by first | rfl | exact b01 | exact nb01 hv01) (⟨_, rfl, f1.tr (iFr.put (Or.inl rfl)), fun _ => ⟨h2, rfl⟩, fun z => absurd rfl z⟩)
  · rw [if_neg hd]
    refine g_istore_n dX11_digit_4 rfl (by decide) rfl ?_
    refine g_aload_n dX11_digit_5 rfl rfl rfl ?_
    refine g_callVdi (ci := 11) dX11_digit_6 lm_X11_162 mv_X11_isDigit (r_isDigit (d := d) hx h1) rfl rfl (k100 h1.1.1) rfl rfl (Nat.le_of_ble_eq_true rfl) (gFit_room (by omega)) rfl ?_
    rw [ib_f hd]
    refine g_if_ne (tgt := 19) dX11_digit_9 (by decide) rfl (fun h_ => absurd (by decide) h_) (fun _ => ?_)
    refine g_aload_n dX11_digit_12 rfl rfl rfl ?_
    refine g_callVq (ci := 11) dX11_digit_13 lm_X11_128 mv_X11_fails (r_fails0 (d := d) hx h1) rfl rfl (k100 h1.1.1) rfl rfl (Nat.le_of_ble_eq_true rfl) (gFit_room (by omega)) rfl (fun v M2 hQ => ?_)
    obtain ⟨rfl, hf⟩ := hQ
    refine g_pop dX11_digit_16 rfl rfl ?_
    refine g_iconst (v := 0) dX11_digit_17 (by decide) rfl ?_
    exact g_iret dX11_digit_18 rfl (by first | rfl | exact b01 | exact nb01 hv01) (⟨_, rfl, f1.tr hf.1, fun z => absurd z Bool.false_ne_true, fun _ => hf.2.ft (show p < 2 ^ 31 by omega)⟩)
/-- where a sign stands in a text of signs -/
def spV (k : Nat) (x : Int32) : Int32 := sfrom (fun j => decide (sB k j ≠ x)) (sLen.getD k 0) 0
theorem sfrom_ix {G : Nat → Bool} {m : Nat} : ∀ n i, i ≤ m → m < i + n → (∀ j, i ≤ j → j < m → G j = true) → G m = false → sfrom G n i = nI m
  | 0, i, h1, h2, _, _ => absurd h2 (by omega)
  | n + 1, i, h1, h2, h3, h4 => by
    show (if G i then sfrom G n (i + 1) else nI i) = nI m
    by_cases e : i = m
    · subst e; rw [h4]; rfl
    · rw [h3 i (Nat.le_refl _) (by omega), if_pos rfl]
      exact sfrom_ix n (i + 1) (by omega) (by omega) (fun j a b => h3 j (by omega) b) h4
theorem sfrom_no {G : Nat → Bool} : ∀ n i, (∀ j, i ≤ j → j < i + n → G j = true) → sfrom G n i = -1
  | 0, _, _ => rfl
  | n + 1, i, h => by
    show (if G i then sfrom G n (i + 1) else nI i) = -1
    rw [h i (Nat.le_refl _) (by omega), if_pos rfl]
    exact sfrom_no n (i + 1) (fun j a b => h j (by omega) (by omega))
set_option maxRecDepth 20000 in
theorem r_spotOf (hx : gXok X) (hZ : gSt X) {k : Nat} (hk : k < 8) {x : Int32} : gDet X (d + 4) yX11_spotOf cX11_spotOf 3 (some .int) [.ref (5010 + k), .int x] M (some (.int (spV k x))) M := by
  have hl := sL_le k hk
  refine gMet.of hx (by decide) (Nat.le_of_ble_eq_true rfl) ?_
  refine g_iconst (v := 0) dX11_spotOf_0 (by decide) rfl ?_
  refine g_istore_n dX11_spotOf_1 rfl (by decide) rfl ?_
  refine g_loopM (fun j => [(0, .ref (5010 + k)), (1, .int x), (2, .int (nI j))]) (fun j M1 => M1 = M ∧ ∀ e, e < j → decide (sB k e ≠ x) = true) (sLen.getD k 0) 0 (Nat.zero_le _) ⟨rfl, rfl, rfl, trivial⟩ ⟨rfl, fun e he => absurd he (by omega)⟩ (fun M1 hI => ?_) (fun j M1 _ hj hI ih => ?_)
  · obtain ⟨rfl, hA⟩ := hI
    refine g_iload_n dX11_spotOf_2 rfl rfl rfl ?_
    refine g_aload_n dX11_spotOf_3 rfl rfl rfl ?_
    refine g_callU (i := k) dX11_spotOf_4 lm_X11_93 mv_J0_length_8abf5 (c_slen (d := d + 2) hx hZ hk) hZ hk rfl rfl rfl (Nat.le_of_ble_eq_true rfl) (gFit_room (by omega)) rfl ?_
    refine g_icmp_ge (tgt := 27) dX11_spotOf_7 (by decide) rfl (fun _ => ?_) (fun h_ => absurd (nI_le (Nat.le_refl _) (by omega)) h_)
    refine g_iconst (v := -1) dX11_spotOf_27 (by decide) rfl ?_
    exact g_iret dX11_spotOf_28 rfl (by first | rfl | exact b01 | exact nb01 hv01) (⟨by unfold spV; rw [sfrom_no _ _ (fun e _ he => hA e (by omega))], rfl⟩)
  · obtain ⟨rfl, hA⟩ := hI
    refine g_iload_n dX11_spotOf_2 rfl rfl rfl ?_
    refine g_aload_n dX11_spotOf_3 rfl rfl rfl ?_
    refine g_callU (i := k) dX11_spotOf_4 lm_X11_93 mv_J0_length_8abf5 (c_slen (d := d + 2) hx hZ hk) hZ hk rfl rfl rfl (Nat.le_of_ble_eq_true rfl) (gFit_room (by omega)) rfl ?_
    refine g_icmp_ge (tgt := 27) dX11_spotOf_7 (by decide) rfl (fun h_ => absurd h_ (nI_ge hj (by omega))) (fun _ => ?_)
    refine g_aload_n dX11_spotOf_10 rfl rfl rfl ?_
    refine g_iload_n dX11_spotOf_11 rfl rfl rfl ?_
    refine g_callU (i := k) dX11_spotOf_12 lm_X11_99 mv_J0_charAt_5068e (c_charAt (d := d) hx hZ hk hj) hZ hk rfl rfl rfl (Nat.le_of_ble_eq_true rfl) (gFit_room (by omega)) rfl ?_
    refine g_iload_n dX11_spotOf_15 rfl rfl rfl ?_
    refine g_icmp_ne (tgt := 21) dX11_spotOf_16 (by decide) rfl (fun h16 => ?_) (fun h16 => ?_)
    · refine g_iincV (c := 1) dX11_spotOf_21 rfl (by decide) (by decide) rfl ?_
      refine g_goto (tgt := 2) dX11_spotOf_24 (by decide) ?_
      refine g_go (ih M1 ⟨rfl, fun e he => ?_⟩) ⟨rfl, rfl, by rw [← nI_1 j]; rfl, trivial⟩
      by_cases e2 : e = j
      · rw [e2]; exact decide_eq_true h16
      · exact hA e (by omega)
    · refine g_iload_n dX11_spotOf_19 rfl rfl rfl ?_
      exact g_iret dX11_spotOf_20 rfl (by first | rfl | exact b01 | exact nb01 hv01) (⟨by unfold spV; rw [sfrom_ix _ _ (Nat.zero_le j) (by omega) (fun e _ he => hA e he) (decide_eq_false (fun z => z h16))], rfl⟩)
/-- the sign that begins a kind of clause -/
def kc (k : Nat) : Int32 := if k = 0 then 115 else if k = 1 then 112 else 100
def usV (x y : Int32) : Int32 := if x = 115 then (if y = 0 then 1 else 20) else if x = 112 then (if y = 1 then 3 else 0) else (if y = 0 then 3 else if y = 1 then 2 else 5)
def moV (x y : Int32) : Int32 := if x = 115 then (if y = 0 then 9 else 99) else if x = 112 then (if y = 0 then 99 else if y = 1 then 9 else 6) else 9
def leV (x y : Int32) : Int32 := if x = 100 ∧ ¬ y = 1 then 1 else 0
theorem tabs : ∀ k, k < 3 → ∀ j, j < sLen.getD (5 + k) 0 → usV (kc k) (nI j) = nI (untN (3 * k + j)) ∧ moV (kc k) (nI j) = nI (highN (3 * k + j)) ∧ leV (kc k) (nI j) = nI (lowN (3 * k + j)) := by decide +kernel
set_option maxRecDepth 20000 in
theorem r_usual (hx : gXok X) {x y : Int32} : gDet X (d + 0) yX11_usual cX11_usual 2 (some .int) [.int x, .int y] M (some (.int (usV x y))) M := by
  refine gMet.of hx (by decide) (Nat.le_of_ble_eq_true rfl) ?_
  unfold usV
  refine g_iload_n dX11_usual_0 rfl rfl rfl ?_
  refine g_bipush (v := 115) dX11_usual_1 (by decide) rfl ?_
  refine g_icmp_ne (tgt := 17) dX11_usual_3 (by decide) rfl (fun h3 => ?_) (fun h3 => ?_)
  · refine g_iload_n dX11_usual_17 rfl rfl rfl ?_
    refine g_bipush (v := 112) dX11_usual_18 (by decide) rfl ?_
    refine g_icmp_ne (tgt := 34) dX11_usual_20 (by decide) rfl (fun h20 => ?_) (fun h20 => ?_)
    · refine g_iload_n dX11_usual_34 rfl rfl rfl ?_
      refine g_if_ne (tgt := 42) dX11_usual_35 (by decide) rfl (fun h35 => ?_) (fun h35 => ?_)
      · refine g_iload_n dX11_usual_42 rfl rfl rfl ?_
        refine g_iconst (v := 1) dX11_usual_43 (by decide) rfl ?_
        refine g_icmp_ne (tgt := 51) dX11_usual_44 (by decide) rfl (fun h44 => ?_) (fun h44 => ?_)
        · refine g_iconst (v := 5) dX11_usual_51 (by decide) rfl ?_
          exact g_iret dX11_usual_52 rfl (by first | rfl | exact b01 | exact nb01 hv01) (⟨by first | rfl | assumption | exact gFr.rf | grind [ib], by first | rfl | assumption | exact gFr.rf | grind [ib]⟩)
        · refine g_iconst (v := 2) dX11_usual_47 (by decide) rfl ?_
          refine g_goto (tgt := 52) dX11_usual_48 (by decide) ?_
          exact g_iret dX11_usual_52 rfl (by first | rfl | exact b01 | exact nb01 hv01) (⟨by first | rfl | assumption | exact gFr.rf | grind [ib], by first | rfl | assumption | exact gFr.rf | grind [ib]⟩)
      · refine g_iconst (v := 3) dX11_usual_38 (by decide) rfl ?_
        refine g_goto (tgt := 52) dX11_usual_39 (by decide) ?_
        exact g_iret dX11_usual_52 rfl (by first | rfl | exact b01 | exact nb01 hv01) (⟨by first | rfl | assumption | exact gFr.rf | grind [ib], by first | rfl | assumption | exact gFr.rf | grind [ib]⟩)
    · refine g_iload_n dX11_usual_23 rfl rfl rfl ?_
      refine g_iconst (v := 1) dX11_usual_24 (by decide) rfl ?_
      refine g_icmp_ne (tgt := 32) dX11_usual_25 (by decide) rfl (fun h25 => ?_) (fun h25 => ?_)
      · refine g_iconst (v := 0) dX11_usual_32 (by decide) rfl ?_
        exact g_iret dX11_usual_33 rfl (by first | rfl | exact b01 | exact nb01 hv01) (⟨by first | rfl | assumption | exact gFr.rf | grind [ib], by first | rfl | assumption | exact gFr.rf | grind [ib]⟩)
      · refine g_iconst (v := 3) dX11_usual_28 (by decide) rfl ?_
        refine g_goto (tgt := 33) dX11_usual_29 (by decide) ?_
        exact g_iret dX11_usual_33 rfl (by first | rfl | exact b01 | exact nb01 hv01) (⟨by first | rfl | assumption | exact gFr.rf | grind [ib], by first | rfl | assumption | exact gFr.rf | grind [ib]⟩)
  · refine g_iload_n dX11_usual_6 rfl rfl rfl ?_
    refine g_if_ne (tgt := 14) dX11_usual_7 (by decide) rfl (fun h7 => ?_) (fun h7 => ?_)
    · refine g_bipush (v := 20) dX11_usual_14 (by decide) rfl ?_
      exact g_iret dX11_usual_16 rfl (by first | rfl | exact b01 | exact nb01 hv01) (⟨by first | rfl | assumption | exact gFr.rf | grind [ib], by first | rfl | assumption | exact gFr.rf | grind [ib]⟩)
    · refine g_iconst (v := 1) dX11_usual_10 (by decide) rfl ?_
      refine g_goto (tgt := 16) dX11_usual_11 (by decide) ?_
      exact g_iret dX11_usual_16 rfl (by first | rfl | exact b01 | exact nb01 hv01) (⟨by first | rfl | assumption | exact gFr.rf | grind [ib], by first | rfl | assumption | exact gFr.rf | grind [ib]⟩)
set_option maxRecDepth 20000 in
theorem r_mostOf (hx : gXok X) {x y : Int32} : gDet X (d + 0) yX11_mostOf cX11_mostOf 2 (some .int) [.int x, .int y] M (some (.int (moV x y))) M := by
  refine gMet.of hx (by decide) (Nat.le_of_ble_eq_true rfl) ?_
  unfold moV
  refine g_iload_n dX11_mostOf_0 rfl rfl rfl ?_
  refine g_bipush (v := 115) dX11_mostOf_1 (by decide) rfl ?_
  refine g_icmp_ne (tgt := 18) dX11_mostOf_3 (by decide) rfl (fun h3 => ?_) (fun h3 => ?_)
  · refine g_iload_n dX11_mostOf_18 rfl rfl rfl ?_
    refine g_bipush (v := 112) dX11_mostOf_19 (by decide) rfl ?_
    refine g_icmp_ne (tgt := 46) dX11_mostOf_21 (by decide) rfl (fun h21 => ?_) (fun h21 => ?_)
    · refine g_bipush (v := 9) dX11_mostOf_46 (by decide) rfl ?_
      exact g_iret dX11_mostOf_48 rfl (by first | rfl | exact b01 | exact nb01 hv01) (⟨by first | rfl | assumption | exact gFr.rf | grind [ib], by first | rfl | assumption | exact gFr.rf | grind [ib]⟩)
    · refine g_iload_n dX11_mostOf_24 rfl rfl rfl ?_
      refine g_if_ne (tgt := 33) dX11_mostOf_25 (by decide) rfl (fun h25 => ?_) (fun h25 => ?_)
      · refine g_iload_n dX11_mostOf_33 rfl rfl rfl ?_
        refine g_iconst (v := 1) dX11_mostOf_34 (by decide) rfl ?_
        refine g_icmp_ne (tgt := 43) dX11_mostOf_35 (by decide) rfl (fun h35 => ?_) (fun h35 => ?_)
        · refine g_bipush (v := 6) dX11_mostOf_43 (by decide) rfl ?_
          exact g_iret dX11_mostOf_45 rfl (by first | rfl | exact b01 | exact nb01 hv01) (⟨by first | rfl | assumption | exact gFr.rf | grind [ib], by first | rfl | assumption | exact gFr.rf | grind [ib]⟩)
        · refine g_bipush (v := 9) dX11_mostOf_38 (by decide) rfl ?_
          refine g_goto (tgt := 45) dX11_mostOf_40 (by decide) ?_
          exact g_iret dX11_mostOf_45 rfl (by first | rfl | exact b01 | exact nb01 hv01) (⟨by first | rfl | assumption | exact gFr.rf | grind [ib], by first | rfl | assumption | exact gFr.rf | grind [ib]⟩)
      · refine g_bipush (v := 99) dX11_mostOf_28 (by decide) rfl ?_
        refine g_goto (tgt := 45) dX11_mostOf_30 (by decide) ?_
        exact g_iret dX11_mostOf_45 rfl (by first | rfl | exact b01 | exact nb01 hv01) (⟨by first | rfl | assumption | exact gFr.rf | grind [ib], by first | rfl | assumption | exact gFr.rf | grind [ib]⟩)
  · refine g_iload_n dX11_mostOf_6 rfl rfl rfl ?_
    refine g_if_ne (tgt := 15) dX11_mostOf_7 (by decide) rfl (fun h7 => ?_) (fun h7 => ?_)
    · refine g_bipush (v := 99) dX11_mostOf_15 (by decide) rfl ?_
      exact g_iret dX11_mostOf_17 rfl (by first | rfl | exact b01 | exact nb01 hv01) (⟨by first | rfl | assumption | exact gFr.rf | grind [ib], by first | rfl | assumption | exact gFr.rf | grind [ib]⟩)
    · refine g_bipush (v := 9) dX11_mostOf_10 (by decide) rfl ?_
      refine g_goto (tgt := 17) dX11_mostOf_12 (by decide) ?_
      exact g_iret dX11_mostOf_17 rfl (by first | rfl | exact b01 | exact nb01 hv01) (⟨by first | rfl | assumption | exact gFr.rf | grind [ib], by first | rfl | assumption | exact gFr.rf | grind [ib]⟩)
set_option maxRecDepth 20000 in
theorem r_leastOf (hx : gXok X) {x y : Int32} : gDet X (d + 0) yX11_leastOf cX11_leastOf 2 (some .int) [.int x, .int y] M (some (.int (leV x y))) M := by
  refine gMet.of hx (by decide) (Nat.le_of_ble_eq_true rfl) ?_
  unfold leV
  refine g_iload_n dX11_leastOf_0 rfl rfl rfl ?_
  refine g_bipush (v := 100) dX11_leastOf_1 (by decide) rfl ?_
  refine g_icmp_ne (tgt := 15) dX11_leastOf_3 (by decide) rfl (fun h3 => ?_) (fun h3 => ?_)
  · refine g_iconst (v := 0) dX11_leastOf_15 (by decide) rfl ?_
    exact g_iret dX11_leastOf_16 rfl (by first | rfl | exact b01 | exact nb01 hv01) (⟨by first | rfl | assumption | exact gFr.rf | grind [ib], by first | rfl | assumption | exact gFr.rf | grind [ib]⟩)
  · refine g_iload_n dX11_leastOf_6 rfl rfl rfl ?_
    refine g_iconst (v := 1) dX11_leastOf_7 (by decide) rfl ?_
    refine g_icmp_eq (tgt := 15) dX11_leastOf_8 (by decide) rfl (fun h8 => ?_) (fun h8 => ?_)
    · refine g_iconst (v := 0) dX11_leastOf_15 (by decide) rfl ?_
      exact g_iret dX11_leastOf_16 rfl (by first | rfl | exact b01 | exact nb01 hv01) (⟨by first | rfl | assumption | exact gFr.rf | grind [ib], by first | rfl | assumption | exact gFr.rf | grind [ib]⟩)
    · refine g_iconst (v := 1) dX11_leastOf_11 (by decide) rfl ?_
      refine g_goto (tgt := 16) dX11_leastOf_12 (by decide) ?_
      exact g_iret dX11_leastOf_16 rfl (by first | rfl | exact b01 | exact nb01 hv01) (⟨by first | rfl | assumption | exact gFr.rf | grind [ib], by first | rfl | assumption | exact gFr.rf | grind [ib]⟩)
end H23
