/-! texts: signs T below L -/
def skp (T : Nat → Nat) (L : Nat) : Nat → Nat → Nat
  | 0, i => i
  | n + 1, i => if i < L ∧ T i = 32 then skp T L n (i + 1) else i
/-- the place of the next sign that is no blank -/
def nxt (T : Nat → Nat) (L i : Nat) : Nat := skp T L (L - i) i
def sgn (T : Nat → Nat) (L i : Nat) : Int32 := if i < L then nI (T i) else -1
def dig (T : Nat → Nat) (L i : Nat) : Bool := decide (i < L) && (decide (48 ≤ T i) && decide (T i ≤ 57))
theorem skp_le {T : Nat → Nat} {L : Nat} : ∀ {n i : Nat}, i ≤ skp T L n i ∧ (i ≤ L → skp T L n i ≤ L)
  | 0, i => ⟨Nat.le_refl _, id⟩
  | n + 1, i => by
    unfold skp
    split
    · have := skp_le (T := T) (L := L) (n := n) (i := i + 1)
      exact ⟨by omega, fun h => this.2 (by omega)⟩
    · exact ⟨Nat.le_refl _, id⟩
theorem nxt_ge {T : Nat → Nat} {L i : Nat} : i ≤ nxt T L i := skp_le.1
theorem nxt_le {T : Nat → Nat} {L i : Nat} (h : i ≤ L) : nxt T L i ≤ L := skp_le.2 h
theorem nxt_s {T : Nat → Nat} {L i : Nat} (h : i < L ∧ T i = 32) : nxt T L i = nxt T L (i + 1) := by
  unfold nxt
  rw [show L - i = (L - (i + 1)) + 1 by omega]
  show (if i < L ∧ T i = 32 then skp T L (L - (i + 1)) (i + 1) else i) = _
  rw [if_pos h]
theorem nxt_e {T : Nat → Nat} {L i : Nat} (h : ¬ (i < L ∧ T i = 32)) : nxt T L i = i := by
  unfold nxt
  by_cases e : i < L
  · rw [show L - i = (L - (i + 1)) + 1 by omega]
    show (if i < L ∧ T i = 32 then skp T L (L - (i + 1)) (i + 1) else i) = _
    rw [if_neg h]
  · rw [show L - i = 0 by omega]
    rfl
theorem skp_nb {T : Nat → Nat} {L : Nat} : ∀ {n i : Nat}, L ≤ i + n → ¬ (skp T L n i < L ∧ T (skp T L n i) = 32)
  | 0, i, h => fun q => by have : skp T L 0 i = i := rfl; omega
  | n + 1, i, h => by
    unfold skp
    split
    · exact skp_nb (by omega)
    · assumption
theorem nxt_nb {T : Nat → Nat} {L i : Nat} : ¬ (nxt T L i < L ∧ T (nxt T L i) = 32) := skp_nb (by omega)
theorem nxt_nxt {T : Nat → Nat} {L i : Nat} : nxt T L (nxt T L i) = nxt T L i := nxt_e nxt_nb
section T0
variable {X : gX} {M : gM} {d : Nat} {T : Nat → Nat} {L i : Nat}
/-- the tape's signs -/
def TapeC (M : gM) (T : Nat → Nat) (L : Nat) : Prop := gmi M 1 1 = nI L ∧ L ≤ 240 ∧ ∀ i, i < L → gmi M 2 i = nI (T i) ∧ 0 < T i ∧ T i < 256
def TC (M : gM) (T : Nat → Nat) (L i : Nat) : Prop := gLay M ∧ TapeC M T L ∧ gmi M 1 2 = nI i ∧ i ≤ L
/-- only the tape's own numbers have changed -/
def Tp (M M2 : gM) (T : Nat → Nat) (L j : Nat) : Prop := gFr (fun c => c = 1) M M2 ∧ TC M2 T L j
theorem TC.fr {M2 : gM} (h : TC M T L i) (hf : gFr (fun c => c = 1) M M2) (h1 : gmi M2 1 1 = gmi M 1 1) {j : Nat} (h2 : gmi M2 1 2 = nI j) (hj : j ≤ L) : TC M2 T L j :=
  ⟨hf.lay h.1, ⟨h1.trans h.2.1.1, h.2.1.2.1, fun k hk => by rw [hf.2.2.2 2 (by decide)]; exact h.2.1.2.2 k hk⟩, h2, hj⟩
theorem Tp.rf (h : TC M T L i) : Tp M M T L i := ⟨gFr.rf, h⟩
theorem Tp.tr {M2 M3 : gM} {j k : Nat} (h : Tp M M2 T L j) (h2 : Tp M2 M3 T L k) : Tp M M3 T L k := ⟨h.1.tr h2.1, h2.2⟩
theorem Tp.at {M2 : gM} {j k : Nat} (h : Tp M M2 T L j) (hk : k ≤ L) : Tp M (gwI M2 1 2 (nI k)) T L k :=
  ⟨h.1.tr (gFr.wI rfl), h.2.fr (gFr.wI rfl) (by rw [gmi_I, va_up_ne _ _ (by decide)]) (by rw [gmi_I, va_up_self]) hk⟩
theorem Tp.num {M2 : gM} {j : Nat} {v : Int32} (h : Tp M M2 T L j) : Tp M (gwI M2 1 3 v) T L j :=
  ⟨h.1.tr (gFr.wI rfl), h.2.fr (gFr.wI rfl) (by rw [gmi_I, va_up_ne _ _ (by decide)]) (by rw [gmi_I, va_up_ne _ _ (by decide)]; exact h.2.2.2.1) h.2.2.2.2⟩
set_option maxRecDepth 20000 in
set_option maxHeartbeats 1000000 in
theorem c_next (hx : gXok X) (h : TC M T L i) : gPos X (d + 0) yX7_next cX7_next 1 (some .int) [.ref 1] M (fun v M2 => v = some (.int (sgn T L (nxt T L i))) ∧ Tp M M2 T L (nxt T L i)) := by
  have hi := h.2.2.2
  have h240 := h.2.1.2.1
  refine gMet.of hx (by decide) (Nat.le_of_ble_eq_true rfl) ?_
  have fin : ∀ (M1 : gM) (j : Nat), Tp M M1 T L j → nxt T L i = j → gW X (gRoom (d + 0) 0 0) (gZ X gN0 0 0 (fun v M2 => v = some (.int (sgn T L (nxt T L i))) ∧ Tp M M2 T L (nxt T L i))) gN0 yX7_next cX7_next 1 (some .int) 38 [(0, .ref 1)] [] M1 0 0 := by
    intro M1 j hT1 hj
    rw [hj]
    have e2 := hT1.2.2.2.1
    have e1 := hT1.2.2.1.1
    have hjL := hT1.2.2.2.2
    have hL := hT1.2.1
    refine g_aload_n dX7_next_38 rfl rfl rfl ?_
    refine g_getI dX7_next_39 ff_X7_19 rfl (k1 hL) rfl ?_
    refine g_aload_n dX7_next_42 rfl rfl rfl ?_
    refine g_getI dX7_next_43 ff_X7_15 rfl (k1 hL) rfl ?_
    rw [e2, e1]
    refine g_icmp_ge (tgt := 61) dX7_next_46 (by decide) rfl (fun h46 => ?_) (fun h46 => ?_)
    · rw [show (sgn T L j) = -1 from if_neg (fun q => nI_ge q (by omega) h46)]
      refine g_iconst (v := -1) dX7_next_61 (by decide) rfl ?_
      exact g_iret dX7_next_62 rfl (by first | rfl | exact b01) (⟨by first | rfl | assumption | exact gFr.rf | grind [ib], by first | rfl | assumption | exact gFr.rf | grind [ib]⟩)
    · refine g_aload_n dX7_next_49 rfl rfl rfl ?_
      refine g_getR dX7_next_50 ff_X7_9 rfl (k1 hL) (r1_0 hL) rfl ?_
      refine g_aload_n dX7_next_53 rfl rfl rfl ?_
      refine g_getI dX7_next_54 ff_X7_19 rfl (k1 hL) rfl ?_
      rw [e2]
      have hjl : j < L := Nat.lt_of_not_le (fun q => h46 (nI_le q (by omega)))
      rw [show (sgn T L j) = nI (T j) from if_pos hjl, ← (hT1.2.2.1.2.2 j hjl).1]
      refine g_cald (i := j) dX7_next_57 (k2 hL) (l2 hL) (by (try simp only [nI_lit, pk_mul, nI_add, Nat.zero_add]); exact nI_toInt (by omega)) (by omega) rfl ?_
      refine g_goto (tgt := 62) dX7_next_58 (by decide) ?_
      exact g_iret dX7_next_62 rfl (by first | rfl | exact b01) (⟨by first | rfl | assumption | exact gFr.rf | grind [ib], by first | rfl | assumption | exact gFr.rf | grind [ib]⟩)
  refine g_loopM (fun _ => [(0, .ref 1)]) (fun k M1 => Tp M M1 T L k ∧ nxt T L k = nxt T L i) L i hi ⟨rfl, trivial⟩ ⟨Tp.rf h, rfl⟩ (fun M1 hI => ?_) (fun k M1 hik hk hI ih => ?_)
  · have e2 := hI.1.2.2.2.1
    have e1 := hI.1.2.2.1.1
    have hL := hI.1.2.1
    refine g_aload_n dX7_next_0 rfl rfl rfl ?_
    refine g_getI dX7_next_1 ff_X7_19 rfl (k1 hL) rfl ?_
    refine g_aload_n dX7_next_4 rfl rfl rfl ?_
    refine g_getI dX7_next_5 ff_X7_15 rfl (k1 hL) rfl ?_
    rw [e2, e1]
    refine g_icmp_ge (tgt := 38) dX7_next_8 (by decide) rfl (fun _ => ?_) (fun h_ => absurd (nI_le (Nat.le_refl _) (by omega)) h_)
    exact fin M1 L hI.1 (by rw [← hI.2]; exact nxt_e (by omega))
  · have e2 := hI.1.2.2.2.1
    have e1 := hI.1.2.2.1.1
    have hL := hI.1.2.1
    have ek := hI.1.2.2.1.2.2 k hk
    refine g_aload_n dX7_next_0 rfl rfl rfl ?_
    refine g_getI dX7_next_1 ff_X7_19 rfl (k1 hL) rfl ?_
    refine g_aload_n dX7_next_4 rfl rfl rfl ?_
    refine g_getI dX7_next_5 ff_X7_15 rfl (k1 hL) rfl ?_
    rw [e2, e1]
    refine g_icmp_ge (tgt := 38) dX7_next_8 (by decide) rfl (fun h_ => absurd h_ (nI_ge hk (by omega))) (fun _ => ?_)
    refine g_aload_n dX7_next_11 rfl rfl rfl ?_
    refine g_getR dX7_next_12 ff_X7_9 rfl (k1 hL) (r1_0 hL) rfl ?_
    refine g_aload_n dX7_next_15 rfl rfl rfl ?_
    refine g_getI dX7_next_16 ff_X7_19 rfl (k1 hL) rfl ?_
    rw [e2]
    refine g_cald (i := k) dX7_next_19 (k2 hL) (l2 hL) (by (try simp only [nI_lit, pk_mul, nI_add, Nat.zero_add]); exact nI_toInt (by omega)) (by omega) rfl ?_
    refine g_bipush (v := 32) dX7_next_20 (by decide) rfl ?_
    rw [ek.1]
    refine g_icmp_ne (tgt := 38) dX7_next_22 (by decide) rfl (fun h22 => ?_) (fun h22 => ?_)
    · exact fin M1 k hI.1 (by rw [← hI.2]; exact nxt_e (fun q => h22 (by rw [q.2]; rfl)))
    · refine g_aload_n dX7_next_25 rfl rfl rfl ?_
      refine g_dup dX7_next_26 rfl rfl ?_
      refine g_getI dX7_next_27 ff_X7_19 rfl (k1 hL) rfl ?_
      refine g_iconst (v := 1) dX7_next_30 (by decide) rfl ?_
      refine g_iadd dX7_next_31 rfl ?_
      rw [e2, nI_1]
      refine g_putI dX7_next_32 fp_X7_19 rfl rfl rfl (k1 hL) rfl ?_
      have h32 : T k = 32 := (qeq (T k) 32 rfl rfl (by omega) (by omega)).mp h22
      refine g_goto (tgt := 0) dX7_next_35 (by decide) ?_
      exact g_go (ih _ ⟨hI.1.at (by omega), by rw [← hI.2, nxt_s ⟨hk, h32⟩]⟩) ⟨rfl, trivial⟩
theorem c_pass (hx : gXok X) (h : TC M T L i) (hi : i < L) : gPos X (d + 0) yX7_pass cX7_pass 1 none [.ref 1] M (fun v M2 => v = none ∧ Tp M M2 T L (i + 1)) := by
  have hL := h.1
  refine gMet.of hx (by decide) (Nat.le_of_ble_eq_true rfl) ?_
  refine g_aload_n dX7_pass_0 rfl rfl rfl ?_
  refine g_dup dX7_pass_1 rfl rfl ?_
  refine g_getI dX7_pass_2 ff_X7_19 rfl (k1 hL) rfl ?_
  refine g_iconst (v := 1) dX7_pass_5 (by decide) rfl ?_
  refine g_iadd dX7_pass_6 rfl ?_
  rw [h.2.2.1, nI_1]
  refine g_putI dX7_pass_7 fp_X7_19 rfl rfl rfl (k1 hL) rfl ?_
  exact g_vret dX7_pass_10 rfl (⟨rfl, (Tp.rf h).at (by omega)⟩)
/-- whether the next sign is c -/
def isS (T : Nat → Nat) (L i c : Nat) : Bool := decide (nxt T L i < L) && decide (T (nxt T L i) = c)
theorem sgn_eq (h : TC M T L i) {j c : Nat} (hc : c < 2 ^ 31) : sgn T L j = nI c ↔ (j < L ∧ T j = c) := by
  unfold sgn
  by_cases hj : j < L
  · rw [if_pos hj, nI_eq (by have := (h.2.1.2.2 j hj).2.2; omega) hc]
    exact ⟨fun q => ⟨hj, q⟩, fun q => q.2⟩
  · rw [if_neg hj]
    exact ⟨fun q => absurd (show nI c < 0 by rw [← q]; decide) (nI_pos hc), fun q => absurd q.1 hj⟩
theorem isS_iff (h : TC M T L i) {j c : Nat} (hc : c < 2 ^ 31) : isS T L j c = true ↔ sgn T L (nxt T L j) = nI c := by
  rw [sgn_eq h hc]
  unfold isS
  rw [Bool.and_eq_true, decide_eq_true_iff, decide_eq_true_iff]
theorem c_passed (hx : gXok X) (h : TC M T L i) {c : Nat} (hc : c < 2 ^ 31) : gPos X (d + 1) yX7_passed cX7_passed 2 (some .boolean) [.ref 1, .int (nI c)] M (fun v M2 => v = some (.int (ib (isS T L i c = true))) ∧ Tp M M2 T L (nxt T L i + if isS T L i c then 1 else 0)) := by
  have hL := h.1
  have hn := nxt_le (T := T) h.2.2.2
  refine gMet.of hx (by decide) (Nat.le_of_ble_eq_true rfl) ?_
  refine g_aload_n dX7_passed_0 rfl rfl rfl ?_
  refine g_callVq (ci := 7) dX7_passed_1 lm_X7_22 mv_X7_next (c_next (d := d) hx h) rfl rfl (k1 hL) rfl rfl (Nat.le_of_ble_eq_true rfl) (gFit_room (by omega)) rfl (fun v M2 hQ => ?_)
  obtain ⟨rfl, hf⟩ := hQ
  refine g_iload_n dX7_passed_4 rfl rfl rfl ?_
  refine g_icmp_eq (tgt := 10) dX7_passed_5 (by decide) rfl (fun h5 => ?_) (fun h5 => ?_)
  · have hs := (isS_iff h hc).mpr h5
    have hlt : nxt T L i < L := of_decide_eq_true (Bool.and_eq_true _ _ ▸ hs : _ ∧ _).1
    refine g_aload_n dX7_passed_10 rfl rfl rfl ?_
    refine g_dup dX7_passed_11 rfl rfl ?_
    refine g_getI dX7_passed_12 ff_X7_19 rfl (k1 (hf.2.1)) rfl ?_
    refine g_iconst (v := 1) dX7_passed_15 (by decide) rfl ?_
    refine g_iadd dX7_passed_16 rfl ?_
    rw [hf.2.2.2.1, nI_1]
    refine g_putI dX7_passed_17 fp_X7_19 rfl rfl rfl (k1 (hf.2.1)) rfl ?_
    refine g_iconst (v := 1) dX7_passed_20 (by decide) rfl ?_
    exact g_iret dX7_passed_21 rfl (by first | rfl | exact b01) (⟨by rw [ib_t hs], by rw [if_pos hs]; exact hf.at (by omega)⟩)
  · refine g_iconst (v := 0) dX7_passed_8 (by decide) rfl ?_
    exact g_iret dX7_passed_9 rfl (by first | rfl | exact b01) (⟨by rw [ib_f (fun q => h5 ((isS_iff h hc).mp q))], by rw [if_neg (fun q => h5 ((isS_iff h hc).mp q))]; exact hf⟩)
theorem c_isDigit (hx : gXok X) (h : TC M T L i) : gDet X (d + 0) yX7_isDigitHere cX7_isDigitHere 1 (some .boolean) [.ref 1] M (some (.int (ib (dig T L i = true)))) M := by
  have hL := h.1
  have hi := h.2.2.2
  have h240 := h.2.1.2.1
  refine gMet.of hx (by decide) (Nat.le_of_ble_eq_true rfl) ?_
  refine g_aload_n dX7_isDigitHere_0 rfl rfl rfl ?_
  refine g_getI dX7_isDigitHere_1 ff_X7_19 rfl (k1 hL) rfl ?_
  refine g_aload_n dX7_isDigitHere_4 rfl rfl rfl ?_
  refine g_getI dX7_isDigitHere_5 ff_X7_15 rfl (k1 hL) rfl ?_
  rw [h.2.2.1, h.2.1.1]
  refine g_icmp_ge (tgt := 43) dX7_isDigitHere_8 (by decide) rfl (fun h8 => ?_) (fun h8 => ?_)
  · have hd0 : ¬ dig T L i = true := by first | (unfold dig; rw [decide_eq_false (fun q : i < L => nI_ge q (by omega) h8), Bool.false_and]; decide) | (unfold dig; rw [decide_eq_false (fun q : 48 ≤ T i => absurd ((qlt (T i) 48 rfl rfl (by omega) (by omega)).mp h22) (by omega)), Bool.false_and, Bool.and_false]; decide) | (unfold dig; rw [decide_eq_false (fun q : T i ≤ 57 => absurd ((qlt 57 (T i) rfl rfl (by omega) (by omega)).mp h36) (by omega)), Bool.and_false, Bool.and_false]; decide)
    refine g_iconst (v := 0) dX7_isDigitHere_43 (by decide) rfl ?_
    exact g_iret dX7_isDigitHere_44 rfl (by first | rfl | exact b01) (⟨by first | rw [ib_t hd1] | rw [ib_f hd0], rfl⟩)
  · have hjl : i < L := Nat.lt_of_not_le (fun q => h8 (nI_le q (by omega)))
    have et := h.2.1.2.2 i hjl
    refine g_aload_n dX7_isDigitHere_11 rfl rfl rfl ?_
    refine g_getR dX7_isDigitHere_12 ff_X7_9 rfl (k1 hL) (r1_0 hL) rfl ?_
    refine g_aload_n dX7_isDigitHere_15 rfl rfl rfl ?_
    refine g_getI dX7_isDigitHere_16 ff_X7_19 rfl (k1 hL) rfl ?_
    rw [h.2.2.1]
    refine g_cald (i := i) dX7_isDigitHere_19 (k2 hL) (l2 hL) (by (try simp only [nI_lit, pk_mul, nI_add, Nat.zero_add]); exact nI_toInt (by omega)) (by omega) rfl ?_
    refine g_bipush (v := 48) dX7_isDigitHere_20 (by decide) rfl ?_
    rw [et.1]
    refine g_icmp_lt (tgt := 43) dX7_isDigitHere_22 (by decide) rfl (fun h22 => ?_) (fun h22 => ?_)
    · have hd0 : ¬ dig T L i = true := by first | (unfold dig; rw [decide_eq_false (fun q : i < L => nI_ge q (by omega) h8), Bool.false_and]; decide) | (unfold dig; rw [decide_eq_false (fun q : 48 ≤ T i => absurd ((qlt (T i) 48 rfl rfl (by omega) (by omega)).mp h22) (by omega)), Bool.false_and, Bool.and_false]; decide) | (unfold dig; rw [decide_eq_false (fun q : T i ≤ 57 => absurd ((qlt 57 (T i) rfl rfl (by omega) (by omega)).mp h36) (by omega)), Bool.and_false, Bool.and_false]; decide)
      refine g_iconst (v := 0) dX7_isDigitHere_43 (by decide) rfl ?_
      exact g_iret dX7_isDigitHere_44 rfl (by first | rfl | exact b01) (⟨by first | rw [ib_t hd1] | rw [ib_f hd0], rfl⟩)
    · refine g_aload_n dX7_isDigitHere_25 rfl rfl rfl ?_
      refine g_getR dX7_isDigitHere_26 ff_X7_9 rfl (k1 hL) (r1_0 hL) rfl ?_
      refine g_aload_n dX7_isDigitHere_29 rfl rfl rfl ?_
      refine g_getI dX7_isDigitHere_30 ff_X7_19 rfl (k1 hL) rfl ?_
      rw [h.2.2.1]
      refine g_cald (i := i) dX7_isDigitHere_33 (k2 hL) (l2 hL) (by (try simp only [nI_lit, pk_mul, nI_add, Nat.zero_add]); exact nI_toInt (by omega)) (by omega) rfl ?_
      refine g_bipush (v := 57) dX7_isDigitHere_34 (by decide) rfl ?_
      rw [et.1]
      refine g_icmp_gt (tgt := 43) dX7_isDigitHere_36 (by decide) rfl (fun h36 => ?_) (fun h36 => ?_)
      · have hd0 : ¬ dig T L i = true := by first | (unfold dig; rw [decide_eq_false (fun q : i < L => nI_ge q (by omega) h8), Bool.false_and]; decide) | (unfold dig; rw [decide_eq_false (fun q : 48 ≤ T i => absurd ((qlt (T i) 48 rfl rfl (by omega) (by omega)).mp h22) (by omega)), Bool.false_and, Bool.and_false]; decide) | (unfold dig; rw [decide_eq_false (fun q : T i ≤ 57 => absurd ((qlt 57 (T i) rfl rfl (by omega) (by omega)).mp h36) (by omega)), Bool.and_false, Bool.and_false]; decide)
        refine g_iconst (v := 0) dX7_isDigitHere_43 (by decide) rfl ?_
        exact g_iret dX7_isDigitHere_44 rfl (by first | rfl | exact b01) (⟨by first | rw [ib_t hd1] | rw [ib_f hd0], rfl⟩)
      · have hd1 : dig T L i = true := by unfold dig; rw [decide_eq_true hjl, decide_eq_true (show 48 ≤ T i from Nat.le_of_not_lt (fun q => h22 ((qlt (T i) 48 rfl rfl (by omega) (by omega)).mpr q))), decide_eq_true (show T i ≤ 57 from Nat.le_of_not_lt (fun q => h36 ((qlt 57 (T i) rfl rfl (by omega) (by omega)).mpr q)))]; rfl
        refine g_iconst (v := 1) dX7_isDigitHere_39 (by decide) rfl ?_
        refine g_goto (tgt := 44) dX7_isDigitHere_40 (by decide) ?_
        exact g_iret dX7_isDigitHere_44 rfl (by first | rfl | exact b01) (⟨by first | rw [ib_t hd1] | rw [ib_f hd0], rfl⟩)
/-- digits, at most n of them -/
def dgs (T : Nat → Nat) (L : Nat) : Nat → Nat → Nat → Nat × Nat
  | 0, p, v => (p, v)
  | n + 1, p, v => if dig T L p then dgs T L n (p + 1) (v * 10 + T p - 48) else (p, v)
theorem dgs_le {T : Nat → Nat} {L : Nat} : ∀ {n p v : Nat}, p ≤ (dgs T L n p v).1 ∧ (p ≤ L → (dgs T L n p v).1 ≤ L)
  | 0, _, _ => ⟨Nat.le_refl _, id⟩
  | n + 1, p, v => by
    unfold dgs
    split
    · rename_i hd
      have := dgs_le (T := T) (L := L) (n := n) (p := p + 1) (v := v * 10 + T p - 48)
      unfold dig at hd
      rw [Bool.and_eq_true, decide_eq_true_iff] at hd
      exact ⟨by omega, fun _ => this.2 (by omega)⟩
    · exact ⟨Nat.le_refl _, id⟩
/-- a number: whether it stands there, the place behind it or of its fault, the number -/
def numP (T : Nat → Nat) (L mx lo hi i : Nat) : Bool × Nat × Nat :=
  if dig T L (nxt T L i) then
    (if dig T L (dgs T L mx (nxt T L i) 0).1 then (false, (dgs T L mx (nxt T L i) 0).1, 0)
     else if (dgs T L mx (nxt T L i) 0).2 < lo ∨ hi < (dgs T L mx (nxt T L i) 0).2 then (false, (dgs T L mx (nxt T L i) 0).1 - 1, 0)
     else (true, (dgs T L mx (nxt T L i) 0).1, (dgs T L mx (nxt T L i) 0).2))
  else (false, nxt T L i, 0)
theorem dig_lt {T : Nat → Nat} {L p : Nat} (h : dig T L p = true) : p < L ∧ 48 ≤ T p ∧ T p ≤ 57 := by
  unfold dig at h
  rw [Bool.and_eq_true, Bool.and_eq_true, decide_eq_true_iff, decide_eq_true_iff, decide_eq_true_iff] at h
  exact h
theorem dgs_v {T : Nat → Nat} {L : Nat} : ∀ {n p v : Nat}, (dgs T L n p v).2 < (v + 1) * 10 ^ n
  | 0, p, v => by show v < (v + 1) * 1; omega
  | n + 1, p, v => by
    unfold dgs
    split
    · rename_i hd
      have := dig_lt hd
      refine Nat.lt_of_lt_of_le dgs_v ?_
      rw [Nat.pow_succ, Nat.mul_comm (10 ^ n), ← Nat.mul_assoc]
      exact Nat.mul_le_mul_right _ (by omega)
    · have : 1 ≤ 10 ^ (n + 1) := Nat.le_trans Nat.one_le_two_pow (Nat.pow_le_pow_left (show 2 ≤ 10 by decide) (n + 1))
      calc v < (v + 1) * 1 := by omega
        _ ≤ (v + 1) * 10 ^ (n + 1) := Nat.mul_le_mul_left _ this
set_option maxRecDepth 20000 in
set_option maxHeartbeats 2000000 in
theorem c_readsNumber (hx : gXok X) (h : TC M T L i) {mx lo hi : Nat} (hm1 : 1 ≤ mx) (hm : mx ≤ 4) (hlo : lo < 2 ^ 30) (hhi : hi < 2 ^ 30) : gPos X (d + 1) yX7_readsNumber cX7_readsNumber 5 (some .boolean) [.ref 1, .int (nI mx), .int (nI lo), .int (nI hi)] M (fun v M2 => v = some (.int (ib ((numP T L mx lo hi i).1 = true))) ∧ Tp M M2 T L (numP T L mx lo hi i).2.1 ∧ ((numP T L mx lo hi i).1 = true → gmi M2 1 3 = nI (numP T L mx lo hi i).2.2)) := by
  have hL := h.1
  have hL0 := h.1
  have h240 := h.2.1.2.1
  have hnl := nxt_le (T := T) h.2.2.2
  refine gMet.of hx (by decide) (Nat.le_of_ble_eq_true rfl) ?_
  unfold numP
  refine g_aload_n dX7_readsNumber_0 rfl rfl rfl ?_
  refine g_callVq (ci := 7) dX7_readsNumber_1 lm_X7_22 mv_X7_next (c_next (d := d) hx h) rfl rfl (k1 hL) rfl rfl (Nat.le_of_ble_eq_true rfl) (gFit_room (by omega)) rfl (fun v M2 hQ => ?_)
  obtain ⟨rfl, hf⟩ := hQ
  refine g_pop dX7_readsNumber_4 rfl rfl ?_
  have hn := hf
  generalize hp0 : nxt T L i = p0 at *
  refine g_aload_n dX7_readsNumber_5 rfl rfl rfl ?_
  refine g_callVdi (ci := 7) dX7_readsNumber_6 lm_X7_26 mv_X7_isDigitHere (c_isDigit (d := d) hx hn.2) rfl rfl (k1 hn.2.1) rfl rfl (Nat.le_of_ble_eq_true rfl) (gFit_room (by omega)) rfl ?_
  refine g_ine (tgt := 14) dX7_readsNumber_9 (by decide) rfl (fun h9 => ?_) (fun h9 => ?_)
  · rw [if_pos h9]
    refine g_aload_n dX7_readsNumber_14 rfl rfl rfl ?_
    refine g_iconst (v := 0) dX7_readsNumber_15 (by decide) rfl ?_
    refine g_putI dX7_readsNumber_16 fp_X7_30 rfl rfl rfl (k1 hn.2.1) rfl ?_
    refine g_iconst (v := 0) dX7_readsNumber_19 (by decide) rfl ?_
    refine g_istore dX7_readsNumber_20 (by decide) rfl ?_
    have hp1 : 1 ≤ (dgs T L mx p0 0).1 := by
      obtain ⟨m, rfl⟩ : ∃ m, mx = m + 1 := ⟨mx - 1, by omega⟩
      unfold dgs
      rw [if_pos h9]
      have := (dgs_le (T := T) (L := L) (n := m) (p := p0 + 1) (v := 0 * 10 + T p0 - 48)).1
      omega
    have hvb : (dgs T L mx p0 0).2 < 10000 := Nat.lt_of_lt_of_le dgs_v (by rw [Nat.zero_add, Nat.one_mul]; exact Nat.le_trans (Nat.pow_le_pow_right (by omega) hm) (by decide))
    have fin : ∀ (M1 : gM) (k p v : Nat), Tp M M1 T L p → gmi M1 1 3 = nI v → dgs T L mx p0 0 = (p, v) → gW X (gRoom (d + 1) 0 0) (gZ X gN0 0 0 (fun v M2 => v = some (.int (ib ((if dig T L (dgs T L mx p0 0).1 then (false, (dgs T L mx p0 0).1, 0) else if (dgs T L mx p0 0).2 < lo ∨ hi < (dgs T L mx p0 0).2 then (false, (dgs T L mx p0 0).1 - 1, 0) else (true, (dgs T L mx p0 0).1, (dgs T L mx p0 0).2)).1 = true))) ∧ Tp M M2 T L (if dig T L (dgs T L mx p0 0).1 then (false, (dgs T L mx p0 0).1, 0) else if (dgs T L mx p0 0).2 < lo ∨ hi < (dgs T L mx p0 0).2 then (false, (dgs T L mx p0 0).1 - 1, 0) else (true, (dgs T L mx p0 0).1, (dgs T L mx p0 0).2)).2.1 ∧ ((if dig T L (dgs T L mx p0 0).1 then (false, (dgs T L mx p0 0).1, 0) else if (dgs T L mx p0 0).2 < lo ∨ hi < (dgs T L mx p0 0).2 then (false, (dgs T L mx p0 0).1 - 1, 0) else (true, (dgs T L mx p0 0).1, (dgs T L mx p0 0).2)).1 = true → gmi M2 1 3 = nI (if dig T L (dgs T L mx p0 0).1 then (false, (dgs T L mx p0 0).1, 0) else if (dgs T L mx p0 0).2 < lo ∨ hi < (dgs T L mx p0 0).2 then (false, (dgs T L mx p0 0).1 - 1, 0) else (true, (dgs T L mx p0 0).1, (dgs T L mx p0 0).2)).2.2))) gN0 yX7_readsNumber cX7_readsNumber 5 (some .boolean) 75 [(0, .ref 1), (1, .int (nI mx)), (2, .int (nI lo)), (3, .int (nI hi)), (4, .int (nI k))] [] M1 0 0 := by
      intro M1 k p v hT1 hv hd
      rw [hd] at hp1 hvb ⊢
      dsimp only at hp1 hvb ⊢
      have hpL := hT1.2.2.2.2
      refine g_aload_n dX7_readsNumber_75 rfl rfl rfl ?_
      refine g_callVdi (ci := 7) dX7_readsNumber_76 lm_X7_26 mv_X7_isDigitHere (c_isDigit (d := d) hx hT1.2) rfl rfl (k1 hT1.2.1) rfl rfl (Nat.le_of_ble_eq_true rfl) (gFit_room (by omega)) rfl ?_
      refine g_ieq (tgt := 84) dX7_readsNumber_79 (by decide) rfl (fun h79 => ?_) (fun h79 => ?_)
      · rw [if_neg h79]
        refine g_aload_n dX7_readsNumber_84 rfl rfl rfl ?_
        refine g_getI dX7_readsNumber_85 ff_X7_30 rfl (k1 hT1.2.1) rfl ?_
        refine g_iload_n dX7_readsNumber_88 rfl rfl rfl ?_
        rw [hv]
        refine g_icmp_lt (tgt := 100) dX7_readsNumber_89 (by decide) rfl (fun h89 => ?_) (fun h89 => ?_)
        · have hout : v < lo ∨ hi < v := by first | exact Or.inl ((qlt v lo rfl rfl (by omega) (by omega)).mp h89) | exact Or.inr ((qlt hi v rfl rfl (by omega) (by omega)).mp (Int32.not_le.mp h97))
          rw [if_pos hout]
          refine g_aload_n dX7_readsNumber_100 rfl rfl rfl ?_
          refine g_dup dX7_readsNumber_101 rfl rfl ?_
          refine g_getI dX7_readsNumber_102 ff_X7_19 rfl (k1 hT1.2.1) rfl ?_
          refine g_iconst (v := 1) dX7_readsNumber_105 (by decide) rfl ?_
          refine g_isub dX7_readsNumber_106 rfl ?_
          rw [hT1.2.2.2.1, nI_m1 hp1]
          refine g_putI dX7_readsNumber_107 fp_X7_19 rfl rfl rfl (k1 hT1.2.1) rfl ?_
          refine g_iconst (v := 0) dX7_readsNumber_110 (by decide) rfl ?_
          exact g_iret dX7_readsNumber_111 rfl (by first | rfl | exact b01) (⟨rfl, hT1.at (by omega), fun q => absurd q Bool.false_ne_true⟩)
        · refine g_aload_n dX7_readsNumber_92 rfl rfl rfl ?_
          refine g_getI dX7_readsNumber_93 ff_X7_30 rfl (k1 hT1.2.1) rfl ?_
          refine g_iload_n dX7_readsNumber_96 rfl rfl rfl ?_
          rw [hv]
          refine g_icmp_le (tgt := 112) dX7_readsNumber_97 (by decide) rfl (fun h97 => ?_) (fun h97 => ?_)
          · have hin : ¬ (v < lo ∨ hi < v) := fun q => q.elim (fun q => h89 ((qlt v lo rfl rfl (by omega) (by omega)).mpr q)) (fun q => absurd ((qlt hi v rfl rfl (by omega) (by omega)).mpr q) (Int32.not_lt.mpr h97))
            rw [if_neg hin]
            refine g_iconst (v := 1) dX7_readsNumber_112 (by decide) rfl ?_
            exact g_iret dX7_readsNumber_113 rfl (by first | rfl | exact b01) (⟨rfl, hT1, fun _ => hv⟩)
          · have hout : v < lo ∨ hi < v := by first | exact Or.inl ((qlt v lo rfl rfl (by omega) (by omega)).mp h89) | exact Or.inr ((qlt hi v rfl rfl (by omega) (by omega)).mp (Int32.not_le.mp h97))
            rw [if_pos hout]
            refine g_aload_n dX7_readsNumber_100 rfl rfl rfl ?_
            refine g_dup dX7_readsNumber_101 rfl rfl ?_
            refine g_getI dX7_readsNumber_102 ff_X7_19 rfl (k1 hT1.2.1) rfl ?_
            refine g_iconst (v := 1) dX7_readsNumber_105 (by decide) rfl ?_
            refine g_isub dX7_readsNumber_106 rfl ?_
            rw [hT1.2.2.2.1, nI_m1 hp1]
            refine g_putI dX7_readsNumber_107 fp_X7_19 rfl rfl rfl (k1 hT1.2.1) rfl ?_
            refine g_iconst (v := 0) dX7_readsNumber_110 (by decide) rfl ?_
            exact g_iret dX7_readsNumber_111 rfl (by first | rfl | exact b01) (⟨rfl, hT1.at (by omega), fun q => absurd q Bool.false_ne_true⟩)
      · refine g_iconst (v := 0) dX7_readsNumber_82 (by decide) rfl ?_
        exact g_iret dX7_readsNumber_83 rfl (by first | rfl | exact b01) (⟨by rw [if_pos h79]; rfl, by rw [if_pos h79]; exact hT1, by rw [if_pos h79]; exact fun q => absurd q Bool.false_ne_true⟩)
    refine g_loopM (fun k => [(0, .ref 1), (1, .int (nI mx)), (2, .int (nI lo)), (3, .int (nI hi)), (4, .int (nI k))]) (fun k M1 => ∃ p v, Tp M M1 T L p ∧ gmi M1 1 3 = nI v ∧ dgs T L (mx - k) p v = dgs T L mx p0 0) mx 0 (Nat.zero_le _) ⟨rfl, rfl, rfl, rfl, rfl, trivial⟩ ⟨p0, 0, hn.num, by rw [gmi_I, va_up_self]; rfl, rfl⟩ (fun M1 hI => ?_) (fun k M1 _ hk hI ih => ?_)
    · obtain ⟨p, v, hT1, hv, hd⟩ := hI
      rw [Nat.sub_self] at hd
      refine g_iload dX7_readsNumber_22 rfl rfl ?_
      refine g_iload_n dX7_readsNumber_24 rfl rfl rfl ?_
      refine g_icmp_ge (tgt := 75) dX7_readsNumber_25 (by decide) rfl (fun _ => ?_) (fun h_ => absurd (nI_le (Nat.le_refl _) (by omega)) h_)
      exact fin M1 mx p v hT1 hv hd.symm
    · obtain ⟨p, v, hT1, hv, hd⟩ := hI
      rw [show mx - k = (mx - (k + 1)) + 1 by omega] at hd
      have hd2 : (if dig T L p then dgs T L (mx - (k + 1)) (p + 1) (v * 10 + T p - 48) else (p, v)) = dgs T L mx p0 0 := hd
      have hpL := hT1.2.2.2.2
      refine g_iload dX7_readsNumber_22 rfl rfl ?_
      refine g_iload_n dX7_readsNumber_24 rfl rfl rfl ?_
      refine g_icmp_ge (tgt := 75) dX7_readsNumber_25 (by decide) rfl (fun h_ => absurd h_ (nI_ge hk (by omega))) (fun _ => ?_)
      refine g_aload_n dX7_readsNumber_28 rfl rfl rfl ?_
      refine g_callVdi (ci := 7) dX7_readsNumber_29 lm_X7_26 mv_X7_isDigitHere (c_isDigit (d := d) hx hT1.2) rfl rfl (k1 hT1.2.1) rfl rfl (Nat.le_of_ble_eq_true rfl) (gFit_room (by omega)) rfl ?_
      refine g_ieq (tgt := 75) dX7_readsNumber_32 (by decide) rfl (fun h32 => ?_) (fun h32 => ?_)
      · rw [if_neg h32] at hd2
        exact fin M1 k p v hT1 hv hd2.symm
      · rw [if_pos h32] at hd2
        have hdl := dig_lt h32
        refine g_aload_n dX7_readsNumber_35 rfl rfl rfl ?_
        refine g_aload_n dX7_readsNumber_36 rfl rfl rfl ?_
        refine g_getI dX7_readsNumber_37 ff_X7_30 rfl (k1 hT1.2.1) rfl ?_
        refine g_bipush (v := 10) dX7_readsNumber_40 (by decide) rfl ?_
        rw [hv]
        refine g_imul dX7_readsNumber_42 rfl ?_
        refine g_aload_n dX7_readsNumber_43 rfl rfl rfl ?_
        refine g_getR dX7_readsNumber_44 ff_X7_9 rfl (k1 hT1.2.1) (r1_0 hT1.2.1) rfl ?_
        refine g_aload_n dX7_readsNumber_47 rfl rfl rfl ?_
        refine g_getI dX7_readsNumber_48 ff_X7_19 rfl (k1 hT1.2.1) rfl ?_
        rw [hT1.2.2.2.1]
        generalize hpp : p = pp at *
        refine g_cald (i := pp) dX7_readsNumber_51 (k2 hT1.2.1) (l2 hT1.2.1) (by (try simp only [nI_lit, pk_mul, nI_add, Nat.zero_add]); exact nI_toInt (by omega)) (by omega) rfl ?_
        refine g_iadd dX7_readsNumber_52 rfl ?_
        refine g_bipush (v := 48) dX7_readsNumber_53 (by decide) rfl ?_
        refine g_isub dX7_readsNumber_55 rfl ?_
        rw [(hT1.2.2.1.2.2 pp hdl.1).1, show (10 : Int32) = nI 10 from rfl, show (48 : Int32) = nI 48 from rfl, pk_mul, nI_add, pk_sub (by omega)]
        refine g_putI dX7_readsNumber_56 fp_X7_30 rfl rfl rfl (k1 hT1.2.1) rfl ?_
        refine g_aload_n dX7_readsNumber_59 rfl rfl rfl ?_
        refine g_dup dX7_readsNumber_60 rfl rfl ?_
        refine g_getI dX7_readsNumber_61 ff_X7_19 rfl (k1 (gLay_I hT1.2.1)) rfl ?_
        refine g_iconst (v := 1) dX7_readsNumber_64 (by decide) rfl ?_
        refine g_iadd dX7_readsNumber_65 rfl ?_
        rw [gmi_I, va_up_ne _ _ (show (2 : Nat) ≠ 3 by decide), hT1.2.2.2.1, nI_1]
        refine g_putI dX7_readsNumber_66 fp_X7_19 rfl rfl rfl (k1 (gLay_I hT1.2.1)) rfl ?_
        refine g_iincV (c := 1) dX7_readsNumber_69 rfl (by decide) (by decide) rfl ?_
        refine g_goto (tgt := 22) dX7_readsNumber_72 (by decide) ?_
        exact g_go (ih _ ⟨pp + 1, v * 10 + T pp - 48, hT1.num.at (by omega), by rw [gmi_I, va_up_ne _ _ (by decide), gmi_I, va_up_self], hd2⟩) ⟨rfl, rfl, rfl, rfl, by rw [← nI_1 k]; rfl, trivial⟩
  · refine g_iconst (v := 0) dX7_readsNumber_12 (by decide) rfl ?_
    exact g_iret dX7_readsNumber_13 rfl (by first | rfl | exact b01) (⟨by rw [if_neg h9]; rfl, by rw [if_neg h9]; exact hn, by rw [if_neg h9]; exact fun q => absurd q Bool.false_ne_true⟩)
/-- a digit: whether it stands there, the place behind it or of its fault, the digit -/
def digP (T : Nat → Nat) (L i : Nat) : Bool × Nat × Nat := if dig T L (nxt T L i) then (true, nxt T L i + 1, T (nxt T L i) - 48) else (false, nxt T L i, 0)
set_option maxRecDepth 20000 in
theorem c_readsDigit (hx : gXok X) (h : TC M T L i) : gPos X (d + 1) yX7_readsDigit cX7_readsDigit 1 (some .boolean) [.ref 1] M (fun v M2 => v = some (.int (ib ((digP T L i).1 = true))) ∧ Tp M M2 T L (digP T L i).2.1 ∧ ((digP T L i).1 = true → gmi M2 1 3 = nI (digP T L i).2.2)) := by
  have hL := h.1
  have h240 := h.2.1.2.1
  have hnl := nxt_le (T := T) h.2.2.2
  refine gMet.of hx (by decide) (Nat.le_of_ble_eq_true rfl) ?_
  unfold digP
  refine g_aload_n dX7_readsDigit_0 rfl rfl rfl ?_
  refine g_callVq (ci := 7) dX7_readsDigit_1 lm_X7_22 mv_X7_next (c_next (d := d) hx h) rfl rfl (k1 hL) rfl rfl (Nat.le_of_ble_eq_true rfl) (gFit_room (by omega)) rfl (fun v M2 hQ => ?_)
  obtain ⟨rfl, hf⟩ := hQ
  refine g_pop dX7_readsDigit_4 rfl rfl ?_
  have hn := hf
  generalize hp0 : nxt T L i = pp at *
  refine g_aload_n dX7_readsDigit_5 rfl rfl rfl ?_
  refine g_callVdi (ci := 7) dX7_readsDigit_6 lm_X7_26 mv_X7_isDigitHere (c_isDigit (d := d) hx hn.2) rfl rfl (k1 hn.2.1) rfl rfl (Nat.le_of_ble_eq_true rfl) (gFit_room (by omega)) rfl ?_
  refine g_ine (tgt := 14) dX7_readsDigit_9 (by decide) rfl (fun h9 => ?_) (fun h9 => ?_)
  · rw [if_pos h9]
    have hdl := dig_lt h9
    refine g_aload_n dX7_readsDigit_14 rfl rfl rfl ?_
    refine g_aload_n dX7_readsDigit_15 rfl rfl rfl ?_
    refine g_getR dX7_readsDigit_16 ff_X7_9 rfl (k1 hn.2.1) (r1_0 hn.2.1) rfl ?_
    refine g_aload_n dX7_readsDigit_19 rfl rfl rfl ?_
    refine g_getI dX7_readsDigit_20 ff_X7_19 rfl (k1 hn.2.1) rfl ?_
    rw [hn.2.2.2.1]
    refine g_cald (i := pp) dX7_readsDigit_23 (k2 hn.2.1) (l2 hn.2.1) (by (try simp only [nI_lit, pk_mul, nI_add, Nat.zero_add]); exact nI_toInt (by omega)) (by omega) rfl ?_
    refine g_bipush (v := 48) dX7_readsDigit_24 (by decide) rfl ?_
    refine g_isub dX7_readsDigit_26 rfl ?_
    rw [(hn.2.2.1.2.2 pp hdl.1).1, show (48 : Int32) = nI 48 from rfl, pk_sub (by omega)]
    refine g_putI dX7_readsDigit_27 fp_X7_30 rfl rfl rfl (k1 hn.2.1) rfl ?_
    refine g_aload_n dX7_readsDigit_30 rfl rfl rfl ?_
    refine g_dup dX7_readsDigit_31 rfl rfl ?_
    refine g_getI dX7_readsDigit_32 ff_X7_19 rfl (k1 (gLay_I hn.2.1)) rfl ?_
    refine g_iconst (v := 1) dX7_readsDigit_35 (by decide) rfl ?_
    refine g_iadd dX7_readsDigit_36 rfl ?_
    rw [gmi_I, va_up_ne _ _ (show (2 : Nat) ≠ 3 by decide), hn.2.2.2.1, nI_1]
    refine g_putI dX7_readsDigit_37 fp_X7_19 rfl rfl rfl (k1 (gLay_I hn.2.1)) rfl ?_
    refine g_iconst (v := 1) dX7_readsDigit_40 (by decide) rfl ?_
    exact g_iret dX7_readsDigit_41 rfl (by first | rfl | exact b01) (⟨rfl, hn.num.at (by omega), fun _ => by rw [gmi_I, va_up_ne _ _ (by decide), gmi_I, va_up_self]⟩)
  · refine g_iconst (v := 0) dX7_readsDigit_12 (by decide) rfl ?_
    exact g_iret dX7_readsDigit_13 rfl (by first | rfl | exact b01) (⟨by rw [if_neg h9]; rfl, by rw [if_neg h9]; exact hn, by rw [if_neg h9]; exact fun q => absurd q Bool.false_ne_true⟩)
end T0
