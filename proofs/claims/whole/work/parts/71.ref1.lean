section F1
variable {X : gX} {M : gM} {d : Nat} {b nb off : Nat} {T : Nat → Nat} {L i : Nat}
theorem PS.sg {f : Int32} {w j c : Nat} (h : PS M b nb off T L i f w) (hc : c < 2 ^ 31) : sgn T L j = nI c ↔ (j < L ∧ T j = c) := by
  unfold sgn
  by_cases hj : j < L
  · rw [if_pos hj, nI_eq (by have := (h.1.2.2.2.2.2.2 j hj).2.2; omega) hc]
    exact ⟨fun q => ⟨hj, q⟩, fun q => q.2⟩
  · rw [if_neg hj]
    exact ⟨fun q => absurd (show nI c < 0 by rw [← q]; decide) (nI_pos hc), fun q => absurd q.1 hj⟩
theorem PS.is {f : Int32} {w j c : Nat} (h : PS M b nb off T L i f w) (hc : c < 2 ^ 31) : isS T L j c = true ↔ sgn T L (nxt T L j) = nI c := by
  rw [h.sg hc]
  unfold isS
  rw [Bool.and_eq_true, decide_eq_true_iff, decide_eq_true_iff]
theorem r_takes0 (hx : gXok X) {w c : Nat} (h : PS M b nb off T L i (-1) w) (hc : c < 2 ^ 31) : gPos X (d + 1) yX11_takes cX11_takes 2 (some .boolean) [.ref 100, .int (nI c)] M (fun v M2 => v = some (.int (ib (isS T L i c = true))) ∧ iFr M M2 ∧ (isS T L i c = true → PS M2 b nb off T L (nxt T L i + 1) (-1) w) ∧ (¬ isS T L i c = true → PS M2 b nb off T L (nxt T L i) (nI (nxt T L i)) w)) := by
  have hL := h.1.1
  refine gMet.of hx (by decide) (Nat.le_of_ble_eq_true rfl) ?_
  refine g_aload_n dX11_takes_0 rfl rfl rfl ?_
  refine g_getI dX11_takes_1 ff_X11_122 rfl (k100 hL) rfl ?_
  refine g_iconst (v := -1) dX11_takes_4 (by decide) rfl ?_
  rw [h.2.2.2.1]
  refine g_icmp_ne (tgt := 16) dX11_takes_5 (by decide) rfl (fun h_ => absurd (rfl) h_) (fun _ => ?_)
  refine g_aload_n dX11_takes_8 rfl rfl rfl ?_
  refine g_callVq (ci := 11) dX11_takes_9 lm_X11_132 mv_X11_look (r_look (d := d) hx h) rfl rfl (k100 hL) rfl rfl (Nat.le_of_ble_eq_true rfl) (gFit_room (by omega)) rfl (fun v M2 hQ => ?_)
  obtain ⟨rfl, hf⟩ := hQ
  obtain ⟨hf1, h1⟩ := hf
  refine g_iload_n dX11_takes_12 rfl rfl rfl ?_
  refine g_icmp_eq (tgt := 21) dX11_takes_13 (by decide) rfl (fun h13 => ?_) (fun h13 => ?_)
  · refine g_aload_n dX11_takes_21 rfl rfl rfl ?_
    refine g_dup dX11_takes_22 rfl rfl ?_
    refine g_getI dX11_takes_23 ff_X11_113 rfl (k100 h1.1.1) rfl ?_
    refine g_iconst (v := 1) dX11_takes_26 (by decide) rfl ?_
    refine g_iadd dX11_takes_27 rfl ?_
    rw [h1.2.1, nI_1]
    refine g_putI dX11_takes_28 fp_X11_113 rfl rfl rfl (k100 h1.1.1) rfl ?_
    refine g_iconst (v := 1) dX11_takes_31 (by decide) rfl ?_
    exact g_iret dX11_takes_32 rfl (by first | rfl | exact b01) (⟨by rw [ib_t ((h.is hc).mpr h13)], hf1.tr (iFr.put (Or.inl rfl)), fun q => h1.at (isS_in q).1, fun q => absurd ((h.is hc).mpr h13) q⟩)
  · refine g_aload_n dX11_takes_16 rfl rfl rfl ?_
    refine g_callVq (ci := 11) dX11_takes_17 lm_X11_128 mv_X11_fails (r_fails0 (d := d) hx h1) rfl rfl (k100 h1.1.1) rfl rfl (Nat.le_of_ble_eq_true rfl) (gFit_room (by omega)) rfl (fun v M2 hQ => ?_)
    obtain ⟨rfl, hf⟩ := hQ
    exact g_iret dX11_takes_20 rfl (by first | rfl | exact b01) (⟨by rw [ib_f (fun q => h13 ((h.is hc).mp q))], hf1.tr hf.1, fun q => absurd ((h.is hc).mp q) h13, fun _ => hf.2⟩)
theorem r_takes1 (hx : gXok X) (hL : gLay M) (h : ¬ gmi M 100 11 = -1) {x : Int32} : gDet X (d + 1) yX11_takes cX11_takes 2 (some .boolean) [.ref 100, .int x] M (some (.int 0)) M := by
  refine gMet.of hx (by decide) (Nat.le_of_ble_eq_true rfl) ?_
  refine g_aload_n dX11_takes_0 rfl rfl rfl ?_
  refine g_getI dX11_takes_1 ff_X11_122 rfl (k100 hL) rfl ?_
  refine g_iconst (v := -1) dX11_takes_4 (by decide) rfl ?_
  refine g_icmp_ne (tgt := 16) dX11_takes_5 (by decide) rfl (fun _ => ?_) (fun h_ => absurd h_ (h))
  refine g_aload_n dX11_takes_16 rfl rfl rfl ?_
  refine g_callVdi (ci := 11) dX11_takes_17 lm_X11_128 mv_X11_fails (r_fails1 (d := d) hx hL h) rfl rfl (k100 hL) rfl rfl (Nat.le_of_ble_eq_true rfl) (gFit_room (by omega)) rfl ?_
  exact g_iret dX11_takes_20 rfl (by first | rfl | exact b01) (⟨by first | rfl | assumption | exact gFr.rf | grind [ib], by first | rfl | assumption | exact gFr.rf | grind [ib]⟩)
theorem r_within (hx : gXok X) {v : Int64} : gDet X (d + 1) yX11_within cX11_within 2 (some .int) [.long v] M (some (.int (clampL v))) M := by
  refine gMet.of hx (by decide) (Nat.le_of_ble_eq_true rfl) ?_
  have e : lmax (-1000000) (lmin 1000000 v) = (if 1000000 < v then 1000000 else if v < -1000000 then -1000000 else v) := by
    have n1 : (1000000 : Int64).toInt = 1000000 := by decide
    have n2 : (-1000000 : Int64).toInt = -1000000 := by decide
    unfold lmax lmin
    simp only [Int64.lt_iff_toInt_lt]
    rw [n1, n2]
    by_cases h1 : 1000000 < v.toInt
    · rw [if_pos h1, if_neg (show ¬ v.toInt < 1000000 by omega), n1, if_pos (by omega)]
    · rw [if_neg h1]
      by_cases h2 : v.toInt < 1000000
      · rw [if_pos h2]
        by_cases h3 : v.toInt < -1000000
        · rw [if_pos h3, if_neg (by omega)]
        · rw [if_neg h3]
          by_cases h4 : -1000000 < v.toInt
          · rw [if_pos h4]
          · rw [if_neg h4]
            exact Int64.toInt_inj.mp (by rw [n2]; omega)
      · rw [if_neg h2, n1, if_pos (by omega), if_neg (by omega)]
        exact Int64.toInt_inj.mp (by rw [n1]; omega)
  unfold clampL
  rw [← e]
  refine g_ldc2 dX11_within_0 lq_X11_135 rfl ?_
  refine g_ldc2 dX11_within_3 lq_X11_137 rfl ?_
  refine g_lload_n dX11_within_6 rfl rfl rfl ?_
  refine g_callSdl dX11_within_7 lm_X11_139 mv_J9_min_f86c9 (c_lmin (d := d) hx) rfl rfl (Nat.le_of_ble_eq_true rfl) (gFit_room (by omega)) rfl ?_
  refine g_callSdl dX11_within_10 lm_X11_145 mv_J9_max_f86c9 (c_lmax (d := d) hx) rfl rfl (Nat.le_of_ble_eq_true rfl) (gFit_room (by omega)) rfl ?_
  refine g_l2i dX11_within_13 rfl ?_
  exact g_iret dX11_within_14 rfl (by first | rfl | exact b01) (⟨by first | rfl | assumption | exact gFr.rf | grind [ib], by first | rfl | assumption | exact gFr.rf | grind [ib]⟩)
def anyB (p : Nat → Bool) : Nat → Bool
  | 0 => false
  | n + 1 => anyB p n || p n
theorem anyB_t {p : Nat → Bool} {k : Nat} : ∀ {n : Nat}, k < n → p k = true → anyB p n = true
  | 0, h, _ => absurd h (by omega)
  | n + 1, h, hp => by
    show (anyB p n || p n) = true
    by_cases e : k = n
    · rw [← e, hp, Bool.or_true]
    · rw [anyB_t (show k < n by omega) hp, Bool.true_or]
theorem anyB_f {p : Nat → Bool} : ∀ {n : Nat}, (∀ k, k < n → p k = false) → anyB p n = false
  | 0, _ => rfl
  | n + 1, h => by
    show (anyB p n || p n) = false
    rw [anyB_f (fun k hk => h k (by omega)), h n (by omega)]; rfl
def amg (k : Nat) (x : Int32) : Bool := anyB (fun j => decide (sB k j = x)) (sLen.getD k 0)
set_option maxRecDepth 20000 in
theorem r_isAmong (hx : gXok X) (hZ : gSt X) {k : Nat} (hk : k < 8) {x : Int32} : gDet X (d + 4) yX11_isAmong cX11_isAmong 3 (some .boolean) [.ref (5010 + k), .int x] M (some (.int (ib (amg k x = true)))) M := by
  have hl := sL_le k hk
  refine gMet.of hx (by decide) (Nat.le_of_ble_eq_true rfl) ?_
  refine g_iconst (v := 0) dX11_isAmong_0 (by decide) rfl ?_
  refine g_istore_n dX11_isAmong_1 rfl (by decide) rfl ?_
  refine g_loopM (fun j => [(0, .ref (5010 + k)), (1, .int x), (2, .int (nI j))]) (fun j M1 => M1 = M ∧ ∀ e, e < j → decide (sB k e = x) = false) (sLen.getD k 0) 0 (Nat.zero_le _) ⟨rfl, rfl, rfl, trivial⟩ ⟨rfl, fun e he => absurd he (by omega)⟩ (fun M1 hI => ?_) (fun j M1 _ hj hI ih => ?_)
  · obtain ⟨rfl, hA⟩ := hI
    refine g_iload_n dX11_isAmong_2 rfl rfl rfl ?_
    refine g_aload_n dX11_isAmong_3 rfl rfl rfl ?_
    refine g_callU (i := k) dX11_isAmong_4 lm_X11_93 mv_J0_length_8abf5 (c_slen (d := d + 2) hx hZ hk) hZ hk rfl rfl rfl (Nat.le_of_ble_eq_true rfl) (gFit_room (by omega)) rfl ?_
    refine g_icmp_ge (tgt := 27) dX11_isAmong_7 (by decide) rfl (fun _ => ?_) (fun h_ => absurd (nI_le (Nat.le_refl _) (by omega)) h_)
    refine g_iconst (v := 0) dX11_isAmong_27 (by decide) rfl ?_
    exact g_iret dX11_isAmong_28 rfl (by first | rfl | exact b01) (⟨by unfold amg; rw [anyB_f hA]; rfl, rfl⟩)
  · obtain ⟨rfl, hA⟩ := hI
    refine g_iload_n dX11_isAmong_2 rfl rfl rfl ?_
    refine g_aload_n dX11_isAmong_3 rfl rfl rfl ?_
    refine g_callU (i := k) dX11_isAmong_4 lm_X11_93 mv_J0_length_8abf5 (c_slen (d := d + 2) hx hZ hk) hZ hk rfl rfl rfl (Nat.le_of_ble_eq_true rfl) (gFit_room (by omega)) rfl ?_
    refine g_icmp_ge (tgt := 27) dX11_isAmong_7 (by decide) rfl (fun h_ => absurd h_ (nI_ge hj (by omega))) (fun _ => ?_)
    refine g_aload_n dX11_isAmong_10 rfl rfl rfl ?_
    refine g_iload_n dX11_isAmong_11 rfl rfl rfl ?_
    refine g_callU (i := k) dX11_isAmong_12 lm_X11_99 mv_J0_charAt_5068e (c_charAt (d := d) hx hZ hk hj) hZ hk rfl rfl rfl (Nat.le_of_ble_eq_true rfl) (gFit_room (by omega)) rfl ?_
    refine g_iload_n dX11_isAmong_15 rfl rfl rfl ?_
    refine g_icmp_ne (tgt := 21) dX11_isAmong_16 (by decide) rfl (fun h16 => ?_) (fun h16 => ?_)
    · refine g_iincV (c := 1) dX11_isAmong_21 rfl (by decide) (by decide) rfl ?_
      refine g_goto (tgt := 2) dX11_isAmong_24 (by decide) ?_
      refine g_go (ih M1 ⟨rfl, fun e he => ?_⟩) ⟨rfl, rfl, by rw [← nI_1 j]; rfl, trivial⟩
      by_cases e2 : e = j
      · rw [e2]; exact decide_eq_false h16
      · exact hA e (by omega)
    · refine g_iconst (v := 1) dX11_isAmong_19 (by decide) rfl ?_
      exact g_iret dX11_isAmong_20 rfl (by first | rfl | exact b01) (⟨by unfold amg; rw [anyB_t hj (decide_eq_true h16)]; rfl, rfl⟩)
theorem amg2 : ∀ t, t < 256 → amg 2 (nI t) = decide (lof t < 6) := by decide +kernel
theorem amg2n : amg 2 (-1) = false := by decide +kernel
theorem amg4 : ∀ t, t < 256 → amg 4 (nI t) = decide (t = 121) := by decide +kernel
theorem amg4n : amg 4 (-1) = false := by decide +kernel
/-- a letter at the place p -/
theorem amg_le {f : Int32} {w p : Nat} (h : PS M b nb off T L i f w) : amg 2 (sgn T L p) = decide (leP T L p < 6) := by
  unfold sgn leP
  by_cases hp : p < L
  · rw [if_pos hp, if_pos hp]; exact amg2 _ (h.1.2.2.2.2.2.2 p hp).2.2
  · rw [if_neg hp, if_neg hp]; exact amg2n
theorem amg_y {f : Int32} {w : Nat} (h : PS M b nb off T L i f w) : amg 4 (sgn T L (nxt T L i)) = isS T L i 121 := by
  unfold sgn isS
  by_cases hp : nxt T L i < L
  · rw [if_pos hp, decide_eq_true hp, Bool.true_and]; exact amg4 _ (h.1.2.2.2.2.2.2 _ hp).2.2
  · rw [if_neg hp, decide_eq_false hp, Bool.false_and]; exact amg4n
theorem r_isSign (hx : gXok X) {x : Int32} : gDet X (d + 0) yX11_isSign cX11_isSign 1 (some .boolean) [.int x] M (some (.int (ib (x = 61 ∨ x = 60 ∨ x = 62)))) M := by
  refine gMet.of hx (by decide) (Nat.le_of_ble_eq_true rfl) ?_
  refine g_iload_n dX11_isSign_0 rfl rfl rfl ?_
  refine g_bipush (v := 61) dX11_isSign_1 (by decide) rfl ?_
  refine g_icmp_eq (tgt := 18) dX11_isSign_3 (by decide) rfl (fun h3 => ?_) (fun h3 => ?_)
  · refine g_iconst (v := 1) dX11_isSign_18 (by decide) rfl ?_
    refine g_goto (tgt := 23) dX11_isSign_19 (by decide) ?_
    exact g_iret dX11_isSign_23 rfl (by first | rfl | exact b01) (⟨by first | rw [ib_t (Or.inl h3)] | rw [ib_t (Or.inr (Or.inl h9))] | rw [ib_t (Or.inr (Or.inr h15))] | rw [ib_f (fun q => q.elim h3 (fun q => q.elim h9 h15))], rfl⟩)
  · refine g_iload_n dX11_isSign_6 rfl rfl rfl ?_
    refine g_bipush (v := 60) dX11_isSign_7 (by decide) rfl ?_
    refine g_icmp_eq (tgt := 18) dX11_isSign_9 (by decide) rfl (fun h9 => ?_) (fun h9 => ?_)
    · refine g_iconst (v := 1) dX11_isSign_18 (by decide) rfl ?_
      refine g_goto (tgt := 23) dX11_isSign_19 (by decide) ?_
      exact g_iret dX11_isSign_23 rfl (by first | rfl | exact b01) (⟨by first | rw [ib_t (Or.inl h3)] | rw [ib_t (Or.inr (Or.inl h9))] | rw [ib_t (Or.inr (Or.inr h15))] | rw [ib_f (fun q => q.elim h3 (fun q => q.elim h9 h15))], rfl⟩)
    · refine g_iload_n dX11_isSign_12 rfl rfl rfl ?_
      refine g_bipush (v := 62) dX11_isSign_13 (by decide) rfl ?_
      refine g_icmp_ne (tgt := 22) dX11_isSign_15 (by decide) rfl (fun h15 => ?_) (fun h15 => ?_)
      · refine g_iconst (v := 0) dX11_isSign_22 (by decide) rfl ?_
        exact g_iret dX11_isSign_23 rfl (by first | rfl | exact b01) (⟨by first | rw [ib_t (Or.inl h3)] | rw [ib_t (Or.inr (Or.inl h9))] | rw [ib_t (Or.inr (Or.inr h15))] | rw [ib_f (fun q => q.elim h3 (fun q => q.elim h9 h15))], rfl⟩)
      · refine g_iconst (v := 1) dX11_isSign_18 (by decide) rfl ?_
        refine g_goto (tgt := 23) dX11_isSign_19 (by decide) ?_
        exact g_iret dX11_isSign_23 rfl (by first | rfl | exact b01) (⟨by first | rw [ib_t (Or.inl h3)] | rw [ib_t (Or.inr (Or.inl h9))] | rw [ib_t (Or.inr (Or.inr h15))] | rw [ib_f (fun q => q.elim h3 (fun q => q.elim h9 h15))], rfl⟩)
end F1
