section H6
variable {X : gX} {Mc M : gM} {d n A : Nat} {E : Nat → LE} {EV : EVt} {F : Nat → Int32} {D P : Nat}
theorem age_p {p : Nat} (hp : p < 6) (hP : P ≤ 6) : ageF F D P p = if p < P then imin 99 (F p + 1) else F p := by
  unfold ageF
  rw [va_up_ne _ _ (by omega), va_up_ne _ _ (by omega), va_up_ne _ _ (by omega)]
  unfold ag
  by_cases h : p < P
  · rw [if_pos h, if_pos (by omega)]
  · rw [if_neg h, if_neg (by omega), if_neg (by omega)]
theorem age_s {p : Nat} (hp : p < 6) (hP : P ≤ 6) : ageF F D P (6 + p) = F (6 + p) := by
  unfold ageF
  rw [va_up_ne _ _ (by omega), va_up_ne _ _ (by omega), va_up_ne _ _ (by omega)]
  unfold ag
  rw [if_neg (by omega), if_neg (by omega)]
theorem age_l {p e : Nat} (hp : p < 6) (he : e < 8) (hP : P ≤ 6) : ageF F D P (12 + p * 8 + e) = if p < P ∧ e < D then imax 0 (F (12 + p * 8 + e) - 1) else F (12 + p * 8 + e) := by
  unfold ageF
  rw [va_up_ne _ _ (by omega), va_up_ne _ _ (by omega), va_up_ne _ _ (by omega)]
  unfold ag
  rw [if_neg (by omega)]
  by_cases h : p < P ∧ e < D
  · rw [if_pos h, if_pos (by omega)]
  · rw [if_neg h, if_neg (by omega)]
theorem age_66 (hP : P ≤ 6) : ageF F D P 66 = F 66 + 1 := by
  unfold ageF
  rw [va_up_self, va_up_ne _ _ (by decide), va_up_ne _ _ (by decide)]
  unfold ag
  rw [if_neg (by omega), if_neg (by omega)]
theorem age_64 (hP : P ≤ 6) : ageF F D P 64 = F 64 := by
  unfold ageF
  rw [va_up_ne _ _ (by decide), va_up_ne _ _ (by decide), va_up_ne _ _ (by decide)]
  unfold ag
  rw [if_neg (by omega), if_neg (by omega)]
theorem imaxN (m : Nat) (h : m < 2 ^ 30) : imax 0 (nI m - 1) = nI (m - 1) := by
  by_cases z : m = 0
  · rw [z]; decide
  · rw [nI_m1 (by omega)]
    unfold imax
    by_cases y : 0 < nI (m - 1)
    · rw [if_pos y]
    · rw [if_neg y]
      have : m - 1 = 0 := Nat.eq_zero_of_not_pos (fun q => y ((qlt 0 (m - 1) rfl rfl (by decide) (by omega)).mpr q))
      rw [this]; rfl
theorem RngF_age (h : RngF F) (hP : P ≤ 6) (hd : ∀ m, F 66 = nI m → m < 2 ^ 30 → m + 1 < 2 ^ 30) : RngF (ageF F D P) := by
  obtain ⟨a, b, m, hm, e⟩ := h
  refine ⟨fun p hp => ?_, fun p hp => by rw [age_s hp hP]; exact b p hp, m + 1, hd m e hm, by rw [age_66 hP, e, nI_1]⟩
  rw [age_p hp hP]
  obtain ⟨q, hq, eq⟩ := a p hp
  by_cases z : p < P
  · rw [if_pos z, eq, nI_1, show (99 : Int32) = nI 99 from rfl, iminN (by decide) (by omega)]
    exact ⟨_, Nat.min_le_left _ _, rfl⟩
  · rw [if_neg z]; exact ⟨q, hq, eq⟩
theorem LeftF_age (h : LeftF F) (hP : P ≤ 6) : LeftF (ageF F D P) := by
  intro i h1 h2
  obtain ⟨m, e, hm⟩ := h i h1 h2
  have hi : i = 12 + (i - 12) / 8 * 8 + (i - 12) % 8 := by omega
  rw [hi, age_l (by omega) (by omega) hP, ← hi]
  by_cases z : (i - 12) / 8 < P ∧ (i - 12) % 8 < D
  · rw [if_pos z, e, imaxN m (by omega)]; exact ⟨_, rfl, by omega⟩
  · rw [if_neg z]; exact ⟨m, e, hm⟩
/-- some days on, nobody doing a thing -/
def agN (F : Nat → Int32) (D P : Nat) : Nat → Nat → Int32
  | 0 => F
  | k + 1 => ageF (agN F D P k) D P
theorem agN_ok {D0 : Nat} (hR : RngF F) (hl : LeftF F) (h66 : F 66 = nI D0) (hD0 : D0 ≤ 999) (hP : P ≤ 6) : ∀ k, k ≤ 1000 → RngF (agN F D P k) ∧ LeftF (agN F D P k) ∧ agN F D P k 66 = nI (D0 + k) ∧ (∀ p, p < P → agN F D P k p = imin 99 (F p + nI k)) ∧ (∀ p, p < 6 → agN F D P k (6 + p) = F (6 + p)) ∧ ∀ p e, p < P → e < D → e < 8 → tn (agN F D P k (12 + p * 8 + e)) = tn (F (12 + p * 8 + e)) - k
  | 0, _ => by
    refine ⟨hR, hl, h66, fun p hp => ?_, fun _ _ => rfl, fun _ _ _ _ _ => rfl⟩
    obtain ⟨m, hm, e⟩ := hR.1 p (by omega)
    show F p = imin 99 (F p + nI 0)
    rw [e, nI_add, Nat.add_zero, show (99 : Int32) = nI 99 from rfl, iminN (by decide) (by omega), Nat.min_eq_right hm]
  | k + 1, hk => by
    obtain ⟨i1, i2, i3, i4, i5, i6⟩ := agN_ok hR hl h66 hD0 hP k (by omega)
    refine ⟨RngF_age i1 hP (fun m hm _ => by rw [i3] at hm; have := (qeq (D0 + k) m rfl rfl (by omega) (by omega)).mp hm; omega), LeftF_age i2 hP, ?_, fun p hp => ?_, fun p hp => ?_, fun p e hp he he8 => ?_⟩
    · show ageF (agN F D P k) D P 66 = _
      rw [age_66 hP, i3, nI_1, Nat.add_assoc]
    · show ageF (agN F D P k) D P p = _
      rw [age_p (by omega) hP, if_pos hp, i4 p hp]
      obtain ⟨m, hm, e⟩ := hR.1 p (by omega)
      rw [e, nI_add, nI_add, show (99 : Int32) = nI 99 from rfl, iminN (by decide) (by omega), nI_1, iminN (by decide) (by omega), iminN (by decide) (by omega)]
      congr 1
      omega
    · show ageF (agN F D P k) D P (6 + p) = _
      rw [age_s hp hP]; exact i5 p hp
    · show tn (ageF (agN F D P k) D P (12 + p * 8 + e)) = _
      rw [age_l (by omega) he8 hP, if_pos ⟨hp, he⟩]
      obtain ⟨m, em, hm⟩ := i2 (12 + p * 8 + e) (by omega) (by omega)
      have := i6 p e hp he he8
      rw [em, tn_nI (by omega)] at this
      rw [em, imaxN m (by omega), tn_nI (by omega)]
      omega
theorem agN_gun {Mc : gM} (hT : TownOK Mc) {D0 : Nat} (hR : RngF (gmi Mc 25)) (hl : LeftF (gmi Mc 25)) (h66 : gmi Mc 25 66 = nI D0) (hD0 : D0 ≤ 999) {k p : Nat} (hk : k ≤ 1000) (hp : p < tv Mc 3 7) : gunF Mc EV (agN (gmi Mc 25) (tv Mc 3 8) (tv Mc 3 7) k) p = guin Mc EV p k := by
  obtain ⟨i1, i2, i3, i4, i5, i6⟩ := agN_ok (D := tv Mc 3 8) (P := tv Mc 3 7) hR hl h66 hD0 hT.1.2 k hk
  have h6 := hT.1.2
  have h8 := hT.2.1.2
  have eds : dsF (agN (gmi Mc 25) (tv Mc 3 8) (tv Mc 3 7) k) (tv Mc 3 8) p 0 = dset Mc 25 p k := by
    refine bsum_cong (fun e he => ?_)
    rw [i6 p e hp he (by omega)]
    show decide (0 < tn (gmi Mc 25 (12 + p * 8 + e)) - k) = decide (k < tn (gmi Mc 25 (12 + p * 8 + e)))
    by_cases z : k < tn (gmi Mc 25 (12 + p * 8 + e))
    · rw [decide_eq_true z, decide_eq_true (by omega)]
    · rw [decide_eq_false z, decide_eq_false (by omega)]
  unfold gunF gubF guin
  rw [eds, i4 p hp, i3, i5 p (by omega), h66, nI_add]
set_option maxRecDepth 20000 in
set_option maxHeartbeats 1000000 in
theorem r_soon (hx : gXok X) (hZ : gSt X) (h0 : R0 Mc M n E EV) (hN : RNow Mc M) {x : Int32} : gPos X (d + 36) yX11_soon cX11_soon 3 (some .int) [.ref 100, .int x] M (fun v M2 => v = some (.int (if inP Mc x then sfrom (guin Mc EV (tn x)) 61 0 else -1)) ∧ xFr (fun c => c = 114 ∨ c = 1000) M M2 ∧ RQ M2 n E EV) := by
  have hL := h0.1.1
  have h1 := h0.th (v := 0)
  have hT := h0.2.1
  obtain ⟨hrow, hlog, hRng, hlf, -, D0, hD0, h66⟩ := hN
  have hN1 : RowR (gwI M 100 0 0) 113 (gmi Mc 25) := RowR.wf hrow (by decide)
  have hb1 : xFr (fun c => c = 114 ∨ c = 1000) M (gwI M 100 0 0) := xFr.wf (Or.inr rfl)
  refine gMet.of hx (by decide) (Nat.le_of_ble_eq_true rfl) ?_
  by_cases hp : inP Mc x
  · rw [if_pos hp]
    obtain ⟨ex, lx⟩ := in_row hT.1.1 (by have := hT.1.2; omega) hp
    generalize tn x = p at *
    subst ex
    refine g_aload_n dX11_soon_0 rfl rfl rfl ?_
    refine g_iconst (v := 0) dX11_soon_1 (by decide) rfl ?_
    refine g_putI dX11_soon_2 fp_X11_90 rfl rfl rfl (k100 hL) rfl ?_
    refine g_aload_n dX11_soon_5 rfl rfl rfl ?_
    refine g_iload_n dX11_soon_6 rfl rfl rfl ?_
    refine g_callVdi (ci := 11) dX11_soon_7 lm_X11_342 mv_X11_isPerson (h1.isP (d := d + 35) hx) rfl rfl (k100 (gLay_I hL)) rfl rfl (Nat.le_of_ble_eq_true rfl) (gFit_room (by omega)) rfl ?_
    rw [ib_t hp]
    refine g_if_ne (tgt := 15) dX11_soon_10 (by decide) rfl (fun _ => ?_) (fun h_ => absurd h_ (by decide))
    refine g_aload_n dX11_soon_15 rfl rfl rfl ?_
    refine g_getR dX11_soon_16 ff_X11_61 rfl (k100 (gLay_I hL)) (r100_32 (gLay_I hL)) rfl ?_
    refine g_aload_n dX11_soon_19 rfl rfl rfl ?_
    refine g_getR dX11_soon_20 ff_X11_64 rfl (k100 (gLay_I hL)) (r100_33 (gLay_I hL)) rfl ?_
    refine g_callSq dX11_soon_23 lm_X11_410 mv_X11_copy (r_copy (d := d + 35) hx h1.1.1 hN1) rfl rfl (Nat.le_of_ble_eq_true rfl) (gFit_room (by omega)) rfl (fun v M2 hQ => ?_)
    obtain ⟨rfl, hf⟩ := hQ
    obtain ⟨g1, g2, g3⟩ := hf
    have hS : Nt (fun c => c = 114 ∨ c = 1000) := ⟨by decide, by decide, by decide, by decide, by decide, by decide, by decide, by decide, by decide⟩
    have hx2 : xFr (fun c => c = 114 ∨ c = 1000) (gwI M 100 0 0) M2 := (g1.x (by decide)).mono (fun c q => Or.inl q)
    have h2 : R0 Mc M2 n E EV := h1.x hx2 hS (h1.1.x hx2 hS (g1.2.2.1 115) (g1.2.2.2 116 (by decide)))
    have hb2 := hb1.tr hx2
    refine g_iconst (v := 0) dX11_soon_26 (by decide) rfl ?_
    refine g_istore_n dX11_soon_27 rfl (by decide) rfl ?_
    refine g_loopM (fun i => [(0, .ref 100), (1, .int (nI p)), (2, .int (nI i))]) (fun i M3 => xFr (fun c => c = 114 ∨ c = 1000) M M3 ∧ R0 Mc M3 n E EV ∧ RowR M3 114 (agN (gmi Mc 25) (tv Mc 3 8) (tv Mc 3 7) i) ∧ ∀ j, j < i → guin Mc EV p j = true) 61 0 (by decide) ⟨rfl, rfl, rfl, trivial⟩ ⟨hb2, h2, g2, fun j hj => absurd hj (by omega)⟩ (fun M3 hI => ?_) (fun i M3 _ hi hI ih => ?_)
    · obtain ⟨a1, a2, a3, a4⟩ := hI
      refine g_iload_n dX11_soon_28 rfl rfl rfl ?_
      refine g_bipush (v := 60) dX11_soon_29 (by decide) rfl ?_
      refine g_icmp_gt (tgt := 62) dX11_soon_31 (by decide) rfl (fun _ => ?_) (fun h_ => absurd (by decide) h_)
      refine g_iconst (v := -1) dX11_soon_62 (by decide) rfl ?_
      exact g_iret dX11_soon_63 rfl (by first | rfl | exact b01 | exact nb01 hv01) (⟨by rw [sfrom_none a4], a1, a2.1⟩)
    · obtain ⟨a1, a2, a3, a4⟩ := hI
      obtain ⟨i1, i2, -⟩ := agN_ok (D := tv Mc 3 8) (P := tv Mc 3 7) hRng hlf h66 hD0 hT.1.2 i (by omega)
      have hgn := agN_gun (EV := EV) hT hRng hlf h66 hD0 (show i ≤ 1000 by omega) lx
      refine g_iload_n dX11_soon_28 rfl rfl rfl ?_
      refine g_bipush (v := 60) dX11_soon_29 (by decide) rfl ?_
      refine g_icmp_gt (tgt := 62) dX11_soon_31 (by decide) rfl (fun h_ => absurd h_ (fun q => absurd ((qlt 60 i rfl rfl (by decide) (by omega)).mp q) (by omega))) (fun _ => ?_)
      refine g_aload_n dX11_soon_34 rfl rfl rfl ?_
      refine g_aload_n dX11_soon_35 rfl rfl rfl ?_
      refine g_getR dX11_soon_36 ff_X11_64 rfl (k100 a2.1.1) (r100_33 a2.1.1) rfl ?_
      refine g_iload_n dX11_soon_39 rfl rfl rfl ?_
      refine g_callVq (ci := 11) dX11_soon_40 lm_X11_370 mv_X11_isGuilty (r_isGuilty (d := d) hx hZ a2 (Or.inr rfl) a3 i1 i2 lx) rfl rfl (k100 a2.1.1) rfl rfl (Nat.le_of_ble_eq_true rfl) (gFit_room (by omega)) rfl (fun v M2 hQ => ?_)
      obtain ⟨rfl, hf⟩ := hQ
      obtain ⟨q1, q2⟩ := hf
      rw [hgn]
      have b2 := a2.fr q1 q2
      have b3 := a3.fr q1 (Or.inr rfl)
      by_cases hg : guin Mc EV p i = true
      · rw [ib_t hg]
        refine g_if_ne (tgt := 48) dX11_soon_43 (by decide) rfl (fun _ => ?_) (fun h_ => absurd h_ (by decide))
        refine g_aload_n dX11_soon_48 rfl rfl rfl ?_
        refine g_aload_n dX11_soon_49 rfl rfl rfl ?_
        refine g_getR dX11_soon_50 ff_X11_64 rfl (k100 b2.1.1) (r100_33 b2.1.1) rfl ?_
        refine g_callVq (ci := 11) dX11_soon_53 lm_X11_386 mv_X11_ages (r_ages (d := d + 34) hx b2 (Or.inr rfl) b3) rfl rfl (k100 b2.1.1) rfl rfl (Nat.le_of_ble_eq_true rfl) (gFit_room (by omega)) rfl (fun v M2 hQ => ?_)
        obtain ⟨rfl, hf⟩ := hQ
        have hW := hf
        refine g_iincV (c := 1) dX11_soon_56 rfl (by decide) (by decide) rfl ?_
        refine g_goto (tgt := 28) dX11_soon_59 (by decide) ?_
        refine g_go (ih _ ⟨(a1.tr q1.x).tr ((hW.1.x (by decide)).mono (fun c q => Or.inl q)), hW.r0 b2 (Or.inr rfl), hW.2.1, fun j hj => ?_⟩) ⟨rfl, rfl, by rw [← nI_1 i]; rfl, trivial⟩
        by_cases e1 : j = i
        · rw [e1]; exact hg
        · exact a4 j (by omega)
      · rw [ib_f hg]
        refine g_if_ne (tgt := 48) dX11_soon_43 (by decide) rfl (fun h_ => absurd (by decide) h_) (fun _ => ?_)
        refine g_iload_n dX11_soon_46 rfl rfl rfl ?_
        exact g_iret dX11_soon_47 rfl (by first | rfl | exact b01 | exact nb01 hv01) (⟨by rw [sfrom_at hi (fun j hj => a4 j hj) (Bool.eq_false_iff.mpr hg)], a1.tr q1.x, b2.1⟩)
  · rw [if_neg hp]
    refine g_aload_n dX11_soon_0 rfl rfl rfl ?_
    refine g_iconst (v := 0) dX11_soon_1 (by decide) rfl ?_
    refine g_putI dX11_soon_2 fp_X11_90 rfl rfl rfl (k100 hL) rfl ?_
    refine g_aload_n dX11_soon_5 rfl rfl rfl ?_
    refine g_iload_n dX11_soon_6 rfl rfl rfl ?_
    refine g_callVdi (ci := 11) dX11_soon_7 lm_X11_342 mv_X11_isPerson (h1.isP (d := d + 35) hx) rfl rfl (k100 (gLay_I hL)) rfl rfl (Nat.le_of_ble_eq_true rfl) (gFit_room (by omega)) rfl ?_
    rw [ib_f hp]
    refine g_if_ne (tgt := 15) dX11_soon_10 (by decide) rfl (fun h_ => absurd (by decide) h_) (fun _ => ?_)
    refine g_iconst (v := -1) dX11_soon_13 (by decide) rfl ?_
    exact g_iret dX11_soon_14 rfl (by first | rfl | exact b01 | exact nb01 hv01) (⟨rfl, hb1, h1.1⟩)
end H6
