section H16
variable {X : gX} {Mc M : gM} {d n A c : Nat} {E : Nat → LE} {EV : EVt} {F : Nat → Int32}
theorem ssum_one (p : Nat) (f : Nat → Nat) : ∀ k, ssum (2 ^ p) f k = if p < k then f p else 0
  | 0 => rfl
  | k + 1 => by
    show ssum (2 ^ p) f k + (if (2 ^ p).testBit k then f k else 0) = _
    rw [ssum_one p f k, Nat.testBit_two_pow]
    by_cases h : p = k
    · subst h; simp
    · by_cases h2 : p < k
      · simp [h, h2, show p < k + 1 by omega]
      · simp [h, h2, show ¬ p < k + 1 by omega]
theorem allG_one (p b : Nat) : ∀ k, allG Mc EV (2 ^ p) b k = (!decide (p < k) || gub Mc EV p (b ||| dset Mc 25 p 0))
  | 0 => by simp [allG]
  | k + 1 => by
    show (allG Mc EV (2 ^ p) b k && (!(2 ^ p).testBit k || gub Mc EV k (b ||| dset Mc 25 k 0))) = _
    rw [allG_one p b k, Nat.testBit_two_pow]
    by_cases h : p = k
    · subst h; simp
    · by_cases h2 : p < k
      · simp [h, h2, show p < k + 1 by omega]
      · simp [h, h2, show ¬ p < k + 1 by omega]
theorem bdif_or : ∀ n, n < 256 → ∀ o, o < 256 → bdif n o ||| o = n ||| o := by decide +kernel
theorem bdif_2 : ∀ n, n < 256 → ∀ o, o < 256 → bdif (bdif n o) o = bdif n o := by decide +kernel
theorem bdif_0 : ∀ n, n < 256 → ∀ o, o < 256 → n &&& o = 0 → bdif n o = n := fun n hn o ho h => by
  have := bdif_add n hn o ho
  omega
theorem hmA_lt {q b : Nat} (hT : TownOK Mc) (hb : b < 256) : hmA Mc q b < 1000 := by
  have h1 := hmA_i (q := q) hT hb _ hT.1.2
  have h2 := hT.1.2
  unfold hmA
  omega
theorem chS_best {q : Nat} (hT : TownOK Mc) {b : Nat} : ∀ k, b < k → k ≤ 256 → allG Mc EV q b (tv Mc 3 7) = true → ∃ m, m < k ∧ chS Mc EV q k = (nI m, nI (hmA Mc q m)) ∧ (hmA Mc q m < hmA Mc q b ∨ hmA Mc q m = hmA Mc q b ∧ pcn m ≤ pcn b)
  | 0, h, _, _ => absurd h (by omega)
  | k + 1, h, hk, hg => by
    have ech : chS Mc EV q (k + 1) = if bet (chS Mc EV q k) k (nI (hmA Mc q k)) ∧ allG Mc EV q k (tv Mc 3 7) = true then (nI k, nI (hmA Mc q k)) else chS Mc EV q k := rfl
    have hk1 := hmA_lt (q := q) hT (show k < 256 by omega)
    have pk := pc8 k (by omega)
    rw [ech]
    by_cases hb : b < k
    · obtain ⟨m, hm, e, hc⟩ := chS_best hT k hb (by omega) hg
      have hm1 := hmA_lt (q := q) hT (show m < 256 by omega)
      have pm := pc8 m (by omega)
      by_cases hbt : bet (chS Mc EV q k) k (nI (hmA Mc q k)) ∧ allG Mc EV q k (tv Mc 3 7) = true
      · rw [if_pos hbt]
        refine ⟨k, by omega, rfl, ?_⟩
        have h1 := hbt.1
        rw [e] at h1
        rcases h1 with z | z | z
        · exact absurd z (neg1 (by omega))
        · have := (nI_ltI (by omega) (by omega)).mp z
          omega
        · have e1 := (nI_eq (by omega) (by omega)).mp z.1
          have e2 := z.2
          simp only [pk.1, pm.1] at e2
          have := (nI_ltI (by omega) (by omega)).mp e2
          omega
      · rw [if_neg hbt]
        exact ⟨m, by omega, e, hc⟩
    · have hbk : b = k := by omega
      subst hbk
      by_cases hbt : bet (chS Mc EV q b) b (nI (hmA Mc q b)) ∧ allG Mc EV q b (tv Mc 3 7) = true
      · rw [if_pos hbt]
        exact ⟨b, by omega, rfl, Or.inr ⟨rfl, Nat.le_refl _⟩⟩
      · rw [if_neg hbt]
        have hnb : ¬ bet (chS Mc EV q b) b (nI (hmA Mc q b)) := fun y => hbt ⟨y, hg⟩
        rcases chS_1 (Mc := Mc) (EV := EV) q b with z | ⟨m, hm, z⟩
        · exact absurd (Or.inl (by rw [z])) hnb
        · refine ⟨m, by omega, z, ?_⟩
          rw [z] at hnb
          have hm1 := hmA_lt (q := q) hT (show m < 256 by omega)
          have pm := pc8 m (by omega)
          have a1 : ¬ hmA Mc q b < hmA Mc q m := fun y => hnb (Or.inr (Or.inl ((nI_ltI (by omega) (by omega)).mpr y)))
          have a2 : hmA Mc q b = hmA Mc q m → ¬ pcn b < pcn m := fun y1 y2 => hnb (Or.inr (Or.inr ⟨by rw [y1], by simp only [pk.1, pm.1]; exact (nI_ltI (by omega) (by omega)).mpr y2⟩))
          by_cases e1 : hmA Mc q b = hmA Mc q m
          · have := a2 e1
            omega
          · omega
/-- a set that holds one of his own deeds is never the better -/
theorem chS_skip {p i : Nat} (hT : TownOK Mc) (hp : p < tv Mc 3 7) (hi : i < 256) (ho : ¬ i &&& dset Mc 25 p 0 = 0) : chS Mc EV (2 ^ p) (i + 1) = chS Mc EV (2 ^ p) i := by
  have ech : chS Mc EV (2 ^ p) (i + 1) = if bet (chS Mc EV (2 ^ p) i) i (nI (hmA Mc (2 ^ p) i)) ∧ allG Mc EV (2 ^ p) i (tv Mc 3 7) = true then (nI i, nI (hmA Mc (2 ^ p) i)) else chS Mc EV (2 ^ p) i := rfl
  have hds := dset_lt hT 25 p 0
  rw [ech]
  refine if_neg (fun ⟨hb, hg⟩ => ?_)
  have hlt : bdif i (dset Mc 25 p 0) < i := by have := bdif_add i hi _ hds; omega
  have hg2 : allG Mc EV (2 ^ p) (bdif i (dset Mc 25 p 0)) (tv Mc 3 7) = true := by
    rw [allG_one] at hg ⊢
    rw [bdif_or i hi _ hds]
    exact hg
  have hh : hmA Mc (2 ^ p) (bdif i (dset Mc 25 p 0)) = hmA Mc (2 ^ p) i := by
    unfold hmA
    rw [ssum_one, ssum_one, if_pos hp, if_pos hp, bdif_2 i hi _ hds]
  obtain ⟨m, hm, e, hc⟩ := chS_best hT i hlt (by omega) hg2
  rw [e] at hb
  have h1 := hmA_lt (q := 2 ^ p) hT hi
  have h2 := hmA_lt (q := 2 ^ p) hT (show m < 256 by omega)
  have pi := pc8 i hi
  have pm := pc8 m (by omega)
  have hpd := pcn_dif hi ho
  rcases hb with z | z | z
  · exact absurd z (neg1 (by omega))
  · have := (nI_ltI (by omega) (by omega)).mp z
    omega
  · have e1 := (nI_eq (by omega) (by omega)).mp z.1
    have e2 := z.2
    simp only [pi.1, pm.1] at e2
    have := (nI_ltI (by omega) (by omega)).mp e2
    omega
set_option maxRecDepth 20000 in
set_option maxHeartbeats 1000000 in
theorem r_least (hx : gXok X) (hZ : gSt X) (h0 : R0 Mc M n E EV) (hN : RNow Mc M) {x z : Int32} : gPos X (d + 36) yX11_least cX11_least 5 (some .int) [.ref 100, .int x, .int z] M (fun v M2 => v = some (.int (if inP Mc x then cheapV Mc EV (2 ^ tn x) z else -1)) ∧ xFr scB M M2 ∧ RQ M2 n E EV) := by
  have hL := h0.1.1
  have hT := h0.2.1
  have h6 := hT.1.2
  have h8 := hT.2.1.2
  have h256 : 2 ^ tv Mc 3 8 ≤ 256 := Nat.le_trans (bt_pow h8) (by decide)
  obtain ⟨hrow, hlog, hRng, hlf, -, D0, hD0, h66⟩ := hN
  have hQ0 : QS scB Mc M (gwI M 100 0 0) n E EV (gmi Mc 25) := QS.th h0 hrow (Or.inl rfl)
  have h1 := hQ0.2.1
  refine gMet.of hx (by decide) (Nat.le_of_ble_eq_true rfl) ?_
  by_cases hxc : inP Mc x
  · rw [if_pos hxc]
    obtain ⟨ex_, lp⟩ := in_row hT.1.1 (by have := hT.1.2; omega) (hxc)
    have mp := Nat.lt_of_lt_of_le lp hT.1.2
    generalize gp : tn x = p at *
    subst ex_
    unfold cheapV
    by_cases hz : 0 ≤ z ∧ z ≤ 1
    · rw [if_pos ⟨Int32.not_lt.mpr hz.1, hz.2⟩]
      refine g_aload_n dX11_least_0 rfl rfl rfl ?_
      refine g_iconst (v := 0) dX11_least_1 (by decide) rfl ?_
      refine g_putI dX11_least_2 fp_X11_90 rfl rfl rfl (k100 hL) rfl ?_
      refine g_aload_n dX11_least_5 rfl rfl rfl ?_
      refine g_iload_n dX11_least_6 rfl rfl rfl ?_
      refine g_callVdi (ci := 11) dX11_least_7 lm_X11_342 mv_X11_isPerson (h1.isP (d := d + 35) hx) rfl rfl (k100 (gLay_I hL)) rfl rfl (Nat.le_of_ble_eq_true rfl) (gFit_room (by omega)) rfl ?_
      rw [ib_t hxc]
      refine g_if_eq (tgt := 23) dX11_least_10 (by decide) rfl (fun h_ => absurd h_ (by decide)) (fun _ => ?_)
      refine g_iload_n dX11_least_13 rfl rfl rfl ?_
      refine g_i2l dX11_least_14 rfl ?_
      refine g_lconst (v := 0) dX11_least_15 (by decide) rfl ?_
      refine g_lconst (v := 1) dX11_least_16 (by decide) rfl ?_
      refine g_callSdi dX11_least_17 lm_X11_211 mv_X11_isIn (r_isIn (d := d + 35) (l := 0) (h := 1) hx rfl (by decide) (by decide)) rfl rfl (Nat.le_of_ble_eq_true rfl) (gFit_room (by omega)) rfl ?_
      rw [ib_t hz]
      refine g_if_ne (tgt := 25) dX11_least_20 (by decide) rfl (fun _ => ?_) (fun h_ => absurd h_ (by decide))
      refine g_aload_n dX11_least_25 rfl rfl rfl ?_
      refine g_iconst (v := -1) dX11_least_26 (by decide) rfl ?_
      refine g_putI dX11_least_27 fp_X11_421 rfl rfl rfl (k100 (gLay_I hL)) rfl ?_
      have hQ1 : QS scB Mc M (gwI (gwI M 100 0 0) 100 41 (-1)) n E EV (gmi Mc 25) := ⟨hQ0.1.tr (xFr.wf (Or.inr (Or.inl rfl))), h1.wf (by decide) (by decide) (by decide) (by decide), hQ0.2.2.wf (by decide)⟩
      have hB1 : BeS (gwI (gwI M 100 0 0) 100 41 (-1)) (chS Mc EV (2 ^ p) 0) := ⟨by rw [gmi_I, va_up_self]; rfl, fun y => absurd rfl y⟩
      have s1 := r_setOf (d := d + 34) hx hQ1.2.1 (Or.inl rfl) hQ1.2.2 hlf (show p < 6 by omega)
      rw [show dsF (gmi Mc 25) (tv Mc 3 8) p 0 = dset Mc 25 p 0 from rfl] at s1
      have hds := dset_lt hT 25 p 0
      refine g_aload_n dX11_least_30 rfl rfl rfl ?_
      refine g_aload_n dX11_least_31 rfl rfl rfl ?_
      refine g_getR dX11_least_32 ff_X11_61 rfl (k100 hQ1.2.1.1.1) (r100_32 hQ1.2.1.1.1) rfl ?_
      refine g_iload_n dX11_least_35 rfl rfl rfl ?_
      refine g_callVdi (ci := 11) dX11_least_36 lm_X11_335 mv_X11_setOf (s1) rfl rfl (k100 hQ1.2.1.1.1) rfl rfl (Nat.le_of_ble_eq_true rfl) (gFit_room (by omega)) rfl ?_
      refine g_istore_n dX11_least_39 rfl (by decide) rfl ?_
      refine g_iconst (v := 0) dX11_least_40 (by decide) rfl ?_
      refine g_istore dX11_least_41 (by decide) rfl ?_
      refine g_loopM (fun i => [(0, .ref 100), (1, .int (nI p)), (2, .int z), (3, .int (nI (dset Mc 25 p 0))), (4, .int (nI i))]) (fun i M1 => QS scB Mc M M1 n E EV (gmi Mc 25) ∧ BeS M1 (chS Mc EV (2 ^ p) i)) (2 ^ tv Mc 3 8) 0 (Nat.zero_le _) ⟨rfl, rfl, rfl, rfl, rfl, trivial⟩ ⟨hQ1, hB1⟩ (fun M1 hI => ?_) (fun i M1 _ hi hI ih => ?_)
      · have e27 := hI.1.2.1.e26.2.1
        by_cases hz0 : z = 0
        · rw [if_pos hz0]
          refine g_iload dX11_least_43 rfl rfl ?_
          refine g_iconst (v := 1) dX11_least_45 (by decide) rfl ?_
          refine g_aload_n dX11_least_46 rfl rfl rfl ?_
          refine g_getI dX11_least_47 ff_X11_288 rfl (k100 hI.1.2.1.1.1) rfl ?_
          refine g_ishl dX11_least_50 rfl ?_
          rw [e27, bt_one _ (by omega)]
          refine g_icmp_ge (tgt := 96) dX11_least_51 (by decide) rfl (fun _ => ?_) (fun h_ => absurd (nI_le (Nat.le_refl _) (by omega)) h_)
          refine g_aload_n dX11_least_96 rfl rfl rfl ?_
          refine g_getI dX11_least_97 ff_X11_421 rfl (k100 hI.1.2.1.1.1) rfl ?_
          refine g_iconst (v := -1) dX11_least_100 (by decide) rfl ?_
          rw [hI.2.1]
          refine g_icmp_eq (tgt := 108) dX11_least_101 (by decide) rfl (fun h101 => ?_) (fun h101 => ?_)
          · refine g_aload_n dX11_least_108 rfl rfl rfl ?_
            refine g_getI dX11_least_109 ff_X11_421 rfl (k100 hI.1.2.1.1.1) rfl ?_
            refine g_goto (tgt := 119) dX11_least_112 (by decide) ?_
            rw [hI.2.1]
            exact g_iret dX11_least_119 rfl (by first | rfl | exact b01 | exact nb01 hv01) (⟨rfl, hI.1.1, hI.1.2.1.1⟩)
          · refine g_iload_n dX11_least_104 rfl rfl rfl ?_
            refine g_if_ne (tgt := 115) dX11_least_105 (by decide) rfl (fun h_ => absurd (hz0) h_) (fun _ => ?_)
            refine g_aload_n dX11_least_108 rfl rfl rfl ?_
            refine g_getI dX11_least_109 ff_X11_421 rfl (k100 hI.1.2.1.1.1) rfl ?_
            refine g_goto (tgt := 119) dX11_least_112 (by decide) ?_
            rw [hI.2.1]
            exact g_iret dX11_least_119 rfl (by first | rfl | exact b01 | exact nb01 hv01) (⟨rfl, hI.1.1, hI.1.2.1.1⟩)
        · rw [if_neg hz0]
          by_cases hno : (chS Mc EV (2 ^ p) (2 ^ tv Mc 3 8)).1 = -1
          · have he : chS Mc EV (2 ^ p) (2 ^ tv Mc 3 8) = (-1, -1) := (chS_1 (Mc := Mc) (EV := EV) (2 ^ p) _).resolve_right (fun ⟨m, hm, y⟩ => by rw [y] at hno; exact neg1 (by omega) hno)
            refine g_iload dX11_least_43 rfl rfl ?_
            refine g_iconst (v := 1) dX11_least_45 (by decide) rfl ?_
            refine g_aload_n dX11_least_46 rfl rfl rfl ?_
            refine g_getI dX11_least_47 ff_X11_288 rfl (k100 hI.1.2.1.1.1) rfl ?_
            refine g_ishl dX11_least_50 rfl ?_
            rw [e27, bt_one _ (by omega)]
            refine g_icmp_ge (tgt := 96) dX11_least_51 (by decide) rfl (fun _ => ?_) (fun h_ => absurd (nI_le (Nat.le_refl _) (by omega)) h_)
            refine g_aload_n dX11_least_96 rfl rfl rfl ?_
            refine g_getI dX11_least_97 ff_X11_421 rfl (k100 hI.1.2.1.1.1) rfl ?_
            refine g_iconst (v := -1) dX11_least_100 (by decide) rfl ?_
            rw [hI.2.1]
            refine g_icmp_eq (tgt := 108) dX11_least_101 (by decide) rfl (fun _ => ?_) (fun h_ => absurd (hno) h_)
            refine g_aload_n dX11_least_108 rfl rfl rfl ?_
            refine g_getI dX11_least_109 ff_X11_421 rfl (k100 hI.1.2.1.1.1) rfl ?_
            refine g_goto (tgt := 119) dX11_least_112 (by decide) ?_
            rw [hI.2.1]
            exact g_iret dX11_least_119 rfl (by first | rfl | exact b01 | exact nb01 hv01) (⟨by rw [he], hI.1.1, hI.1.2.1.1⟩)
          · refine g_iload dX11_least_43 rfl rfl ?_
            refine g_iconst (v := 1) dX11_least_45 (by decide) rfl ?_
            refine g_aload_n dX11_least_46 rfl rfl rfl ?_
            refine g_getI dX11_least_47 ff_X11_288 rfl (k100 hI.1.2.1.1.1) rfl ?_
            refine g_ishl dX11_least_50 rfl ?_
            rw [e27, bt_one _ (by omega)]
            refine g_icmp_ge (tgt := 96) dX11_least_51 (by decide) rfl (fun _ => ?_) (fun h_ => absurd (nI_le (Nat.le_refl _) (by omega)) h_)
            refine g_aload_n dX11_least_96 rfl rfl rfl ?_
            refine g_getI dX11_least_97 ff_X11_421 rfl (k100 hI.1.2.1.1.1) rfl ?_
            refine g_iconst (v := -1) dX11_least_100 (by decide) rfl ?_
            rw [hI.2.1]
            refine g_icmp_eq (tgt := 108) dX11_least_101 (by decide) rfl (fun h_ => absurd h_ (hno)) (fun _ => ?_)
            refine g_iload_n dX11_least_104 rfl rfl rfl ?_
            refine g_if_ne (tgt := 115) dX11_least_105 (by decide) rfl (fun _ => ?_) (fun h_ => absurd h_ (hz0))
            refine g_aload_n dX11_least_115 rfl rfl rfl ?_
            refine g_getI dX11_least_116 ff_X11_424 rfl (k100 hI.1.2.1.1.1) rfl ?_
            rw [hI.2.2 hno]
            exact g_iret dX11_least_119 rfl (by first | rfl | exact b01 | exact nb01 hv01) (⟨rfl, hI.1.1, hI.1.2.1.1⟩)
      · have e27 := hI.1.2.1.e26.2.1
        have hi256 : i < 256 := by omega
        by_cases hov : i &&& dset Mc 25 p 0 = 0
        · have ech : chS Mc EV (2 ^ p) (i + 1) = if bet (chS Mc EV (2 ^ p) i) i (nI (hmA Mc (2 ^ p) i)) ∧ allG Mc EV (2 ^ p) i (tv Mc 3 7) = true then (nI i, nI (hmA Mc (2 ^ p) i)) else chS Mc EV (2 ^ p) i := rfl
          have egu : allG Mc EV (2 ^ p) i (tv Mc 3 7) = gub Mc EV p (i ||| dset Mc 25 p 0) := by rw [allG_one, decide_eq_true lp]; rfl
          have ehm : hmA Mc (2 ^ p) i = ssum i (tv Mc 8) (tv Mc 3 8) := by unfold hmA; rw [ssum_one, if_pos lp, bdif_0 i hi256 _ hds hov]
          refine g_iload dX11_least_43 rfl rfl ?_
          refine g_iconst (v := 1) dX11_least_45 (by decide) rfl ?_
          refine g_aload_n dX11_least_46 rfl rfl rfl ?_
          refine g_getI dX11_least_47 ff_X11_288 rfl (k100 hI.1.2.1.1.1) rfl ?_
          refine g_ishl dX11_least_50 rfl ?_
          rw [e27, bt_one _ (by omega)]
          refine g_icmp_ge (tgt := 96) dX11_least_51 (by decide) rfl (fun h_ => absurd h_ (nI_ge hi (by omega))) (fun _ => ?_)
          refine g_iload dX11_least_54 rfl rfl ?_
          refine g_iload_n dX11_least_56 rfl rfl rfl ?_
          refine g_iand dX11_least_57 rfl ?_
          rw [fa_and, hov]
          refine g_if_ne (tgt := 90) dX11_least_58 (by decide) rfl (fun h_ => absurd (rfl) h_) (fun _ => ?_)
          refine g_aload_n dX11_least_61 rfl rfl rfl ?_
          refine g_aload_n dX11_least_62 rfl rfl rfl ?_
          refine g_getR dX11_least_63 ff_X11_61 rfl (k100 hI.1.2.1.1.1) (r100_32 hI.1.2.1.1.1) rfl ?_
          refine g_iload_n dX11_least_66 rfl rfl rfl ?_
          refine g_iload_n dX11_least_67 rfl rfl rfl ?_
          refine g_iload dX11_least_68 rfl rfl ?_
          refine g_ior dX11_least_70 rfl ?_
          rw [fa_or, Nat.or_comm]
          refine g_callVq (ci := 11) dX11_least_71 lm_X11_339 mv_X11_readWith (r_readWith (d := d) hx hZ hI.1.2.1 (Or.inl rfl) hI.1.2.2 hRng lp (bt_orlt hi256 hds)) rfl rfl (k100 hI.1.2.1.1.1) rfl rfl (Nat.le_of_ble_eq_true rfl) (gFit_room (by omega)) rfl (fun v M2 hQ => ?_)
          obtain ⟨rfl, hf⟩ := hQ
          have hQ2 := hI.1.q hf.1 hf.2
          have hB2 := hI.2.q hf.1
          by_cases hg : gub Mc EV p (i ||| dset Mc 25 p 0) = true
          · have hsm := r_sumOf (d := d + 34) (c := 8) (z := 1) hx hQ2.2.1 hi256 (Or.inr ⟨rfl, rfl⟩)
            have hms := r_meetsSet (d := d + 34) (h := nI (ssum i (tv Mc 8) (tv Mc 3 8))) hx hQ2.2.1.1.1 hi256 hB2.1 ((chS_1 (Mc := Mc) (EV := EV) (2 ^ p) i).elim (fun y => Or.inl (by rw [y])) (fun ⟨m, hm, y⟩ => Or.inr ⟨m, hm, by rw [y]⟩))
            have hbc := bet_c (k := i) (h := nI (ssum i (tv Mc 8) (tv Mc 3 8))) (bs := (chS Mc EV (2 ^ p) i).1) (x := gmi M2 100 42) (y := (chS Mc EV (2 ^ p) i).2) hB2.2
            rw [egu, ehm] at ech
            by_cases hbt : bet (chS Mc EV (2 ^ p) i) i (nI (ssum i (tv Mc 8) (tv Mc 3 8)))
            · rw [if_pos (hbc.mpr hbt)] at hms
              rw [if_pos ⟨hbt, hg⟩] at ech
              refine g_if_le (tgt := 90) dX11_least_74 (by decide) rfl (fun h_ => absurd h_ (Int32.not_le.mpr (gub_rd.mp hg))) (fun _ => ?_)
              refine g_aload_n dX11_least_77 rfl rfl rfl ?_
              refine g_iload dX11_least_78 rfl rfl ?_
              refine g_aload_n dX11_least_80 rfl rfl rfl ?_
              refine g_iload dX11_least_81 rfl rfl ?_
              refine g_iconst (v := 1) dX11_least_83 (by decide) rfl ?_
              refine g_callVdi (ci := 11) dX11_least_84 lm_X11_324 mv_X11_sumOf (hsm) rfl rfl (k100 hQ2.2.1.1.1) rfl rfl (Nat.le_of_ble_eq_true rfl) (gFit_room (by omega)) rfl ?_
              refine g_callVdv (ci := 11) dX11_least_87 lm_X11_427 mv_X11_meetsSet (hms) rfl rfl (k100 hQ2.2.1.1.1) rfl rfl (Nat.le_of_ble_eq_true rfl) (gFit_room (by omega)) rfl ?_
              refine g_iincV (c := 1) dX11_least_90 rfl (by decide) (by decide) rfl ?_
              refine g_goto (tgt := 43) dX11_least_93 (by decide) ?_
              exact g_go (ih _ ⟨hQ2.best, by rw [ech]; exact ⟨by rw [gmi_I, va_up_ne _ _ (by decide), gmi_I, va_up_self], fun _ => by rw [gmi_I, va_up_self]⟩⟩) ⟨rfl, rfl, rfl, rfl, by rw [← nI_1 i]; rfl, trivial⟩
            · rw [if_neg (fun y => hbt (hbc.mp y))] at hms
              rw [if_neg (fun y => hbt y.1)] at ech
              refine g_if_le (tgt := 90) dX11_least_74 (by decide) rfl (fun h_ => absurd h_ (Int32.not_le.mpr (gub_rd.mp hg))) (fun _ => ?_)
              refine g_aload_n dX11_least_77 rfl rfl rfl ?_
              refine g_iload dX11_least_78 rfl rfl ?_
              refine g_aload_n dX11_least_80 rfl rfl rfl ?_
              refine g_iload dX11_least_81 rfl rfl ?_
              refine g_iconst (v := 1) dX11_least_83 (by decide) rfl ?_
              refine g_callVdi (ci := 11) dX11_least_84 lm_X11_324 mv_X11_sumOf (hsm) rfl rfl (k100 hQ2.2.1.1.1) rfl rfl (Nat.le_of_ble_eq_true rfl) (gFit_room (by omega)) rfl ?_
              refine g_callVdv (ci := 11) dX11_least_87 lm_X11_427 mv_X11_meetsSet (hms) rfl rfl (k100 hQ2.2.1.1.1) rfl rfl (Nat.le_of_ble_eq_true rfl) (gFit_room (by omega)) rfl ?_
              refine g_iincV (c := 1) dX11_least_90 rfl (by decide) (by decide) rfl ?_
              refine g_goto (tgt := 43) dX11_least_93 (by decide) ?_
              exact g_go (ih _ ⟨hQ2, by rw [ech]; exact hB2⟩) ⟨rfl, rfl, rfl, rfl, by rw [← nI_1 i]; rfl, trivial⟩
          · rw [if_neg (fun y => hg (egu.symm.trans y.2))] at ech
            refine g_if_le (tgt := 90) dX11_least_74 (by decide) rfl (fun _ => ?_) (fun h_ => absurd (Int32.not_lt.mp (fun y => hg (gub_rd.mpr y))) h_)
            refine g_iincV (c := 1) dX11_least_90 rfl (by decide) (by decide) rfl ?_
            refine g_goto (tgt := 43) dX11_least_93 (by decide) ?_
            exact g_go (ih _ ⟨hQ2, by rw [ech]; exact hB2⟩) ⟨rfl, rfl, rfl, rfl, by rw [← nI_1 i]; rfl, trivial⟩
        · have ech := chS_skip (EV := EV) hT lp hi256 hov
          have hand : i &&& dset Mc 25 p 0 < 256 := bt_andlt hi256
          refine g_iload dX11_least_43 rfl rfl ?_
          refine g_iconst (v := 1) dX11_least_45 (by decide) rfl ?_
          refine g_aload_n dX11_least_46 rfl rfl rfl ?_
          refine g_getI dX11_least_47 ff_X11_288 rfl (k100 hI.1.2.1.1.1) rfl ?_
          refine g_ishl dX11_least_50 rfl ?_
          rw [e27, bt_one _ (by omega)]
          refine g_icmp_ge (tgt := 96) dX11_least_51 (by decide) rfl (fun h_ => absurd h_ (nI_ge hi (by omega))) (fun _ => ?_)
          refine g_iload dX11_least_54 rfl rfl ?_
          refine g_iload_n dX11_least_56 rfl rfl rfl ?_
          refine g_iand dX11_least_57 rfl ?_
          rw [fa_and]
          refine g_if_ne (tgt := 90) dX11_least_58 (by decide) rfl (fun _ => ?_) (fun h_ => absurd h_ (nI_ne0 (by omega) (by omega)))
          refine g_iincV (c := 1) dX11_least_90 rfl (by decide) (by decide) rfl ?_
          refine g_goto (tgt := 43) dX11_least_93 (by decide) ?_
          exact g_go (ih _ ⟨hI.1, by rw [ech]; exact hI.2⟩) ⟨rfl, rfl, rfl, rfl, by rw [← nI_1 i]; rfl, trivial⟩
    · rw [if_neg (fun y => hz ⟨Int32.not_lt.mp y.1, y.2⟩)]
      refine g_aload_n dX11_least_0 rfl rfl rfl ?_
      refine g_iconst (v := 0) dX11_least_1 (by decide) rfl ?_
      refine g_putI dX11_least_2 fp_X11_90 rfl rfl rfl (k100 hL) rfl ?_
      refine g_aload_n dX11_least_5 rfl rfl rfl ?_
      refine g_iload_n dX11_least_6 rfl rfl rfl ?_
      refine g_callVdi (ci := 11) dX11_least_7 lm_X11_342 mv_X11_isPerson (h1.isP (d := d + 35) hx) rfl rfl (k100 (gLay_I hL)) rfl rfl (Nat.le_of_ble_eq_true rfl) (gFit_room (by omega)) rfl ?_
      rw [ib_t hxc]
      refine g_if_eq (tgt := 23) dX11_least_10 (by decide) rfl (fun h_ => absurd h_ (by decide)) (fun _ => ?_)
      refine g_iload_n dX11_least_13 rfl rfl rfl ?_
      refine g_i2l dX11_least_14 rfl ?_
      refine g_lconst (v := 0) dX11_least_15 (by decide) rfl ?_
      refine g_lconst (v := 1) dX11_least_16 (by decide) rfl ?_
      refine g_callSdi dX11_least_17 lm_X11_211 mv_X11_isIn (r_isIn (d := d + 35) (l := 0) (h := 1) hx rfl (by decide) (by decide)) rfl rfl (Nat.le_of_ble_eq_true rfl) (gFit_room (by omega)) rfl ?_
      rw [ib_f hz]
      refine g_if_ne (tgt := 25) dX11_least_20 (by decide) rfl (fun h_ => absurd (by decide) h_) (fun _ => ?_)
      refine g_iconst (v := -1) dX11_least_23 (by decide) rfl ?_
      exact g_iret dX11_least_24 rfl (by first | rfl | exact b01 | exact nb01 hv01) (⟨rfl, hQ0.1, h1.1⟩)
  · rw [if_neg hxc]
    refine g_aload_n dX11_least_0 rfl rfl rfl ?_
    refine g_iconst (v := 0) dX11_least_1 (by decide) rfl ?_
    refine g_putI dX11_least_2 fp_X11_90 rfl rfl rfl (k100 hL) rfl ?_
    refine g_aload_n dX11_least_5 rfl rfl rfl ?_
    refine g_iload_n dX11_least_6 rfl rfl rfl ?_
    refine g_callVdi (ci := 11) dX11_least_7 lm_X11_342 mv_X11_isPerson (h1.isP (d := d + 35) hx) rfl rfl (k100 (gLay_I hL)) rfl rfl (Nat.le_of_ble_eq_true rfl) (gFit_room (by omega)) rfl ?_
    rw [ib_f hxc]
    refine g_if_eq (tgt := 23) dX11_least_10 (by decide) rfl (fun _ => ?_) (fun h_ => absurd (by decide) h_)
    refine g_iconst (v := -1) dX11_least_23 (by decide) rfl ?_
    exact g_iret dX11_least_24 rfl (by first | rfl | exact b01 | exact nb01 hv01) (⟨rfl, hQ0.1, h1.1⟩)
end H16
