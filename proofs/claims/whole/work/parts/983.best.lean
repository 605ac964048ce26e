section H14
variable {X : gX} {Mc M : gM} {d n A c : Nat} {E : Nat → LE} {EV : EVt} {F : Nat → Int32}
theorem bdif_add : ∀ n, n < 256 → ∀ o, o < 256 → bdif n o + (n &&& o) = n := by decide +kernel
theorem pcB : ∀ b, b < 256 → pcn b = fb_ct (fun i => b.testBit i) 8 := by decide +kernel
theorem fb_ct_mn {P Q : Nat → Bool} : ∀ k, (∀ i, i < k → P i = true → Q i = true) → fb_ct P k ≤ fb_ct Q k ∧ ((∃ i, i < k ∧ Q i = true ∧ P i = false) → fb_ct P k < fb_ct Q k)
  | 0, _ => ⟨Nat.le_refl _, fun ⟨i, hi, _⟩ => absurd hi (by omega)⟩
  | k + 1, h => by
    obtain ⟨a, b⟩ := fb_ct_mn k (fun i hi => h i (by omega))
    rw [fb_ct_succ, fb_ct_succ]
    have hk := h k (by omega)
    refine ⟨?_, fun ⟨i, hi, hq, hp⟩ => ?_⟩
    · cases hP : P k
      · cases Q k <;> simp <;> omega
      · rw [hk hP]; simp; exact a
    · by_cases e : i = k
      · subst e
        rw [hq, hp]; simp; omega
      · have := b ⟨i, by omega, hq, hp⟩
        cases hP : P k
        · cases Q k <;> simp <;> omega
        · rw [hk hP]; simp; omega
theorem bdif_bit (a b i : Nat) : (bdif a b).testBit i = (a.testBit i && !b.testBit i) := by
  unfold bdif
  rw [Nat.testBit_xor, Nat.testBit_and]
  cases a.testBit i <;> cases b.testBit i <;> rfl
theorem pcn_dif {n o : Nat} (hn : n < 256) (h : ¬ n &&& o = 0) : pcn (bdif n o) < pcn n := by
  rw [pcB _ (bdif_lt hn), pcB _ hn]
  refine (fb_ct_mn 8 (fun i _ hi => ?_)).2 ?_
  · rw [bdif_bit] at hi
    cases z : n.testBit i
    · rw [z] at hi; exact absurd hi (by simp)
    · rfl
  · refine Decidable.by_contra (fun hno => h ?_)
    apply Nat.eq_of_testBit_eq
    intro i
    rw [Nat.testBit_and, Nat.zero_testBit]
    by_cases hi : i < 8
    · cases z : n.testBit i
      · rfl
      · cases y : o.testBit i
        · rfl
        · exact absurd ⟨i, hi, z, by rw [bdif_bit, z, y]; rfl⟩ hno
    · rw [Nat.testBit_lt_two_pow (Nat.lt_of_lt_of_le hn (Nat.le_trans (by decide) (bt_pow (show 8 ≤ i by omega)))), Bool.false_and]
theorem chS_1 (q : Nat) : ∀ k, (chS Mc EV q k = (-1, -1)) ∨ ∃ m, m < k ∧ chS Mc EV q k = (nI m, nI (hmA Mc q m))
  | 0 => Or.inl rfl
  | k + 1 => by
    unfold chS
    by_cases h : bet (chS Mc EV q k) k (nI (hmA Mc q k)) ∧ allG Mc EV q k (tv Mc 3 7) = true
    · rw [if_pos h]; exact Or.inr ⟨k, by omega, rfl⟩
    · rw [if_neg h]
      rcases chS_1 q k with z | ⟨m, hm, z⟩
      · exact Or.inl z
      · exact Or.inr ⟨m, by omega, z⟩
set_option maxRecDepth 20000 in
theorem r_meetsSet (hx : gXok X) (hL : gLay M) {bs h : Int32} {k : Nat} (hk : k < 256) (h41 : gmi M 100 41 = bs) (hb : bs = -1 ∨ ∃ m, m < k ∧ bs = nI m) : gDet X (d + 1) yX11_meetsSet cX11_meetsSet 4 none [.ref 100, .int (nI k), .int h] M none (if bet (bs, gmi M 100 42) k h then gwI (gwI M 100 41 (nI k)) 100 42 h else M) := by
  refine gMet.of hx (by decide) (Nat.le_of_ble_eq_true rfl) ?_
  have fin1 : (bet (bs, gmi M 100 42) k h) → gW X (gRoom (d + 1) 0 0) (gZ X gN0 0 0 (fun v M2 => v = none ∧ M2 = if bet (bs, gmi M 100 42) k h then gwI (gwI M 100 41 (nI k)) 100 42 h else M)) gN0 yX11_meetsSet cX11_meetsSet 4 none 80 [(0, .ref 100), (1, .int (nI k)), (2, .int h), (3, .int 1)] [] M 0 0 := by
    intro hc
    rw [if_pos hc]
    refine g_iload_n dX11_meetsSet_80 rfl rfl rfl ?_
    refine g_if_ne (tgt := 85) dX11_meetsSet_81 (by decide) rfl (fun _ => ?_) (fun h_ => absurd h_ (by decide))
    refine g_aload_n dX11_meetsSet_85 rfl rfl rfl ?_
    refine g_iload_n dX11_meetsSet_86 rfl rfl rfl ?_
    refine g_putI dX11_meetsSet_87 fp_X11_421 rfl rfl rfl (k100 hL) rfl ?_
    refine g_aload_n dX11_meetsSet_90 rfl rfl rfl ?_
    refine g_iload_n dX11_meetsSet_91 rfl rfl rfl ?_
    refine g_putI dX11_meetsSet_92 fp_X11_424 rfl rfl rfl (k100 (gLay_I hL)) rfl ?_
    exact g_vret dX11_meetsSet_95 rfl (⟨rfl, rfl⟩)
  have fin0 : ¬ (bet (bs, gmi M 100 42) k h) → gW X (gRoom (d + 1) 0 0) (gZ X gN0 0 0 (fun v M2 => v = none ∧ M2 = if bet (bs, gmi M 100 42) k h then gwI (gwI M 100 41 (nI k)) 100 42 h else M)) gN0 yX11_meetsSet cX11_meetsSet 4 none 80 [(0, .ref 100), (1, .int (nI k)), (2, .int h), (3, .int 0)] [] M 0 0 := by
    intro hc
    rw [if_neg hc]
    refine g_iload_n dX11_meetsSet_80 rfl rfl rfl ?_
    refine g_if_ne (tgt := 85) dX11_meetsSet_81 (by decide) rfl (fun h_ => absurd (by decide) h_) (fun _ => ?_)
    exact g_vret dX11_meetsSet_84 rfl (⟨rfl, rfl⟩)
  rcases hb with hb | ⟨m, hm, hb⟩
  · have hbet : bet (bs, gmi M 100 42) k h := Or.inl hb
    refine g_aload_n dX11_meetsSet_0 rfl rfl rfl ?_
    refine g_getI dX11_meetsSet_1 ff_X11_421 rfl (k100 hL) rfl ?_
    refine g_iconst (v := -1) dX11_meetsSet_4 (by decide) rfl ?_
    rw [h41]
    refine g_icmp_eq (tgt := 16) dX11_meetsSet_5 (by decide) rfl (fun _ => ?_) (fun h_ => absurd (hb) h_)
    refine g_iconst (v := 1) dX11_meetsSet_16 (by decide) rfl ?_
    refine g_goto (tgt := 21) dX11_meetsSet_17 (by decide) ?_
    refine g_istore_n dX11_meetsSet_21 rfl (by decide) rfl ?_
    refine g_aload_n dX11_meetsSet_22 rfl rfl rfl ?_
    refine g_getI dX11_meetsSet_23 ff_X11_421 rfl (k100 hL) rfl ?_
    refine g_iconst (v := -1) dX11_meetsSet_26 (by decide) rfl ?_
    rw [h41]
    refine g_icmp_eq (tgt := 80) dX11_meetsSet_27 (by decide) rfl (fun _ => ?_) (fun h_ => absurd (hb) h_)
    exact g_go (fin1 hbet) ⟨rfl, rfl, rfl, rfl, trivial⟩
  · have hne : ¬ bs = -1 := by rw [hb]; exact neg1 (by omega)
    have hlt : ¬ nI k < bs := by rw [hb]; exact fun z => absurd ((nI_ltI (by omega) (by omega)).mp z) (by omega)
    refine g_aload_n dX11_meetsSet_0 rfl rfl rfl ?_
    refine g_getI dX11_meetsSet_1 ff_X11_421 rfl (k100 hL) rfl ?_
    refine g_iconst (v := -1) dX11_meetsSet_4 (by decide) rfl ?_
    rw [h41]
    refine g_icmp_eq (tgt := 16) dX11_meetsSet_5 (by decide) rfl (fun h_ => absurd h_ (hne)) (fun _ => ?_)
    refine g_iload_n dX11_meetsSet_8 rfl rfl rfl ?_
    refine g_aload_n dX11_meetsSet_9 rfl rfl rfl ?_
    refine g_getI dX11_meetsSet_10 ff_X11_424 rfl (k100 hL) rfl ?_
    refine g_icmp_ge (tgt := 20) dX11_meetsSet_13 (by decide) rfl (fun h13 => ?_) (fun h13 => ?_)
    · refine g_iconst (v := 0) dX11_meetsSet_20 (by decide) rfl ?_
      refine g_istore_n dX11_meetsSet_21 rfl (by decide) rfl ?_
      refine g_aload_n dX11_meetsSet_22 rfl rfl rfl ?_
      refine g_getI dX11_meetsSet_23 ff_X11_421 rfl (k100 hL) rfl ?_
      refine g_iconst (v := -1) dX11_meetsSet_26 (by decide) rfl ?_
      rw [h41]
      refine g_icmp_eq (tgt := 80) dX11_meetsSet_27 (by decide) rfl (fun h_ => absurd h_ (hne)) (fun _ => ?_)
      refine g_iload_n dX11_meetsSet_30 rfl rfl rfl ?_
      refine g_aload_n dX11_meetsSet_31 rfl rfl rfl ?_
      refine g_getI dX11_meetsSet_32 ff_X11_424 rfl (k100 hL) rfl ?_
      refine g_icmp_ne (tgt := 80) dX11_meetsSet_35 (by decide) rfl (fun h35 => ?_) (fun h35 => ?_)
      · first
          | exact g_go (fin1 (Or.inr (Or.inl (Int32.not_le.mp h13)))) ⟨rfl, rfl, rfl, rfl, trivial⟩
          | exact g_go (fin1 (Or.inr (Or.inr ⟨h35, h49⟩))) ⟨rfl, rfl, rfl, rfl, trivial⟩
          | exact g_go (fin0 (fun z => z.elim hne (fun z => z.elim (fun y => Int32.not_lt.mpr h13 y) (fun y => h49 y.2)))) ⟨rfl, rfl, rfl, rfl, trivial⟩
          | exact g_go (fin0 (fun z => z.elim hne (fun z => z.elim (fun y => Int32.not_lt.mpr h13 y) (fun y => h35 y.1)))) ⟨rfl, rfl, rfl, rfl, trivial⟩
          | exact g_go (fin0 (fun z => z.elim hne (fun z => z.elim (fun y => absurd h35 (Int32.ne_of_lt y)) (fun y => h49 y.2)))) ⟨rfl, rfl, rfl, rfl, trivial⟩
      · refine g_iload_n dX11_meetsSet_38 rfl rfl rfl ?_
        refine g_callSdi dX11_meetsSet_39 lm_X11_327 mv_J6_bitCount_0f7a4 (c_bitCount (d := d) hx) rfl rfl (Nat.le_of_ble_eq_true rfl) (gFit_room (by omega)) rfl ?_
        refine g_aload_n dX11_meetsSet_42 rfl rfl rfl ?_
        refine g_getI dX11_meetsSet_43 ff_X11_421 rfl (k100 hL) rfl ?_
        rw [h41]
        refine g_callSdi dX11_meetsSet_46 lm_X11_327 mv_J6_bitCount_0f7a4 (c_bitCount (d := d) hx) rfl rfl (Nat.le_of_ble_eq_true rfl) (gFit_room (by omega)) rfl ?_
        refine g_icmp_lt (tgt := 74) dX11_meetsSet_49 (by decide) rfl (fun h49 => ?_) (fun h49 => ?_)
        · refine g_iconst (v := 1) dX11_meetsSet_74 (by decide) rfl ?_
          refine g_goto (tgt := 79) dX11_meetsSet_75 (by decide) ?_
          refine g_istore_n dX11_meetsSet_79 rfl (by decide) rfl ?_
          first
            | exact g_go (fin1 (Or.inr (Or.inl (Int32.not_le.mp h13)))) ⟨rfl, rfl, rfl, rfl, trivial⟩
            | exact g_go (fin1 (Or.inr (Or.inr ⟨h35, h49⟩))) ⟨rfl, rfl, rfl, rfl, trivial⟩
            | exact g_go (fin0 (fun z => z.elim hne (fun z => z.elim (fun y => Int32.not_lt.mpr h13 y) (fun y => h49 y.2)))) ⟨rfl, rfl, rfl, rfl, trivial⟩
            | exact g_go (fin0 (fun z => z.elim hne (fun z => z.elim (fun y => Int32.not_lt.mpr h13 y) (fun y => h35 y.1)))) ⟨rfl, rfl, rfl, rfl, trivial⟩
            | exact g_go (fin0 (fun z => z.elim hne (fun z => z.elim (fun y => absurd h35 (Int32.ne_of_lt y)) (fun y => h49 y.2)))) ⟨rfl, rfl, rfl, rfl, trivial⟩
        · refine g_iload_n dX11_meetsSet_52 rfl rfl rfl ?_
          refine g_callSdi dX11_meetsSet_53 lm_X11_327 mv_J6_bitCount_0f7a4 (c_bitCount (d := d) hx) rfl rfl (Nat.le_of_ble_eq_true rfl) (gFit_room (by omega)) rfl ?_
          refine g_aload_n dX11_meetsSet_56 rfl rfl rfl ?_
          refine g_getI dX11_meetsSet_57 ff_X11_421 rfl (k100 hL) rfl ?_
          rw [h41]
          refine g_callSdi dX11_meetsSet_60 lm_X11_327 mv_J6_bitCount_0f7a4 (c_bitCount (d := d) hx) rfl rfl (Nat.le_of_ble_eq_true rfl) (gFit_room (by omega)) rfl ?_
          refine g_icmp_ne (tgt := 78) dX11_meetsSet_63 (by decide) rfl (fun h63 => ?_) (fun h63 => ?_)
          · refine g_iconst (v := 0) dX11_meetsSet_78 (by decide) rfl ?_
            refine g_istore_n dX11_meetsSet_79 rfl (by decide) rfl ?_
            first
              | exact g_go (fin1 (Or.inr (Or.inl (Int32.not_le.mp h13)))) ⟨rfl, rfl, rfl, rfl, trivial⟩
              | exact g_go (fin1 (Or.inr (Or.inr ⟨h35, h49⟩))) ⟨rfl, rfl, rfl, rfl, trivial⟩
              | exact g_go (fin0 (fun z => z.elim hne (fun z => z.elim (fun y => Int32.not_lt.mpr h13 y) (fun y => h49 y.2)))) ⟨rfl, rfl, rfl, rfl, trivial⟩
              | exact g_go (fin0 (fun z => z.elim hne (fun z => z.elim (fun y => Int32.not_lt.mpr h13 y) (fun y => h35 y.1)))) ⟨rfl, rfl, rfl, rfl, trivial⟩
              | exact g_go (fin0 (fun z => z.elim hne (fun z => z.elim (fun y => absurd h35 (Int32.ne_of_lt y)) (fun y => h49 y.2)))) ⟨rfl, rfl, rfl, rfl, trivial⟩
          · refine g_iload_n dX11_meetsSet_66 rfl rfl rfl ?_
            refine g_aload_n dX11_meetsSet_67 rfl rfl rfl ?_
            refine g_getI dX11_meetsSet_68 ff_X11_421 rfl (k100 hL) rfl ?_
            rw [h41]
            refine g_icmp_ge (tgt := 78) dX11_meetsSet_71 (by decide) rfl (fun _ => ?_) (fun h_ => absurd (Int32.not_lt.mp hlt) h_)
            refine g_iconst (v := 0) dX11_meetsSet_78 (by decide) rfl ?_
            refine g_istore_n dX11_meetsSet_79 rfl (by decide) rfl ?_
            first
              | exact g_go (fin1 (Or.inr (Or.inl (Int32.not_le.mp h13)))) ⟨rfl, rfl, rfl, rfl, trivial⟩
              | exact g_go (fin1 (Or.inr (Or.inr ⟨h35, h49⟩))) ⟨rfl, rfl, rfl, rfl, trivial⟩
              | exact g_go (fin0 (fun z => z.elim hne (fun z => z.elim (fun y => Int32.not_lt.mpr h13 y) (fun y => h49 y.2)))) ⟨rfl, rfl, rfl, rfl, trivial⟩
              | exact g_go (fin0 (fun z => z.elim hne (fun z => z.elim (fun y => Int32.not_lt.mpr h13 y) (fun y => h35 y.1)))) ⟨rfl, rfl, rfl, rfl, trivial⟩
              | exact g_go (fin0 (fun z => z.elim hne (fun z => z.elim (fun y => absurd h35 (Int32.ne_of_lt y)) (fun y => h49 y.2)))) ⟨rfl, rfl, rfl, rfl, trivial⟩
    · refine g_iconst (v := 1) dX11_meetsSet_16 (by decide) rfl ?_
      refine g_goto (tgt := 21) dX11_meetsSet_17 (by decide) ?_
      refine g_istore_n dX11_meetsSet_21 rfl (by decide) rfl ?_
      refine g_aload_n dX11_meetsSet_22 rfl rfl rfl ?_
      refine g_getI dX11_meetsSet_23 ff_X11_421 rfl (k100 hL) rfl ?_
      refine g_iconst (v := -1) dX11_meetsSet_26 (by decide) rfl ?_
      rw [h41]
      refine g_icmp_eq (tgt := 80) dX11_meetsSet_27 (by decide) rfl (fun h_ => absurd h_ (hne)) (fun _ => ?_)
      refine g_iload_n dX11_meetsSet_30 rfl rfl rfl ?_
      refine g_aload_n dX11_meetsSet_31 rfl rfl rfl ?_
      refine g_getI dX11_meetsSet_32 ff_X11_424 rfl (k100 hL) rfl ?_
      refine g_icmp_ne (tgt := 80) dX11_meetsSet_35 (by decide) rfl (fun h35 => ?_) (fun h35 => ?_)
      · first
          | exact g_go (fin1 (Or.inr (Or.inl (Int32.not_le.mp h13)))) ⟨rfl, rfl, rfl, rfl, trivial⟩
          | exact g_go (fin1 (Or.inr (Or.inr ⟨h35, h49⟩))) ⟨rfl, rfl, rfl, rfl, trivial⟩
          | exact g_go (fin0 (fun z => z.elim hne (fun z => z.elim (fun y => Int32.not_lt.mpr h13 y) (fun y => h49 y.2)))) ⟨rfl, rfl, rfl, rfl, trivial⟩
          | exact g_go (fin0 (fun z => z.elim hne (fun z => z.elim (fun y => Int32.not_lt.mpr h13 y) (fun y => h35 y.1)))) ⟨rfl, rfl, rfl, rfl, trivial⟩
          | exact g_go (fin0 (fun z => z.elim hne (fun z => z.elim (fun y => absurd h35 (Int32.ne_of_lt y)) (fun y => h49 y.2)))) ⟨rfl, rfl, rfl, rfl, trivial⟩
      · refine g_iload_n dX11_meetsSet_38 rfl rfl rfl ?_
        refine g_callSdi dX11_meetsSet_39 lm_X11_327 mv_J6_bitCount_0f7a4 (c_bitCount (d := d) hx) rfl rfl (Nat.le_of_ble_eq_true rfl) (gFit_room (by omega)) rfl ?_
        refine g_aload_n dX11_meetsSet_42 rfl rfl rfl ?_
        refine g_getI dX11_meetsSet_43 ff_X11_421 rfl (k100 hL) rfl ?_
        rw [h41]
        refine g_callSdi dX11_meetsSet_46 lm_X11_327 mv_J6_bitCount_0f7a4 (c_bitCount (d := d) hx) rfl rfl (Nat.le_of_ble_eq_true rfl) (gFit_room (by omega)) rfl ?_
        refine g_icmp_lt (tgt := 74) dX11_meetsSet_49 (by decide) rfl (fun h49 => ?_) (fun h49 => ?_)
        · refine g_iconst (v := 1) dX11_meetsSet_74 (by decide) rfl ?_
          refine g_goto (tgt := 79) dX11_meetsSet_75 (by decide) ?_
          refine g_istore_n dX11_meetsSet_79 rfl (by decide) rfl ?_
          first
            | exact g_go (fin1 (Or.inr (Or.inl (Int32.not_le.mp h13)))) ⟨rfl, rfl, rfl, rfl, trivial⟩
            | exact g_go (fin1 (Or.inr (Or.inr ⟨h35, h49⟩))) ⟨rfl, rfl, rfl, rfl, trivial⟩
            | exact g_go (fin0 (fun z => z.elim hne (fun z => z.elim (fun y => Int32.not_lt.mpr h13 y) (fun y => h49 y.2)))) ⟨rfl, rfl, rfl, rfl, trivial⟩
            | exact g_go (fin0 (fun z => z.elim hne (fun z => z.elim (fun y => Int32.not_lt.mpr h13 y) (fun y => h35 y.1)))) ⟨rfl, rfl, rfl, rfl, trivial⟩
            | exact g_go (fin0 (fun z => z.elim hne (fun z => z.elim (fun y => absurd h35 (Int32.ne_of_lt y)) (fun y => h49 y.2)))) ⟨rfl, rfl, rfl, rfl, trivial⟩
        · refine g_iload_n dX11_meetsSet_52 rfl rfl rfl ?_
          refine g_callSdi dX11_meetsSet_53 lm_X11_327 mv_J6_bitCount_0f7a4 (c_bitCount (d := d) hx) rfl rfl (Nat.le_of_ble_eq_true rfl) (gFit_room (by omega)) rfl ?_
          refine g_aload_n dX11_meetsSet_56 rfl rfl rfl ?_
          refine g_getI dX11_meetsSet_57 ff_X11_421 rfl (k100 hL) rfl ?_
          rw [h41]
          refine g_callSdi dX11_meetsSet_60 lm_X11_327 mv_J6_bitCount_0f7a4 (c_bitCount (d := d) hx) rfl rfl (Nat.le_of_ble_eq_true rfl) (gFit_room (by omega)) rfl ?_
          refine g_icmp_ne (tgt := 78) dX11_meetsSet_63 (by decide) rfl (fun h63 => ?_) (fun h63 => ?_)
          · refine g_iconst (v := 0) dX11_meetsSet_78 (by decide) rfl ?_
            refine g_istore_n dX11_meetsSet_79 rfl (by decide) rfl ?_
            first
              | exact g_go (fin1 (Or.inr (Or.inl (Int32.not_le.mp h13)))) ⟨rfl, rfl, rfl, rfl, trivial⟩
              | exact g_go (fin1 (Or.inr (Or.inr ⟨h35, h49⟩))) ⟨rfl, rfl, rfl, rfl, trivial⟩
              | exact g_go (fin0 (fun z => z.elim hne (fun z => z.elim (fun y => Int32.not_lt.mpr h13 y) (fun y => h49 y.2)))) ⟨rfl, rfl, rfl, rfl, trivial⟩
              | exact g_go (fin0 (fun z => z.elim hne (fun z => z.elim (fun y => Int32.not_lt.mpr h13 y) (fun y => h35 y.1)))) ⟨rfl, rfl, rfl, rfl, trivial⟩
              | exact g_go (fin0 (fun z => z.elim hne (fun z => z.elim (fun y => absurd h35 (Int32.ne_of_lt y)) (fun y => h49 y.2)))) ⟨rfl, rfl, rfl, rfl, trivial⟩
          · refine g_iload_n dX11_meetsSet_66 rfl rfl rfl ?_
            refine g_aload_n dX11_meetsSet_67 rfl rfl rfl ?_
            refine g_getI dX11_meetsSet_68 ff_X11_421 rfl (k100 hL) rfl ?_
            rw [h41]
            refine g_icmp_ge (tgt := 78) dX11_meetsSet_71 (by decide) rfl (fun _ => ?_) (fun h_ => absurd (Int32.not_lt.mp hlt) h_)
            refine g_iconst (v := 0) dX11_meetsSet_78 (by decide) rfl ?_
            refine g_istore_n dX11_meetsSet_79 rfl (by decide) rfl ?_
            first
              | exact g_go (fin1 (Or.inr (Or.inl (Int32.not_le.mp h13)))) ⟨rfl, rfl, rfl, rfl, trivial⟩
              | exact g_go (fin1 (Or.inr (Or.inr ⟨h35, h49⟩))) ⟨rfl, rfl, rfl, rfl, trivial⟩
              | exact g_go (fin0 (fun z => z.elim hne (fun z => z.elim (fun y => Int32.not_lt.mpr h13 y) (fun y => h49 y.2)))) ⟨rfl, rfl, rfl, rfl, trivial⟩
              | exact g_go (fin0 (fun z => z.elim hne (fun z => z.elim (fun y => Int32.not_lt.mpr h13 y) (fun y => h35 y.1)))) ⟨rfl, rfl, rfl, rfl, trivial⟩
              | exact g_go (fin0 (fun z => z.elim hne (fun z => z.elim (fun y => absurd h35 (Int32.ne_of_lt y)) (fun y => h49 y.2)))) ⟨rfl, rfl, rfl, rfl, trivial⟩
end H14
