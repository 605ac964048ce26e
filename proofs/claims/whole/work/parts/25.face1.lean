section G1
variable {X : gX} {R : Room} {Z : gZt} {N : Nat → Prop} {y : MethodName} {cc : ByteArray} {nL : Nat} {ret : Option FieldType} {pc : Nat} {lv : List (Nat × Value)} {st : List Value} {M : gM} {bc bs d : Nat}
/-- a loop whose memory is known by an invariant alone -/
theorem g_loopM (LV : Nat → List (Nat × Value)) (I : Nat → gM → Prop) (n i0 : Nat) (h0 : i0 ≤ n) (hlv : gLs lv (LV i0)) (hI : I i0 M) (hx : ∀ M1, I n M1 → gW X R Z N y cc nL ret pc (LV n) st M1 bc bs) (hs : ∀ i M1, i0 ≤ i → i < n → I i M1 → (∀ M2, I (i + 1) M2 → gW X R Z N y cc nL ret pc (LV (i + 1)) st M2 bc bs) → gW X R Z N y cc nL ret pc (LV i) st M1 bc bs) : gW X R Z N y cc nL ret pc lv st M bc bs := by
  refine g_lv (LV i0) hlv ?_
  have h := g_for (fun i => i0 ≤ i → ∀ M1, I i M1 → gW X R Z N y cc nL ret pc (LV i) st M1 bc bs) n (fun _ => hx) (fun i hi ih h M1 h1 => hs i M1 h hi h1 (ih (by omega))) (n - i0) i0 (by omega)
  exact h (Nat.le_refl _) M hI
theorem sw (k : Nat) (hk : k < 2 ^ 31) (w : Int32) : (w.toInt < 0 ∨ (k : Int) < w.toInt) ∨ ∃ n, n ≤ k ∧ w = nI n := by
  by_cases h : w < 0
  · exact Or.inl (Or.inl (Int32.lt_iff_toInt_lt.mp h))
  · obtain ⟨j, hj, rfl⟩ := nI_of h
    rw [nI_toInt hj]
    by_cases h2 : j ≤ k
    · exact Or.inr ⟨j, h2, rfl⟩
    · exact Or.inl (Or.inr (by omega))
def sfrom (G : Nat → Bool) : Nat → Nat → Int32
  | 0, _ => -1
  | n + 1, i => if G i then sfrom G n (i + 1) else nI i
theorem sfrom_skip {G : Nat → Bool} : ∀ (k n i : Nat), (∀ j, i ≤ j → j < i + k → G j = true) → sfrom G (k + n) i = sfrom G n (i + k)
  | 0, n, i, _ => by rw [Nat.zero_add, Nat.add_zero]
  | k + 1, n, i, h => by
    rw [show k + 1 + n = (k + n) + 1 by omega]
    show (if G i then sfrom G (k + n) (i + 1) else nI i) = _
    rw [h i (by omega) (by omega), if_pos rfl, sfrom_skip k n (i + 1) (fun j h1 h2 => h j (by omega) (by omega)), show i + 1 + k = i + (k + 1) by omega]
theorem sfrom_at {G : Nat → Bool} {n i : Nat} (hi : i < n) (h : ∀ j, j < i → G j = true) (h2 : G i = false) : sfrom G n 0 = nI i := by
  obtain ⟨m, rfl⟩ : ∃ m, n = i + (m + 1) := ⟨n - i - 1, by omega⟩
  rw [sfrom_skip i (m + 1) 0 (fun j _ hj => h j (by omega)), Nat.zero_add]
  show (if G i then _ else nI i) = nI i
  rw [h2]
  rfl
theorem sfrom_none {G : Nat → Bool} {n : Nat} (h : ∀ j, j < n → G j = true) : sfrom G n 0 = -1 := by
  have e := sfrom_skip n 0 0 (fun j _ hj => h j (by omega))
  rw [Nat.add_zero] at e
  rw [e]
  rfl
set_option maxRecDepth 20000 in
theorem c_noTown (hx : gXok X) (hL : gLay M) : gDet X (d + 0) yX10_noTown cX10_noTown 1 (some .boolean) [.ref 0] M (some (.int (ib (gmi M 3 7 = 0)))) M := by
  refine gMet.of hx (by decide) (Nat.le_of_ble_eq_true rfl) ?_
  refine g_aload_n dX10_noTown_0 rfl rfl rfl ?_
  refine g_getR dX10_noTown_1 ff_X10_19 rfl (k0 hL) (r0_1 hL) rfl ?_
  refine g_getI dX10_noTown_4 ff_X10_141 rfl (k3 hL) rfl ?_
  refine g_if_ne (tgt := 14) dX10_noTown_7 (by decide) rfl (fun h7 => ?_) (fun h7 => ?_)
  · refine g_iconst (v := 0) dX10_noTown_14 (by decide) rfl ?_
    exact g_iret dX10_noTown_15 rfl rfl ⟨by rw [ib_f h7], rfl⟩
  · refine g_iconst (v := 1) dX10_noTown_10 (by decide) rfl ?_
    refine g_goto (tgt := 15) dX10_noTown_11 (by decide) ?_
    exact g_iret dX10_noTown_15 rfl rfl ⟨by rw [ib_t h7], rfl⟩
set_option maxRecDepth 20000 in
theorem c_end (hx : gXok X) (hL : gLay M) {x : Int32} : gDet X (d + 0) yX10_end cX10_end 2 (some .boolean) [.ref 0, .int x] M (some (.int (ib (¬ x < 0 ∧ x ≤ gmi M 1 1)))) (if ¬ x < 0 ∧ x ≤ gmi M 1 1 then gwI M 1 1 x else M) := by
  refine gMet.of hx (by decide) (Nat.le_of_ble_eq_true rfl) ?_
  refine g_iload_n dX10_end_0 rfl rfl rfl ?_
  refine g_if_lt (tgt := 15) dX10_end_1 (by decide) rfl (fun h1 => ?_) (fun h1 => ?_)
  · refine g_iconst (v := 0) dX10_end_15 (by decide) rfl ?_
    exact g_iret dX10_end_16 rfl rfl ⟨by rw [ib_f (fun q => q.1 h1)], by rw [if_neg (fun q => q.1 h1)]⟩
  · refine g_iload_n dX10_end_4 rfl rfl rfl ?_
    refine g_aload_n dX10_end_5 rfl rfl rfl ?_
    refine g_getR dX10_end_6 ff_X10_10 rfl (k0 hL) (r0_0 hL) rfl ?_
    refine g_getI dX10_end_9 ff_X10_99 rfl (k1 hL) rfl ?_
    refine g_icmp_le (tgt := 17) dX10_end_12 (by decide) rfl (fun h12 => ?_) (fun h12 => ?_)
    · refine g_aload_n dX10_end_17 rfl rfl rfl ?_
      refine g_getR dX10_end_18 ff_X10_10 rfl (k0 hL) (r0_0 hL) rfl ?_
      refine g_iload_n dX10_end_21 rfl rfl rfl ?_
      refine g_putI dX10_end_22 fp_X10_99 rfl rfl rfl (k1 hL) rfl ?_
      refine g_iconst (v := 1) dX10_end_25 (by decide) rfl ?_
      exact g_iret dX10_end_26 rfl rfl ⟨by rw [ib_t ⟨h1, h12⟩], by rw [if_pos ⟨h1, h12⟩]⟩
    · refine g_iconst (v := 0) dX10_end_15 (by decide) rfl ?_
      exact g_iret dX10_end_16 rfl rfl ⟨by rw [ib_f (fun q => h12 q.2)], by rw [if_neg (fun q => h12 q.2)]⟩
set_option maxRecDepth 20000 in
theorem c_deed (hx : gXok X) (hL : gLay M) (hT : TownOK M) {x w : Int32} : gDet X (d + 1) yX10_deed cX10_deed 3 (some .int) [.ref 0, .int x, .int w] M (some (.int (if inD M x then (if w = 0 then gmi M 7 (tn x) else if w = 1 then gmi M 8 (tn x) else if w = 2 then gmi M 9 (tn x) else -1) else -1))) M := by
  refine gMet.of hx (by decide) (Nat.le_of_ble_eq_true rfl) ?_
  refine g_aload_n dX10_deed_0 rfl rfl rfl ?_
  refine g_getR dX10_deed_1 ff_X10_19 rfl (k0 hL) (r0_1 hL) rfl ?_
  refine g_iload_n dX10_deed_4 rfl rfl rfl ?_
  refine g_callVdi (ci := 8) dX10_deed_5 lm_X10_181 mv_X8_hasDeed (c_hasDeed (d := d) hx hL) rfl rfl (k3 hL) rfl rfl (Nat.le_of_ble_eq_true rfl) (gFit_room (by omega)) rfl ?_
  refine g_ine (tgt := 13) dX10_deed_8 (by decide) rfl (fun h8 => ?_) (fun h8 => ?_)
  · obtain ⟨ex, hx8⟩ := in_row hT.2.1.1 (by have := hT.2.1.2; omega) h8
    have := hT.2.1.2
    rw [if_pos h8]
    generalize hk : tn x = k at ex hx8
    subst ex
    rcases sw 2 (by decide) w with h | ⟨n, hn, rfl⟩
    · have e0 : ¬ w = 0 := fun q => by rw [q] at h; exact absurd h (by decide)
      have e1 : ¬ w = 1 := fun q => by rw [q] at h; exact absurd h (by decide)
      have e2 : ¬ w = 2 := fun q => by rw [q] at h; exact absurd h (by decide)
      refine g_iload_n dX10_deed_13 rfl rfl rfl ?_
      refine g_tableOut (tgt := 70) dX10_deed_14 (h) (by decide) ?_
      refine g_iconst (v := -1) dX10_deed_70 (by decide) rfl ?_
      exact g_iret dX10_deed_71 rfl rfl ⟨by rw [if_neg e0, if_neg e1, if_neg e2], rfl⟩
    · rcases (show n = 0 ∨ n = 1 ∨ n = 2 by omega) with rfl | rfl | rfl
      · refine g_iload_n dX10_deed_13 rfl rfl rfl ?_
        refine g_tableIn (off := 26) (tgt := 40) dX10_deed_14 (by decide) (by decide) (by decide) (by decide) ?_
        refine g_aload_n dX10_deed_40 rfl rfl rfl ?_
        refine g_getR dX10_deed_41 ff_X10_19 rfl (k0 hL) (r0_1 hL) rfl ?_
        refine g_getR dX10_deed_44 ff_X10_184 rfl (k3 hL) (r3_3 hL) rfl ?_
        refine g_iload_n dX10_deed_47 rfl rfl rfl ?_
        refine g_iald (i := k) dX10_deed_48 (k7 hL) (l7 hL) (by (try simp only [nI_lit, pk_mul, nI_add, Nat.zero_add]); exact nI_toInt (by omega)) (by omega) rfl ?_
        exact g_iret dX10_deed_49 rfl rfl ⟨rfl, rfl⟩
      · refine g_iload_n dX10_deed_13 rfl rfl rfl ?_
        refine g_tableIn (off := 36) (tgt := 50) dX10_deed_14 (by decide) (by decide) (by decide) (by decide) ?_
        refine g_aload_n dX10_deed_50 rfl rfl rfl ?_
        refine g_getR dX10_deed_51 ff_X10_19 rfl (k0 hL) (r0_1 hL) rfl ?_
        refine g_getR dX10_deed_54 ff_X10_187 rfl (k3 hL) (r3_4 hL) rfl ?_
        refine g_iload_n dX10_deed_57 rfl rfl rfl ?_
        refine g_iald (i := k) dX10_deed_58 (k8 hL) (l8 hL) (by (try simp only [nI_lit, pk_mul, nI_add, Nat.zero_add]); exact nI_toInt (by omega)) (by omega) rfl ?_
        exact g_iret dX10_deed_59 rfl rfl ⟨rfl, rfl⟩
      · refine g_iload_n dX10_deed_13 rfl rfl rfl ?_
        refine g_tableIn (off := 46) (tgt := 60) dX10_deed_14 (by decide) (by decide) (by decide) (by decide) ?_
        refine g_aload_n dX10_deed_60 rfl rfl rfl ?_
        refine g_getR dX10_deed_61 ff_X10_19 rfl (k0 hL) (r0_1 hL) rfl ?_
        refine g_getR dX10_deed_64 ff_X10_190 rfl (k3 hL) (r3_5 hL) rfl ?_
        refine g_iload_n dX10_deed_67 rfl rfl rfl ?_
        refine g_iald (i := k) dX10_deed_68 (k9 hL) (l9 hL) (by (try simp only [nI_lit, pk_mul, nI_add, Nat.zero_add]); exact nI_toInt (by omega)) (by omega) rfl ?_
        exact g_iret dX10_deed_69 rfl rfl ⟨rfl, rfl⟩
  · refine g_iconst (v := -1) dX10_deed_11 (by decide) rfl ?_
    exact g_iret dX10_deed_12 rfl rfl ⟨by rw [if_neg h8], rfl⟩
set_option maxRecDepth 20000 in
theorem c_left (hx : gXok X) (hL : gLay M) (hT : TownOK M) {x z : Int32} : gDet X (d + 2) yX10_left cX10_left 3 (some .int) [.ref 0, .int x, .int z] M (some (.int (if inP M x ∧ inD M z then gmi M 25 (12 + tn x * 8 + tn z) else -1))) M := by
  refine gMet.of hx (by decide) (Nat.le_of_ble_eq_true rfl) ?_
  refine g_aload_n dX10_left_0 rfl rfl rfl ?_
  refine g_getR dX10_left_1 ff_X10_19 rfl (k0 hL) (r0_1 hL) rfl ?_
  refine g_iload_n dX10_left_4 rfl rfl rfl ?_
  refine g_iload_n dX10_left_5 rfl rfl rfl ?_
  refine g_callVdi (ci := 8) dX10_left_6 lm_X10_193 mv_X8_hasBoth (c_hasBoth (d := d) hx hL) rfl rfl (k3 hL) rfl rfl (Nat.le_of_ble_eq_true rfl) (gFit_room (by omega)) rfl ?_
  refine g_ieq (tgt := 24) dX10_left_9 (by decide) rfl (fun h9 => ?_) (fun h9 => ?_)
  · refine g_iconst (v := -1) dX10_left_24 (by decide) rfl ?_
    exact g_iret dX10_left_25 rfl rfl ⟨by rw [if_neg h9], rfl⟩
  · obtain ⟨ex, hx6⟩ := in_row hT.1.1 (by have := hT.1.2; omega) h9.1
    obtain ⟨ez, hz8⟩ := in_row hT.2.1.1 (by have := hT.2.1.2; omega) h9.2
    have := hT.1.2
    have := hT.2.1.2
    have hc := c_leftOf_now (X := X) (M := M) (d := d) hx hL (show tn x < 6 by omega) (show tn z < 8 by omega)
    rw [← ex, ← ez] at hc
    refine g_aload_n dX10_left_12 rfl rfl rfl ?_
    refine g_getR dX10_left_13 ff_X10_58 rfl (k0 hL) (r0_8 hL) rfl ?_
    refine g_iload_n dX10_left_16 rfl rfl rfl ?_
    refine g_iload_n dX10_left_17 rfl rfl rfl ?_
    refine g_callVdi (ci := 4) dX10_left_18 lm_X10_197 mv_X4_leftOf (hc) rfl rfl (k24 hL) rfl rfl (Nat.le_of_ble_eq_true rfl) (gFit_room (by omega)) rfl ?_
    refine g_goto (tgt := 25) dX10_left_21 (by decide) ?_
    exact g_iret dX10_left_25 rfl rfl ⟨by rw [if_pos h9], rfl⟩
set_option maxRecDepth 20000 in
theorem c_law (hx : gXok X) (hL : gLay M) {x : Int32} : gDet X (d + 1) yX10_law cX10_law 2 (some .boolean) [.ref 0, .int x] M (some (.int (ib (¬ x < -1 ∧ x < gmi M 20 3)))) (if ¬ x < -1 ∧ x < gmi M 20 3 then gwI M 20 4 x else M) := by
  refine gMet.of hx (by decide) (Nat.le_of_ble_eq_true rfl) ?_
  refine g_aload_n dX10_law_0 rfl rfl rfl ?_
  refine g_getR dX10_law_1 ff_X10_40 rfl (k0 hL) (r0_4 hL) rfl ?_
  refine g_iload_n dX10_law_4 rfl rfl rfl ?_
  refine g_callVdi (ci := 0) dX10_law_5 lm_X10_201 mv_X0_letHold (c_letHold (d := d) hx hL) rfl rfl (k20 hL) rfl rfl (Nat.le_of_ble_eq_true rfl) (gFit_room (by omega)) rfl ?_
  exact g_iret dX10_law_8 rfl b01 ⟨rfl, rfl⟩
set_option maxRecDepth 20000 in
theorem c_rumour (hx : gXok X) (hL : gLay M) {x : Int32} : gDet X (d + 0) yX10_rumour cX10_rumour 2 (some .boolean) [.ref 0, .int x] M (some (.int (ib (¬ x < 0 ∧ ¬ 9 < x ∧ ¬ x = gmi M 0 15)))) (if ¬ x < 0 ∧ ¬ 9 < x ∧ ¬ x = gmi M 0 15 then gwI M 0 15 x else M) := by
  refine gMet.of hx (by decide) (Nat.le_of_ble_eq_true rfl) ?_
  refine g_iload_n dX10_rumour_0 rfl rfl rfl ?_
  refine g_if_lt (tgt := 18) dX10_rumour_1 (by decide) rfl (fun h1 => ?_) (fun h1 => ?_)
  · refine g_iconst (v := 0) dX10_rumour_18 (by decide) rfl ?_
    exact g_iret dX10_rumour_19 rfl rfl ⟨by rw [ib_f (fun q => q.1 h1)], by rw [if_neg (fun q => q.1 h1)]⟩
  · refine g_iload_n dX10_rumour_4 rfl rfl rfl ?_
    refine g_bipush (v := 9) dX10_rumour_5 (by decide) rfl ?_
    refine g_icmp_gt (tgt := 18) dX10_rumour_7 (by decide) rfl (fun h7 => ?_) (fun h7 => ?_)
    · refine g_iconst (v := 0) dX10_rumour_18 (by decide) rfl ?_
      exact g_iret dX10_rumour_19 rfl rfl ⟨by rw [ib_f (fun q => q.2.1 h7)], by rw [if_neg (fun q => q.2.1 h7)]⟩
    · refine g_iload_n dX10_rumour_10 rfl rfl rfl ?_
      refine g_aload_n dX10_rumour_11 rfl rfl rfl ?_
      refine g_getI dX10_rumour_12 ff_X10_91 rfl (k0 hL) rfl ?_
      refine g_icmp_ne (tgt := 20) dX10_rumour_15 (by decide) rfl (fun h15 => ?_) (fun h15 => ?_)
      · refine g_aload_n dX10_rumour_20 rfl rfl rfl ?_
        refine g_iload_n dX10_rumour_21 rfl rfl rfl ?_
        refine g_putI dX10_rumour_22 fp_X10_91 rfl rfl rfl (k0 hL) rfl ?_
        refine g_iconst (v := 1) dX10_rumour_25 (by decide) rfl ?_
        exact g_iret dX10_rumour_26 rfl rfl ⟨by rw [ib_t ⟨h1, h7, h15⟩], by rw [if_pos ⟨h1, h7, h15⟩]⟩
      · refine g_iconst (v := 0) dX10_rumour_18 (by decide) rfl ?_
        exact g_iret dX10_rumour_19 rfl rfl ⟨by rw [ib_f (fun q => q.2.2 h15)], by rw [if_neg (fun q => q.2.2 h15)]⟩
/-- guilty in n days, nobody doing a thing -/
def guin (M : gM) (EV : Option ((Nat → Int32) → Int32)) (p n : Nat) : Bool := decide (0 < rd EV (nI (heft M (dset M 25 p n))) (gmi M 5 p) (imin 99 (gmi M 25 p + nI n)) (ibc (nI (dset M 25 p n))) (gmi M 25 66 + nI n) (gmi M 25 (6 + p)))
theorem scr0_town : ∀ c, 3 ≤ c → c < 11 → ¬ scr0 c := fun c h1 h2 => scr0_lo (by omega) (by omega)
theorem dset_fr {M2 : gM} {r p n : Nat} (h3 : gmi M2 3 = gmi M 3) (hr : gmi M2 r = gmi M r) : dset M2 r p n = dset M r p n := by unfold dset; rw [tv_eq h3, tv_eq hr]
theorem heft_fr {M2 : gM} {b : Nat} (h3 : gmi M2 3 = gmi M 3) (h7 : gmi M2 7 = gmi M 7) : heft M2 b = heft M b := by unfold heft; rw [tv_eq h3, tv_eq h7]
theorem guin_fr {M2 : gM} {EV : Option ((Nat → Int32) → Int32)} (h : gFr scr0 M M2) (p n : Nat) : guin M2 EV p n = guin M EV p n := by
  have e3 := h.2.2.2 3 (scr0_lo (by decide) (by decide))
  have e5 := h.2.2.2 5 (scr0_lo (by decide) (by decide))
  have e7 := h.2.2.2 7 (scr0_lo (by decide) (by decide))
  have e25 := h.2.2.2 25 (scr0_lo (by decide) (by decide))
  unfold guin
  rw [dset_fr e3 e25, heft_fr e3 e7, e5, e25]
theorem LeftOK_fr {M2 : gM} {r : Nat} (h : gmi M2 r = gmi M r) (hl : LeftOK M r) : LeftOK M2 r := fun i h1 h2 => okv_eq h (hl i h1 h2)
set_option maxRecDepth 20000 in
theorem c_soon (hx : gXok X) (hL : gLay M) (hT : TownOK M) (hl : LeftOK M 25) {EV : Option ((Nat → Int32) → Int32)} (hC : CourtSem M EV) {x : Int32} :
    gPos X (d + 6) yX10_soon cX10_soon 3 (some .int) [.ref 0, .int x] M (fun v M2 => v = some (.int (if inP M x then sfrom (guin M EV (tn x)) 61 0 else -1)) ∧ gFr scr0 M M2) := by
  refine gMet.of hx (by decide) (Nat.le_of_ble_eq_true rfl) ?_
  refine g_aload_n dX10_soon_0 rfl rfl rfl ?_
  refine g_getR dX10_soon_1 ff_X10_19 rfl (k0 hL) (r0_1 hL) rfl ?_
  refine g_iload_n dX10_soon_4 rfl rfl rfl ?_
  refine g_callVdi (ci := 8) dX10_soon_5 lm_X10_158 mv_X8_hasPerson (c_hasPerson (d := d) hx hL) rfl rfl (k3 hL) rfl rfl (Nat.le_of_ble_eq_true rfl) (gFit_room (by omega)) rfl ?_
  refine g_ine (tgt := 13) dX10_soon_8 (by decide) rfl (fun h8 => ?_) (fun h8 => ?_)
  · obtain ⟨ex, hx6⟩ := in_row hT.1.1 (by have := hT.1.2; omega) h8
    have := hT.1.2
    rw [if_pos h8]
    generalize hk : tn x = k at ex hx6
    subst ex
    refine g_iconst (v := 0) dX10_soon_13 (by decide) rfl ?_
    refine g_istore_n dX10_soon_14 rfl (by decide) rfl ?_
    refine g_loopM (fun i => [(0, .ref 0), (1, .int (nI k)), (2, .int (nI i))]) (fun i M1 => gFr scr0 M M1 ∧ ∀ j, j < i → guin M EV k j = true) 61 0 (by omega) ⟨rfl, rfl, rfl, trivial⟩ ⟨gFr.rf, fun j hj => absurd hj (by omega)⟩ (fun M1 hI => ?_) (fun i M1 _ hi hI ih => ?_)
    · refine g_iload_n dX10_soon_15 rfl rfl rfl ?_
      refine g_bipush (v := 60) dX10_soon_16 (by decide) rfl ?_
      refine g_icmp_gt (tgt := 45) dX10_soon_18 (by decide) rfl (fun _ => ?_) (fun h_ => absurd (by decide) h_)
      refine g_iconst (v := -1) dX10_soon_45 (by decide) rfl ?_
      exact g_iret dX10_soon_46 rfl rfl ⟨by rw [sfrom_none hI.2], hI.1⟩
    · have hL1 := hI.1.lay hL
      refine g_iload_n dX10_soon_15 rfl rfl rfl ?_
      refine g_bipush (v := 60) dX10_soon_16 (by decide) rfl ?_
      refine g_icmp_gt (tgt := 45) dX10_soon_18 (by decide) rfl (fun h_ => absurd h_ (fun q => absurd ((qlt 60 i rfl rfl (by decide) (by omega)).mp q) (by omega))) (fun _ => ?_)
      refine g_aload_n dX10_soon_21 rfl rfl rfl ?_
      refine g_getR dX10_soon_22 ff_X10_40 rfl (k0 hL1) (r0_4 hL1) rfl ?_
      refine g_aload_n dX10_soon_25 rfl rfl rfl ?_
      refine g_getR dX10_soon_26 ff_X10_58 rfl (k0 hL1) (r0_8 hL1) rfl ?_
      refine g_iload_n dX10_soon_29 rfl rfl rfl ?_
      refine g_iload_n dX10_soon_30 rfl rfl rfl ?_
      refine g_callVq (ci := 0) dX10_soon_31 lm_X10_339 mv_X0_isGuiltyIn (c_isGuiltyIn (d := d) hx hL1 (hI.1.town scr0_town hT) (LeftOK_fr (hI.1.2.2.2 25 (scr0_lo (by decide) (by decide))) hl) (CourtSem_fr scr0_court hI.1 hC) (show k < 6 by omega) (show i < 2 ^ 30 by omega)) rfl rfl (k20 hL1) rfl rfl (Nat.le_of_ble_eq_true rfl) (gFit_room (by omega)) rfl (fun v M2 hQ => ?_)
      obtain ⟨rfl, hf⟩ := hQ
      refine g_ine (tgt := 39) dX10_soon_34 (by decide) rfl (fun h34 => ?_) (fun h34 => ?_)
      · have hg : guin M EV k i = true := by rw [← guin_fr hI.1]; exact decide_eq_true h34
        refine g_iincV (c := 1) dX10_soon_39 rfl (by decide) (by decide) rfl ?_
        refine g_goto (tgt := 15) dX10_soon_42 (by decide) ?_
        refine g_go (ih M2 ⟨hI.1.tr hf, fun j hj => ?_⟩) ⟨rfl, rfl, by rw [← nI_1 i]; rfl, trivial⟩
        by_cases e : j = i
        · rw [e]; exact hg
        · exact hI.2 j (by omega)
      · have hg : guin M EV k i = false := by rw [← guin_fr hI.1]; exact decide_eq_false h34
        refine g_iload_n dX10_soon_37 rfl rfl rfl ?_
        exact g_iret dX10_soon_38 rfl rfl ⟨by rw [sfrom_at hi hI.2 hg], hI.1.tr hf⟩
  · refine g_iconst (v := -1) dX10_soon_11 (by decide) rfl ?_
    exact g_iret dX10_soon_12 rfl rfl ⟨by rw [if_neg h8], gFr.rf⟩
end G1
