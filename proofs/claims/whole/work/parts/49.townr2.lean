section R1
variable {X : gX} {M : gM} {d : Nat} {T : Nat → Nat} {L i : Nat}
/-- a town as far as it is read: people, deeds, rules told, nick, coins, rows of three -/
abbrev TS : Type := Nat × Nat × Bool × Nat × Nat × (Nat → Nat) × (Nat → Nat)
def up3 (f : Nat → Nat) (b : Nat) (vs : Nat → Nat) : Nat → Nat := va_up (va_up (va_up f b (vs 0)) (b + 1) (vs 1)) (b + 2) (vs 2)
def settleT (k : Nat) (vs : Nat → Nat) (s : TS) : TS :=
  if k = 0 then (s.1, s.2.1, true, vs 0, vs 1, s.2.2.2.2.2.1, s.2.2.2.2.2.2)
  else if k = 1 then (s.1 + 1, s.2.1, s.2.2.1, s.2.2.2.1, s.2.2.2.2.1, up3 s.2.2.2.2.2.1 (3 * s.1) vs, s.2.2.2.2.2.2)
  else (s.1, s.2.1 + 1, s.2.2.1, s.2.2.2.1, s.2.2.2.2.1, s.2.2.2.2.2.1, up3 s.2.2.2.2.2.2 (3 * s.2.1) vs)
/-- the cells of a town from b on tell it -/
def TownIs (M : gM) (b : Nat) (s : TS) : Prop := gmi M b 7 = nI s.1 ∧ gmi M b 8 = nI s.2.1 ∧ gmi M b 9 = nI s.2.2.2.1 ∧ gmi M b 10 = nI s.2.2.2.2.1 ∧ (∀ p, p < s.1 → gmi M (b + 1) p = nI (s.2.2.2.2.2.1 (3 * p)) ∧ gmi M (b + 2) p = nI (s.2.2.2.2.2.1 (3 * p + 1)) ∧ gmi M (b + 3) p = nI (s.2.2.2.2.2.1 (3 * p + 2))) ∧ ∀ p, p < s.2.1 → gmi M (b + 4) p = nI (s.2.2.2.2.2.2 (3 * p)) ∧ gmi M (b + 5) p = nI (s.2.2.2.2.2.2 (3 * p + 1)) ∧ gmi M (b + 6) p = nI (s.2.2.2.2.2.2 (3 * p + 2))
/-- bounds of a town's cells, told or not -/
def TownB (M : gM) (b : Nat) : Prop := okv M b 9 9 ∧ okv M b 10 99 ∧ (∀ k, k < 6 → okv M (b + 1) k 99 ∧ okv M (b + 2) k 9 ∧ okv M (b + 3) k 6) ∧ ∀ k, k < 8 → okv M (b + 4) k 9 ∧ okv M (b + 5) k 9 ∧ okv M (b + 6) k 9
def DrF (M : gM) (s : TS) : Prop := TownIs M 11 s ∧ TownB M 11 ∧ gmi M 11 11 = ib (s.2.2.1 = true) ∧ s.1 ≤ 6 ∧ s.2.1 ≤ 8
theorem itemsP_bd {k : Nat} : ∀ {n i told : Nat} {vs : Nat → Nat}, (∀ j, j < 3 → vs j ≤ highN (3 * k + j)) → ∀ j, j < 3 → (itemsP T L k n i told vs).2.2 j ≤ highN (3 * k + j)
  | 0, _, _, _, h => h
  | n + 1, i, told, vs, h => by
    unfold itemsP
    split
    · exact h
    · split
      · exact h
      · split
        · rename_i hn
          refine itemsP_bd (fun j hj => ?_)
          by_cases e : j = itJ k (T (nxt T L i))
          · rw [e, va_up_self]; exact (numP_in hn).2
          · rw [va_up_ne _ _ e]; exact h j hj
        · exact h
theorem unt_le : ∀ q, q < 9 → untN q ≤ highN q := by decide
theorem va_okv {c i b j n : Nat} {v : Int32} (h : okv M c j b) (hv : v = nI n) (hn : n ≤ b) (hb : b < 2 ^ 31) : okv (gwI M c i v) c j b := by
  by_cases e : j = i
  · subst e
    exact (okv_of (by rw [gmi_I, va_up_self]; exact hv) hn hb).1
  · refine (okv_of (n := tv M c j) ?_ h.2 hb).1
    rw [gmi_I, va_up_ne _ _ e]
    exact h.1
theorem okv_n {c i j a b : Nat} {v : Int32} (h : okv M c j b) (e : c ≠ a) : okv (gwI M a i v) c j b := okv_eq (gmi_In _ _ _ e) h
theorem high_ok : ∀ j, j < 3 → highN (3 * 0 + j) ≤ (if j = 0 then 9 else if j = 1 then 99 else 0) ∧ highN (3 * 1 + j) ≤ (if j = 0 then 99 else if j = 1 then 9 else 6) ∧ highN (3 * 2 + j) ≤ 9 := by decide
theorem up3_0 (f : Nat → Nat) (b : Nat) (vs : Nat → Nat) {q : Nat} (h : q < b ∨ b + 3 ≤ q) : up3 f b vs q = f q := by
  unfold up3
  rw [va_up_ne _ _ (by omega), va_up_ne _ _ (by omega), va_up_ne _ _ (by omega)]
theorem up3_1 (f : Nat → Nat) (b : Nat) (vs : Nat → Nat) : up3 f b vs b = vs 0 ∧ up3 f b vs (b + 1) = vs 1 ∧ up3 f b vs (b + 2) = vs 2 := by
  unfold up3
  refine ⟨?_, ?_, ?_⟩
  · rw [va_up_ne _ _ (by omega), va_up_ne _ _ (by omega), va_up_self]
  · rw [va_up_ne _ _ (by omega), va_up_self]
  · rw [va_up_self]
set_option maxRecDepth 20000 in
set_option maxHeartbeats 2000000 in
theorem c_settle (hx : gXok X) {s : TS} (h : TC M T L i) (hD : DrF M s) {vs : Nat → Nat} {k : Nat} (hk : k < 3) (hv : ∀ j, j < 3 → gmi M 18 j = nI (vs j)) (hb : ∀ j, j < 3 → vs j ≤ highN (3 * k + j)) (h1 : k = 1 → s.1 < 6) (h2 : k = 2 → s.2.1 < 8) : gPos X (d + 0) yX8_settle cX8_settle 2 none [.ref 11, .int (nI k)] M (fun v M2 => v = none ∧ gFr (fun c => 11 ≤ c ∧ c < 18) M M2 ∧ TC M2 T L i ∧ DrF M2 (settleT k vs s)) := by
  obtain ⟨⟨t1, t2, t3, t4, t5, t6⟩, ⟨b1, b2, b3, b4⟩, hr, hP, hQ⟩ := hD
  have hL := h.1
  refine gMet.of hx (by decide) (Nat.le_of_ble_eq_true rfl) ?_
  have v0 := hv 0 (by decide)
  have v1 := hv 1 (by decide)
  have v2 := hv 2 (by decide)
  have c0 := hb 0 (by decide)
  have c1 := hb 1 (by decide)
  have c2 := hb 2 (by decide)
  have g0 := high_ok 0 (by decide)
  have g1 := high_ok 1 (by decide)
  have g2 := high_ok 2 (by decide)
  rcases (show k = 0 ∨ k = 1 ∨ k = 2 by omega) with rfl | rfl | rfl
  · refine g_iload_n dX8_settle_0 rfl rfl rfl ?_
    refine g_if_ne (tgt := 32) dX8_settle_1 (by decide) rfl (fun h_ => absurd (by decide) h_) (fun _ => ?_)
    refine g_aload_n dX8_settle_4 rfl rfl rfl ?_
    refine g_iconst (v := 1) dX8_settle_5 (by decide) rfl ?_
    refine g_putI dX8_settle_6 fp_X8_64 rfl rfl rfl (k11 hL) rfl ?_
    refine g_aload_n dX8_settle_9 rfl rfl rfl ?_
    refine g_aload_n dX8_settle_10 rfl rfl rfl ?_
    refine g_getR dX8_settle_11 ff_X8_30 rfl (k11 (gLay_I hL)) (r11_6 (gLay_I hL)) rfl ?_
    refine g_iconst (v := 0) dX8_settle_14 (by decide) rfl ?_
    refine g_iald (i := 0) dX8_settle_15 (k18 (gLay_I hL)) (l18 (gLay_I hL)) (by (try simp only [nI_lit, pk_mul, nI_add, Nat.zero_add]); exact nI_toInt (by omega)) (by omega) rfl ?_
    rw [gmi_In _ _ _ (show (18 : Nat) ≠ 11 by decide), v0]
    refine g_putI dX8_settle_16 fp_X8_53 rfl rfl rfl (k11 (gLay_I hL)) rfl ?_
    refine g_aload_n dX8_settle_19 rfl rfl rfl ?_
    refine g_aload_n dX8_settle_20 rfl rfl rfl ?_
    refine g_getR dX8_settle_21 ff_X8_30 rfl (k11 (gLay_I (gLay_I hL))) (r11_6 (gLay_I (gLay_I hL))) rfl ?_
    refine g_iconst (v := 1) dX8_settle_24 (by decide) rfl ?_
    refine g_iald (i := 1) dX8_settle_25 (k18 (gLay_I (gLay_I hL))) (l18 (gLay_I (gLay_I hL))) (by (try simp only [nI_lit, pk_mul, nI_add, Nat.zero_add]); exact nI_toInt (by omega)) (by omega) rfl ?_
    rw [gmi_In _ _ _ (show (18 : Nat) ≠ 11 by decide), gmi_In _ _ _ (show (18 : Nat) ≠ 11 by decide), v1]
    refine g_putI dX8_settle_26 fp_X8_56 rfl rfl rfl (k11 (gLay_I (gLay_I hL))) rfl ?_
    refine g_goto (tgt := 150) dX8_settle_29 (by decide) ?_
    exact g_vret dX8_settle_150 rfl (⟨rfl, ((gFr.wI (by decide)).tr (gFr.wI (by decide))).tr (gFr.wI (by decide)), ((h.w ⟨by decide, by decide⟩).w ⟨by decide, by decide⟩).w ⟨by decide, by decide⟩, ⟨t1, t2, rfl, rfl, t5, t6⟩, ⟨(okv_of (n := vs 0) rfl (Nat.le_trans c0 (by decide)) (by decide)).1, (okv_of (n := vs 1) rfl (Nat.le_trans c1 (by decide)) (by decide)).1, b3, b4⟩, rfl, hP, hQ⟩)
  · have hp6 := h1 rfl
    generalize hpp : s.1 = pp at *
    have b3p := b3
    refine g_iload_n dX8_settle_0 rfl rfl rfl ?_
    refine g_if_ne (tgt := 32) dX8_settle_1 (by decide) rfl (fun _ => ?_) (fun h_ => absurd h_ (by decide))
    refine g_iload_n dX8_settle_32 rfl rfl rfl ?_
    refine g_iconst (v := 1) dX8_settle_33 (by decide) rfl ?_
    refine g_icmp_ne (tgt := 95) dX8_settle_34 (by decide) rfl (fun h_ => absurd (by decide) h_) (fun _ => ?_)
    refine g_aload_n dX8_settle_37 rfl rfl rfl ?_
    refine g_getR dX8_settle_38 ff_X8_9 rfl (k11 hL) (r11_0 hL) rfl ?_
    refine g_aload_n dX8_settle_41 rfl rfl rfl ?_
    refine g_getI dX8_settle_42 ff_X8_33 rfl (k11 hL) rfl ?_
    refine g_aload_n dX8_settle_45 rfl rfl rfl ?_
    refine g_getR dX8_settle_46 ff_X8_30 rfl (k11 hL) (r11_6 hL) rfl ?_
    refine g_iconst (v := 0) dX8_settle_49 (by decide) rfl ?_
    refine g_iald (i := 0) dX8_settle_50 (k18 hL) (l18 hL) (by (try simp only [nI_lit, pk_mul, nI_add, Nat.zero_add]); exact nI_toInt (by omega)) (by omega) rfl ?_
    rw [t1, v0]
    refine g_iast (i := pp) dX8_settle_51 (k12 hL) (l12 hL) (by (try simp only [nI_lit, pk_mul, nI_add, Nat.zero_add]); exact nI_toInt (by omega)) (by omega) rfl ?_
    refine g_aload_n dX8_settle_52 rfl rfl rfl ?_
    refine g_getR dX8_settle_53 ff_X8_15 rfl (k11 (gLay_I hL)) (r11_1 (gLay_I hL)) rfl ?_
    refine g_aload_n dX8_settle_56 rfl rfl rfl ?_
    refine g_getI dX8_settle_57 ff_X8_33 rfl (k11 (gLay_I hL)) rfl ?_
    refine g_aload_n dX8_settle_60 rfl rfl rfl ?_
    refine g_getR dX8_settle_61 ff_X8_30 rfl (k11 (gLay_I hL)) (r11_6 (gLay_I hL)) rfl ?_
    refine g_iconst (v := 1) dX8_settle_64 (by decide) rfl ?_
    refine g_iald (i := 1) dX8_settle_65 (k18 (gLay_I hL)) (l18 (gLay_I hL)) (by (try simp only [nI_lit, pk_mul, nI_add, Nat.zero_add]); exact nI_toInt (by omega)) (by omega) rfl ?_
    rw [show gmi (gwI M 12 pp (nI (vs 0))) 11 = gmi M 11 from rfl, show gmi (gwI M 12 pp (nI (vs 0))) 18 = gmi M 18 from rfl, t1, v1]
    refine g_iast (i := pp) dX8_settle_66 (k13 (gLay_I hL)) (l13 (gLay_I hL)) (by (try simp only [nI_lit, pk_mul, nI_add, Nat.zero_add]); exact nI_toInt (by omega)) (by omega) rfl ?_
    refine g_aload_n dX8_settle_67 rfl rfl rfl ?_
    refine g_getR dX8_settle_68 ff_X8_18 rfl (k11 (gLay_I (gLay_I hL))) (r11_2 (gLay_I (gLay_I hL))) rfl ?_
    refine g_aload_n dX8_settle_71 rfl rfl rfl ?_
    refine g_getI dX8_settle_72 ff_X8_33 rfl (k11 (gLay_I (gLay_I hL))) rfl ?_
    refine g_aload_n dX8_settle_75 rfl rfl rfl ?_
    refine g_getR dX8_settle_76 ff_X8_30 rfl (k11 (gLay_I (gLay_I hL))) (r11_6 (gLay_I (gLay_I hL))) rfl ?_
    refine g_iconst (v := 2) dX8_settle_79 (by decide) rfl ?_
    refine g_iald (i := 2) dX8_settle_80 (k18 (gLay_I (gLay_I hL))) (l18 (gLay_I (gLay_I hL))) (by (try simp only [nI_lit, pk_mul, nI_add, Nat.zero_add]); exact nI_toInt (by omega)) (by omega) rfl ?_
    rw [show gmi (gwI (gwI M 12 pp (nI (vs 0))) 13 pp (nI (vs 1))) 11 = gmi M 11 from rfl, show gmi (gwI (gwI M 12 pp (nI (vs 0))) 13 pp (nI (vs 1))) 18 = gmi M 18 from rfl, t1, v2]
    refine g_iast (i := pp) dX8_settle_81 (k14 (gLay_I (gLay_I hL))) (l14 (gLay_I (gLay_I hL))) (by (try simp only [nI_lit, pk_mul, nI_add, Nat.zero_add]); exact nI_toInt (by omega)) (by omega) rfl ?_
    refine g_aload_n dX8_settle_82 rfl rfl rfl ?_
    refine g_dup dX8_settle_83 rfl rfl ?_
    refine g_getI dX8_settle_84 ff_X8_33 rfl (k11 (gLay_I (gLay_I (gLay_I hL)))) rfl ?_
    refine g_iconst (v := 1) dX8_settle_87 (by decide) rfl ?_
    refine g_iadd dX8_settle_88 rfl ?_
    rw [show gmi (gwI (gwI (gwI M 12 pp (nI (vs 0))) 13 pp (nI (vs 1))) 14 pp (nI (vs 2))) 11 = gmi M 11 from rfl, t1, nI_1]
    refine g_putI dX8_settle_89 fp_X8_33 rfl rfl rfl (k11 (gLay_I (gLay_I (gLay_I hL)))) rfl ?_
    refine g_goto (tgt := 150) dX8_settle_92 (by decide) ?_
    refine g_vret dX8_settle_150 rfl ⟨rfl, (((gFr.wI (by decide)).tr (gFr.wI (by decide))).tr (gFr.wI (by decide))).tr (gFr.wI (by decide)), (((h.w ⟨by decide, by decide⟩).w ⟨by decide, by decide⟩).w ⟨by decide, by decide⟩).w ⟨by decide, by decide⟩, ⟨?_, t2, t3, t4, ?_, t6⟩, ⟨b1, b2, fun q hq => ⟨?_, ?_, ?_⟩, b4⟩, hr, ?_, hQ⟩
    · show nI (pp + 1) = nI (s.1 + 1)
      rw [hpp]
    · intro q hq
      have hq2 : q < s.1 + 1 := hq
      rw [hpp] at hq2
      show va_up (gmi M 12) pp (nI (vs 0)) q = nI (up3 s.2.2.2.2.2.1 (3 * s.1) vs (3 * q)) ∧ va_up (gmi M 13) pp (nI (vs 1)) q = nI (up3 s.2.2.2.2.2.1 (3 * s.1) vs (3 * q + 1)) ∧ va_up (gmi M 14) pp (nI (vs 2)) q = nI (up3 s.2.2.2.2.2.1 (3 * s.1) vs (3 * q + 2))
      rw [hpp]
      by_cases e : q = pp
      · subst e
        rw [va_up_self, va_up_self, va_up_self, (up3_1 _ _ _).1, (up3_1 _ _ _).2.1, (up3_1 _ _ _).2.2]
        exact ⟨rfl, rfl, rfl⟩
      · rw [va_up_ne _ _ e, va_up_ne _ _ e, va_up_ne _ _ e, up3_0 _ _ _ (by omega), up3_0 _ _ _ (by omega), up3_0 _ _ _ (by omega)]
        exact t5 q (by omega)
    · exact okv_n (okv_n (okv_n (va_okv (b3 q hq).1 rfl (Nat.le_trans c0 (by decide)) (by decide)) (by decide)) (by decide)) (by decide)
    · exact okv_n (okv_n (va_okv (okv_n (b3 q hq).2.1 (by decide)) rfl (Nat.le_trans c1 (by decide)) (by decide)) (by decide)) (by decide)
    · exact okv_n (va_okv (okv_n (okv_n (b3 q hq).2.2 (by decide)) (by decide)) rfl (Nat.le_trans c2 (by decide)) (by decide)) (by decide)
    · show s.1 + 1 ≤ 6
      rw [hpp]
      exact hp6
  · have hp8 := h2 rfl
    generalize hpp : s.2.1 = pp at *
    refine g_iload_n dX8_settle_0 rfl rfl rfl ?_
    refine g_if_ne (tgt := 32) dX8_settle_1 (by decide) rfl (fun _ => ?_) (fun h_ => absurd h_ (by decide))
    refine g_iload_n dX8_settle_32 rfl rfl rfl ?_
    refine g_iconst (v := 1) dX8_settle_33 (by decide) rfl ?_
    refine g_icmp_ne (tgt := 95) dX8_settle_34 (by decide) rfl (fun _ => ?_) (fun h_ => absurd h_ (by decide))
    refine g_aload_n dX8_settle_95 rfl rfl rfl ?_
    refine g_getR dX8_settle_96 ff_X8_21 rfl (k11 hL) (r11_3 hL) rfl ?_
    refine g_aload_n dX8_settle_99 rfl rfl rfl ?_
    refine g_getI dX8_settle_100 ff_X8_37 rfl (k11 hL) rfl ?_
    refine g_aload_n dX8_settle_103 rfl rfl rfl ?_
    refine g_getR dX8_settle_104 ff_X8_30 rfl (k11 hL) (r11_6 hL) rfl ?_
    refine g_iconst (v := 0) dX8_settle_107 (by decide) rfl ?_
    refine g_iald (i := 0) dX8_settle_108 (k18 hL) (l18 hL) (by (try simp only [nI_lit, pk_mul, nI_add, Nat.zero_add]); exact nI_toInt (by omega)) (by omega) rfl ?_
    rw [t2, v0]
    refine g_iast (i := pp) dX8_settle_109 (k15 hL) (l15 hL) (by (try simp only [nI_lit, pk_mul, nI_add, Nat.zero_add]); exact nI_toInt (by omega)) (by omega) rfl ?_
    refine g_aload_n dX8_settle_110 rfl rfl rfl ?_
    refine g_getR dX8_settle_111 ff_X8_24 rfl (k11 (gLay_I hL)) (r11_4 (gLay_I hL)) rfl ?_
    refine g_aload_n dX8_settle_114 rfl rfl rfl ?_
    refine g_getI dX8_settle_115 ff_X8_37 rfl (k11 (gLay_I hL)) rfl ?_
    refine g_aload_n dX8_settle_118 rfl rfl rfl ?_
    refine g_getR dX8_settle_119 ff_X8_30 rfl (k11 (gLay_I hL)) (r11_6 (gLay_I hL)) rfl ?_
    refine g_iconst (v := 1) dX8_settle_122 (by decide) rfl ?_
    refine g_iald (i := 1) dX8_settle_123 (k18 (gLay_I hL)) (l18 (gLay_I hL)) (by (try simp only [nI_lit, pk_mul, nI_add, Nat.zero_add]); exact nI_toInt (by omega)) (by omega) rfl ?_
    rw [show gmi (gwI M 15 pp (nI (vs 0))) 11 = gmi M 11 from rfl, show gmi (gwI M 15 pp (nI (vs 0))) 18 = gmi M 18 from rfl, t2, v1]
    refine g_iast (i := pp) dX8_settle_124 (k16 (gLay_I hL)) (l16 (gLay_I hL)) (by (try simp only [nI_lit, pk_mul, nI_add, Nat.zero_add]); exact nI_toInt (by omega)) (by omega) rfl ?_
    refine g_aload_n dX8_settle_125 rfl rfl rfl ?_
    refine g_getR dX8_settle_126 ff_X8_27 rfl (k11 (gLay_I (gLay_I hL))) (r11_5 (gLay_I (gLay_I hL))) rfl ?_
    refine g_aload_n dX8_settle_129 rfl rfl rfl ?_
    refine g_getI dX8_settle_130 ff_X8_37 rfl (k11 (gLay_I (gLay_I hL))) rfl ?_
    refine g_aload_n dX8_settle_133 rfl rfl rfl ?_
    refine g_getR dX8_settle_134 ff_X8_30 rfl (k11 (gLay_I (gLay_I hL))) (r11_6 (gLay_I (gLay_I hL))) rfl ?_
    refine g_iconst (v := 2) dX8_settle_137 (by decide) rfl ?_
    refine g_iald (i := 2) dX8_settle_138 (k18 (gLay_I (gLay_I hL))) (l18 (gLay_I (gLay_I hL))) (by (try simp only [nI_lit, pk_mul, nI_add, Nat.zero_add]); exact nI_toInt (by omega)) (by omega) rfl ?_
    rw [show gmi (gwI (gwI M 15 pp (nI (vs 0))) 16 pp (nI (vs 1))) 11 = gmi M 11 from rfl, show gmi (gwI (gwI M 15 pp (nI (vs 0))) 16 pp (nI (vs 1))) 18 = gmi M 18 from rfl, t2, v2]
    refine g_iast (i := pp) dX8_settle_139 (k17 (gLay_I (gLay_I hL))) (l17 (gLay_I (gLay_I hL))) (by (try simp only [nI_lit, pk_mul, nI_add, Nat.zero_add]); exact nI_toInt (by omega)) (by omega) rfl ?_
    refine g_aload_n dX8_settle_140 rfl rfl rfl ?_
    refine g_dup dX8_settle_141 rfl rfl ?_
    refine g_getI dX8_settle_142 ff_X8_37 rfl (k11 (gLay_I (gLay_I (gLay_I hL)))) rfl ?_
    refine g_iconst (v := 1) dX8_settle_145 (by decide) rfl ?_
    refine g_iadd dX8_settle_146 rfl ?_
    rw [show gmi (gwI (gwI (gwI M 15 pp (nI (vs 0))) 16 pp (nI (vs 1))) 17 pp (nI (vs 2))) 11 = gmi M 11 from rfl, t2, nI_1]
    refine g_putI dX8_settle_147 fp_X8_37 rfl rfl rfl (k11 (gLay_I (gLay_I (gLay_I hL)))) rfl ?_
    refine g_vret dX8_settle_150 rfl ⟨rfl, (((gFr.wI (by decide)).tr (gFr.wI (by decide))).tr (gFr.wI (by decide))).tr (gFr.wI (by decide)), (((h.w ⟨by decide, by decide⟩).w ⟨by decide, by decide⟩).w ⟨by decide, by decide⟩).w ⟨by decide, by decide⟩, ⟨t1, ?_, t3, t4, t5, ?_⟩, ⟨b1, b2, b3, fun q hq => ⟨?_, ?_, ?_⟩⟩, hr, hP, ?_⟩
    · show nI (pp + 1) = nI (s.2.1 + 1)
      rw [hpp]
    · intro q hq
      have hq2 : q < s.2.1 + 1 := hq
      rw [hpp] at hq2
      show va_up (gmi M 15) pp (nI (vs 0)) q = nI (up3 s.2.2.2.2.2.2 (3 * s.2.1) vs (3 * q)) ∧ va_up (gmi M 16) pp (nI (vs 1)) q = nI (up3 s.2.2.2.2.2.2 (3 * s.2.1) vs (3 * q + 1)) ∧ va_up (gmi M 17) pp (nI (vs 2)) q = nI (up3 s.2.2.2.2.2.2 (3 * s.2.1) vs (3 * q + 2))
      rw [hpp]
      by_cases e : q = pp
      · subst e
        rw [va_up_self, va_up_self, va_up_self, (up3_1 _ _ _).1, (up3_1 _ _ _).2.1, (up3_1 _ _ _).2.2]
        exact ⟨rfl, rfl, rfl⟩
      · rw [va_up_ne _ _ e, va_up_ne _ _ e, va_up_ne _ _ e, up3_0 _ _ _ (by omega), up3_0 _ _ _ (by omega), up3_0 _ _ _ (by omega)]
        exact t6 q (by omega)
    · exact okv_n (okv_n (okv_n (va_okv (b4 q hq).1 rfl (by omega) (by decide)) (by decide)) (by decide)) (by decide)
    · exact okv_n (okv_n (va_okv (okv_n (b4 q hq).2.1 (by decide)) rfl (by omega) (by decide)) (by decide)) (by decide)
    · exact okv_n (va_okv (okv_n (okv_n (b4 q hq).2.2 (by decide)) (by decide)) rfl (by omega) (by decide)) (by decide)
    · show s.2.1 + 1 ≤ 8
      rw [hpp]
      exact hp8
/-- the kind of clause that a sign begins; 3 for none -/
def kdN (T : Nat → Nat) (L p : Nat) (s : TS) : Nat := if p < L then (if T p = 115 then (if s.2.2.1 then 3 else 0) else if T p = 112 then (if 6 ≤ s.1 then 3 else 1) else if T p = 100 then (if 8 ≤ s.2.1 then 3 else 2) else 3) else 3
theorem kdN_V {s : TS} (h : TC M T L i) (hD : DrF M s) {p : Nat} : kdV M (sgn T L p) = (if kdN T L p s < 3 then nI (kdN T L p s) else -1) := by
  obtain ⟨⟨t1, t2, -⟩, -, hr, hP, hQ⟩ := hD
  have e : ∀ c, c < 256 → ((sgn T L p = nI c) ↔ (p < L ∧ T p = c)) := fun c hc => sgn_eq h (by omega)
  have e1 := e 115 (by decide)
  have e2 := e 112 (by decide)
  have e3 := e 100 (by decide)
  unfold kdV kdN
  rw [show (115 : Int32) = nI 115 from rfl, show (112 : Int32) = nI 112 from rfl, show (100 : Int32) = nI 100 from rfl, hr, t1, t2]
  have q6 : (6 ≤ nI s.1) ↔ 6 ≤ s.1 := qle 6 s.1 rfl rfl (by decide) (by omega)
  have q8 : (8 ≤ nI s.2.1) ↔ 8 ≤ s.2.1 := qle 8 s.2.1 rfl rfl (by decide) (by omega)
  by_cases hp : p < L
  · rw [if_pos hp]
    by_cases h1 : T p = 115
    · rw [if_pos (e1.mpr ⟨hp, h1⟩), if_pos h1]
      cases s.2.2.1 <;> rfl
    · rw [if_neg (fun q => h1 (e1.mp q).2), if_neg h1]
      by_cases h2 : T p = 112
      · rw [if_pos (e2.mpr ⟨hp, h2⟩), if_pos h2]
        by_cases h6 : 6 ≤ s.1
        · rw [if_pos (q6.mpr h6), if_pos h6]; rfl
        · rw [if_neg (fun q => h6 (q6.mp q)), if_neg h6]; rfl
      · rw [if_neg (fun q => h2 (e2.mp q).2), if_neg h2]
        by_cases h3 : T p = 100
        · rw [if_pos (e3.mpr ⟨hp, h3⟩), if_pos h3]
          by_cases h8 : 8 ≤ s.2.1
          · rw [if_pos (q8.mpr h8), if_pos h8]; rfl
          · rw [if_neg (fun q => h8 (q8.mp q)), if_neg h8]; rfl
        · rw [if_neg (fun q => h3 (e3.mp q).2), if_neg h3]; rfl
  · rw [if_neg hp, if_neg (fun q => hp (e1.mp q).1), if_neg (fun q => hp (e2.mp q).1), if_neg (fun q => hp (e3.mp q).1)]
    rfl
theorem kdN_le (T : Nat → Nat) (L p : Nat) (s : TS) : kdN T L p s ≤ 3 := by
  unfold kdN
  repeat' split
  all_goals omega
theorem kdN_1 {p : Nat} {s : TS} (h : kdN T L p s = 1) : s.1 < 6 := by
  unfold kdN at h
  repeat' split at h
  all_goals omega
theorem kdN_2 {p : Nat} {s : TS} (h : kdN T L p s = 2) : s.2.1 < 8 := by
  unfold kdN at h
  repeat' split at h
  all_goals omega
theorem kdN_lt {p : Nat} {s : TS} (h : kdN T L p s < 3) : p < L := by
  unfold kdN at h
  split at h
  · assumption
  · omega
/-- the clauses of a town -/
def clsP (T : Nat → Nat) (L : Nat) : Nat → Bool → Nat → TS → Bool × Nat × TS
  | 0, _, i, s => (true, i, s)
  | n + 1, first, i, s =>
    if first = true ∨ isS T L i 59 = true then
      (if kdN T L (nxt T L (if first then i else nxt T L i + 1)) s = 3 then (false, nxt T L (if first then i else nxt T L i + 1), s)
       else if (itemsP T L (kdN T L (nxt T L (if first then i else nxt T L i + 1)) s) 4 (nxt T L (if first then i else nxt T L i + 1) + 1) 0 (fun j => untN (3 * kdN T L (nxt T L (if first then i else nxt T L i + 1)) s + j))).1 = true then
         clsP T L n false (itemsP T L (kdN T L (nxt T L (if first then i else nxt T L i + 1)) s) 4 (nxt T L (if first then i else nxt T L i + 1) + 1) 0 (fun j => untN (3 * kdN T L (nxt T L (if first then i else nxt T L i + 1)) s + j))).2.1 (settleT (kdN T L (nxt T L (if first then i else nxt T L i + 1)) s) (itemsP T L (kdN T L (nxt T L (if first then i else nxt T L i + 1)) s) 4 (nxt T L (if first then i else nxt T L i + 1) + 1) 0 (fun j => untN (3 * kdN T L (nxt T L (if first then i else nxt T L i + 1)) s + j))).2.2 s)
       else (false, (itemsP T L (kdN T L (nxt T L (if first then i else nxt T L i + 1)) s) 4 (nxt T L (if first then i else nxt T L i + 1) + 1) 0 (fun j => untN (3 * kdN T L (nxt T L (if first then i else nxt T L i + 1)) s + j))).2.1, s))
    else (true, nxt T L i, s)
def scrD : Nat → Prop := fun c => c = 1 ∨ (11 ≤ c ∧ c < 19)
theorem DrF_fr {M2 : gM} {s : TS} {S : Nat → Prop} (hf : gFr S M M2) (hs : ∀ c, 11 ≤ c → c < 18 → ¬ S c) (h : DrF M s) : DrF M2 s := by
  have e : ∀ c, 11 ≤ c → c < 18 → gmi M2 c = gmi M c := fun c a b => hf.2.2.2 c (hs c a b)
  obtain ⟨⟨t1, t2, t3, t4, t5, t6⟩, ⟨b1, b2, b3, b4⟩, hr, hP, hQ⟩ := h
  have e11 := e 11 (by decide) (by decide)
  have e12 := e 12 (by decide) (by decide)
  have e13 := e 13 (by decide) (by decide)
  have e14 := e 14 (by decide) (by decide)
  have e15 := e 15 (by decide) (by decide)
  have e16 := e 16 (by decide) (by decide)
  have e17 := e 17 (by decide) (by decide)
  refine ⟨⟨by rw [e11]; exact t1, by rw [e11]; exact t2, by rw [e11]; exact t3, by rw [e11]; exact t4, ?_, ?_⟩, ⟨okv_eq e11 b1, okv_eq e11 b2, fun k hk => ⟨okv_eq e12 (b3 k hk).1, okv_eq e13 (b3 k hk).2.1, okv_eq e14 (b3 k hk).2.2⟩, fun k hk => ⟨okv_eq e15 (b4 k hk).1, okv_eq e16 (b4 k hk).2.1, okv_eq e17 (b4 k hk).2.2⟩⟩, by rw [e11]; exact hr, hP, hQ⟩
  · show ∀ p, p < s.1 → gmi M2 12 p = _ ∧ gmi M2 13 p = _ ∧ gmi M2 14 p = _
    rw [e12, e13, e14]; exact t5
  · show ∀ p, p < s.2.1 → gmi M2 15 p = _ ∧ gmi M2 16 p = _ ∧ gmi M2 17 p = _
    rw [e15, e16, e17]; exact t6
set_option maxRecDepth 20000 in
set_option maxHeartbeats 2000000 in
theorem c_readsClauses (hx : gXok X) (hZ : gSt X) (h : TC M T L i) {s0 : TS} (hD : DrF M s0) : gPos X (d + 6) yX8_readsClauses cX8_readsClauses 4 (some .boolean) [.ref 11, .ref 1] M (fun v M2 => v = some (.int (ib ((clsP T L 16 true i s0).1 = true))) ∧ gFr scrD M M2 ∧ TC M2 T L (clsP T L 16 true i s0).2.1 ∧ DrF M2 (clsP T L 16 true i s0).2.2) := by
  have h240 := h.2.1.2.1
  generalize hRes : clsP T L 16 true i s0 = Res
  have main : ∀ (n i : Nat) (s : TS) (M1 : gM) (first : Bool), n ≤ 16 → (first = true ↔ n = 16) → gFr scrD M M1 → TC M1 T L i → DrF M1 s → clsP T L n first i s = Res → gW X (gRoom (d + 6) 0 0) (gZ X gN0 0 0 (fun v M2 => v = some (.int (ib (Res.1 = true))) ∧ gFr scrD M M2 ∧ TC M2 T L Res.2.1 ∧ DrF M2 Res.2.2)) gN0 yX8_readsClauses cX8_readsClauses 4 (some .boolean) 2 [(0, .ref 11), (1, .ref 1), (2, .int (nI (16 - n)))] [] M1 0 0 := by
    intro n
    induction n with
    | zero =>
      intro i s M1 first hn hfi hf hC hD1 hr
      have hr2 : (true, i, s) = Res := hr
      subst hr2
      refine g_iload_n dX8_readsClauses_2 rfl rfl rfl ?_
      refine g_bipush (v := 15) dX8_readsClauses_3 (by decide) rfl ?_
      refine g_icmp_gt (tgt := 65) dX8_readsClauses_5 (by decide) rfl (fun _ => ?_) (fun h_ => absurd (by decide) h_)
      refine g_iconst (v := 1) dX8_readsClauses_65 (by decide) rfl ?_
      exact g_iret dX8_readsClauses_66 rfl (by first | rfl | exact b01) (⟨rfl, hf, hC, hD1⟩)
    | succ n ih =>
      intro i s M1 first hn hfi hf hC hD1 hr
      unfold clsP at hr
      have go : ∀ (i0 : Nat) (M2 : gM), gFr scrD M M2 → TC M2 T L i0 → DrF M2 s → (if first then i else nxt T L i + 1) = i0 → (first = true ∨ isS T L i 59 = true) → gW X (gRoom (d + 6) 0 0) (gZ X gN0 0 0 (fun v M2 => v = some (.int (ib (Res.1 = true))) ∧ gFr scrD M M2 ∧ TC M2 T L Res.2.1 ∧ DrF M2 Res.2.2)) gN0 yX8_readsClauses cX8_readsClauses 4 (some .boolean) 23 [(0, .ref 11), (1, .ref 1), (2, .int (nI (16 - (n + 1))))] [] M2 0 0 := by
        intro i0 M2 hf2 hC2 hD2 hi0 hsemi
        rw [if_pos hsemi, hi0] at hr
        have hnl := nxt_le (T := T) hC2.2.2.2
        refine g_aload_n dX8_readsClauses_23 rfl rfl rfl ?_
        refine g_aload_n dX8_readsClauses_24 rfl rfl rfl ?_
        refine g_callVq (ci := 7) dX8_readsClauses_25 lm_X8_75 mv_X7_next (c_next (d := d) hx hC2) rfl rfl (k1 hC2.1) rfl rfl (Nat.le_of_ble_eq_true rfl) (gFit_room (by omega)) rfl (fun v M2 hQ => ?_)
        obtain ⟨rfl, hf⟩ := hQ
        have hn1 := hf
        have hD3 := DrF_fr hn1.1 (fun c a b q => by omega) hD2
        have hf3 : gFr scrD M M2 := hf2.tr (hn1.fr (Or.inl rfl))
        generalize hp : nxt T L i0 = p at *
        have hkV := kdN_V (i := p) hn1.2 hD3 (p := p)
        have hk3 := kdN_le T L p s
        have hkc := c_kindOf (X := X) (d := d) (x := sgn T L p) hx hn1.2.1
        rw [hkV] at hkc
        have hk1 := kdN_1 (T := T) (L := L) (p := p) (s := s)
        have hk2 := kdN_2 (T := T) (L := L) (p := p) (s := s)
        have hkl := kdN_lt (T := T) (L := L) (p := p) (s := s)
        generalize hk : kdN T L p s = k at *
        refine g_callVdi (ci := 8) dX8_readsClauses_28 lm_X8_83 mv_X8_kindOf (hkc) rfl rfl (k11 hn1.2.1) rfl rfl (Nat.le_of_ble_eq_true rfl) (gFit_room (by omega)) rfl ?_
        by_cases hkk : k = 3
        · rw [if_pos hkk] at hr
          subst hr
          rw [if_neg (show ¬ k < 3 by omega)]
          refine g_istore_n dX8_readsClauses_31 rfl (by decide) rfl ?_
          refine g_iload_n dX8_readsClauses_32 rfl rfl rfl ?_
          refine g_iconst (v := -1) dX8_readsClauses_33 (by decide) rfl ?_
          refine g_icmp_ne (tgt := 39) dX8_readsClauses_34 (by decide) rfl (fun h_ => absurd (by decide) h_) (fun _ => ?_)
          refine g_iconst (v := 0) dX8_readsClauses_37 (by decide) rfl ?_
          exact g_iret dX8_readsClauses_38 rfl (by first | rfl | exact b01) (⟨rfl, hf3, hn1.2, hD3⟩)
        · rw [if_neg hkk] at hr
          have hkl3 : k < 3 := by omega
          have hpL := hkl hkl3
          rw [if_pos hkl3]
          have hbd := itemsP_bd (T := T) (L := L) (k := k) (n := 4) (i := p + 1) (told := 0) (vs := fun j => untN (3 * k + j)) (fun j hj => unt_le _ (by omega))
          generalize hit : itemsP T L k 4 (p + 1) 0 (fun j => untN (3 * k + j)) = It at *
          refine g_istore_n dX8_readsClauses_31 rfl (by decide) rfl ?_
          refine g_iload_n dX8_readsClauses_32 rfl rfl rfl ?_
          refine g_iconst (v := -1) dX8_readsClauses_33 (by decide) rfl ?_
          refine g_icmp_ne (tgt := 39) dX8_readsClauses_34 (by decide) rfl (fun _ => ?_) (fun h_ => absurd h_ (fun q => absurd (show nI k < 0 by rw [q]; decide) (nI_pos (by omega))))
          refine g_aload_n dX8_readsClauses_39 rfl rfl rfl ?_
          refine g_callVq (ci := 7) dX8_readsClauses_40 lm_X8_87 mv_X7_pass (c_pass (d := d) hx hn1.2 hpL) rfl rfl (k1 hn1.2.1) rfl rfl (Nat.le_of_ble_eq_true rfl) (gFit_room (by omega)) rfl (fun v M2 hQ => ?_)
          obtain ⟨rfl, hf⟩ := hQ
          have hp1 := hf
          refine g_aload_n dX8_readsClauses_43 rfl rfl rfl ?_
          refine g_aload_n dX8_readsClauses_44 rfl rfl rfl ?_
          refine g_iload_n dX8_readsClauses_45 rfl rfl rfl ?_
          refine g_callVq (ci := 8) dX8_readsClauses_46 lm_X8_90 mv_X8_readsItems (c_readsItems (d := d) hx hZ hp1.2 hkl3) rfl rfl (k11 hp1.2.1) rfl rfl (Nat.le_of_ble_eq_true rfl) (gFit_room (by omega)) rfl (fun v M2 hQ => ?_)
          obtain ⟨rfl, hf⟩ := hQ
          rw [hit] at hf
          rw [hit]
          have hI := hf
          have hf4 : gFr scrD M M2 := hf3.tr ((hp1.fr (Or.inl rfl)).tr (hI.1.mono (fun c q => q.elim Or.inl (fun q => Or.inr (by omega)))))
          have hD4 : DrF M2 s := DrF_fr hI.1 (fun c a b q => q.elim (by omega) (by omega)) (DrF_fr hp1.1 (fun c a b q => by omega) hD3)
          refine g_ine (tgt := 54) dX8_readsClauses_49 (by decide) rfl (fun h49 => ?_) (fun h49 => ?_)
          · rw [if_pos h49] at hr
            refine g_aload_n dX8_readsClauses_54 rfl rfl rfl ?_
            refine g_iload_n dX8_readsClauses_55 rfl rfl rfl ?_
            refine g_callVq (ci := 8) dX8_readsClauses_56 lm_X8_94 mv_X8_settle (c_settle (d := d) hx hI.2.1 hD4 hkl3 (hI.2.2 h49) hbd hk1 hk2) rfl rfl (k11 hI.2.1.1) rfl rfl (Nat.le_of_ble_eq_true rfl) (gFit_room (by omega)) rfl (fun v M2 hQ => ?_)
            obtain ⟨rfl, hf⟩ := hQ
            have hS := hf
            refine g_iincV (c := 1) dX8_readsClauses_59 rfl (by decide) (by decide) rfl ?_
            refine g_goto (tgt := 2) dX8_readsClauses_62 (by decide) ?_
            exact g_go (ih _ _ _ false (by omega) ⟨fun q => absurd q Bool.false_ne_true, fun q => by omega⟩ (hf4.tr (hS.1.mono (fun c q => Or.inr ⟨q.1, by omega⟩))) hS.2.1 hS.2.2 hr) ⟨rfl, rfl, by rw [show 16 - n = (16 - (n + 1)) + 1 by omega, ← nI_1]; rfl, trivial⟩
          · rw [if_neg h49] at hr
            subst hr
            refine g_iconst (v := 0) dX8_readsClauses_52 (by decide) rfl ?_
            exact g_iret dX8_readsClauses_53 rfl (by first | rfl | exact b01) (⟨by rw [ib_f (show ¬ (false = true) from Bool.false_ne_true)], hf4, hI.2.1, hD4⟩)
      by_cases h16 : n + 1 = 16
      · have hf1 : first = true := hfi.mpr h16
        refine g_iload_n dX8_readsClauses_2 rfl rfl rfl ?_
        refine g_bipush (v := 15) dX8_readsClauses_3 (by decide) rfl ?_
        refine g_icmp_gt (tgt := 65) dX8_readsClauses_5 (by decide) rfl (fun h_ => absurd h_ (fun q => absurd ((qlt 15 (16 - (n + 1)) rfl rfl (by decide) (by omega)).mp q) (by omega))) (fun _ => ?_)
        refine g_iload_n dX8_readsClauses_8 rfl rfl rfl ?_
        refine g_if_le (tgt := 23) dX8_readsClauses_9 (by decide) rfl (fun _ => ?_) (fun h_ => absurd (by rw [h16]; decide) h_)
        exact g_go (go i M1 hf hC hD1 (by rw [if_pos hf1]) (Or.inl hf1)) ⟨rfl, rfl, rfl, trivial⟩
      · have hf1 : ¬ first = true := fun q => h16 (hfi.mp q)
        refine g_iload_n dX8_readsClauses_2 rfl rfl rfl ?_
        refine g_bipush (v := 15) dX8_readsClauses_3 (by decide) rfl ?_
        refine g_icmp_gt (tgt := 65) dX8_readsClauses_5 (by decide) rfl (fun h_ => absurd h_ (fun q => absurd ((qlt 15 (16 - (n + 1)) rfl rfl (by decide) (by omega)).mp q) (by omega))) (fun _ => ?_)
        refine g_iload_n dX8_readsClauses_8 rfl rfl rfl ?_
        refine g_if_le (tgt := 23) dX8_readsClauses_9 (by decide) rfl (fun h_ => absurd h_ (nI_nle (by omega) (by omega))) (fun _ => ?_)
        refine g_aload_n dX8_readsClauses_12 rfl rfl rfl ?_
        refine g_bipush (v := 59) dX8_readsClauses_13 (by decide) rfl ?_
        refine g_callVq (ci := 7) dX8_readsClauses_15 lm_X8_79 mv_X7_passed (c_passed (d := d) (c := 59) hx hC (by decide)) rfl rfl (k1 hC.1) rfl rfl (Nat.le_of_ble_eq_true rfl) (gFit_room (by omega)) rfl (fun v M2 hQ => ?_)
        obtain ⟨rfl, hf⟩ := hQ
        have hp := hf
        have hf := ‹gFr scrD M M1›
        refine g_ine (tgt := 23) dX8_readsClauses_18 (by decide) rfl (fun h18 => ?_) (fun h18 => ?_)
        · rw [if_pos h18] at hp
          exact g_go (go _ M2 (hf.tr (hp.fr (Or.inl rfl))) hp.2 (DrF_fr hp.1 (fun c a b q => by omega) hD1) (by rw [if_neg hf1]) (Or.inr h18)) ⟨rfl, rfl, rfl, trivial⟩
        · rw [if_neg (fun q => q.elim hf1 h18)] at hr
          subst hr
          rw [if_neg h18] at hp
          refine g_iconst (v := 1) dX8_readsClauses_21 (by decide) rfl ?_
          exact g_iret dX8_readsClauses_22 rfl (by first | rfl | exact b01) (⟨rfl, hf.tr (hp.fr (Or.inl rfl)), hp.2, DrF_fr hp.1 (fun c a b q => by omega) hD1⟩)
  have hL := h.1
  refine gMet.of hx (by decide) (Nat.le_of_ble_eq_true rfl) ?_
  refine g_iconst (v := 0) dX8_readsClauses_0 (by decide) rfl ?_
  refine g_istore_n dX8_readsClauses_1 rfl (by decide) rfl ?_
  exact g_go (main 16 i s0 M true (Nat.le_refl _) ⟨fun _ => rfl, fun _ => rfl⟩ gFr.rf h hD hRes) ⟨rfl, rfl, rfl, trivial⟩
end R1
