section W1
variable {X : gX} {M : gM} {d : Nat}
/-- a law's object at the cell a, its rows behind it -/
def LawAt (M : gM) (a : Nat) : Prop := gkd M a = 3 ∧ (gkd M (a + 1) = 32 ∧ gln M (a + 1) = 240) ∧ (gkd M (a + 2) = 32 ∧ gln M (a + 2) = 61) ∧ (gkd M (a + 3) = 32 ∧ gln M (a + 3) = 61) ∧ (gkd M (a + 4) = 32 ∧ gln M (a + 4) = 64) ∧ gmr M a 0 = some (a + 1) ∧ gmr M a 1 = some (a + 2) ∧ gmr M a 2 = some (a + 3) ∧ gmr M a 3 = some (a + 4)
theorem LawAt_F {M : gM} {a b : Nat} {f : Nat → Int32} (h : LawAt M a) : LawAt (gwF M b f) a := h
theorem LawAt_I {M : gM} {a b i : Nat} {v : Int32} (h : LawAt M a) : LawAt (gwI M b i v) a := h
/-- the machine of signs: numbers that wait, and how many -/
def vstep (lt : Nat → Int32) (q : (Nat → Int32) × Nat) (s : Nat) : (Nat → Int32) × Nat :=
  if 16 ≤ s then (if q.2 < 64 then (va_up q.1 q.2 (nI s - 16), q.2 + 1) else q)
  else if s < 6 then (if q.2 < 64 then (va_up q.1 q.2 (lt s), q.2 + 1) else q)
  else if s = 8 then (if 0 < q.2 then (va_up q.1 (q.2 - 1) (1 - q.1 (q.2 - 1)), q.2) else q)
  else if 1 < q.2 then (va_up q.1 (q.2 - 2) (clampL (jv s (q.1 (q.2 - 2)).toInt64 (q.1 (q.2 - 1)).toInt64)), q.2 - 1) else q
def vrun (lt : Nat → Int32) (sg : Nat → Nat) (b : Nat) (q : (Nat → Int32) × Nat) : Nat → (Nat → Int32) × Nat
  | 0 => q
  | n + 1 => vstep lt (vrun lt sg b q n) (sg (b + n))
theorem vstep_le {lt : Nat → Int32} {q : (Nat → Int32) × Nat} {s : Nat} (h : q.2 ≤ 64) : (vstep lt q s).2 ≤ 64 := by
  unfold vstep
  repeat' split
  all_goals (try dsimp only); omega
theorem vrun_le {lt : Nat → Int32} {sg : Nat → Nat} {b : Nat} {q : (Nat → Int32) × Nat} (h : q.2 ≤ 64) : ∀ n, (vrun lt sg b q n).2 ≤ 64
  | 0 => h
  | n + 1 => vstep_le (vrun_le h n)
def vval (lt : Nat → Int32) (sg : Nat → Nat) (w : Nat → Int32) (b n : Nat) : Int32 := if 0 < (vrun lt sg b (w, 0) n).2 then (vrun lt sg b (w, 0) n).1 0 else 0
theorem qle (k n : Nat) {c x : Int32} (hc : c = nI k) (hx : x = nI n) (hk : k < 2 ^ 31) (hn : n < 2 ^ 31) : c ≤ x ↔ k ≤ n := by rw [hc, hx]; exact nI_leI hk hn
theorem qlt (k n : Nat) {c x : Int32} (hc : c = nI k) (hx : x = nI n) (hk : k < 2 ^ 31) (hn : n < 2 ^ 31) : c < x ↔ k < n := by rw [hc, hx]; exact nI_ltI hk hn
theorem qeq (k n : Nat) {c x : Int32} (hc : c = nI k) (hx : x = nI n) (hk : k < 2 ^ 31) (hn : n < 2 ^ 31) : c = x ↔ k = n := by rw [hc, hx]; exact nI_eq hk hn
theorem nI_m1 {n : Nat} (h : 0 < n) : nI n - 1 = nI (n - 1) := by
  obtain ⟨m, rfl⟩ : ∃ m, n = m + 1 := ⟨n - 1, by omega⟩
  exact nI_pred m
theorem nI_m1' {n : Nat} (h : 0 < n) : nI n + (-1) = nI (n - 1) := by
  obtain ⟨m, rfl⟩ : ∃ m, n = m + 1 := ⟨n - 1, by omega⟩
  exact pk_m1 m
set_option maxRecDepth 20000 in
set_option maxHeartbeats 4000000 in
theorem c_valueOf (hx : gXok X) (hL : gLay M) {a b t : Nat} (ha : LawAt M a) (hne : a + 1 ≠ 22 ∧ a + 4 ≠ 22 ∧ a ≠ 22) {sg : Nat → Nat} (hbt : b ≤ t) (ht : t ≤ 240) (hs : ∀ i, b ≤ i → i < t → gmi M (a + 1) i = nI (sg i) ∧ sg i < 20000) :
    gDet X (d + 1) yX2_valueOf cX2_valueOf 7 (some .int) [.ref a, .int (nI b), .int (nI t), .ref 22] M (some (.int (vval (gmi M 22) sg (gmi M (a + 4)) b (t - b)))) (gwF M (a + 4) (vrun (gmi M 22) sg b (gmi M (a + 4), 0) (t - b)).1) := by
  refine gMet.of hx (by decide) (Nat.le_of_ble_eq_true rfl) ?_
  refine g_iconst (v := 0) dX2_valueOf_0 (by decide) rfl ?_
  refine g_istore dX2_valueOf_1 (by decide) rfl ?_
  refine g_iload_n dX2_valueOf_3 rfl rfl rfl ?_
  refine g_istore dX2_valueOf_4 (by decide) rfl ?_
  refine g_loop (fun i => [(0, .ref a), (1, .int (nI b)), (2, .int (nI t)), (3, .ref 22), (4, .int (nI (vrun (gmi M 22) sg b (gmi M (a + 4), 0) (i - b)).2)), (5, .int (nI i))]) (fun i => gwF M (a + 4) (vrun (gmi M 22) sg b (gmi M (a + 4), 0) (i - b)).1) t b hbt ⟨rfl, rfl, rfl, rfl, by rw [Nat.sub_self]; rfl, rfl, trivial⟩ (by rw [Nat.sub_self]; exact gwF_self M (a + 4)) ?_ (fun i hbi hi ih => ?_)
  · obtain ⟨k_a, ⟨k_a1, l_a1⟩, -, -, ⟨k_a4, l_a4⟩, r_a_0, -, -, r_a_3⟩ := LawAt_F (b := a + 4) (f := (vrun (gmi M 22) sg b (gmi M (a + 4), 0) (t - b)).1) ha
    have htop := vrun_le (lt := gmi M 22) (sg := sg) (b := b) (q := (gmi M (a + 4), 0)) (Nat.zero_le _) (t - b)
    refine g_iload dX2_valueOf_6 rfl rfl ?_
    refine g_iload_n dX2_valueOf_8 rfl rfl rfl ?_
    refine g_icmp_ge (tgt := 156) dX2_valueOf_9 (by decide) rfl (fun _ => ?_) (fun h => absurd (nI_le (Nat.le_refl _) (by omega)) h)
    refine g_iload dX2_valueOf_156 rfl rfl ?_
    refine g_if_le (tgt := 170) dX2_valueOf_158 (by decide) rfl (fun h158 => ?_) (fun h158 => ?_)
    · refine g_iconst (v := 0) dX2_valueOf_170 (by decide) rfl ?_
      have h0 : ¬ 0 < (vrun (gmi M 22) sg b (gmi M (a + 4), 0) (t - b)).2 := fun q => nI_nle q (by omega) h158
      exact g_iret dX2_valueOf_171 rfl rfl ⟨by unfold vval; rw [if_neg h0], rfl⟩
    · refine g_aload_n dX2_valueOf_161 rfl rfl rfl ?_
      refine g_getR dX2_valueOf_162 ff_X2_21 rfl (k_a) (r_a_3) rfl ?_
      refine g_iconst (v := 0) dX2_valueOf_165 (by decide) rfl ?_
      refine g_iald (i := 0) dX2_valueOf_166 (k_a4) (l_a4) (by (try simp only [nI_lit, pk_mul, nI_add, Nat.zero_add]); exact nI_toInt (by omega)) (by omega) rfl ?_
      rw [gmi_F]
      refine g_goto (tgt := 171) dX2_valueOf_167 (by decide) ?_
      have h0 : 0 < (vrun (gmi M 22) sg b (gmi M (a + 4), 0) (t - b)).2 := Nat.pos_of_ne_zero (fun q => h158 (by rw [q]; decide))
      exact g_iret dX2_valueOf_171 rfl rfl ⟨by unfold vval; rw [if_pos h0], rfl⟩
  · have hstep : vrun (gmi M 22) sg b (gmi M (a + 4), 0) (i + 1 - b) = vstep (gmi M 22) (vrun (gmi M 22) sg b (gmi M (a + 4), 0) (i - b)) (sg i) := by
      rw [show i + 1 - b = (i - b) + 1 by omega]
      show vstep _ _ (sg (b + (i - b))) = _
      rw [show b + (i - b) = i by omega]
    have htop := vrun_le (lt := gmi M 22) (sg := sg) (b := b) (q := (gmi M (a + 4), 0)) (Nat.zero_le _) (i - b)
    rw [hstep] at ih
    generalize vrun (gmi M 22) sg b (gmi M (a + 4), 0) (i - b) = q at ih htop ⊢
    obtain ⟨w, top⟩ := q
    dsimp only at ih htop ⊢
    obtain ⟨k_a, ⟨k_a1, l_a1⟩, -, -, ⟨k_a4, l_a4⟩, r_a_0, -, -, r_a_3⟩ := LawAt_F (b := a + 4) (f := w) ha
    obtain ⟨hsi, hs2⟩ := hs i hbi hi
    generalize sg i = s at ih hsi hs2
    refine g_iload dX2_valueOf_6 rfl rfl ?_
    refine g_iload_n dX2_valueOf_8 rfl rfl rfl ?_
    refine g_icmp_ge (tgt := 156) dX2_valueOf_9 (by decide) rfl (fun h => absurd h (nI_ge (by omega) (by omega))) (fun _ => ?_)
    refine g_aload_n dX2_valueOf_12 rfl rfl rfl ?_
    refine g_getR dX2_valueOf_13 ff_X2_9 rfl (k_a) (r_a_0) rfl ?_
    refine g_iload dX2_valueOf_16 rfl rfl ?_
    refine g_iald (i := i) dX2_valueOf_18 (k_a1) (l_a1) (by (try simp only [nI_lit, pk_mul, nI_add, Nat.zero_add]); exact nI_toInt (by omega)) (by omega) rfl ?_
    rw [gmi_Fn _ _ (show a + 1 ≠ a + 4 by omega), hsi]
    refine g_istore dX2_valueOf_19 (by decide) rfl ?_
    refine g_iload dX2_valueOf_21 rfl rfl ?_
    refine g_bipush (v := 16) dX2_valueOf_23 (by decide) rfl ?_
    refine g_icmp_ge (tgt := 35) dX2_valueOf_25 (by decide) rfl (fun h25 => ?_) (fun h25 => ?_)
    · have h25 : 16 ≤ s := (qle 16 s rfl rfl (by omega) (by omega)).mp h25
      refine g_iload dX2_valueOf_35 rfl rfl ?_
      refine g_bipush (v := 64) dX2_valueOf_37 (by decide) rfl ?_
      refine g_icmp_ge (tgt := 150) dX2_valueOf_39 (by decide) rfl (fun h39 => ?_) (fun h39 => ?_)
      · have h39 : ¬ top < 64 := fun q => absurd ((qle 64 top rfl rfl (by omega) (by omega)).mp h39) (by omega)
        refine g_iincV (c := 1) dX2_valueOf_150 rfl (by decide) (by decide) rfl ?_
        refine g_goto (tgt := 6) dX2_valueOf_153 (by decide) ?_
        have e : vstep (gmi M 22) (w, top) s = (w, top) := by unfold vstep; rw [if_pos h25, if_neg h39]
        rw [e] at ih
        exact g_go ih ⟨rfl, rfl, rfl, rfl, rfl, by rw [← nI_1 i]; rfl, trivial⟩
      · have h39 : top < 64 := Nat.not_le.mp (fun q => h39 ((qle 64 top rfl rfl (by omega) (by omega)).mpr q))
        refine g_aload_n dX2_valueOf_42 rfl rfl rfl ?_
        refine g_getR dX2_valueOf_43 ff_X2_21 rfl (k_a) (r_a_3) rfl ?_
        refine g_iload dX2_valueOf_46 rfl rfl ?_
        refine g_iload dX2_valueOf_48 rfl rfl ?_
        refine g_bipush (v := 16) dX2_valueOf_50 (by decide) rfl ?_
        refine g_icmp_lt (tgt := 63) dX2_valueOf_52 (by decide) rfl (fun h => absurd h (fun q => absurd ((qlt s 16 rfl rfl (by omega) (by omega)).mp q) (by omega))) (fun _ => ?_)
        refine g_iload dX2_valueOf_55 rfl rfl ?_
        refine g_bipush (v := 16) dX2_valueOf_57 (by decide) rfl ?_
        refine g_isub dX2_valueOf_59 rfl ?_
        refine g_goto (tgt := 67) dX2_valueOf_60 (by decide) ?_
        refine g_iast (i := top) dX2_valueOf_67 (k_a4) (l_a4) (nI_toInt (by omega)) h39 rfl ?_
        rw [gwI_F]
        refine g_iincV (c := 1) dX2_valueOf_68 rfl (by decide) (by decide) rfl ?_
        refine g_goto (tgt := 150) dX2_valueOf_71 (by decide) ?_
        refine g_iincV (c := 1) dX2_valueOf_150 rfl (by decide) (by decide) rfl ?_
        refine g_goto (tgt := 6) dX2_valueOf_153 (by decide) ?_
        have e : vstep (gmi M 22) (w, top) s = (va_up w top (nI s - 16), top + 1) := by unfold vstep; rw [if_pos h25, if_pos h39]
        rw [e] at ih
        exact g_go ih ⟨rfl, rfl, rfl, rfl, by rw [← nI_1 top]; rfl, by rw [← nI_1 i]; rfl, trivial⟩
    · have h25 : ¬ 16 ≤ s := fun q => h25 ((qle 16 s rfl rfl (by omega) (by omega)).mpr q)
      refine g_iload dX2_valueOf_28 rfl rfl ?_
      refine g_bipush (v := 6) dX2_valueOf_30 (by decide) rfl ?_
      refine g_icmp_ge (tgt := 74) dX2_valueOf_32 (by decide) rfl (fun h32 => ?_) (fun h32 => ?_)
      · have h32 : ¬ s < 6 := fun q => absurd ((qle 6 s rfl rfl (by omega) (by omega)).mp h32) (by omega)
        refine g_iload dX2_valueOf_74 rfl rfl ?_
        refine g_bipush (v := 8) dX2_valueOf_76 (by decide) rfl ?_
        refine g_icmp_ne (tgt := 109) dX2_valueOf_78 (by decide) rfl (fun h78 => ?_) (fun h78 => ?_)
        · have h78 : s ≠ 8 := fun q => h78 (by rw [q]; rfl)
          refine g_iload dX2_valueOf_109 rfl rfl ?_
          refine g_iconst (v := 1) dX2_valueOf_111 (by decide) rfl ?_
          refine g_icmp_le (tgt := 150) dX2_valueOf_112 (by decide) rfl (fun h112 => ?_) (fun h112 => ?_)
          · have h112 : ¬ 1 < top := fun q => absurd ((qle top 1 rfl rfl (by omega) (by omega)).mp h112) (by omega)
            refine g_iincV (c := 1) dX2_valueOf_150 rfl (by decide) (by decide) rfl ?_
            refine g_goto (tgt := 6) dX2_valueOf_153 (by decide) ?_
            have e : vstep (gmi M 22) (w, top) s = (w, top) := by unfold vstep; rw [if_neg h25, if_neg h32, if_neg h78, if_neg h112]
            rw [e] at ih
            exact g_go ih ⟨rfl, rfl, rfl, rfl, rfl, by rw [← nI_1 i]; rfl, trivial⟩
          · have h112 : 1 < top := Nat.not_le.mp (fun q => h112 ((qle top 1 rfl rfl (by omega) (by omega)).mpr q))
            refine g_iincV (c := -1) dX2_valueOf_115 rfl (by decide) (by decide) rfl ?_
            rw [nI_m1' (n := top) (by omega)]
            refine g_aload_n dX2_valueOf_118 rfl rfl rfl ?_
            refine g_getR dX2_valueOf_119 ff_X2_21 rfl (k_a) (r_a_3) rfl ?_
            refine g_iload dX2_valueOf_122 rfl rfl ?_
            refine g_iconst (v := 1) dX2_valueOf_124 (by decide) rfl ?_
            refine g_isub dX2_valueOf_125 rfl ?_
            rw [nI_m1 (n := top - 1) (by omega), show top - 1 - 1 = top - 2 by omega]
            refine g_iload dX2_valueOf_126 rfl rfl ?_
            refine g_aload_n dX2_valueOf_128 rfl rfl rfl ?_
            refine g_getR dX2_valueOf_129 ff_X2_21 rfl (k_a) (r_a_3) rfl ?_
            refine g_iload dX2_valueOf_132 rfl rfl ?_
            refine g_iconst (v := 1) dX2_valueOf_134 (by decide) rfl ?_
            refine g_isub dX2_valueOf_135 rfl ?_
            rw [nI_m1 (n := top - 1) (by omega), show top - 1 - 1 = top - 2 by omega]
            refine g_iald (i := (top - 2)) dX2_valueOf_136 (k_a4) (l_a4) (nI_toInt (by omega)) (by omega) rfl ?_
            rw [gmi_F]
            refine g_i2l dX2_valueOf_137 rfl ?_
            refine g_aload_n dX2_valueOf_138 rfl rfl rfl ?_
            refine g_getR dX2_valueOf_139 ff_X2_21 rfl (k_a) (r_a_3) rfl ?_
            refine g_iload dX2_valueOf_142 rfl rfl ?_
            refine g_iald (i := (top - 1)) dX2_valueOf_144 (k_a4) (l_a4) (nI_toInt (by omega)) (by omega) rfl ?_
            rw [gmi_F]
            refine g_i2l dX2_valueOf_145 rfl ?_
            refine g_callSdi dX2_valueOf_146 lm_X2_39 mv_X2_joined (c_joined (d := d) hx (show 6 ≤ s by omega) (show s ≤ 15 by omega) h78) rfl rfl (Nat.le_of_ble_eq_true rfl) (gFit_room (by omega)) rfl ?_
            refine g_iast (i := (top - 2)) dX2_valueOf_149 (k_a4) (l_a4) (nI_toInt (by omega)) (by omega) rfl ?_
            rw [gwI_F]
            refine g_iincV (c := 1) dX2_valueOf_150 rfl (by decide) (by decide) rfl ?_
            refine g_goto (tgt := 6) dX2_valueOf_153 (by decide) ?_
            have e : vstep (gmi M 22) (w, top) s = (va_up w (top - 2) (clampL (jv s (w (top - 2)).toInt64 (w (top - 1)).toInt64)), top - 1) := by unfold vstep; rw [if_neg h25, if_neg h32, if_neg h78, if_pos h112]
            rw [e] at ih
            exact g_go ih ⟨rfl, rfl, rfl, rfl, rfl, by rw [← nI_1 i]; rfl, trivial⟩
        · have h78 : s = 8 := (qeq s 8 rfl rfl (by omega) (by omega)).mp h78
          subst h78
          refine g_iload dX2_valueOf_81 rfl rfl ?_
          refine g_if_le (tgt := 150) dX2_valueOf_83 (by decide) rfl (fun h83 => ?_) (fun h83 => ?_)
          · have h83 : ¬ 0 < top := fun q => nI_nle q (by omega) h83
            refine g_iincV (c := 1) dX2_valueOf_150 rfl (by decide) (by decide) rfl ?_
            refine g_goto (tgt := 6) dX2_valueOf_153 (by decide) ?_
            have e : vstep (gmi M 22) (w, top) 8 = (w, top) := by unfold vstep; rw [if_neg (by omega), if_neg (by omega), if_pos rfl, if_neg h83]
            rw [e] at ih
            exact g_go ih ⟨rfl, rfl, rfl, rfl, rfl, by rw [← nI_1 i]; rfl, trivial⟩
          · have h83 : 0 < top := Nat.pos_of_ne_zero (fun q => h83 (by rw [q]; decide))
            refine g_aload_n dX2_valueOf_86 rfl rfl rfl ?_
            refine g_getR dX2_valueOf_87 ff_X2_21 rfl (k_a) (r_a_3) rfl ?_
            refine g_iload dX2_valueOf_90 rfl rfl ?_
            refine g_iconst (v := 1) dX2_valueOf_92 (by decide) rfl ?_
            refine g_isub dX2_valueOf_93 rfl ?_
            rw [nI_m1 h83]
            refine g_iconst (v := 1) dX2_valueOf_94 (by decide) rfl ?_
            refine g_aload_n dX2_valueOf_95 rfl rfl rfl ?_
            refine g_getR dX2_valueOf_96 ff_X2_21 rfl (k_a) (r_a_3) rfl ?_
            refine g_iload dX2_valueOf_99 rfl rfl ?_
            refine g_iconst (v := 1) dX2_valueOf_101 (by decide) rfl ?_
            refine g_isub dX2_valueOf_102 rfl ?_
            rw [nI_m1 h83]
            refine g_iald (i := (top - 1)) dX2_valueOf_103 (k_a4) (l_a4) (nI_toInt (by omega)) (by omega) rfl ?_
            rw [gmi_F]
            refine g_isub dX2_valueOf_104 rfl ?_
            refine g_iast (i := (top - 1)) dX2_valueOf_105 (k_a4) (l_a4) (nI_toInt (by omega)) (by omega) rfl ?_
            rw [gwI_F]
            refine g_goto (tgt := 150) dX2_valueOf_106 (by decide) ?_
            refine g_iincV (c := 1) dX2_valueOf_150 rfl (by decide) (by decide) rfl ?_
            refine g_goto (tgt := 6) dX2_valueOf_153 (by decide) ?_
            have e : vstep (gmi M 22) (w, top) 8 = (va_up w (top - 1) (1 - w (top - 1)), top) := by unfold vstep; rw [if_neg (by omega), if_neg (by omega), if_pos rfl, if_pos h83]
            rw [e] at ih
            exact g_go ih ⟨rfl, rfl, rfl, rfl, rfl, by rw [← nI_1 i]; rfl, trivial⟩
      · have h32 : s < 6 := Nat.not_le.mp (fun q => h32 ((qle 6 s rfl rfl (by omega) (by omega)).mpr q))
        refine g_iload dX2_valueOf_35 rfl rfl ?_
        refine g_bipush (v := 64) dX2_valueOf_37 (by decide) rfl ?_
        refine g_icmp_ge (tgt := 150) dX2_valueOf_39 (by decide) rfl (fun h39 => ?_) (fun h39 => ?_)
        · have h39 : ¬ top < 64 := fun q => absurd ((qle 64 top rfl rfl (by omega) (by omega)).mp h39) (by omega)
          refine g_iincV (c := 1) dX2_valueOf_150 rfl (by decide) (by decide) rfl ?_
          refine g_goto (tgt := 6) dX2_valueOf_153 (by decide) ?_
          have e : vstep (gmi M 22) (w, top) s = (w, top) := by unfold vstep; rw [if_neg h25, if_pos h32, if_neg h39]
          rw [e] at ih
          exact g_go ih ⟨rfl, rfl, rfl, rfl, rfl, by rw [← nI_1 i]; rfl, trivial⟩
        · have h39 : top < 64 := Nat.not_le.mp (fun q => h39 ((qle 64 top rfl rfl (by omega) (by omega)).mpr q))
          refine g_aload_n dX2_valueOf_42 rfl rfl rfl ?_
          refine g_getR dX2_valueOf_43 ff_X2_21 rfl (k_a) (r_a_3) rfl ?_
          refine g_iload dX2_valueOf_46 rfl rfl ?_
          refine g_iload dX2_valueOf_48 rfl rfl ?_
          refine g_bipush (v := 16) dX2_valueOf_50 (by decide) rfl ?_
          refine g_icmp_lt (tgt := 63) dX2_valueOf_52 (by decide) rfl (fun _ => ?_) (fun h => absurd ((qlt s 16 rfl rfl (by omega) (by omega)).mpr (by omega)) h)
          refine g_aload_n dX2_valueOf_63 rfl rfl rfl ?_
          refine g_iload dX2_valueOf_64 rfl rfl ?_
          refine g_iald (i := s) dX2_valueOf_66 (k22 (gLay_F hL)) (l22 (gLay_F hL)) (nI_toInt (by omega)) h32 rfl ?_
          rw [gmi_Fn _ _ (show 22 ≠ a + 4 by omega)]
          refine g_iast (i := top) dX2_valueOf_67 (k_a4) (l_a4) (nI_toInt (by omega)) h39 rfl ?_
          rw [gwI_F]
          refine g_iincV (c := 1) dX2_valueOf_68 rfl (by decide) (by decide) rfl ?_
          refine g_goto (tgt := 150) dX2_valueOf_71 (by decide) ?_
          refine g_iincV (c := 1) dX2_valueOf_150 rfl (by decide) (by decide) rfl ?_
          refine g_goto (tgt := 6) dX2_valueOf_153 (by decide) ?_
          have e : vstep (gmi M 22) (w, top) s = (va_up w top (gmi M 22 s), top + 1) := by unfold vstep; rw [if_neg h25, if_pos h32, if_pos h39]
          rw [e] at ih
          exact g_go ih ⟨rfl, rfl, rfl, rfl, by rw [← nI_1 top]; rfl, by rw [← nI_1 i]; rfl, trivial⟩
end W1
