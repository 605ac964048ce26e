/-! the reference: what is read by a law -/
def enc (k g s b m w t : Nat) : Nat := 1000 * (7 * (9 * (100 * (10 * (100 * (1 + k) + g) + s) + b) + m) + w) + t
theorem enc_inj {k g s b m w t k' g' s' b' m' w' t' : Nat} (h : enc k g s b m w t = enc k' g' s' b' m' w' t') (h1 : g < 100) (h2 : s < 10) (h3 : b < 100) (h4 : m < 9) (h5 : w < 7) (h6 : t < 1000) (h1' : g' < 100) (h2' : s' < 10) (h3' : b' < 100) (h4' : m' < 9) (h5' : w' < 7) (h6' : t' < 1000) : k = k' ∧ g = g' ∧ s = s' ∧ b = b' ∧ m = m' ∧ w = w' ∧ t = t' := by
  unfold enc at h
  omega
def cl99 (x : Int32) : Int32 := imax (-99) (imin 99 x)
/-- what was read before is read so -/
def Memo (M : gM) (n : Nat) (E : Nat → LE) : Prop := (∀ q, q < 8191 → ∀ k g s b m w t : Nat, k < n → g < 100 → s < 10 → b < 100 → m < 9 → w < 7 → t < 1000 → gml M 115 q = lN (enc k g s b m w t) → gmi M 116 q = cl99 (E k (mkL (nI g) (nI s) (nI b) (nI m) (nI w) (nI t)))) ∧ ∀ q, q < 8191 → ∃ K, K < enc n 0 0 0 0 0 0 ∧ gml M 115 q = lN K
def EVR (M : gM) (n : Nat) (E : Nat → LE) (EV : EVt) : Prop := (EV = none ∧ gmi M 100 34 = -1) ∨ ∃ k, k < n ∧ EV = some (E k) ∧ gmi M 100 34 = nI k
def RLaw (M : gM) (n : Nat) (E : Nat → LE) : Prop := gmi M 100 7 = nI n ∧ n ≤ 4 ∧ ∀ k, k < n → ∃ T L, TxB M 102 960 (240 * k) T L ∧ gmi M 103 k = nI L ∧ lawOK T L = true ∧ E k = clE (lwP T L 61 0).2.2
def RQ (M : gM) (n : Nat) (E : Nat → LE) (EV : EVt) : Prop := gLay M ∧ RLaw M n E ∧ Memo M n E ∧ EVR M n E EV
/-- what reading changes -/
def qFr (M M2 : gM) : Prop := (∀ c, gkd M2 c = gkd M c ∧ gln M2 c = gln M c) ∧ (∀ c, c ≠ 100 → gmr M2 c = gmr M c) ∧ (∀ j, j ≠ 5 → gmr M2 100 j = gmr M 100 j) ∧ (∀ c, c ≠ 115 → gml M2 c = gml M c) ∧ (∀ c, c ≠ 100 → c ≠ 104 → c ≠ 116 → gmi M2 c = gmi M c) ∧ ∀ j, j < 8 ∨ 14 < j → j ≠ 17 → gmi M2 100 j = gmi M 100 j
section G1
variable {X : gX} {M : gM} {d n : Nat} {E : Nat → LE} {EV : EVt}
theorem qFr.rf : qFr M M := ⟨fun _ => ⟨rfl, rfl⟩, fun _ _ => rfl, fun _ _ => rfl, fun _ _ => rfl, fun _ _ _ _ => rfl, fun _ _ _ => rfl⟩
theorem qFr.tr {M1 M2 M3 : gM} (h : qFr M1 M2) (h2 : qFr M2 M3) : qFr M1 M3 := ⟨fun c => ⟨(h2.1 c).1.trans (h.1 c).1, (h2.1 c).2.trans (h.1 c).2⟩, fun c hc => (h2.2.1 c hc).trans (h.2.1 c hc), fun j hj => (h2.2.2.1 j hj).trans (h.2.2.1 j hj), fun c hc => (h2.2.2.2.1 c hc).trans (h.2.2.2.1 c hc), fun c a b e => (h2.2.2.2.2.1 c a b e).trans (h.2.2.2.2.1 c a b e), fun j a b => (h2.2.2.2.2.2 j a b).trans (h.2.2.2.2.2 j a b)⟩
theorem qFr.lay {M2 : gM} (h : qFr M M2) (hL : gLay M) : gLay M2 := ⟨fun a ha => (h.1 a).1.trans (hL.1 a ha), fun a ha => (h.1 a).2.trans (hL.2.1 a ha), fun q hq => by
  by_cases e : q.1 = 100
  · rw [e, h.2.2.1 _ (grt5 q hq e), ← e]; exact hL.2.2 q hq
  · rw [h.2.1 _ e]; exact hL.2.2 q hq⟩
theorem tFr.q {M2 : gM} (h : tFr M M2) : qFr M M2 := ⟨h.1, h.2.1, h.2.2.1, fun c _ => h.2.2.2.1 c, fun c a _ _ => h.2.2.2.2.1 c a, h.2.2.2.2.2⟩
theorem qFr.put {c i : Nat} {v : Int32} (h : c = 104 ∨ c = 116) : qFr M (gwI M c i v) := ⟨fun _ => ⟨rfl, rfl⟩, fun _ _ => rfl, fun _ _ => rfl, fun _ _ => rfl, fun q a b e => gmi_In _ _ _ (by omega), fun j _ _ => by rw [gmi_In _ _ _ (by omega)]⟩
theorem qFr.putL {i : Nat} {v : Int64} : qFr M (gwL M 115 i v) := ⟨fun _ => ⟨rfl, rfl⟩, fun _ _ => rfl, fun _ _ => rfl, fun c hc => va_up_ne _ _ hc, fun _ _ _ _ => rfl, fun _ _ _ => rfl⟩
theorem RLaw.fr {M2 : gM} (h : RLaw M n E) (hf : qFr M M2) : RLaw M2 n E := by
  obtain ⟨h1, h2, h3⟩ := h
  refine ⟨by rw [hf.2.2.2.2.2 7 (by decide) (by decide)]; exact h1, h2, fun k hk => ?_⟩
  obtain ⟨T, L, ⟨a, b, c⟩, e, f, g⟩ := h3 k hk
  exact ⟨T, L, ⟨by rw [(hf.1 102).1, (hf.1 102).2]; exact a, b, fun q hq => by rw [hf.2.2.2.2.1 102 (by decide) (by decide) (by decide)]; exact c q hq⟩, by rw [hf.2.2.2.2.1 103 (by decide) (by decide) (by decide)]; exact e, f, g⟩
theorem EVR.fr {M2 : gM} (h : EVR M n E EV) (hf : qFr M M2) : EVR M2 n E EV := by
  unfold EVR
  rw [hf.2.2.2.2.2 34 (by decide) (by decide)]
  exact h
theorem mkL_lch {g s b m w t : Int32} : ∀ q, q < 6 → (fun j => if j = 103 then g else if j = 115 then s else if j = 98 then b else if j = 110 then m else if j = 119 then w else t) (lch q) = mkL g s b m w t q := by
  intro q hq
  rcases (show q = 0 ∨ q = 1 ∨ q = 2 ∨ q = 3 ∨ q = 4 ∨ q = 5 by omega) with rfl | rfl | rfl | rfl | rfl | rfl <;> rfl
set_option maxRecDepth 20000 in
set_option maxHeartbeats 4000000 in
theorem r_worthOf (hx : gXok X) (hZ : gSt X) (hQ : RQ M n E EV) {k g s b m w t : Nat} (hk : k < n) (hlw : gmi M 100 34 = nI k) (h1 : g < 100) (h2 : s < 10) (h3 : b < 100) (h4 : m < 9) (h5 : w < 7) (h6 : t < 1000) : gPos X (d + 32) yX11_worthOf cX11_worthOf 10 (some .int) [.ref 100, .int (nI g), .int (nI s), .int (nI b), .int (nI m), .int (nI w), .int (nI t)] M (fun v M2 => v = some (.int (cl99 (E k (mkL (nI g) (nI s) (nI b) (nI m) (nI w) (nI t))))) ∧ qFr M M2 ∧ RQ M2 n E EV) := by
  obtain ⟨hL, hlaw, hmem, hev⟩ := id hQ
  have hn4 := hlaw.2.1
  obtain ⟨T, L, hT, e103, hok, hE⟩ := hlaw.2.2 k hk
  have henc : enc k g s b m w t < 2 ^ 62 := by unfold enc; omega
  refine gMet.of hx (by decide) (Nat.le_of_ble_eq_true rfl) ?_
  have hspot : enc k g s b m w t % 8191 < 8191 := Nat.mod_lt _ (by decide)
  refine g_lconst (v := 1) dX11_worthOf_0 (by decide) rfl ?_
  refine g_aload_n dX11_worthOf_1 rfl rfl rfl ?_
  refine g_getI dX11_worthOf_2 ff_X11_67 rfl (k100 hL) rfl ?_
  refine g_i2l dX11_worthOf_5 rfl ?_
  rw [hlw, nI_l (by omega), show (1 : Int64) = lN 1 from rfl]
  refine g_ladd dX11_worthOf_6 rfl ?_
  rw [lN_add]
  refine g_lstore dX11_worthOf_7 (by decide) rfl ?_
  refine g_ldc2 dX11_worthOf_9 lq_X11_304 rfl ?_
  refine g_lload dX11_worthOf_12 rfl rfl ?_
  refine g_lmul dX11_worthOf_14 rfl ?_
  refine g_iload_n dX11_worthOf_15 rfl rfl rfl ?_
  refine g_i2l dX11_worthOf_16 rfl ?_
  rw [show (100 : Int64) = lN 100 from rfl, nI_l (by omega), lN_mul]
  refine g_ladd dX11_worthOf_17 rfl ?_
  rw [lN_add]
  refine g_lstore dX11_worthOf_18 (by decide) rfl ?_
  refine g_ldc2 dX11_worthOf_20 lq_X11_306 rfl ?_
  refine g_lload dX11_worthOf_23 rfl rfl ?_
  refine g_lmul dX11_worthOf_25 rfl ?_
  refine g_iload_n dX11_worthOf_26 rfl rfl rfl ?_
  refine g_i2l dX11_worthOf_27 rfl ?_
  rw [show (10 : Int64) = lN 10 from rfl, nI_l (by omega), lN_mul]
  refine g_ladd dX11_worthOf_28 rfl ?_
  rw [lN_add]
  refine g_lstore dX11_worthOf_29 (by decide) rfl ?_
  refine g_ldc2 dX11_worthOf_31 lq_X11_304 rfl ?_
  refine g_lload dX11_worthOf_34 rfl rfl ?_
  refine g_lmul dX11_worthOf_36 rfl ?_
  refine g_iload_n dX11_worthOf_37 rfl rfl rfl ?_
  refine g_i2l dX11_worthOf_38 rfl ?_
  rw [show (100 : Int64) = lN 100 from rfl, nI_l (by omega), lN_mul]
  refine g_ladd dX11_worthOf_39 rfl ?_
  rw [lN_add]
  refine g_lstore dX11_worthOf_40 (by decide) rfl ?_
  refine g_ldc2 dX11_worthOf_42 lq_X11_308 rfl ?_
  refine g_lload dX11_worthOf_45 rfl rfl ?_
  refine g_lmul dX11_worthOf_47 rfl ?_
  refine g_iload dX11_worthOf_48 rfl rfl ?_
  refine g_i2l dX11_worthOf_50 rfl ?_
  rw [show (9 : Int64) = lN 9 from rfl, nI_l (by omega), lN_mul]
  refine g_ladd dX11_worthOf_51 rfl ?_
  rw [lN_add]
  refine g_lstore dX11_worthOf_52 (by decide) rfl ?_
  refine g_ldc2 dX11_worthOf_54 lq_X11_310 rfl ?_
  refine g_lload dX11_worthOf_57 rfl rfl ?_
  refine g_lmul dX11_worthOf_59 rfl ?_
  refine g_iload dX11_worthOf_60 rfl rfl ?_
  refine g_i2l dX11_worthOf_62 rfl ?_
  rw [show (7 : Int64) = lN 7 from rfl, nI_l (by omega), lN_mul]
  refine g_ladd dX11_worthOf_63 rfl ?_
  rw [lN_add]
  refine g_lstore dX11_worthOf_64 (by decide) rfl ?_
  refine g_ldc2 dX11_worthOf_66 lq_X11_312 rfl ?_
  refine g_lload dX11_worthOf_69 rfl rfl ?_
  refine g_lmul dX11_worthOf_71 rfl ?_
  refine g_iload dX11_worthOf_72 rfl rfl ?_
  refine g_i2l dX11_worthOf_74 rfl ?_
  rw [show (1000 : Int64) = lN 1000 from rfl, nI_l (by omega), lN_mul]
  refine g_ladd dX11_worthOf_75 rfl ?_
  rw [lN_add, show 1000 * (7 * (9 * (100 * (10 * (100 * (1 + k) + g) + s) + b) + m) + w) + t = enc k g s b m w t from rfl]
  generalize hK : enc k g s b m w t = K at *
  refine g_lstore dX11_worthOf_76 (by decide) rfl ?_
  refine g_lload dX11_worthOf_78 rfl rfl ?_
  refine g_ldc2 dX11_worthOf_80 lq_X11_314 rfl ?_
  rw [show (8191 : Int64) = lN 8191 from rfl]
  refine g_lrem dX11_worthOf_83 (by decide) rfl ?_
  rw [pk_lRem (by omega) (by decide) (by decide)]
  refine g_l2i dX11_worthOf_84 rfl ?_
  rw [lN_i]
  generalize hsp : K % 8191 = q at *
  refine g_istore dX11_worthOf_85 (by decide) rfl ?_
  refine g_aload_n dX11_worthOf_87 rfl rfl rfl ?_
  refine g_getR dX11_worthOf_88 ff_X11_74 rfl (k100 hL) (r100_36 hL) rfl ?_
  refine g_iload dX11_worthOf_91 rfl rfl ?_
  refine g_lald (i := q) dX11_worthOf_93 (k115 hL) (l115 hL) (nI_toInt (by omega)) hspot rfl ?_
  refine g_lload dX11_worthOf_94 rfl rfl ?_
  refine g_lcmp dX11_worthOf_96 rfl ?_
  have hcmp := lg_eq0 (gml M 115 q) (lN K)
  refine g_if_ne (tgt := 108) dX11_worthOf_97 (by decide) rfl (fun h97 => ?_) (fun h97 => ?_)
  · refine g_aload_n dX11_worthOf_108 rfl rfl rfl ?_
    refine g_getR dX11_worthOf_109 ff_X11_20 rfl (k100 hL) (r100_4 hL) rfl ?_
    refine g_bipush (v := 103) dX11_worthOf_112 (by decide) rfl ?_
    refine g_iload_n dX11_worthOf_114 rfl rfl rfl ?_
    refine g_iast (i := 103) dX11_worthOf_115 (k104 hL) (l104 hL) (by (try simp only [nI_lit, pk_mul, nI_add, Nat.zero_add]); exact nI_toInt (by omega)) (by omega) rfl ?_
    refine g_aload_n dX11_worthOf_116 rfl rfl rfl ?_
    refine g_getR dX11_worthOf_117 ff_X11_20 rfl (k100 (gLay_I hL)) (r100_4 (gLay_I hL)) rfl ?_
    refine g_bipush (v := 115) dX11_worthOf_120 (by decide) rfl ?_
    refine g_iload_n dX11_worthOf_122 rfl rfl rfl ?_
    refine g_iast (i := 115) dX11_worthOf_123 (k104 (gLay_I hL)) (l104 (gLay_I hL)) (by (try simp only [nI_lit, pk_mul, nI_add, Nat.zero_add]); exact nI_toInt (by omega)) (by omega) rfl ?_
    refine g_aload_n dX11_worthOf_124 rfl rfl rfl ?_
    refine g_getR dX11_worthOf_125 ff_X11_20 rfl (k100 (gLay_I (gLay_I hL))) (r100_4 (gLay_I (gLay_I hL))) rfl ?_
    refine g_bipush (v := 98) dX11_worthOf_128 (by decide) rfl ?_
    refine g_iload_n dX11_worthOf_130 rfl rfl rfl ?_
    refine g_iast (i := 98) dX11_worthOf_131 (k104 (gLay_I (gLay_I hL))) (l104 (gLay_I (gLay_I hL))) (by (try simp only [nI_lit, pk_mul, nI_add, Nat.zero_add]); exact nI_toInt (by omega)) (by omega) rfl ?_
    refine g_aload_n dX11_worthOf_132 rfl rfl rfl ?_
    refine g_getR dX11_worthOf_133 ff_X11_20 rfl (k100 (gLay_I (gLay_I (gLay_I hL)))) (r100_4 (gLay_I (gLay_I (gLay_I hL)))) rfl ?_
    refine g_bipush (v := 110) dX11_worthOf_136 (by decide) rfl ?_
    refine g_iload dX11_worthOf_138 rfl rfl ?_
    refine g_iast (i := 110) dX11_worthOf_140 (k104 (gLay_I (gLay_I (gLay_I hL)))) (l104 (gLay_I (gLay_I (gLay_I hL)))) (by (try simp only [nI_lit, pk_mul, nI_add, Nat.zero_add]); exact nI_toInt (by omega)) (by omega) rfl ?_
    refine g_aload_n dX11_worthOf_141 rfl rfl rfl ?_
    refine g_getR dX11_worthOf_142 ff_X11_20 rfl (k100 (gLay_I (gLay_I (gLay_I (gLay_I hL))))) (r100_4 (gLay_I (gLay_I (gLay_I (gLay_I hL))))) rfl ?_
    refine g_bipush (v := 119) dX11_worthOf_145 (by decide) rfl ?_
    refine g_iload dX11_worthOf_147 rfl rfl ?_
    refine g_iast (i := 119) dX11_worthOf_149 (k104 (gLay_I (gLay_I (gLay_I (gLay_I hL))))) (l104 (gLay_I (gLay_I (gLay_I (gLay_I hL))))) (by (try simp only [nI_lit, pk_mul, nI_add, Nat.zero_add]); exact nI_toInt (by omega)) (by omega) rfl ?_
    refine g_aload_n dX11_worthOf_150 rfl rfl rfl ?_
    refine g_getR dX11_worthOf_151 ff_X11_20 rfl (k100 (gLay_I (gLay_I (gLay_I (gLay_I (gLay_I hL)))))) (r100_4 (gLay_I (gLay_I (gLay_I (gLay_I (gLay_I hL)))))) rfl ?_
    refine g_bipush (v := 116) dX11_worthOf_154 (by decide) rfl ?_
    refine g_iload dX11_worthOf_156 rfl rfl ?_
    refine g_iast (i := 116) dX11_worthOf_158 (k104 (gLay_I (gLay_I (gLay_I (gLay_I (gLay_I hL)))))) (l104 (gLay_I (gLay_I (gLay_I (gLay_I (gLay_I hL)))))) (by (try simp only [nI_lit, pk_mul, nI_add, Nat.zero_add]); exact nI_toInt (by omega)) (by omega) rfl ?_
    have hF1 : qFr M (gwI (gwI (gwI (gwI (gwI (gwI M 104 103 (nI g)) 104 115 (nI s)) 104 98 (nI b)) 104 110 (nI m)) 104 119 (nI w)) 104 116 (nI t)) := (((((qFr.put (Or.inl rfl)).tr (qFr.put (Or.inl rfl))).tr (qFr.put (Or.inl rfl))).tr (qFr.put (Or.inl rfl))).tr (qFr.put (Or.inl rfl))).tr (qFr.put (Or.inl rfl))
    have hlt : LtR (gwI (gwI (gwI (gwI (gwI (gwI M 104 103 (nI g)) 104 115 (nI s)) 104 98 (nI b)) 104 110 (nI m)) 104 119 (nI w)) 104 116 (nI t)) (mkL (nI g) (nI s) (nI b) (nI m) (nI w) (nI t)) := by
      intro z hz
      rcases (show z = 0 ∨ z = 1 ∨ z = 2 ∨ z = 3 ∨ z = 4 ∨ z = 5 by omega) with rfl | rfl | rfl | rfl | rfl | rfl <;> simp [gmi_I, va_up, lch, mkL]
    have e115 : gml (gwI (gwI (gwI (gwI (gwI (gwI M 104 103 (nI g)) 104 115 (nI s)) 104 98 (nI b)) 104 110 (nI m)) 104 119 (nI w)) 104 116 (nI t)) 115 = gml M 115 := rfl
    have e116 : gmi (gwI (gwI (gwI (gwI (gwI (gwI M 104 103 (nI g)) 104 115 (nI s)) 104 98 (nI b)) 104 110 (nI m)) 104 119 (nI w)) 104 116 (nI t)) 116 = gmi M 116 := by rw [gmi_In _ _ _ (by decide), gmi_In _ _ _ (by decide), gmi_In _ _ _ (by decide), gmi_In _ _ _ (by decide), gmi_In _ _ _ (by decide), gmi_In _ _ _ (by decide)]
    generalize gwI (gwI (gwI (gwI (gwI (gwI M 104 103 (nI g)) 104 115 (nI s)) 104 98 (nI b)) 104 110 (nI m)) 104 119 (nI w)) 104 116 (nI t) = M1 at hF1 hlt e115 e116 ⊢
    have hL1 := hF1.lay hL
    have hT1 : TxB M1 102 960 (240 * k) T L := ⟨by rw [(hF1.1 102).1, (hF1.1 102).2]; exact hT.1, hT.2.1, fun z hz => by rw [hF1.2.2.2.2.1 102 (by decide) (by decide) (by decide)]; exact hT.2.2 z hz⟩
    have hlw1 : gmi M1 100 34 = nI k := by rw [hF1.2.2.2.2.2 34 (by decide) (by decide)]; exact hlw
    have e103' : gmi M1 103 k = nI L := by rw [hF1.2.2.2.2.1 103 (by decide) (by decide) (by decide)]; exact e103
    refine g_aload_n dX11_worthOf_159 rfl rfl rfl ?_
    refine g_aload_n dX11_worthOf_160 rfl rfl rfl ?_
    refine g_getR dX11_worthOf_161 ff_X11_13 rfl (k100 hL1) (r100_2 hL1) rfl ?_
    refine g_sipush (v := 240) dX11_worthOf_164 (by decide) rfl ?_
    refine g_aload_n dX11_worthOf_167 rfl rfl rfl ?_
    refine g_getI dX11_worthOf_168 ff_X11_67 rfl (k100 hL1) rfl ?_
    rw [hlw1, show (240 : Int32) = nI 240 from rfl]
    refine g_imul dX11_worthOf_171 rfl ?_
    rw [pk_mul]
    refine g_aload_n dX11_worthOf_172 rfl rfl rfl ?_
    refine g_getR dX11_worthOf_173 ff_X11_16 rfl (k100 hL1) (r100_3 hL1) rfl ?_
    refine g_aload_n dX11_worthOf_176 rfl rfl rfl ?_
    refine g_getI dX11_worthOf_177 ff_X11_67 rfl (k100 hL1) rfl ?_
    rw [hlw1]
    refine g_iald (i := k) dX11_worthOf_180 (k103 hL1) (l103 hL1) (nI_toInt (by omega)) (by omega) rfl ?_
    rw [e103']
    refine g_callVq (ci := 11) dX11_worthOf_181 lm_X11_271 mv_X11_goThrough (r_goThrough (d := d) hx hZ hL1 hT1 hlt) rfl rfl (k100 hL1) rfl rfl (Nat.le_of_ble_eq_true rfl) (gFit_room (by omega)) rfl (fun v M2 hQ => ?_)
    obtain ⟨rfl, hf⟩ := hQ
    obtain ⟨hF2, -, hfound⟩ := hf
    have hfd := hfound hok
    have hL2 := hF2.lay hL1
    have f115 : gml M2 115 = gml M 115 := by rw [hF2.2.2.2.1 115, e115]
    have f116 : gmi M2 116 = gmi M 116 := by rw [hF2.2.2.2.2.1 116 (by decide), e116]
    refine g_aload_n dX11_worthOf_184 rfl rfl rfl ?_
    refine g_getR dX11_worthOf_185 ff_X11_74 rfl (k100 hL2) (r100_36 hL2) rfl ?_
    refine g_iload dX11_worthOf_188 rfl rfl ?_
    refine g_lload dX11_worthOf_190 rfl rfl ?_
    refine g_last (i := q) dX11_worthOf_192 (k115 hL2) (l115 hL2) (nI_toInt (by omega)) hspot rfl ?_
    refine g_aload_n dX11_worthOf_193 rfl rfl rfl ?_
    refine g_getR dX11_worthOf_194 ff_X11_78 rfl (k100 (gLay_L hL2)) (r100_37 (gLay_L hL2)) rfl ?_
    refine g_iload dX11_worthOf_197 rfl rfl ?_
    refine g_bipush (v := -99) dX11_worthOf_199 (by decide) rfl ?_
    refine g_bipush (v := 99) dX11_worthOf_201 (by decide) rfl ?_
    refine g_aload_n dX11_worthOf_203 rfl rfl rfl ?_
    refine g_getI dX11_worthOf_204 ff_X11_198 rfl (k100 (gLay_L hL2)) rfl ?_
    refine g_callSdi dX11_worthOf_207 lm_X11_316 mv_J9_min_7cf53 (c_min (d := d + 31) hx) rfl rfl (Nat.le_of_ble_eq_true rfl) (gFit_room (by omega)) rfl ?_
    refine g_callSdi dX11_worthOf_210 lm_X11_318 mv_J9_max_7cf53 (c_max (d := d + 31) hx) rfl rfl (Nat.le_of_ble_eq_true rfl) (gFit_room (by omega)) rfl ?_
    have hg : gmi (gwL M2 115 q (lN K)) 100 14 = E k (mkL (nI g) (nI s) (nI b) (nI m) (nI w) (nI t)) := by rw [hE]; exact hfd
    rw [hg]
    refine g_iast (i := q) dX11_worthOf_213 (k116 (gLay_L hL2)) (l116 (gLay_L hL2)) (nI_toInt (by omega)) hspot rfl ?_
    refine g_aload_n dX11_worthOf_214 rfl rfl rfl ?_
    refine g_getR dX11_worthOf_215 ff_X11_78 rfl (k100 (gLay_I (gLay_L hL2))) (r100_37 (gLay_I (gLay_L hL2))) rfl ?_
    refine g_iload dX11_worthOf_218 rfl rfl ?_
    refine g_iald (i := q) dX11_worthOf_220 (k116 (gLay_I (gLay_L hL2))) (l116 (gLay_I (gLay_L hL2))) (nI_toInt (by omega)) hspot rfl ?_
    rw [gmi_I, va_up_self]
    have hFa : qFr M (gwI (gwL M2 115 q (lN K)) 116 q (imax (-99) (imin 99 (E k (mkL (nI g) (nI s) (nI b) (nI m) (nI w) (nI t)))))) := ((hF1.tr hF2.q).tr qFr.putL).tr (qFr.put (Or.inr rfl))
    refine g_iret dX11_worthOf_221 rfl rfl ⟨rfl, hFa, hFa.lay hL, hlaw.fr hFa, ?_, hev.fr hFa⟩
    refine ⟨?_, fun q2 hq2 => ?_⟩
    rotate_left
    · show ∃ K', K' < enc n 0 0 0 0 0 0 ∧ gml (gwL M2 115 q (lN K)) 115 q2 = lN K'
      rw [gml_L]
      by_cases e : q2 = q
      · rw [e, va_up_self]
        exact ⟨K, by rw [← hK]; unfold enc; omega, rfl⟩
      · rw [va_up_ne _ _ e, f115]
        exact hmem.2 q2 hq2
    intro q2 hq2 k2 g2 s2 b2 m2 w2 t2 i0 i1 i2 i3 i4 i5 i6 hkey
    have hkey2 : va_up (gml M2 115) q (lN K) q2 = lN (enc k2 g2 s2 b2 m2 w2 t2) := by rw [← gml_L]; exact hkey
    rw [gmi_I]
    have e2 : gmi (gwL M2 115 q (lN K)) 116 = gmi M 116 := f116
    rw [e2]
    by_cases e : q2 = q
    · rw [e, va_up_self] at hkey2
      rw [e, va_up_self]
      rw [← hK] at hkey2
      have hinj := (fb_lN_inj (by rw [hK]; omega) (by unfold enc; omega)).mp hkey2
      obtain ⟨j0, j1, j2, j3, j4, j5, j6⟩ := enc_inj hinj h1 h2 h3 h4 h5 h6 i1 i2 i3 i4 i5 i6
      subst j0 j1 j2 j3 j4 j5 j6
      rfl
    · rw [va_up_ne _ _ e] at hkey2 ⊢
      rw [f115] at hkey2
      exact hmem.1 q2 hq2 k2 g2 s2 b2 m2 w2 t2 i0 i1 i2 i3 i4 i5 i6 hkey2
  · refine g_aload_n dX11_worthOf_100 rfl rfl rfl ?_
    refine g_getR dX11_worthOf_101 ff_X11_78 rfl (k100 hL) (r100_37 hL) rfl ?_
    refine g_iload dX11_worthOf_104 rfl rfl ?_
    refine g_iald (i := q) dX11_worthOf_106 (k116 hL) (l116 hL) (nI_toInt (by omega)) hspot rfl ?_
    rw [hmem.1 q hspot k g s b m w t hk h1 h2 h3 h4 h5 h6 (by rw [hK]; exact hcmp.mp h97)]
    exact g_iret dX11_worthOf_107 rfl (by first | rfl | exact b01 | exact nb01 hv01) (⟨rfl, qFr.rf, hQ⟩)
end G1
