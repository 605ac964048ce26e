section H30
variable {X : gX} {Mc M : gM} {d : Nat} {T : Nat → Nat} {L i w p n : Nat} {S : Nat → Prop} {s : TS} {E : Nat → LE} {EV : EVt} {F : Nat → Int32}
def scN : Nat → Prop := fun c => scT c ∨ c = 1000 ∨ c = 105 ∨ c = 107 ∨ c = 109 ∨ c = 113 ∨ c = 1026 ∨ c = 1027 ∨ c = 1006 ∨ c = 1039 ∨ c = 1044 ∨ c = 1046
theorem scN6 : ¬ scN 116 := by unfold scN scT; decide
theorem scN4 : ¬ scN 104 := by unfold scN scT; decide
def nowI (s : TS) (k : Nat) : Int32 := if k < 60 ∧ k % 10 = 0 ∧ k / 10 < s.1 then nI (s.2.2.2.2.2.1 (3 * (k / 10))) else if k = 64 then nI s.2.2.2.2.1 else 0
/-- a town is founded -/
def TxT (M M2 : gM) (s : TS) : Prop := zFr scN M M2 ∧ (gmi M2 100 26 = nI s.1 ∧ gmi M2 100 27 = nI s.2.1 ∧ gmi M2 100 6 = 0 ∧ gmi M2 100 44 = 0 ∧ gmi M2 100 39 = 0 ∧ gmi M2 100 46 = 0) ∧ (gmi M2 105 0 = nI s.2.2.2.1 ∧ gmi M2 105 1 = nI s.2.2.2.2.1) ∧ (∀ q, q < 3 * s.1 → gmi M2 107 q = nI (s.2.2.2.2.2.1 q)) ∧ (∀ q, q < 3 * s.2.1 → gmi M2 109 q = nI (s.2.2.2.2.2.2 q)) ∧ ∀ k, k < 248 → gmi M2 113 k = nowI s k
def BT (M M2 : gM) (s : TS) : Prop := zFr scN M M2 ∧ (gmi M2 100 26 = nI s.1 ∧ gmi M2 100 27 = nI s.2.1 ∧ gmi M2 100 6 = 0) ∧ RdT M2 s
theorem BT.wc {M2 : gM} {c k : Nat} {v : Int32} (h : BT M M2 s) (hc : c = 105 ∨ c = 107 ∨ c = 109 ∨ c = 113) : BT M (gwI M2 c k v) s := by
  obtain ⟨z, ⟨a, b, e⟩, r⟩ := h
  have hs : scN c := by unfold scN; rcases hc with h | h | h | h <;> simp [h]
  refine ⟨z.tr ((kFr.wc hs (by omega)).z scN6 scN4), ⟨by rw [gmi_In _ _ _ (by omega)]; exact a, by rw [gmi_In _ _ _ (by omega)]; exact b, by rw [gmi_In _ _ _ (by omega)]; exact e⟩, ?_⟩
  unfold RdT at *
  rw [gmi_In _ _ _ (show 100 ≠ c by omega), gmi_In _ _ _ (show 106 ≠ c by omega), gmi_In _ _ _ (show 108 ≠ c by omega), gmi_In _ _ _ (show 110 ≠ c by omega)]
  exact r
def Rg (M2 : gM) (a b n : Nat) : Prop := ∀ q, q < n → gmi M2 a q = gmi M2 b q
theorem Rg.wo {M2 : gM} {a b n c k : Nat} {v : Int32} (h : Rg M2 a b n) (h1 : c ≠ a) (h2 : c ≠ b) : Rg (gwI M2 c k v) a b n := fun q hq => by rw [gmi_In _ _ _ h1.symm, gmi_In _ _ _ h2.symm]; exact h q hq
theorem Rg.up {M2 : gM} {a b j : Nat} (h : Rg M2 a b j) (hab : a ≠ b) : Rg (gwI M2 a j (gmi M2 b j)) a b (j + 1) := fun q hq => by
  rw [gmi_I, gmi_In _ _ _ hab.symm]
  by_cases e : q = j
  · subst e; rw [va_up_self]
  · rw [va_up_ne _ _ e]; exact h q (by omega)
set_option maxRecDepth 20000 in
set_option maxHeartbeats 1000000 in
theorem r_text0 (hx : gXok X) (hZ : gSt X) (hL : gLay M) (hT : TapeR M T L) : gPos X (d + 9) yX11_text cX11_text 4 (some .int) [.ref 100, .int 0] M (fun v M2 => v = some (.int (if townOK T L then nI (townP T L).2.2.1 else -1)) ∧ (¬ townOK T L = true → zFr scT0 M M2) ∧ (townOK T L = true → TxT M M2 (townP T L).2.2)) := by
  have h240 := hT.2.1
  have h0 : zFr scT0 M (gwI M 100 0 0) := zFr.wf (Or.inr rfl)
  refine gMet.of hx (by decide) (Nat.le_of_ble_eq_true rfl) ?_
  refine g_aload_n dX11_text_0 rfl rfl rfl ?_
  refine g_iconst (v := 0) dX11_text_1 (by decide) rfl ?_
  refine g_putI dX11_text_2 fp_X11_90 rfl rfl rfl (k100 hL) rfl ?_
  refine g_iload_n dX11_text_5 rfl rfl rfl ?_
  refine g_i2l dX11_text_6 rfl ?_
  refine g_lconst (v := 0) dX11_text_7 (by decide) rfl ?_
  refine g_ldc2 dX11_text_8 lq_X11_266 rfl ?_
  refine g_callSdi dX11_text_11 lm_X11_211 mv_X11_isIn (r_isIn (d := d + 8) (x := 0) (l := 0) (h := 2) hx (by decide) (by decide) (by decide)) rfl rfl (Nat.le_of_ble_eq_true rfl) (gFit_room (by omega)) rfl ?_
  rw [ib_t (by decide)]
  refine g_if_eq (tgt := 52) dX11_text_14 (by decide) rfl (fun h_ => absurd h_ (by decide)) (fun _ => ?_)
  refine g_iload_n dX11_text_17 rfl rfl rfl ?_
  refine g_iconst (v := 1) dX11_text_18 (by decide) rfl ?_
  refine g_icmp_ne (tgt := 30) dX11_text_19 (by decide) rfl (fun _ => ?_) (fun h_ => absurd h_ (by decide))
  refine g_iload_n dX11_text_30 rfl rfl rfl ?_
  refine g_iconst (v := 2) dX11_text_31 (by decide) rfl ?_
  refine g_icmp_ne (tgt := 43) dX11_text_32 (by decide) rfl (fun _ => ?_) (fun h_ => absurd h_ (by decide))
  refine g_aload_n dX11_text_43 rfl rfl rfl ?_
  refine g_iload_n dX11_text_44 rfl rfl rfl ?_
  refine g_callVq (ci := 11) dX11_text_45 lm_X11_283 mv_X11_fault (r_fault0 (d := d) hx hZ (gLay_I hL) hT.th) rfl rfl (k100 (gLay_I hL)) rfl rfl (Nat.le_of_ble_eq_true rfl) (gFit_room (by omega)) rfl (fun v M1 hQ => ?_)
  obtain ⟨rfl, hf1, hr1⟩ := hQ
  have hz1 := h0.tr hf1
  have hL1 := hz1.1.lay hL
  have hT1 := hT.z hz1 (by unfold scT0 scT; decide) (by unfold scT0 scT; decide)
  by_cases hok : townOK T L = true
  · have hlv := (fl0_ok h240).mpr hok
    have hD := hr1 hok
    rw [hlv, if_pos hok]
    generalize (townP T L).2.2 = s at *
    have d28 := hD.1
    have d29 := hD.2.1
    have hp6 := hD.2.2.2.2.2.2.1
    have hd8 := hD.2.2.2.2.2.2.2
    have e28 : gmi (gwI M1 100 6 0) 100 28 = nI s.1 := by rw [gmi_I, va_up_ne _ _ (by decide)]; exact d28
    have e29 : gmi (gwI (gwI M1 100 6 0) 100 26 (nI s.1)) 100 29 = nI s.2.1 := by rw [gmi_I, va_up_ne _ _ (by decide), gmi_I, va_up_ne _ _ (by decide)]; exact d29
    have hB : BT M (gwI (gwI (gwI M1 100 6 0) 100 26 (nI s.1)) 100 27 (nI s.2.1)) s := by
      refine ⟨(((hz1.mono (fun c q => q.elim Or.inl (fun y => Or.inr (Or.inl y)))).tr (zFr.wf (by simp [scN]))).tr (zFr.wf (by simp [scN]))).tr (zFr.wf (by simp [scN])), ⟨by rw [gmi_I, va_up_ne _ _ (by decide), gmi_I, va_up_self], by rw [gmi_I, va_up_self], by rw [gmi_I, va_up_ne _ _ (by decide), gmi_I, va_up_ne _ _ (by decide), gmi_I, va_up_self]⟩, ?_⟩
      obtain ⟨a1, a2, a3, a4, a5, a6, a7⟩ := hD
      exact ⟨by rw [gmi_I, va_up_ne _ _ (by decide), gmi_I, va_up_ne _ _ (by decide), gmi_I, va_up_ne _ _ (by decide)]; exact a1, by rw [gmi_I, va_up_ne _ _ (by decide), gmi_I, va_up_ne _ _ (by decide), gmi_I, va_up_ne _ _ (by decide)]; exact a2, by rw [gmi_I, va_up_ne _ _ (by decide), gmi_I, va_up_ne _ _ (by decide), gmi_I, va_up_ne _ _ (by decide)]; exact a3, by rw [gmi_In _ _ _ (by decide), gmi_In _ _ _ (by decide), gmi_In _ _ _ (by decide)]; exact a4, by rw [gmi_In _ _ _ (by decide), gmi_In _ _ _ (by decide), gmi_In _ _ _ (by decide)]; exact a5, by rw [gmi_In _ _ _ (by decide), gmi_In _ _ _ (by decide), gmi_In _ _ _ (by decide)]; exact a6, a7⟩
    refine g_iconst (v := -1) dX11_text_48 (by decide) rfl ?_
    refine g_icmp_eq (tgt := 54) dX11_text_49 (by decide) rfl (fun _ => ?_) (fun h_ => absurd (rfl) h_)
    refine g_aload_n dX11_text_54 rfl rfl rfl ?_
    refine g_getI dX11_text_55 ff_X11_103 rfl (k100 hL1) rfl ?_
    refine g_istore_n dX11_text_58 rfl (by decide) rfl ?_
    refine g_aload_n dX11_text_59 rfl rfl rfl ?_
    refine g_iconst (v := 0) dX11_text_60 (by decide) rfl ?_
    refine g_putI dX11_text_61 fp_X11_103 rfl rfl rfl (k100 hL1) rfl ?_
    refine g_iload_n dX11_text_64 rfl rfl rfl ?_
    refine g_iconst (v := 1) dX11_text_65 (by decide) rfl ?_
    refine g_icmp_ne (tgt := 130) dX11_text_66 (by decide) rfl (fun _ => ?_) (fun h_ => absurd h_ (by decide))
    refine g_iload_n dX11_text_130 rfl rfl rfl ?_
    refine g_iconst (v := 2) dX11_text_131 (by decide) rfl ?_
    refine g_icmp_ne (tgt := 205) dX11_text_132 (by decide) rfl (fun _ => ?_) (fun h_ => absurd h_ (by decide))
    refine g_aload_n dX11_text_205 rfl rfl rfl ?_
    refine g_aload_n dX11_text_206 rfl rfl rfl ?_
    refine g_getI dX11_text_207 ff_X11_239 rfl (k100 (gLay_I hL1)) rfl ?_
    rw [e28]
    refine g_putI dX11_text_210 fp_X11_285 rfl rfl rfl (k100 (gLay_I hL1)) rfl ?_
    refine g_aload_n dX11_text_213 rfl rfl rfl ?_
    refine g_aload_n dX11_text_214 rfl rfl rfl ?_
    refine g_getI dX11_text_215 ff_X11_242 rfl (k100 (gLay_I (gLay_I hL1))) rfl ?_
    rw [e29]
    refine g_putI dX11_text_218 fp_X11_288 rfl rfl rfl (k100 (gLay_I (gLay_I hL1))) rfl ?_
    refine g_iconst (v := 0) dX11_text_221 (by decide) rfl ?_
    refine g_istore_n dX11_text_222 rfl (by decide) rfl ?_
    refine g_loopM (fun j => [(0, .ref 100), (3, .int (nI j))]) (fun j M2 => BT M M2 s ∧ Rg M2 105 106 j) 2 0 (Nat.zero_le _) ⟨rfl, rfl, trivial⟩ ⟨hB, fun q hq => absurd hq (by omega)⟩ (fun M2 hI => ?_) (fun j M2 _ hj hI ih => ?_)
    rotate_left
    · have hL2 := hI.1.1.1.lay hL
      refine g_iload_n dX11_text_223 rfl rfl rfl ?_
      refine g_iconst (v := 2) dX11_text_224 (by decide) rfl ?_
      refine g_icmp_ge (tgt := 246) dX11_text_225 (by decide) rfl (fun h_ => absurd h_ (nI_ge (b := 2) hj (by decide))) (fun _ => ?_)
      refine g_aload_n dX11_text_228 rfl rfl rfl ?_
      refine g_getR dX11_text_229 ff_X11_37 rfl (k100 hL2) (r100_18 hL2) rfl ?_
      refine g_iload_n dX11_text_232 rfl rfl rfl ?_
      refine g_aload_n dX11_text_233 rfl rfl rfl ?_
      refine g_getR dX11_text_234 ff_X11_40 rfl (k100 hL2) (r100_19 hL2) rfl ?_
      refine g_iload_n dX11_text_237 rfl rfl rfl ?_
      refine g_iald (i := j) dX11_text_238 (k106 hL2) (l106 hL2) (nI_toInt (by omega)) (by omega) rfl ?_
      refine g_iast (i := j) dX11_text_239 (k105 hL2) (l105 hL2) (nI_toInt (by omega)) (by omega) rfl ?_
      refine g_iincV (c := 1) dX11_text_240 rfl (by decide) (by decide) rfl ?_
      refine g_goto (tgt := 223) dX11_text_243 (by decide) ?_
      exact g_go (ih _ ⟨hI.1.wc (Or.inl rfl), hI.2.up (by decide)⟩) ⟨rfl, by rw [← nI_1 j]; rfl, trivial⟩
    have hL2 := hI.1.1.1.lay hL
    have R1 := hI.2
    refine g_iload_n dX11_text_223 rfl rfl rfl ?_
    refine g_iconst (v := 2) dX11_text_224 (by decide) rfl ?_
    refine g_icmp_ge (tgt := 246) dX11_text_225 (by decide) rfl (fun _ => ?_) (fun h_ => absurd (nI_le (a := 2) (Nat.le_refl _) (by decide)) h_)
    refine g_iconst (v := 0) dX11_text_246 (by decide) rfl ?_
    refine g_istore_n dX11_text_247 rfl (by decide) rfl ?_
    refine g_loopM (fun j => [(0, .ref 100), (3, .int (nI j))]) (fun j M2 => BT M M2 s ∧ Rg M2 105 106 2 ∧ Rg M2 107 108 j) 18 0 (Nat.zero_le _) ⟨rfl, rfl, trivial⟩ ⟨hI.1, R1, fun q hq => absurd hq (by omega)⟩ (fun M3 hI3 => ?_) (fun j M3 _ hj hI3 ih => ?_)
    rotate_left
    · have hL3 := hI3.1.1.1.lay hL
      refine g_iload_n dX11_text_248 rfl rfl rfl ?_
      refine g_bipush (v := 18) dX11_text_249 (by decide) rfl ?_
      refine g_icmp_ge (tgt := 272) dX11_text_251 (by decide) rfl (fun h_ => absurd h_ (nI_ge (b := 18) hj (by decide))) (fun _ => ?_)
      refine g_aload_n dX11_text_254 rfl rfl rfl ?_
      refine g_getR dX11_text_255 ff_X11_43 rfl (k100 hL3) (r100_20 hL3) rfl ?_
      refine g_iload_n dX11_text_258 rfl rfl rfl ?_
      refine g_aload_n dX11_text_259 rfl rfl rfl ?_
      refine g_getR dX11_text_260 ff_X11_46 rfl (k100 hL3) (r100_21 hL3) rfl ?_
      refine g_iload_n dX11_text_263 rfl rfl rfl ?_
      refine g_iald (i := j) dX11_text_264 (k108 hL3) (l108 hL3) (nI_toInt (by omega)) (by omega) rfl ?_
      refine g_iast (i := j) dX11_text_265 (k107 hL3) (l107 hL3) (nI_toInt (by omega)) (by omega) rfl ?_
      refine g_iincV (c := 1) dX11_text_266 rfl (by decide) (by decide) rfl ?_
      refine g_goto (tgt := 248) dX11_text_269 (by decide) ?_
      exact g_go (ih _ ⟨hI3.1.wc (Or.inr (Or.inl rfl)), hI3.2.1.wo (by decide) (by decide), hI3.2.2.up (by decide)⟩) ⟨rfl, by rw [← nI_1 j]; rfl, trivial⟩
    have hL3 := hI3.1.1.1.lay hL
    refine g_iload_n dX11_text_248 rfl rfl rfl ?_
    refine g_bipush (v := 18) dX11_text_249 (by decide) rfl ?_
    refine g_icmp_ge (tgt := 272) dX11_text_251 (by decide) rfl (fun _ => ?_) (fun h_ => absurd (nI_le (a := 18) (Nat.le_refl _) (by decide)) h_)
    refine g_iconst (v := 0) dX11_text_272 (by decide) rfl ?_
    refine g_istore_n dX11_text_273 rfl (by decide) rfl ?_
    refine g_loopM (fun j => [(0, .ref 100), (3, .int (nI j))]) (fun j M2 => BT M M2 s ∧ Rg M2 105 106 2 ∧ Rg M2 107 108 18 ∧ Rg M2 109 110 j) 24 0 (Nat.zero_le _) ⟨rfl, rfl, trivial⟩ ⟨hI3.1, hI3.2.1, hI3.2.2, fun q hq => absurd hq (by omega)⟩ (fun M4 hI4 => ?_) (fun j M4 _ hj hI4 ih => ?_)
    rotate_left
    · have hL4 := hI4.1.1.1.lay hL
      refine g_iload_n dX11_text_274 rfl rfl rfl ?_
      refine g_bipush (v := 24) dX11_text_275 (by decide) rfl ?_
      refine g_icmp_ge (tgt := 298) dX11_text_277 (by decide) rfl (fun h_ => absurd h_ (nI_ge (b := 24) hj (by decide))) (fun _ => ?_)
      refine g_aload_n dX11_text_280 rfl rfl rfl ?_
      refine g_getR dX11_text_281 ff_X11_49 rfl (k100 hL4) (r100_22 hL4) rfl ?_
      refine g_iload_n dX11_text_284 rfl rfl rfl ?_
      refine g_aload_n dX11_text_285 rfl rfl rfl ?_
      refine g_getR dX11_text_286 ff_X11_52 rfl (k100 hL4) (r100_23 hL4) rfl ?_
      refine g_iload_n dX11_text_289 rfl rfl rfl ?_
      refine g_iald (i := j) dX11_text_290 (k110 hL4) (l110 hL4) (nI_toInt (by omega)) (by omega) rfl ?_
      refine g_iast (i := j) dX11_text_291 (k109 hL4) (l109 hL4) (nI_toInt (by omega)) (by omega) rfl ?_
      refine g_iincV (c := 1) dX11_text_292 rfl (by decide) (by decide) rfl ?_
      refine g_goto (tgt := 274) dX11_text_295 (by decide) ?_
      exact g_go (ih _ ⟨hI4.1.wc (Or.inr (Or.inr (Or.inl rfl))), hI4.2.1.wo (by decide) (by decide), hI4.2.2.1.wo (by decide) (by decide), hI4.2.2.2.up (by decide)⟩) ⟨rfl, by rw [← nI_1 j]; rfl, trivial⟩
    have hL4 := hI4.1.1.1.lay hL
    refine g_iload_n dX11_text_274 rfl rfl rfl ?_
    refine g_bipush (v := 24) dX11_text_275 (by decide) rfl ?_
    refine g_icmp_ge (tgt := 298) dX11_text_277 (by decide) rfl (fun _ => ?_) (fun h_ => absurd (nI_le (a := 24) (Nat.le_refl _) (by decide)) h_)
    refine g_iconst (v := 0) dX11_text_298 (by decide) rfl ?_
    refine g_istore_n dX11_text_299 rfl (by decide) rfl ?_
    refine g_loopM (fun j => [(0, .ref 100), (3, .int (nI j))]) (fun j M2 => BT M M2 s ∧ Rg M2 105 106 2 ∧ Rg M2 107 108 18 ∧ Rg M2 109 110 24 ∧ ∀ q, q < j → gmi M2 113 q = 0) 248 0 (Nat.zero_le _) ⟨rfl, rfl, trivial⟩ ⟨hI4.1, hI4.2.1, hI4.2.2.1, hI4.2.2.2, fun q hq => absurd hq (by omega)⟩ (fun M5 hI5 => ?_) (fun j M5 _ hj hI5 ih => ?_)
    rotate_left
    · have hL5 := hI5.1.1.1.lay hL
      refine g_iload_n dX11_text_300 rfl rfl rfl ?_
      refine g_sipush (v := 248) dX11_text_301 (by decide) rfl ?_
      refine g_icmp_ge (tgt := 320) dX11_text_304 (by decide) rfl (fun h_ => absurd h_ (nI_ge (b := 248) hj (by decide))) (fun _ => ?_)
      refine g_aload_n dX11_text_307 rfl rfl rfl ?_
      refine g_getR dX11_text_308 ff_X11_61 rfl (k100 hL5) (r100_32 hL5) rfl ?_
      refine g_iload_n dX11_text_311 rfl rfl rfl ?_
      refine g_iconst (v := 0) dX11_text_312 (by decide) rfl ?_
      refine g_iast (i := j) dX11_text_313 (k113 hL5) (l113 hL5) (nI_toInt (by omega)) (by omega) rfl ?_
      refine g_iincV (c := 1) dX11_text_314 rfl (by decide) (by decide) rfl ?_
      refine g_goto (tgt := 300) dX11_text_317 (by decide) ?_
      refine g_go (ih _ ⟨hI5.1.wc (Or.inr (Or.inr (Or.inr rfl))), hI5.2.1.wo (by decide) (by decide), hI5.2.2.1.wo (by decide) (by decide), hI5.2.2.2.1.wo (by decide) (by decide), fun q hq => ?_⟩) ⟨rfl, by rw [← nI_1 j]; rfl, trivial⟩
      rw [gmi_I]
      by_cases e : q = j
      · subst e; rw [va_up_self]
      · rw [va_up_ne _ _ e]; exact hI5.2.2.2.2 q (by omega)
    have hL5 := hI5.1.1.1.lay hL
    refine g_iload_n dX11_text_300 rfl rfl rfl ?_
    refine g_sipush (v := 248) dX11_text_301 (by decide) rfl ?_
    refine g_icmp_ge (tgt := 320) dX11_text_304 (by decide) rfl (fun _ => ?_) (fun h_ => absurd (nI_le (a := 248) (Nat.le_refl _) (by decide)) h_)
    refine g_iconst (v := 0) dX11_text_320 (by decide) rfl ?_
    refine g_istore_n dX11_text_321 rfl (by decide) rfl ?_
    refine g_loopM (fun j => [(0, .ref 100), (3, .int (nI j))]) (fun j M2 => BT M M2 s ∧ Rg M2 105 106 2 ∧ Rg M2 107 108 18 ∧ Rg M2 109 110 24 ∧ ∀ q, q < 248 → gmi M2 113 q = if q < 60 ∧ q % 10 = 0 ∧ q / 10 < j then gmi M2 107 (3 * (q / 10)) else 0) s.1 0 (Nat.zero_le _) ⟨rfl, rfl, trivial⟩ ⟨hI5.1, hI5.2.1, hI5.2.2.1, hI5.2.2.2.1, fun q hq => by rw [hI5.2.2.2.2 q hq, if_neg (by omega)]⟩ (fun M6 hI6 => ?_) (fun j M6 _ hj hI6 ih => ?_)
    rotate_left
    · have hL6 := hI6.1.1.1.lay hL
      refine g_iload_n dX11_text_322 rfl rfl rfl ?_
      refine g_aload_n dX11_text_323 rfl rfl rfl ?_
      refine g_getI dX11_text_324 ff_X11_285 rfl (k100 hL6) rfl ?_
      rw [hI6.1.2.1.1]
      refine g_icmp_ge (tgt := 355) dX11_text_327 (by decide) rfl (fun h_ => absurd h_ (nI_ge hj (by omega))) (fun _ => ?_)
      refine g_aload_n dX11_text_330 rfl rfl rfl ?_
      refine g_getR dX11_text_331 ff_X11_61 rfl (k100 hL6) (r100_32 hL6) rfl ?_
      refine g_bipush (v := 10) dX11_text_334 (by decide) rfl ?_
      refine g_iload_n dX11_text_336 rfl rfl rfl ?_
      refine g_imul dX11_text_337 rfl ?_
      refine g_iconst (v := 0) dX11_text_338 (by decide) rfl ?_
      rw [show (10 : Int32) = nI 10 from rfl, pk_mul]
      refine g_iadd dX11_text_339 rfl ?_
      rw [show nI (10 * j) + 0 = nI (10 * j) from Int32.add_zero _]
      refine g_aload_n dX11_text_340 rfl rfl rfl ?_
      refine g_getR dX11_text_341 ff_X11_43 rfl (k100 hL6) (r100_20 hL6) rfl ?_
      refine g_iconst (v := 3) dX11_text_344 (by decide) rfl ?_
      refine g_iload_n dX11_text_345 rfl rfl rfl ?_
      refine g_imul dX11_text_346 rfl ?_
      rw [show (3 : Int32) = nI 3 from rfl, pk_mul]
      refine g_iald (i := (3 * j)) dX11_text_347 (k107 hL6) (l107 hL6) (nI_toInt (by omega)) (by omega) rfl ?_
      refine g_iast (i := (10 * j)) dX11_text_348 (k113 hL6) (l113 hL6) (nI_toInt (by omega)) (by omega) rfl ?_
      refine g_iincV (c := 1) dX11_text_349 rfl (by decide) (by decide) rfl ?_
      refine g_goto (tgt := 322) dX11_text_352 (by decide) ?_
      refine g_go (ih _ ⟨hI6.1.wc (Or.inr (Or.inr (Or.inr rfl))), hI6.2.1.wo (by decide) (by decide), hI6.2.2.1.wo (by decide) (by decide), hI6.2.2.2.1.wo (by decide) (by decide), fun q hq => ?_⟩) ⟨rfl, by rw [← nI_1 j]; rfl, trivial⟩
      rw [gmi_I, gmi_In _ _ _ (show (107 : Nat) ≠ 113 by decide)]
      by_cases e : q = 10 * j
      · subst e
        rw [va_up_self, if_pos (by omega), show 10 * j / 10 = j by omega]
      · rw [va_up_ne _ _ e, hI6.2.2.2.2 q hq]
        by_cases c1 : q < 60 ∧ q % 10 = 0 ∧ q / 10 < j
        · rw [if_pos c1, if_pos (by omega)]
        · rw [if_neg c1, if_neg (by omega)]
    have hL6 := hI6.1.1.1.lay hL
    obtain ⟨⟨z6, ⟨b26, b27, b6⟩, r6⟩, g1, g2, g3, g4⟩ := hI6
    have e105 : gmi M6 105 1 = nI s.2.2.2.2.1 := by rw [g1 1 (by decide)]; exact r6.2.2.2.1.2
    have b26' : gmi (gwI (gwI (gwI (gwI M6 113 64 (nI s.2.2.2.2.1)) 100 44 0) 100 39 0) 100 46 0) 100 26 = nI s.1 := by rw [gmi_I, va_up_ne _ _ (by decide), gmi_I, va_up_ne _ _ (by decide), gmi_I, va_up_ne _ _ (by decide), gmi_In _ _ _ (by decide)]; exact b26
    refine g_iload_n dX11_text_322 rfl rfl rfl ?_
    refine g_aload_n dX11_text_323 rfl rfl rfl ?_
    refine g_getI dX11_text_324 ff_X11_285 rfl (k100 hL6) rfl ?_
    rw [b26]
    refine g_icmp_ge (tgt := 355) dX11_text_327 (by decide) rfl (fun _ => ?_) (fun h_ => absurd (nI_le (Nat.le_refl _) (by omega)) h_)
    refine g_aload_n dX11_text_355 rfl rfl rfl ?_
    refine g_getR dX11_text_356 ff_X11_61 rfl (k100 hL6) (r100_32 hL6) rfl ?_
    refine g_bipush (v := 64) dX11_text_359 (by decide) rfl ?_
    refine g_aload_n dX11_text_361 rfl rfl rfl ?_
    refine g_getR dX11_text_362 ff_X11_37 rfl (k100 hL6) (r100_18 hL6) rfl ?_
    refine g_iconst (v := 1) dX11_text_365 (by decide) rfl ?_
    refine g_iald (i := 1) dX11_text_366 (k105 hL6) (l105 hL6) rfl (by decide) rfl ?_
    rw [e105]
    refine g_iast (i := 64) dX11_text_367 (k113 hL6) (l113 hL6) rfl (by decide) rfl ?_
    refine g_aload_n dX11_text_368 rfl rfl rfl ?_
    refine g_iconst (v := 0) dX11_text_369 (by decide) rfl ?_
    refine g_putI dX11_text_370 fp_X11_291 rfl rfl rfl (k100 (gLay_I hL6)) rfl ?_
    refine g_aload_n dX11_text_373 rfl rfl rfl ?_
    refine g_iconst (v := 0) dX11_text_374 (by decide) rfl ?_
    refine g_putI dX11_text_375 fp_X11_294 rfl rfl rfl (k100 (gLay_I (gLay_I hL6))) rfl ?_
    refine g_aload_n dX11_text_378 rfl rfl rfl ?_
    refine g_iconst (v := 0) dX11_text_379 (by decide) rfl ?_
    refine g_putI dX11_text_380 fp_X11_297 rfl rfl rfl (k100 (gLay_I (gLay_I (gLay_I hL6)))) rfl ?_
    refine g_aload_n dX11_text_383 rfl rfl rfl ?_
    refine g_getI dX11_text_384 ff_X11_285 rfl (k100 (gLay_I (gLay_I (gLay_I (gLay_I hL6))))) rfl ?_
    rw [b26']
    refine g_iret dX11_text_387 rfl rfl ⟨rfl, fun z => absurd hok z, fun _ => ⟨(((z6.tr ((kFr.wc (S := scN) (M := M6) (c := 113) (k := 64) (v := nI s.2.2.2.2.1) (by simp [scN]) (by decide)).z scN6 scN4)).tr (zFr.wf (by simp [scN]))).tr (zFr.wf (by simp [scN]))).tr (zFr.wf (by simp [scN])), ⟨b26', by rw [gmi_I, va_up_ne _ _ (by decide), gmi_I, va_up_ne _ _ (by decide), gmi_I, va_up_ne _ _ (by decide), gmi_In _ _ _ (by decide)]; exact b27, by rw [gmi_I, va_up_ne _ _ (by decide), gmi_I, va_up_ne _ _ (by decide), gmi_I, va_up_ne _ _ (by decide), gmi_In _ _ _ (by decide)]; exact b6, by rw [gmi_I, va_up_ne _ _ (by decide), gmi_I, va_up_ne _ _ (by decide), gmi_I, va_up_self], by rw [gmi_I, va_up_ne _ _ (by decide), gmi_I, va_up_self], by rw [gmi_I, va_up_self]⟩, ⟨?_, ?_⟩, fun q hq => ?_, fun q hq => ?_, fun k hk => ?_⟩⟩
    · rw [gmi_In _ _ _ (by decide), gmi_In _ _ _ (by decide), gmi_In _ _ _ (by decide), gmi_In _ _ _ (by decide), g1 0 (by decide)]; exact r6.2.2.2.1.1
    · rw [gmi_In _ _ _ (by decide), gmi_In _ _ _ (by decide), gmi_In _ _ _ (by decide), gmi_In _ _ _ (by decide)]; exact e105
    · rw [gmi_In _ _ _ (by decide), gmi_In _ _ _ (by decide), gmi_In _ _ _ (by decide), gmi_In _ _ _ (by decide), g2 q (by omega)]; exact r6.2.2.2.2.1 q hq
    · rw [gmi_In _ _ _ (by decide), gmi_In _ _ _ (by decide), gmi_In _ _ _ (by decide), gmi_In _ _ _ (by decide), g3 q (by omega)]; exact r6.2.2.2.2.2.1 q hq
    · rw [gmi_In _ _ _ (by decide), gmi_In _ _ _ (by decide), gmi_In _ _ _ (by decide), gmi_I]
      unfold nowI
      by_cases e : k = 64
      · subst e
        rw [va_up_self, if_neg (by omega), if_pos rfl]
      · rw [va_up_ne _ _ e, g4 k hk]
        by_cases c1 : k < 60 ∧ k % 10 = 0 ∧ k / 10 < s.1
        · rw [if_pos c1, if_pos c1, g2 _ (by omega)]
          exact r6.2.2.2.2.1 _ (by omega)
        · rw [if_neg c1, if_neg c1, if_neg e]
  · have hlv : ¬ fl0 T L = -1 := fun z => hok ((fl0_ok h240).mp z)
    rw [if_neg hok]
    refine g_iconst (v := -1) dX11_text_48 (by decide) rfl ?_
    refine g_icmp_eq (tgt := 54) dX11_text_49 (by decide) rfl (fun h_ => absurd h_ (hlv)) (fun _ => ?_)
    refine g_iconst (v := -1) dX11_text_52 (by decide) rfl ?_
    exact g_iret dX11_text_53 rfl (by first | rfl | exact b01 | exact nb01 hv01) (⟨rfl, fun _ => hz1, fun z => absurd z hok⟩)
abbrev inPe (Mc : gM) (x w : Int32) : Prop := inP Mc x ∧ 0 ≤ w ∧ w ≤ 4
def persV (Mc : gM) (F : Nat → Int32) (x w : Int32) : Int32 := if w = 0 then F (tn x) else if w = 1 then gmi Mc 5 (tn x) else if w = 2 then gmi Mc 6 (tn x) else if w = 3 then F (6 + tn x) else F 60 >>> (x &&& 31) &&& 1
set_option maxRecDepth 20000 in
set_option maxHeartbeats 1000000 in
theorem r_person (hx : gXok X) (h0 : R0 Mc M n E EV) (hN : RowR M 113 F) {x z : Int32} : gDet X (d + 1) yX11_person cX11_person 3 (some .int) [.ref 100, .int x, .int z] M (some (.int (if inPe Mc x z then persV Mc F x z else 0))) (gwI M 100 0 (ib (¬ inPe Mc x z))) := by
  have hL := h0.1.1
  have hT := h0.2.1
  have h6 := hT.1.2
  refine gMet.of hx (by decide) (Nat.le_of_ble_eq_true rfl) ?_
  by_cases hxc : inP Mc x
  · by_cases hz : 0 ≤ z ∧ z ≤ 4
    · have hin : inPe Mc x z := ⟨hxc, hz⟩
      rw [if_pos hin, ib_f (fun y => y hin)]
      obtain ⟨ez, lz⟩ := in_row (x := z) (b := 5) (n := 5) rfl (by omega) ⟨hz.1, Int32.lt_of_le_of_lt hz.2 (by decide)⟩
      unfold persV
      generalize hkz : tn z = u at ez lz
      subst ez
      obtain ⟨ex_, lp⟩ := in_row hT.1.1 (by have := hT.1.2; omega) (hxc)
      have mp := Nat.lt_of_lt_of_le lp hT.1.2
      generalize gp : tn x = p at *
      subst ex_
      have q107 : ∀ j, gmi (gwI M 100 0 0) 107 j = gmi M 107 j := fun j => by rw [gmi_In _ _ _ (by decide)]
      have r113 := RowR.wf (v := 0) (j := 0) hN (by decide)
      obtain ⟨t0, t1, t2⟩ := h0.2.2.2.2.1 p lp
      have b0 := r113 (10 * p) (by omega)
      have b1 := r113 (10 * p + 1) (by omega)
      rw [cix_b p (by omega)] at b0
      rw [cix_s p (by omega)] at b1
      refine g_aload_n dX11_person_0 rfl rfl rfl ?_
      refine g_aload_n dX11_person_1 rfl rfl rfl ?_
      refine g_iload_n dX11_person_2 rfl rfl rfl ?_
      refine g_callVdi (ci := 11) dX11_person_3 lm_X11_342 mv_X11_isPerson (h0.isP (d := d) hx) rfl rfl (k100 hL) rfl rfl (Nat.le_of_ble_eq_true rfl) (gFit_room (by omega)) rfl ?_
      rw [ib_t hxc]
      refine g_if_eq (tgt := 25) dX11_person_6 (by decide) rfl (fun h_ => absurd h_ (by decide)) (fun _ => ?_)
      refine g_iload_n dX11_person_9 rfl rfl rfl ?_
      refine g_i2l dX11_person_10 rfl ?_
      refine g_lconst (v := 0) dX11_person_11 (by decide) rfl ?_
      refine g_ldc2 dX11_person_12 lq_X11_345 rfl ?_
      refine g_callSdi dX11_person_15 lm_X11_211 mv_X11_isIn (r_isIn (d := d) (x := nI u) (l := 0) (h := 4) hx rfl (by decide) (by decide)) rfl rfl (Nat.le_of_ble_eq_true rfl) (gFit_room (by omega)) rfl ?_
      rw [ib_t hz]
      refine g_if_eq (tgt := 25) dX11_person_18 (by decide) rfl (fun h_ => absurd h_ (by decide)) (fun _ => ?_)
      refine g_iconst (v := 0) dX11_person_21 (by decide) rfl ?_
      refine g_goto (tgt := 26) dX11_person_22 (by decide) ?_
      refine g_putI dX11_person_26 fp_X11_90 rfl rfl rfl (k100 hL) rfl ?_
      refine g_aload_n dX11_person_29 rfl rfl rfl ?_
      refine g_getI dX11_person_30 ff_X11_90 rfl (k100 (gLay_I hL)) rfl ?_
      rw [gmi_I, va_up_self]
      refine g_if_le (tgt := 38) dX11_person_33 (by decide) rfl (fun _ => ?_) (fun h_ => absurd (by decide) h_)
      refine g_iload_n dX11_person_38 rfl rfl rfl ?_
      rcases (show u = 0 ∨ u = 1 ∨ u = 2 ∨ u = 3 ∨ u = 4 by omega) with e | e | e | e | e <;> subst e
      · refine g_tableIn (off := 33) (tgt := 72) dX11_person_39 (by decide) (by decide) (by decide) (by decide) ?_
        refine g_aload_n dX11_person_72 rfl rfl rfl ?_
        refine g_getR dX11_person_73 ff_X11_61 rfl (k100 (gLay_I hL)) (r100_32 (gLay_I hL)) rfl ?_
        refine g_bipush (v := 10) dX11_person_76 (by decide) rfl ?_
        refine g_iload_n dX11_person_78 rfl rfl rfl ?_
        rw [show (10 : Int32) = nI 10 from rfl]
        refine g_imul dX11_person_79 rfl ?_
        rw [pk_mul]
        refine g_iconst (v := 0) dX11_person_80 (by decide) rfl ?_
        refine g_iadd dX11_person_81 rfl ?_
        rw [show nI (10 * p) + 0 = nI (10 * p) from Int32.add_zero _]
        refine g_iald (i := (10 * p)) dX11_person_82 (k113 (gLay_I hL)) (l113 (gLay_I hL)) (nI_toInt (by omega)) (by omega) rfl ?_
        rw [b0]
        exact g_iret dX11_person_83 rfl rfl ⟨rfl, rfl⟩
      · refine g_tableIn (off := 69) (tgt := 108) dX11_person_39 (by decide) (by decide) (by decide) (by decide) ?_
        refine g_aload_n dX11_person_108 rfl rfl rfl ?_
        refine g_getR dX11_person_109 ff_X11_43 rfl (k100 (gLay_I hL)) (r100_20 (gLay_I hL)) rfl ?_
        refine g_iconst (v := 3) dX11_person_112 (by decide) rfl ?_
        refine g_iload_n dX11_person_113 rfl rfl rfl ?_
        rw [show (3 : Int32) = nI 3 from rfl]
        refine g_imul dX11_person_114 rfl ?_
        rw [pk_mul]
        refine g_iload_n dX11_person_115 rfl rfl rfl ?_
        refine g_iadd dX11_person_116 rfl ?_
        rw [nI_add]
        refine g_iald (i := (3 * p + 1)) dX11_person_117 (k107 (gLay_I hL)) (l107 (gLay_I hL)) (nI_toInt (by omega)) (by omega) rfl ?_
        rw [q107, t1]
        exact g_iret dX11_person_118 rfl rfl ⟨rfl, rfl⟩
      · refine g_tableIn (off := 69) (tgt := 108) dX11_person_39 (by decide) (by decide) (by decide) (by decide) ?_
        refine g_aload_n dX11_person_108 rfl rfl rfl ?_
        refine g_getR dX11_person_109 ff_X11_43 rfl (k100 (gLay_I hL)) (r100_20 (gLay_I hL)) rfl ?_
        refine g_iconst (v := 3) dX11_person_112 (by decide) rfl ?_
        refine g_iload_n dX11_person_113 rfl rfl rfl ?_
        rw [show (3 : Int32) = nI 3 from rfl]
        refine g_imul dX11_person_114 rfl ?_
        rw [pk_mul]
        refine g_iload_n dX11_person_115 rfl rfl rfl ?_
        refine g_iadd dX11_person_116 rfl ?_
        rw [nI_add]
        refine g_iald (i := (3 * p + 2)) dX11_person_117 (k107 (gLay_I hL)) (l107 (gLay_I hL)) (nI_toInt (by omega)) (by omega) rfl ?_
        rw [q107, t2]
        exact g_iret dX11_person_118 rfl rfl ⟨rfl, rfl⟩
      · refine g_tableIn (off := 45) (tgt := 84) dX11_person_39 (by decide) (by decide) (by decide) (by decide) ?_
        refine g_aload_n dX11_person_84 rfl rfl rfl ?_
        refine g_getR dX11_person_85 ff_X11_61 rfl (k100 (gLay_I hL)) (r100_32 (gLay_I hL)) rfl ?_
        refine g_bipush (v := 10) dX11_person_88 (by decide) rfl ?_
        refine g_iload_n dX11_person_90 rfl rfl rfl ?_
        rw [show (10 : Int32) = nI 10 from rfl]
        refine g_imul dX11_person_91 rfl ?_
        rw [pk_mul]
        refine g_iconst (v := 1) dX11_person_92 (by decide) rfl ?_
        refine g_iadd dX11_person_93 rfl ?_
        rw [nI_1]
        refine g_iald (i := (10 * p + 1)) dX11_person_94 (k113 (gLay_I hL)) (l113 (gLay_I hL)) (nI_toInt (by omega)) (by omega) rfl ?_
        rw [b1]
        exact g_iret dX11_person_95 rfl rfl ⟨rfl, rfl⟩
      · refine g_tableIn (off := 57) (tgt := 96) dX11_person_39 (by decide) (by decide) (by decide) (by decide) ?_
        refine g_aload_n dX11_person_96 rfl rfl rfl ?_
        refine g_getR dX11_person_97 ff_X11_61 rfl (k100 (gLay_I hL)) (r100_32 (gLay_I hL)) rfl ?_
        refine g_bipush (v := 60) dX11_person_100 (by decide) rfl ?_
        refine g_iald (i := 60) dX11_person_102 (k113 (gLay_I hL)) (l113 (gLay_I hL)) rfl (by decide) rfl ?_
        rw [r113 60 (by decide), show cix 60 = 60 from rfl]
        refine g_iload_n dX11_person_103 rfl rfl rfl ?_
        refine g_ishr dX11_person_104 rfl ?_
        refine g_iconst (v := 1) dX11_person_105 (by decide) rfl ?_
        refine g_iand dX11_person_106 rfl ?_
        exact g_iret dX11_person_107 rfl rfl ⟨rfl, rfl⟩
    · have hin : ¬ inPe Mc x z := fun y => hz y.2
      rw [if_neg hin, ib_t hin]
      refine g_aload_n dX11_person_0 rfl rfl rfl ?_
      refine g_aload_n dX11_person_1 rfl rfl rfl ?_
      refine g_iload_n dX11_person_2 rfl rfl rfl ?_
      refine g_callVdi (ci := 11) dX11_person_3 lm_X11_342 mv_X11_isPerson (h0.isP (d := d) hx) rfl rfl (k100 hL) rfl rfl (Nat.le_of_ble_eq_true rfl) (gFit_room (by omega)) rfl ?_
      rw [ib_t hxc]
      refine g_if_eq (tgt := 25) dX11_person_6 (by decide) rfl (fun h_ => absurd h_ (by decide)) (fun _ => ?_)
      refine g_iload_n dX11_person_9 rfl rfl rfl ?_
      refine g_i2l dX11_person_10 rfl ?_
      refine g_lconst (v := 0) dX11_person_11 (by decide) rfl ?_
      refine g_ldc2 dX11_person_12 lq_X11_345 rfl ?_
      refine g_callSdi dX11_person_15 lm_X11_211 mv_X11_isIn (r_isIn (d := d) (x := z) (l := 0) (h := 4) hx rfl (by decide) (by decide)) rfl rfl (Nat.le_of_ble_eq_true rfl) (gFit_room (by omega)) rfl ?_
      rw [ib_f hz]
      refine g_if_eq (tgt := 25) dX11_person_18 (by decide) rfl (fun _ => ?_) (fun h_ => absurd (by decide) h_)
      refine g_iconst (v := 1) dX11_person_25 (by decide) rfl ?_
      refine g_putI dX11_person_26 fp_X11_90 rfl rfl rfl (k100 hL) rfl ?_
      refine g_aload_n dX11_person_29 rfl rfl rfl ?_
      refine g_getI dX11_person_30 ff_X11_90 rfl (k100 (gLay_I hL)) rfl ?_
      rw [gmi_I, va_up_self]
      refine g_if_le (tgt := 38) dX11_person_33 (by decide) rfl (fun h_ => absurd h_ (by decide)) (fun _ => ?_)
      refine g_iconst (v := 0) dX11_person_36 (by decide) rfl ?_
      exact g_iret dX11_person_37 rfl (by first | rfl | exact b01 | exact nb01 hv01) (⟨rfl, rfl⟩)
  · have hin : ¬ inPe Mc x z := fun y => hxc y.1
    rw [if_neg hin, ib_t hin]
    refine g_aload_n dX11_person_0 rfl rfl rfl ?_
    refine g_aload_n dX11_person_1 rfl rfl rfl ?_
    refine g_iload_n dX11_person_2 rfl rfl rfl ?_
    refine g_callVdi (ci := 11) dX11_person_3 lm_X11_342 mv_X11_isPerson (h0.isP (d := d) hx) rfl rfl (k100 hL) rfl rfl (Nat.le_of_ble_eq_true rfl) (gFit_room (by omega)) rfl ?_
    rw [ib_f hxc]
    refine g_if_eq (tgt := 25) dX11_person_6 (by decide) rfl (fun _ => ?_) (fun h_ => absurd (by decide) h_)
    refine g_iconst (v := 1) dX11_person_25 (by decide) rfl ?_
    refine g_putI dX11_person_26 fp_X11_90 rfl rfl rfl (k100 hL) rfl ?_
    refine g_aload_n dX11_person_29 rfl rfl rfl ?_
    refine g_getI dX11_person_30 ff_X11_90 rfl (k100 (gLay_I hL)) rfl ?_
    rw [gmi_I, va_up_self]
    refine g_if_le (tgt := 38) dX11_person_33 (by decide) rfl (fun h_ => absurd h_ (by decide)) (fun _ => ?_)
    refine g_iconst (v := 0) dX11_person_36 (by decide) rfl ?_
    exact g_iret dX11_person_37 rfl (by first | rfl | exact b01 | exact nb01 hv01) (⟨rfl, rfl⟩)
end H30
