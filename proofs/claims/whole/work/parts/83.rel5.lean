/-! the reference: deeds done, atoned for, going to the barber -/
/-- what an act may change: the cells of S, and what reading changes -/
def xFr (S : Nat → Prop) (M M2 : gM) : Prop := (∀ c, gkd M2 c = gkd M c ∧ gln M2 c = gln M c) ∧ (∀ c, c ≠ 100 → gmr M2 c = gmr M c) ∧ (∀ j, j ≠ 5 → gmr M2 100 j = gmr M 100 j) ∧ (∀ c, c ≠ 115 → c ≠ 100 → gml M2 c = gml M c) ∧ (¬ S 1040 → gml M2 100 = gml M 100) ∧ (∀ c, c ≠ 100 → c ≠ 104 → c ≠ 116 → ¬ S c → gmi M2 c = gmi M c) ∧ ∀ j, j < 8 ∨ 14 < j → j ≠ 17 → ¬ S (1000 + j) → gmi M2 100 j = gmi M 100 j
theorem cix_lt : ∀ k, k < 67 → cix k < 67 := by decide +kernel
section G5
variable {X : gX} {Mc M : gM} {d n : Nat} {E : Nat → LE} {EV : EVt} {S : Nat → Prop} {w p e : Nat} {F : Nat → Int32}
theorem xFr.rf : xFr S M M := ⟨fun _ => ⟨rfl, rfl⟩, fun _ _ => rfl, fun _ _ => rfl, fun _ _ _ => rfl, fun _ => rfl, fun _ _ _ _ _ => rfl, fun _ _ _ _ => rfl⟩
theorem xFr.tr {M1 M2 M3 : gM} (h : xFr S M1 M2) (h2 : xFr S M2 M3) : xFr S M1 M3 := ⟨fun c => ⟨(h2.1 c).1.trans (h.1 c).1, (h2.1 c).2.trans (h.1 c).2⟩, fun c hc => (h2.2.1 c hc).trans (h.2.1 c hc), fun j hj => (h2.2.2.1 j hj).trans (h.2.2.1 j hj), fun c a b => (h2.2.2.2.1 c a b).trans (h.2.2.2.1 c a b), fun a => (h2.2.2.2.2.1 a).trans (h.2.2.2.2.1 a), fun c a b q r => (h2.2.2.2.2.2.1 c a b q r).trans (h.2.2.2.2.2.1 c a b q r), fun j a b q => (h2.2.2.2.2.2.2 j a b q).trans (h.2.2.2.2.2.2 j a b q)⟩
theorem xFr.mono {T : Nat → Prop} {M2 : gM} (h : xFr S M M2) (hs : ∀ c, S c → T c) : xFr T M M2 := ⟨h.1, h.2.1, h.2.2.1, h.2.2.2.1, fun a => h.2.2.2.2.1 (fun q => a (hs _ q)), fun c a b q r => h.2.2.2.2.2.1 c a b q (fun z => r (hs _ z)), fun j a b q => h.2.2.2.2.2.2 j a b (fun z => q (hs _ z))⟩
theorem qFr.x {M2 : gM} (h : qFr M M2) : xFr S M M2 := ⟨h.1, h.2.1, h.2.2.1, fun c a _ => h.2.2.2.1 c a, fun _ => h.2.2.2.1 100 (by decide), fun c a b q _ => h.2.2.2.2.1 c a b q, fun j a b _ => h.2.2.2.2.2 j a b⟩
theorem gFr.x {M2 : gM} (h : gFr S M M2) (h1 : ¬ S 100) : xFr S M M2 := ⟨h.1, fun c _ => h.2.1 c, fun j _ => by rw [h.2.1], fun c _ _ => h.2.2.1 c, fun _ => h.2.2.1 100, fun c _ _ _ r => h.2.2.2 c r, fun j _ _ _ => by rw [h.2.2.2 100 h1]⟩
theorem xFr.wf {j : Nat} {v : Int32} (h : S (1000 + j)) : xFr S M (gwI M 100 j v) := ⟨fun _ => ⟨rfl, rfl⟩, fun _ _ => rfl, fun _ _ => rfl, fun _ _ _ => rfl, fun _ => rfl, fun c a _ _ _ => gmi_In _ _ _ a, fun q _ _ r => by rw [gmi_I, va_up_ne _ _ (fun z => r (by rw [z]; exact h))]⟩
theorem xFr.wI {c i : Nat} {v : Int32} (h : S c) (hc : c ≠ 100) : xFr S M (gwI M c i v) := ⟨fun _ => ⟨rfl, rfl⟩, fun _ _ => rfl, fun _ _ => rfl, fun _ _ _ => rfl, fun _ => rfl, fun q _ _ _ r => gmi_In _ _ _ (fun z => r (by rw [z]; exact h)), fun q _ _ _ => by rw [gmi_In _ _ _ hc.symm]⟩
theorem xFr.lay {M2 : gM} (h : xFr S M M2) (hL : gLay M) : gLay M2 := ⟨fun a ha => (h.1 a).1.trans (hL.1 a ha), fun a ha => (h.1 a).2.trans (hL.2.1 a ha), fun q hq => by
  by_cases e : q.1 = 100
  · rw [e, h.2.2.1 _ (grt5 q hq e), ← e]; exact hL.2.2 q hq
  · rw [h.2.1 _ e]; exact hL.2.2 q hq⟩
/-- S leaves the town and the laws as they are -/
def Nt (S : Nat → Prop) : Prop := ¬ S 102 ∧ ¬ S 103 ∧ ¬ S 105 ∧ ¬ S 107 ∧ ¬ S 109 ∧ ¬ S 1007 ∧ ¬ S 1026 ∧ ¬ S 1027 ∧ ¬ S 1034
theorem RLaw.x {M2 : gM} (h : RLaw M n E) (hf : xFr S M M2) (hS : Nt S) : RLaw M2 n E := by
  obtain ⟨h1, h2, h3⟩ := h
  refine ⟨by rw [hf.2.2.2.2.2.2 7 (by decide) (by decide) hS.2.2.2.2.2.1]; exact h1, h2, fun k hk => ?_⟩
  obtain ⟨T, L, ⟨a, b, c⟩, e, f, g⟩ := h3 k hk
  exact ⟨T, L, ⟨by rw [(hf.1 102).1, (hf.1 102).2]; exact a, b, fun q hq => by rw [hf.2.2.2.2.2.1 102 (by decide) (by decide) (by decide) hS.1]; exact c q hq⟩, by rw [hf.2.2.2.2.2.1 103 (by decide) (by decide) (by decide) hS.2.1]; exact e, f, g⟩
theorem RTn.x {M2 : gM} (h : RTn Mc M) (hf : xFr S M M2) (hS : Nt S) : RTn Mc M2 := by
  unfold RTn
  rw [hf.2.2.2.2.2.2 26 (by decide) (by decide) hS.2.2.2.2.2.2.1, hf.2.2.2.2.2.2 27 (by decide) (by decide) hS.2.2.2.2.2.2.2.1, hf.2.2.2.2.2.1 107 (by decide) (by decide) (by decide) hS.2.2.2.1, hf.2.2.2.2.2.1 109 (by decide) (by decide) (by decide) hS.2.2.2.2.1, hf.2.2.2.2.2.1 105 (by decide) (by decide) (by decide) hS.2.2.1]
  exact h
theorem RQ.x {M2 : gM} (h : RQ M n E EV) (hf : xFr S M M2) (hS : Nt S) (h1 : gml M2 115 = gml M 115) (h2 : gmi M2 116 = gmi M 116) : RQ M2 n E EV := by
  refine ⟨hf.lay h.1, h.2.1.x hf hS, ?_, ?_⟩
  · have := h.2.2.1
    unfold Memo at this ⊢
    rw [h1, h2]
    exact this
  · have := h.2.2.2
    unfold EVR at this ⊢
    rw [hf.2.2.2.2.2.2 34 (by decide) (by decide) hS.2.2.2.2.2.2.2.2]
    exact this
theorem R0.x {M2 : gM} (h : R0 Mc M n E EV) (hf : xFr S M M2) (hS : Nt S) (hq : RQ M2 n E EV) : R0 Mc M2 n E EV := ⟨hq, h.2.1, h.2.2.x hf hS⟩
/-- the row w is F now; nothing else has changed -/
def RW (M M2 : gM) (w : Nat) (F : Nat → Int32) : Prop := gFr (fun c => c = w) M M2 ∧ RowR M2 w F ∧ ∀ k, 67 ≤ k → gmi M2 w k = gmi M w k
theorem RW.rf (h : RowR M w F) : RW M M w F := ⟨gFr.rf, h, fun _ _ => rfl⟩
theorem RW.st {M1 : gM} {k : Nat} {v : Int32} (h : RW M M1 w F) (hk : k < 67) : RW M (gwI M1 w k v) w (va_up F (cix k) v) := ⟨h.1.tr (gFr.wI rfl), h.2.1.up hk, fun j hj => by rw [gmi_I, va_up_ne _ _ (by omega)]; exact h.2.2 j hj⟩
theorem RW.cg {M2 : gM} {G : Nat → Int32} (h : RW M M2 w F) (hg : ∀ k, k < 67 → F k = G k) : RW M M2 w G := ⟨h.1, fun k hk => by rw [h.2.1 k hk]; exact hg _ (cix_lt k hk), h.2.2⟩
theorem RW.r0 {M2 : gM} (h : RW M M2 w F) (h0 : R0 Mc M n E EV) (hw : w = 113 ∨ w = 114) : R0 Mc M2 n E EV := by
  have hS : Nt (fun c => c = w) := ⟨by omega, by omega, by omega, by omega, by omega, by omega, by omega, by omega, by omega⟩
  have hf : xFr (fun c => c = w) M M2 := h.1.x (by omega)
  exact h0.x hf hS (h0.1.x hf hS (h.1.2.2.1 115) (h.1.2.2.2 116 (by omega)))
theorem r_hasR (hx : gXok X) {x k : Int32} : gDet X (d + 0) yX11_has cX11_has 2 (some .boolean) [.int x, .int k] M (some (.int (ib (x >>> (k &&& 31) &&& 1 = 1)))) M := by
  refine gMet.of hx (by decide) (Nat.le_of_ble_eq_true rfl) ?_
  refine g_iload_n dX11_has_0 rfl rfl rfl ?_
  refine g_iload_n dX11_has_1 rfl rfl rfl ?_
  refine g_ishr dX11_has_2 rfl ?_
  refine g_iconst (v := 1) dX11_has_3 (by decide) rfl ?_
  refine g_iand dX11_has_4 rfl ?_
  refine g_iconst (v := 1) dX11_has_5 (by decide) rfl ?_
  refine g_icmp_ne (tgt := 13) dX11_has_6 (by decide) rfl (fun h6 => ?_) (fun h6 => ?_)
  · refine g_iconst (v := 0) dX11_has_13 (by decide) rfl ?_
    exact g_iret dX11_has_14 rfl (by first | rfl | exact b01 | exact nb01 hv01) (⟨by first | rw [ib_t h6] | rw [ib_f h6], rfl⟩)
  · refine g_iconst (v := 1) dX11_has_9 (by decide) rfl ?_
    refine g_goto (tgt := 14) dX11_has_10 (by decide) ?_
    exact g_iret dX11_has_14 rfl (by first | rfl | exact b01 | exact nb01 hv01) (⟨by first | rw [ib_t h6] | rw [ib_f h6], rfl⟩)
theorem r_guiltOf (hx : gXok X) (h0 : R0 Mc M n E EV) (hR : RowR M 113 F) (hF : LeftF F) (hp : p < 6) : gDet X (d + 2) yX11_guiltOf cX11_guiltOf 2 (some .int) [.ref 100, .int (nI p)] M (some (.int (nI (heft Mc (dsF F (tv Mc 3 8) p 0))))) M := by
  have hL := h0.1.1
  refine gMet.of hx (by decide) (Nat.le_of_ble_eq_true rfl) ?_
  refine g_aload_n dX11_guiltOf_0 rfl rfl rfl ?_
  refine g_aload_n dX11_guiltOf_1 rfl rfl rfl ?_
  refine g_aload_n dX11_guiltOf_2 rfl rfl rfl ?_
  refine g_getR dX11_guiltOf_3 ff_X11_61 rfl (k100 hL) (r100_32 hL) rfl ?_
  refine g_iload_n dX11_guiltOf_6 rfl rfl rfl ?_
  refine g_callVdi (ci := 11) dX11_guiltOf_7 lm_X11_335 mv_X11_setOf (r_setOf (d := d) hx h0 (Or.inl rfl) hR hF hp) rfl rfl (k100 hL) rfl rfl (Nat.le_of_ble_eq_true rfl) (gFit_room (by omega)) rfl ?_
  refine g_iconst (v := 0) dX11_guiltOf_10 (by decide) rfl ?_
  refine g_callVdi (ci := 11) dX11_guiltOf_11 lm_X11_324 mv_X11_sumOf (r_sumOf (d := d) (c := 7) (z := 0) hx h0 (dsF_256 h0.2.1.2.1.2) (Or.inl ⟨rfl, rfl⟩)) rfl rfl (k100 hL) rfl rfl (Nat.le_of_ble_eq_true rfl) (gFit_room (by omega)) rfl ?_
  exact g_iret dX11_guiltOf_14 rfl (by first | rfl | exact b01 | exact nb01 hv01) (⟨rfl, rfl⟩)
set_option maxRecDepth 20000 in
theorem r_commits (hx : gXok X) (h0 : R0 Mc M n E EV) (hw : w = 113 ∨ w = 114) (hR : RowR M w F) (hp : p < 6) (he : e < tv Mc 3 8) : gPos X (d + 1) yX11_commits cX11_commits 4 none [.ref 100, .ref w, .int (nI p), .int (nI e)] M (fun v M2 => v = none ∧ RW M M2 w (takeF F (12 + p * 8 + e) (gmi Mc 9 e) (gmi Mc 8 e))) := by
  have hL := h0.1.1
  have h8 := Nat.lt_of_lt_of_le he h0.2.1.2.1.2
  obtain ⟨k_w, l_w⟩ := wlay hL hw
  have hi := h0.2.2.2.2.2.1 e he
  refine gMet.of hx (by decide) (Nat.le_of_ble_eq_true rfl) ?_
  refine g_aload_n dX11_commits_0 rfl rfl rfl ?_
  refine g_bipush (v := 10) dX11_commits_1 (by decide) rfl ?_
  refine g_iload_n dX11_commits_3 rfl rfl rfl ?_
  refine g_imul dX11_commits_4 rfl ?_
  refine g_iconst (v := 2) dX11_commits_5 (by decide) rfl ?_
  refine g_iadd dX11_commits_6 rfl ?_
  refine g_iload_n dX11_commits_7 rfl rfl rfl ?_
  refine g_iadd dX11_commits_8 rfl ?_
  refine g_aload_n dX11_commits_9 rfl rfl rfl ?_
  refine g_getR dX11_commits_10 ff_X11_49 rfl (k100 hL) (r100_22 hL) rfl ?_
  refine g_iconst (v := 3) dX11_commits_13 (by decide) rfl ?_
  refine g_iload_n dX11_commits_14 rfl rfl rfl ?_
  refine g_imul dX11_commits_15 rfl ?_
  refine g_iconst (v := 2) dX11_commits_16 (by decide) rfl ?_
  refine g_iadd dX11_commits_17 rfl ?_
  rw [show (3 : Int32) = nI 3 from rfl, show (2 : Int32) = nI 2 from rfl, pk_mul, nI_add]
  refine g_iald (i := (3 * e + 2)) dX11_commits_18 (k109 hL) (l109 hL) (nI_toInt (by omega)) (by omega) rfl ?_
  rw [hi.2.2, show (10 : Int32) = nI 10 from rfl, pk_mul, nI_add, nI_add]
  refine g_iast (i := (10 * p + 2 + e)) dX11_commits_19 (k_w) (l_w) (nI_toInt (by omega)) (by omega) rfl ?_
  have hW := (RW.rf hR).st (v := gmi Mc 9 e) (show 10 * p + 2 + e < 67 by omega)
  rw [cix_l p hp e h8] at hW
  have e109 : gmi (gwI M w (10 * p + 2 + e) (gmi Mc 9 e)) 109 = gmi M 109 := gmi_In _ _ _ (by omega)
  generalize gwI M w (10 * p + 2 + e) (gmi Mc 9 e) = M1 at hW e109 ⊢
  have hL1 := hW.1.lay hL
  obtain ⟨k_w, l_w⟩ := wlay hL1 hw
  refine g_aload_n dX11_commits_20 rfl rfl rfl ?_
  refine g_bipush (v := 61) dX11_commits_21 (by decide) rfl ?_
  refine g_sipush (v := 9999) dX11_commits_23 (by decide) rfl ?_
  refine g_aload_n dX11_commits_26 rfl rfl rfl ?_
  refine g_bipush (v := 61) dX11_commits_27 (by decide) rfl ?_
  refine g_iald (i := 61) dX11_commits_29 (k_w) (l_w) rfl (by decide) rfl ?_
  rw [hW.2.1 61 (by decide), show cix 61 = 62 from rfl]
  refine g_aload_n dX11_commits_30 rfl rfl rfl ?_
  refine g_getR dX11_commits_31 ff_X11_49 rfl (k100 hL1) (r100_22 hL1) rfl ?_
  refine g_iconst (v := 3) dX11_commits_34 (by decide) rfl ?_
  refine g_iload_n dX11_commits_35 rfl rfl rfl ?_
  refine g_imul dX11_commits_36 rfl ?_
  refine g_iconst (v := 1) dX11_commits_37 (by decide) rfl ?_
  refine g_iadd dX11_commits_38 rfl ?_
  rw [show (3 : Int32) = nI 3 from rfl, show (1 : Int32) = nI 1 from rfl, pk_mul, nI_add]
  refine g_iald (i := (3 * e + 1)) dX11_commits_39 (k109 hL1) (l109 hL1) (nI_toInt (by omega)) (by omega) rfl ?_
  rw [e109, hi.2.1]
  refine g_iadd dX11_commits_40 rfl ?_
  refine g_callSdi dX11_commits_41 lm_X11_316 mv_J9_min_7cf53 (c_min (d := d) hx) rfl rfl (Nat.le_of_ble_eq_true rfl) (gFit_room (by omega)) rfl ?_
  refine g_iast (i := 61) dX11_commits_44 (k_w) (l_w) rfl (by decide) rfl ?_
  exact g_vret dX11_commits_45 rfl (⟨rfl, hW.st (show 61 < 67 by decide)⟩)
set_option maxRecDepth 20000 in
theorem r_atones (hx : gXok X) (h0 : R0 Mc M n E EV) (hw : w = 113 ∨ w = 114) (hR : RowR M w F) (hp : p < 6) (h8 : e < 8) : gPos X (d + 0) yX11_atones cX11_atones 3 none [.ref w, .int (nI p), .int (nI e)] M (fun v M2 => v = none ∧ RW M M2 w (atoneF F (12 + p * 8 + e))) := by
  have hL := h0.1.1
  obtain ⟨k_w, l_w⟩ := wlay hL hw
  refine gMet.of hx (by decide) (Nat.le_of_ble_eq_true rfl) ?_
  refine g_aload_n dX11_atones_0 rfl rfl rfl ?_
  refine g_bipush (v := 64) dX11_atones_1 (by decide) rfl ?_
  refine g_dup2 dX11_atones_3 rfl rfl rfl ?_
  refine g_iald (i := 64) dX11_atones_4 (k_w) (l_w) rfl (by decide) rfl ?_
  rw [hR 64 (by decide), show cix 64 = 65 from rfl]
  refine g_iconst (v := 2) dX11_atones_5 (by decide) rfl ?_
  refine g_isub dX11_atones_6 rfl ?_
  refine g_iast (i := 64) dX11_atones_7 (k_w) (l_w) rfl (by decide) rfl ?_
  have hW := (RW.rf hR).st (v := F 65 - 2) (show 64 < 67 by decide)
  rw [show cix 64 = 65 from rfl] at hW
  generalize gwI M w 64 (F 65 - 2) = M1 at hW ⊢
  have hL1 := hW.1.lay hL
  obtain ⟨k_w, l_w⟩ := wlay hL1 hw
  refine g_aload_n dX11_atones_8 rfl rfl rfl ?_
  refine g_bipush (v := 10) dX11_atones_9 (by decide) rfl ?_
  refine g_iload_n dX11_atones_11 rfl rfl rfl ?_
  refine g_imul dX11_atones_12 rfl ?_
  refine g_iconst (v := 2) dX11_atones_13 (by decide) rfl ?_
  refine g_iadd dX11_atones_14 rfl ?_
  refine g_iload_n dX11_atones_15 rfl rfl rfl ?_
  refine g_iadd dX11_atones_16 rfl ?_
  refine g_iconst (v := 0) dX11_atones_17 (by decide) rfl ?_
  rw [show (10 : Int32) = nI 10 from rfl, show (2 : Int32) = nI 2 from rfl, pk_mul, nI_add, nI_add]
  refine g_iast (i := (10 * p + 2 + e)) dX11_atones_18 (k_w) (l_w) (nI_toInt (by omega)) (by omega) rfl ?_
  have hW2 := hW.st (v := 0) (show 10 * p + 2 + e < 67 by omega)
  rw [cix_l p hp e h8] at hW2
  have hW3 : RW M (gwI M1 w (10 * p + 2 + e) 0) w (atoneF F (12 + p * 8 + e)) := by
    refine hW2.cg (fun k hk => ?_)
    unfold atoneF
    by_cases e1 : k = 65
    · rw [e1, va_up_ne _ _ (by omega), va_up_self, va_up_self, va_up_ne _ _ (by omega)]
    · by_cases e2 : k = 12 + p * 8 + e
      · rw [e2, va_up_self, va_up_ne _ _ (by omega), va_up_self]
      · rw [va_up_ne _ _ e2, va_up_ne _ _ e1, va_up_ne _ _ e1, va_up_ne _ _ e2]
  exact g_vret dX11_atones_19 rfl (⟨rfl, hW3⟩)
end G5
