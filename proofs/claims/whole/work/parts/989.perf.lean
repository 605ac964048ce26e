section H20
variable {X : gX} {Mc M : gM} {d n A N c w r k i : Nat} {E : Nat → LE} {EV : EVt} {F G : Nat → Int32}
def scP : Nat → Prop := fun c => c = 113 ∨ c = 117 ∨ c = 1039 ∨ c = 1000
def scY : Nat → Prop := fun c => scP c ∨ c = 1040
theorem LfR.sm {Mc2 : gM} {j : Nat} (h : LfR Mc M n E EV N A j) (hs : ∀ c, c < 75 → gmi Mc2 c = gmi Mc c) : LfR Mc2 M n E EV N A j := by
  refine ⟨h.1.sm (fun c _ h9 => hs c (by omega)), ?_, h.2.2.fr rfl rfl (fun c _ h2 => hs c h2) (hs 26 (by decide)) (by rw [hs 25 (by decide)])⟩
  show RowL _ _ _
  rw [hs 25 (by decide), hs 26 (by decide)]
  exact h.2.1
theorem LfR.x {S : Nat → Prop} {M2 : gM} {j : Nat} (h : LfR Mc M n E EV N A j) (hf : xFr S M M2) (hS : Nt S) (hq : RQ M2 n E EV) (h1 : ¬ S 113) (h2 : ¬ S 117) (h3 : ¬ S 1039) : LfR Mc M2 n E EV N A j := by
  refine ⟨h.1.x hf hS hq, ?_, h.2.2.fr (hf.2.2.2.2.2.1 117 (by decide) (by decide) (by decide) h2) (hf.2.2.2.2.2.2 39 (by decide) (by decide) h3) (fun _ _ _ => rfl) rfl rfl⟩
  show RowL _ _ _
  rw [hf.2.2.2.2.2.1 113 (by decide) (by decide) (by decide) h1]
  exact h.2.1
theorem LfR.th {j : Nat} (h : LfR Mc M n E EV N A j) : LfR Mc (gwI M 100 0 0) n E EV N A j := h.x (S := fun q => q = 1000) (xFr.wf rfl) ⟨by decide, by decide, by decide, by decide, by decide, by decide, by decide, by decide, by decide⟩ h.1.th.1 (by decide) (by decide) (by decide)
theorem gml_Ln {a b i : Nat} {v : Int64} (h : b ≠ a) : gml (gwL M a i v) b = gml M b := va_up_ne _ _ h
theorem xFr.wL {S : Nat → Prop} {v : Int64} (h : S 1040) : xFr S M (gwL M 100 40 v) := ⟨fun _ => ⟨rfl, rfl⟩, fun _ _ => rfl, fun _ _ => rfl, fun c _ a => va_up_ne _ _ a, fun q => absurd h q, fun _ _ _ _ _ => rfl, fun _ _ _ _ => rfl⟩
theorem R0.wL {v : Int64} (h : R0 Mc M n E EV) : R0 Mc (gwL M 100 40 v) n E EV := by
  have hS : Nt (fun q => q = 1040) := ⟨by decide, by decide, by decide, by decide, by decide, by decide, by decide, by decide, by decide⟩
  have hf : xFr (fun q => q = 1040) M (gwL M 100 40 v) := xFr.wL rfl
  have e : gml (gwL M 100 40 v) 115 = gml M 115 := gml_Ln (by decide)
  exact h.x hf hS (h.1.x hf hS e rfl)
theorem LfR.wL {j : Nat} {v : Int64} (h : LfR Mc M n E EV N A j) : LfR Mc (gwL M 100 40 v) n E EV N A j := h.x (S := fun q => q = 1040) (xFr.wL rfl) ⟨by decide, by decide, by decide, by decide, by decide, by decide, by decide, by decide, by decide⟩ h.1.wL.1 (by decide) (by decide) (by decide)
theorem LfR.okN {j : Nat} (h : LfR Mc M n E EV N A j) : okv Mc 33 2 39 := by
  have h1 := h.2.2.1
  have e : tv Mc 33 2 = N := by unfold tv; rw [h1.1]; exact nI_clamp (by omega)
  exact ⟨by rw [e]; exact h1.1, by omega⟩
theorem RNow.c67 (h : RNow Mc M) {D : Nat} (hD : gmi Mc 25 66 = nI D) (h9 : D ≤ 999) : gmi M 113 67 = nI (min 60 D) := by
  have := h.2.1.1
  rw [hD, tn_nI (by omega)] at this
  exact this
set_option maxRecDepth 20000 in
set_option maxHeartbeats 1000000 in
theorem r_perform (hx : gXok X) (hZ : gSt X) (h : LfR Mc M n E EV N A 0) (hW : RWk Mc M) {x : Int32} : gPos X (d + 38) yX11_perform cX11_perform 3 (some .int) [.ref 100, .int x] M (fun v M2 => v = some (.int (if inW Mc x ∧ ¬ gmi Mc 3 7 = 0 then nI (perfSt Mc EV (tn x)).1 else -1)) ∧ xFr scP M M2 ∧ ∃ N2 A2, LfR (if inW Mc x ∧ ¬ gmi Mc 3 7 = 0 then (perfSt Mc EV (tn x)).2 else Mc) M2 n E EV N2 A2 0) := by
  have h0 := h.1
  have hL := h0.1.1
  have hT := h0.2.1
  have h1 := h.th
  have hW1 := hW.wf (j := 0) (v := 0) (by decide)
  have e26c : gmi (gwI M 100 0 0) 100 26 = gmi Mc 3 7 := h1.1.2.2.1
  have hf0 : xFr scP M (gwI M 100 0 0) := xFr.wf (Or.inr (Or.inr (Or.inr rfl)))
  refine gMet.of hx (by decide) (Nat.le_of_ble_eq_true rfl) ?_
  by_cases hin : inW Mc x
  · by_cases hp0 : gmi Mc 3 7 = 0
    · rw [if_neg (fun y => y.2 hp0), if_neg (fun y => y.2 hp0)]
      refine g_aload_n dX11_perform_0 rfl rfl rfl ?_
      refine g_iconst (v := 0) dX11_perform_1 (by decide) rfl ?_
      refine g_putI dX11_perform_2 fp_X11_90 rfl rfl rfl (k100 hL) rfl ?_
      refine g_aload_n dX11_perform_5 rfl rfl rfl ?_
      refine g_iload_n dX11_perform_6 rfl rfl rfl ?_
      refine g_callVdi (ci := 11) dX11_perform_7 lm_X11_406 mv_X11_isPlan (r_isPlan (d := d + 37) hx (gLay_I hL) hW1) rfl rfl (k100 (gLay_I hL)) rfl rfl (Nat.le_of_ble_eq_true rfl) (gFit_room (by omega)) rfl ?_
      rw [ib_t hin]
      refine g_if_eq (tgt := 20) dX11_perform_10 (by decide) rfl (fun h_ => absurd h_ (by decide)) (fun _ => ?_)
      refine g_aload_n dX11_perform_13 rfl rfl rfl ?_
      refine g_getI dX11_perform_14 ff_X11_285 rfl (k100 (gLay_I hL)) rfl ?_
      rw [e26c]
      refine g_if_ne (tgt := 22) dX11_perform_17 (by decide) rfl (fun h_ => absurd (hp0) h_) (fun _ => ?_)
      refine g_iconst (v := -1) dX11_perform_20 (by decide) rfl ?_
      exact g_iret dX11_perform_21 rfl (by first | rfl | exact b01 | exact nb01 hv01) (⟨rfl, hf0, N, A, h1⟩)
    · rw [if_pos ⟨hin, hp0⟩, if_pos ⟨hin, hp0⟩]
      obtain ⟨ex, lk⟩ := in_row hW.2.1.1 (by have := hW.2.1.2; omega) hin
      generalize hk : tn x = k at *
      subst ex
      have h4 := hW.2.1.2
      have hlen := (hW.2.2 k lk).1
      have hlen2 := hlen.2
      refine g_aload_n dX11_perform_0 rfl rfl rfl ?_
      refine g_iconst (v := 0) dX11_perform_1 (by decide) rfl ?_
      refine g_putI dX11_perform_2 fp_X11_90 rfl rfl rfl (k100 hL) rfl ?_
      refine g_aload_n dX11_perform_5 rfl rfl rfl ?_
      refine g_iload_n dX11_perform_6 rfl rfl rfl ?_
      refine g_callVdi (ci := 11) dX11_perform_7 lm_X11_406 mv_X11_isPlan (r_isPlan (d := d + 37) hx (gLay_I hL) hW1) rfl rfl (k100 (gLay_I hL)) rfl rfl (Nat.le_of_ble_eq_true rfl) (gFit_room (by omega)) rfl ?_
      rw [ib_t hin]
      refine g_if_eq (tgt := 20) dX11_perform_10 (by decide) rfl (fun h_ => absurd h_ (by decide)) (fun _ => ?_)
      refine g_aload_n dX11_perform_13 rfl rfl rfl ?_
      refine g_getI dX11_perform_14 ff_X11_285 rfl (k100 (gLay_I hL)) rfl ?_
      rw [e26c]
      refine g_if_ne (tgt := 22) dX11_perform_17 (by decide) rfl (fun _ => ?_) (fun h_ => absurd h_ (hp0))
      refine g_iconst (v := 0) dX11_perform_22 (by decide) rfl ?_
      refine g_istore_n dX11_perform_23 rfl (by decide) rfl ?_
      refine g_loopM (fun i => [(0, .ref 100), (1, .int (nI k)), (2, .int (nI i))]) (fun i M1 => ∃ Mi N2 A2, LfR Mi M1 n E EV N2 A2 0 ∧ RWk Mi M1 ∧ xFr scP M M1 ∧ (gmi Mi 3 = gmi Mc 3 ∧ gmi Mi 0 = gmi Mc 0 ∧ ∀ c, 300 ≤ c → gmi Mi c = gmi Mc c) ∧ goSt keepM EV 25 26 (300 + 5 * k) (tv Mc (300 + 5 * k) 3 - i) i Mi = perfSt Mc EV k) (tv Mc (300 + 5 * k) 3) 0 (Nat.zero_le _) ⟨rfl, rfl, rfl, trivial⟩ ⟨Mc, N, A, h1, hW1, hf0, ⟨rfl, rfl, fun _ _ => rfl⟩, rfl⟩ (fun M1 hI => ?_) (fun i M1 _ hi hI ih => ?_)
      · obtain ⟨Mi, N2, A2, hl, hw, hf, ⟨c3, c0, c300⟩, hg⟩ := hI
        rw [Nat.sub_self] at hg
        have elk : k < tv Mi 0 6 := by unfold tv; rw [c0]; exact lk
        have el : gmi M1 112 k = nI (tv Mc (300 + 5 * k) 3) := by rw [(hw.2.2 k elk).2.1, c300 _ (by omega)]; exact hlen.1
        refine g_iload_n dX11_perform_24 rfl rfl rfl ?_
        refine g_aload_n dX11_perform_25 rfl rfl rfl ?_
        refine g_getR dX11_perform_26 ff_X11_58 rfl (k100 hl.1.1.1) (r100_25 hl.1.1.1) rfl ?_
        refine g_iload_n dX11_perform_29 rfl rfl rfl ?_
        refine g_iald (i := k) dX11_perform_30 (k112 hl.1.1.1) (l112 hl.1.1.1) (nI_toInt (by omega)) (by omega) rfl ?_
        rw [el]
        refine g_icmp_ge (tgt := 79) dX11_perform_31 (by decide) rfl (fun _ => ?_) (fun h_ => absurd (nI_le (Nat.le_refl _) (by omega)) h_)
        refine g_iload_n dX11_perform_79 rfl rfl rfl ?_
        exact g_iret dX11_perform_80 rfl (by first | rfl | exact b01 | exact nb01 hv01) (⟨by rw [← hg]; rfl, hf, N2, A2, by rw [← hg]; exact hl⟩)
      · obtain ⟨Mi, N2, A2, hl, hw, hf, ⟨c3, c0, c300⟩, hg⟩ := hI
        have elk : k < tv Mi 0 6 := by unfold tv; rw [c0]; exact lk
        have etl : tv Mi (300 + 5 * k) 3 = tv Mc (300 + 5 * k) 3 := by unfold tv; rw [c300 _ (by omega)]
        have eli : i < tv Mi (300 + 5 * k) 3 := by rw [etl]; exact hi
        have el : gmi M1 112 k = nI (tv Mc (300 + 5 * k) 3) := by rw [(hw.2.2 k elk).2.1, c300 _ (by omega)]; exact hlen.1
        have hp1 : ¬ gmi Mi 3 7 = 0 := by rw [c3]; exact hp0
        rw [show tv Mc (300 + 5 * k) 3 - i = (tv Mc (300 + 5 * k) 3 - (i + 1)) + 1 by omega] at hg
        unfold goSt at hg
        have hcan := r_canStep (d := d + 35) (r := 25) hx hl.1 hw hp1 (Or.inl rfl) hl.2.1.1 elk eli
        by_cases hb : stepB Mi 25 (300 + 5 * k) i = true
        · rw [if_pos hb] at hg
          rw [ib_t hb] at hcan
          obtain ⟨D, hD9, hD⟩ := hl.2.1.2.2.2.2.2
          have okN := hl.okN
          have hn := hl.2.2.1
          refine g_iload_n dX11_perform_24 rfl rfl rfl ?_
          refine g_aload_n dX11_perform_25 rfl rfl rfl ?_
          refine g_getR dX11_perform_26 ff_X11_58 rfl (k100 hl.1.1.1) (r100_25 hl.1.1.1) rfl ?_
          refine g_iload_n dX11_perform_29 rfl rfl rfl ?_
          refine g_iald (i := k) dX11_perform_30 (k112 hl.1.1.1) (l112 hl.1.1.1) (nI_toInt (by omega)) (by omega) rfl ?_
          rw [el]
          refine g_icmp_ge (tgt := 79) dX11_perform_31 (by decide) rfl (fun h_ => absurd h_ (nI_ge hi (by omega))) (fun _ => ?_)
          refine g_aload_n dX11_perform_34 rfl rfl rfl ?_
          refine g_aload_n dX11_perform_35 rfl rfl rfl ?_
          refine g_getR dX11_perform_36 ff_X11_61 rfl (k100 hl.1.1.1) (r100_32 hl.1.1.1) rfl ?_
          refine g_iconst (v := 3) dX11_perform_39 (by decide) rfl ?_
          refine g_bipush (v := 16) dX11_perform_40 (by decide) rfl ?_
          refine g_iload_n dX11_perform_42 rfl rfl rfl ?_
          refine g_imul dX11_perform_43 rfl ?_
          refine g_iload_n dX11_perform_44 rfl rfl rfl ?_
          refine g_iadd dX11_perform_45 rfl ?_
          refine g_imul dX11_perform_46 rfl ?_
          rw [show (16 : Int32) = nI 16 from rfl, show (3 : Int32) = nI 3 from rfl, pk_mul, nI_add, pk_mul]
          refine g_callVdi (ci := 11) dX11_perform_47 lm_X11_414 mv_X11_canStep (hcan) rfl rfl (k100 hl.1.1.1) rfl rfl (Nat.le_of_ble_eq_true rfl) (gFit_room (by omega)) rfl ?_
          refine g_if_eq (tgt := 79) dX11_perform_50 (by decide) rfl (fun h_ => absurd h_ (by decide)) (fun _ => ?_)
          refine g_aload_n dX11_perform_53 rfl rfl rfl ?_
          refine g_callVq (ci := 11) dX11_perform_54 lm_X11_354 mv_X11_remember (r_remember (d := d + 37) hx hl.1.1.1 hl.2.2.2.1.2.1 hl.2.2.2.1.2.2) rfl rfl (k100 hl.1.1.1) rfl rfl (Nat.le_of_ble_eq_true rfl) (gFit_room (by omega)) rfl (fun v M2 hQ => ?_)
          obtain ⟨rfl, hf⟩ := hQ
          have hlk := hl.keep hf
          have hbk : stepB (keepM Mi) 25 (300 + 5 * k) i = true := by rw [keep_stepB okN]; exact hb
          have hwk : RWk (keepM Mi) M2 := (hw.sm (keep_old hn.1 hn.2 (by decide) (by omega)) (fun c hc => keep_old hn.1 hn.2 (by omega) (by omega))).x hf.1 (by decide) (by decide) (by decide)
          have k0 : gmi (keepM Mi) 0 = gmi Mi 0 := keep_25 hn.1 hn.2 (by decide)
          have k3c : gmi (keepM Mi) 3 = gmi Mi 3 := keep_25 hn.1 hn.2 (by decide)
          have k300 : ∀ c, 300 ≤ c → gmi (keepM Mi) c = gmi Mi c := fun c hc => keep_old hn.1 hn.2 (by omega) (by omega)
          have elk2 : k < tv (keepM Mi) 0 6 := by unfold tv; rw [k0]; exact elk
          have eli2 : i < tv (keepM Mi) (300 + 5 * k) 3 := by unfold tv; rw [k300 _ (by omega)]; exact eli
          have hD2 : gmi (keepM Mi) 25 66 = nI D := by rw [keep_25 hn.1 hn.2 (by decide)]; exact hD
          have hgs := r_goStep (d := d) (r := 25) hx hZ hlk.1 hwk (Or.inl rfl) hlk.2.1.1 hlk.2.1.2.2 (hlk.2.1.c67 hD2 hD9) (Nat.min_le_left _ _) elk2 eli2 hbk
          have hfr : xFr scP M M2 := ‹xFr scP M M1›.tr (hf.1.mono (fun c q => q.elim (fun y => Or.inr (Or.inl y)) (fun y => Or.inr (Or.inr (Or.inl y)))))
          refine g_aload_n dX11_perform_57 rfl rfl rfl ?_
          refine g_aload_n dX11_perform_58 rfl rfl rfl ?_
          refine g_getR dX11_perform_59 ff_X11_61 rfl (k100 hlk.1.1.1) (r100_32 hlk.1.1.1) rfl ?_
          refine g_iconst (v := 3) dX11_perform_62 (by decide) rfl ?_
          refine g_bipush (v := 16) dX11_perform_63 (by decide) rfl ?_
          refine g_iload_n dX11_perform_65 rfl rfl rfl ?_
          refine g_imul dX11_perform_66 rfl ?_
          refine g_iload_n dX11_perform_67 rfl rfl rfl ?_
          refine g_iadd dX11_perform_68 rfl ?_
          refine g_imul dX11_perform_69 rfl ?_
          rw [show (16 : Int32) = nI 16 from rfl, show (3 : Int32) = nI 3 from rfl, pk_mul, nI_add, pk_mul]
          refine g_callVq (ci := 11) dX11_perform_70 lm_X11_417 mv_X11_goStep (hgs) rfl rfl (k100 hlk.1.1.1) rfl rfl (Nat.le_of_ble_eq_true rfl) (gFit_room (by omega)) rfl (fun v M3 hQ => ?_)
          obtain ⟨rfl, hq1, hq2⟩ := hQ
          have hls := hlk.step hbk hD2 hD9 hq1 hq2
          have hx3 : xFr (fun q => q = 113) M2 M3 := Classical.byCases (fun y : isDay (keepM Mi) k i => ((hq2 y).q hlk.1 (Or.inl rfl)).1) (fun y => (hq1 y).1)
          have hso : gFr (fun c => c = 25 ∨ c = 26) (keepM Mi) (stepM (keepM Mi) EV 25 26 (300 + 5 * k) i) := stepM_only (Or.inl rfl) (Or.inr rfl)
          refine g_iincV (c := 1) dX11_perform_73 rfl (by decide) (by decide) rfl ?_
          refine g_goto (tgt := 24) dX11_perform_76 (by decide) ?_
          exact g_go (ih M3 ⟨_, _, _, hls, (hwk.x hx3 (by decide) (by decide) (by decide)).sm (hso.2.2.2 0 (by decide)) (fun c hc => hso.2.2.2 c (by omega)), hfr.tr (hx3.mono (fun c q => Or.inl q)), ⟨by rw [hso.2.2.2 3 (by decide), k3c, c3], by rw [hso.2.2.2 0 (by decide), k0, c0], fun c hc => by rw [hso.2.2.2 c (by omega), k300 c hc, c300 c hc]⟩, hg⟩) ⟨rfl, rfl, by rw [← nI_1 i]; rfl, trivial⟩
        · rw [if_neg hb] at hg
          rw [ib_f hb] at hcan
          refine g_iload_n dX11_perform_24 rfl rfl rfl ?_
          refine g_aload_n dX11_perform_25 rfl rfl rfl ?_
          refine g_getR dX11_perform_26 ff_X11_58 rfl (k100 hl.1.1.1) (r100_25 hl.1.1.1) rfl ?_
          refine g_iload_n dX11_perform_29 rfl rfl rfl ?_
          refine g_iald (i := k) dX11_perform_30 (k112 hl.1.1.1) (l112 hl.1.1.1) (nI_toInt (by omega)) (by omega) rfl ?_
          rw [el]
          refine g_icmp_ge (tgt := 79) dX11_perform_31 (by decide) rfl (fun h_ => absurd h_ (nI_ge hi (by omega))) (fun _ => ?_)
          refine g_aload_n dX11_perform_34 rfl rfl rfl ?_
          refine g_aload_n dX11_perform_35 rfl rfl rfl ?_
          refine g_getR dX11_perform_36 ff_X11_61 rfl (k100 hl.1.1.1) (r100_32 hl.1.1.1) rfl ?_
          refine g_iconst (v := 3) dX11_perform_39 (by decide) rfl ?_
          refine g_bipush (v := 16) dX11_perform_40 (by decide) rfl ?_
          refine g_iload_n dX11_perform_42 rfl rfl rfl ?_
          refine g_imul dX11_perform_43 rfl ?_
          refine g_iload_n dX11_perform_44 rfl rfl rfl ?_
          refine g_iadd dX11_perform_45 rfl ?_
          refine g_imul dX11_perform_46 rfl ?_
          rw [show (16 : Int32) = nI 16 from rfl, show (3 : Int32) = nI 3 from rfl, pk_mul, nI_add, pk_mul]
          refine g_callVdi (ci := 11) dX11_perform_47 lm_X11_414 mv_X11_canStep (hcan) rfl rfl (k100 hl.1.1.1) rfl rfl (Nat.le_of_ble_eq_true rfl) (gFit_room (by omega)) rfl ?_
          refine g_if_eq (tgt := 79) dX11_perform_50 (by decide) rfl (fun _ => ?_) (fun h_ => absurd (by decide) h_)
          refine g_iload_n dX11_perform_79 rfl rfl rfl ?_
          exact g_iret dX11_perform_80 rfl (by first | rfl | exact b01 | exact nb01 hv01) (⟨by rw [← hg], hf, N2, A2, by rw [← hg]; exact hl⟩)
  · rw [if_neg (fun y => hin y.1), if_neg (fun y => hin y.1)]
    refine g_aload_n dX11_perform_0 rfl rfl rfl ?_
    refine g_iconst (v := 0) dX11_perform_1 (by decide) rfl ?_
    refine g_putI dX11_perform_2 fp_X11_90 rfl rfl rfl (k100 hL) rfl ?_
    refine g_aload_n dX11_perform_5 rfl rfl rfl ?_
    refine g_iload_n dX11_perform_6 rfl rfl rfl ?_
    refine g_callVdi (ci := 11) dX11_perform_7 lm_X11_406 mv_X11_isPlan (r_isPlan (d := d + 37) hx (gLay_I hL) hW1) rfl rfl (k100 (gLay_I hL)) rfl rfl (Nat.le_of_ble_eq_true rfl) (gFit_room (by omega)) rfl ?_
    rw [ib_f hin]
    refine g_if_eq (tgt := 20) dX11_perform_10 (by decide) rfl (fun _ => ?_) (fun h_ => absurd (by decide) h_)
    refine g_iconst (v := -1) dX11_perform_20 (by decide) rfl ?_
    exact g_iret dX11_perform_21 rfl (by first | rfl | exact b01 | exact nb01 hv01) (⟨rfl, hf0, N, A, h1⟩)
set_option maxRecDepth 20000 in
set_option maxHeartbeats 1000000 in
theorem r_run (hx : gXok X) (hZ : gSt X) (h0 : R0 Mc M n E EV) (hN : RNow Mc M) (hW : RWk Mc M) {x z : Int32} : gPos X (d + 38) yX11_run cX11_run 4 (some .int) [.ref 100, .int x, .int z] M (fun v M2 => v = some (.int (if inW Mc x ∧ ¬ gmi Mc 3 7 = 0 ∧ ¬ z < 0 ∧ z ≤ 1 then runV Mc EV (tn x) z else -1000000)) ∧ xFr (fun q => q = 114 ∨ q = 1000) M M2 ∧ RQ M2 n E EV) := by
  have hL := h0.1.1
  have hT := h0.2.1
  have h1 := h0.th (v := 0)
  have hW1 := hW.wf (j := 0) (v := 0) (by decide)
  have e26c : gmi (gwI M 100 0 0) 100 26 = gmi Mc 3 7 := h1.2.2.1
  have hf0 : xFr (fun q => q = 114 ∨ q = 1000) M (gwI M 100 0 0) := xFr.wf (Or.inr rfl)
  refine gMet.of hx (by decide) (Nat.le_of_ble_eq_true rfl) ?_
  by_cases hin : inW Mc x
  · by_cases hp0 : gmi Mc 3 7 = 0
    · rw [if_neg (fun y => y.2.1 hp0)]
      refine g_aload_n dX11_run_0 rfl rfl rfl ?_
      refine g_iconst (v := 0) dX11_run_1 (by decide) rfl ?_
      refine g_putI dX11_run_2 fp_X11_90 rfl rfl rfl (k100 hL) rfl ?_
      refine g_aload_n dX11_run_5 rfl rfl rfl ?_
      refine g_iload_n dX11_run_6 rfl rfl rfl ?_
      refine g_callVdi (ci := 11) dX11_run_7 lm_X11_406 mv_X11_isPlan (r_isPlan (d := d + 37) hx (gLay_I hL) hW1) rfl rfl (k100 (gLay_I hL)) rfl rfl (Nat.le_of_ble_eq_true rfl) (gFit_room (by omega)) rfl ?_
      rw [ib_t hin]
      refine g_if_eq (tgt := 30) dX11_run_10 (by decide) rfl (fun h_ => absurd h_ (by decide)) (fun _ => ?_)
      refine g_aload_n dX11_run_13 rfl rfl rfl ?_
      refine g_getI dX11_run_14 ff_X11_285 rfl (k100 (gLay_I hL)) rfl ?_
      rw [e26c]
      refine g_if_eq (tgt := 30) dX11_run_17 (by decide) rfl (fun _ => ?_) (fun h_ => absurd (hp0) h_)
      refine g_ldcw dX11_run_30 lq_X11_409 rfl ?_
      exact g_iret dX11_run_33 rfl (by first | rfl | exact b01 | exact nb01 hv01) (⟨rfl, hf0, h1.1⟩)
    · by_cases hz : 0 ≤ z ∧ z ≤ 1
      · rw [if_pos ⟨hin, hp0, Int32.not_lt.mpr hz.1, hz.2⟩]
        obtain ⟨ex, lk⟩ := in_row hW.2.1.1 (by have := hW.2.1.2; omega) hin
        generalize hk : tn x = k at *
        subst ex
        have h4 := hW.2.1.2
        have hlen := (hW.2.2 k lk).1
        have hlen2 := hlen.2
        have hrow1 : RowR (gwI M 100 0 0) 113 (gmi Mc 25) := RowR.wf hN.1 (by decide)
        have hSn : Nt (fun q => q = 114) := ⟨by decide, by decide, by decide, by decide, by decide, by decide, by decide, by decide, by decide⟩
        refine g_aload_n dX11_run_0 rfl rfl rfl ?_
        refine g_iconst (v := 0) dX11_run_1 (by decide) rfl ?_
        refine g_putI dX11_run_2 fp_X11_90 rfl rfl rfl (k100 hL) rfl ?_
        refine g_aload_n dX11_run_5 rfl rfl rfl ?_
        refine g_iload_n dX11_run_6 rfl rfl rfl ?_
        refine g_callVdi (ci := 11) dX11_run_7 lm_X11_406 mv_X11_isPlan (r_isPlan (d := d + 37) hx (gLay_I hL) hW1) rfl rfl (k100 (gLay_I hL)) rfl rfl (Nat.le_of_ble_eq_true rfl) (gFit_room (by omega)) rfl ?_
        rw [ib_t hin]
        refine g_if_eq (tgt := 30) dX11_run_10 (by decide) rfl (fun h_ => absurd h_ (by decide)) (fun _ => ?_)
        refine g_aload_n dX11_run_13 rfl rfl rfl ?_
        refine g_getI dX11_run_14 ff_X11_285 rfl (k100 (gLay_I hL)) rfl ?_
        rw [e26c]
        refine g_if_eq (tgt := 30) dX11_run_17 (by decide) rfl (fun h_ => absurd h_ (hp0)) (fun _ => ?_)
        refine g_iload_n dX11_run_20 rfl rfl rfl ?_
        refine g_i2l dX11_run_21 rfl ?_
        refine g_lconst (v := 0) dX11_run_22 (by decide) rfl ?_
        refine g_lconst (v := 1) dX11_run_23 (by decide) rfl ?_
        refine g_callSdi dX11_run_24 lm_X11_211 mv_X11_isIn (r_isIn (d := d + 37) (l := 0) (h := 1) hx rfl (by decide) (by decide)) rfl rfl (Nat.le_of_ble_eq_true rfl) (gFit_room (by omega)) rfl ?_
        rw [ib_t hz]
        refine g_if_ne (tgt := 34) dX11_run_27 (by decide) rfl (fun _ => ?_) (fun h_ => absurd h_ (by decide))
        refine g_aload_n dX11_run_34 rfl rfl rfl ?_
        refine g_getR dX11_run_35 ff_X11_61 rfl (k100 (gLay_I hL)) (r100_32 (gLay_I hL)) rfl ?_
        refine g_aload_n dX11_run_38 rfl rfl rfl ?_
        refine g_getR dX11_run_39 ff_X11_64 rfl (k100 (gLay_I hL)) (r100_33 (gLay_I hL)) rfl ?_
        refine g_callSq dX11_run_42 lm_X11_410 mv_X11_copy (r_copy (d := d + 37) hx (gLay_I hL) hrow1) rfl rfl (Nat.le_of_ble_eq_true rfl) (gFit_room (by omega)) rfl (fun v M2 hQ => ?_)
        obtain ⟨rfl, hf⟩ := hQ
        obtain ⟨g1, g2, g3⟩ := hf
        have gx := g1.x (show ¬ (100 : Nat) = 114 by decide)
        have h2 := h1.x gx hSn (h1.1.x gx hSn (g1.2.2.1 115) (g1.2.2.2 116 (by decide)))
        have hm2 : xFr (fun q => q = 114 ∨ q = 1000) M M2 := hf0.tr (gx.mono (fun c q => Or.inl q))
        have hw2 : RWk Mc M2 := hW1.x gx (by decide) (by decide) (by decide)
        have t3 : ∀ c, c ≠ 28 → c ≠ 29 → gmi (trialM Mc) c = gmi Mc c := fun c a b => (trial_fr (M := Mc)).2.2.2 c (by omega)
        have r113 : gmi M2 113 61 = gmi Mc 25 62 := by rw [g1.2.2.2 113 (by decide)]; exact hrow1 61 (by decide)
        refine g_iconst (v := 0) dX11_run_45 (by decide) rfl ?_
        refine g_istore_n dX11_run_46 rfl (by decide) rfl ?_
        refine g_loopM (fun i => [(0, .ref 100), (1, .int (nI k)), (2, .int z), (3, .int (nI i))]) (fun i M1 => ∃ Mi c, R0 Mi M1 n E EV ∧ RowR M1 114 (gmi Mi 28) ∧ RowOK (gmi Mi 28) ∧ (gmi M1 114 67 = nI c ∧ c ≤ 60) ∧ RWk Mi M1 ∧ xFr (fun q => q = 114 ∨ q = 1000) M M1 ∧ gmi M1 113 61 = gmi Mc 25 62 ∧ (gmi Mi 3 = gmi Mc 3 ∧ gmi Mi 0 = gmi Mc 0 ∧ ∀ c, 300 ≤ c → gmi Mi c = gmi Mc c) ∧ goSt id EV 28 29 (300 + 5 * k) (tv Mc (300 + 5 * k) 3 - i) i Mi = runSt Mc EV k) (tv Mc (300 + 5 * k) 3) 0 (Nat.zero_le _) ⟨rfl, rfl, rfl, rfl, trivial⟩ ⟨trialM Mc, 0, h2.sm (fun c _ h9 => t3 c (by omega) (by omega)), fun q hq => by rw [g2 q hq, trial_28 (cix_lt q hq)], hN.2.2.cg (fun q hq => trial_28 hq), ⟨g3, by decide⟩, hw2.sm (t3 0 (by decide) (by decide)) (fun c hc => t3 c (by omega) (by omega)), hm2, r113, ⟨t3 3 (by decide) (by decide), t3 0 (by decide) (by decide), fun c hc => t3 c (by omega) (by omega)⟩, rfl⟩ (fun M1 hI => ?_) (fun i M1 _ hi hI ih => ?_)
        · obtain ⟨Mi, c, hl, hrw, hok, hcc, hw, hf, h61, ⟨c3, c0, c300⟩, hg⟩ := hI
          rw [Nat.sub_self] at hg
          have elk : k < tv Mi 0 6 := by unfold tv; rw [c0]; exact lk
          have el : gmi M1 112 k = nI (tv Mc (300 + 5 * k) 3) := by rw [(hw.2.2 k elk).2.1, c300 _ (by omega)]; exact hlen.1
          have e28 := hrw 61 (by decide)
          have hg1 : (runSt Mc EV k).1 = tv Mc (300 + 5 * k) 3 := by rw [← hg]; rfl
          have hg2 : (runSt Mc EV k).2 = Mi := by rw [← hg]; rfl
          unfold runV
          rw [hg1, hg2]
          refine g_iload_n dX11_run_47 rfl rfl rfl ?_
          refine g_aload_n dX11_run_48 rfl rfl rfl ?_
          refine g_getR dX11_run_49 ff_X11_58 rfl (k100 hl.1.1) (r100_25 hl.1.1) rfl ?_
          refine g_iload_n dX11_run_52 rfl rfl rfl ?_
          refine g_iald (i := k) dX11_run_53 (k112 hl.1.1) (l112 hl.1.1) (nI_toInt (by omega)) (by omega) rfl ?_
          rw [el]
          refine g_icmp_ge (tgt := 98) dX11_run_54 (by decide) rfl (fun _ => ?_) (fun h_ => absurd (nI_le (Nat.le_refl _) (by omega)) h_)
          refine g_iload_n dX11_run_98 rfl rfl rfl ?_
          refine g_iconst (v := 1) dX11_run_99 (by decide) rfl ?_
          refine g_icmp_ne (tgt := 119) dX11_run_100 (by decide) rfl (fun h100 => ?_) (fun h100 => ?_)
          · refine g_iload_n dX11_run_119 rfl rfl rfl ?_
            refine g_aload_n dX11_run_120 rfl rfl rfl ?_
            refine g_getR dX11_run_121 ff_X11_58 rfl (k100 hl.1.1) (r100_25 hl.1.1) rfl ?_
            refine g_iload_n dX11_run_124 rfl rfl rfl ?_
            refine g_iald (i := k) dX11_run_125 (k112 hl.1.1) (l112 hl.1.1) (nI_toInt (by omega)) (by omega) rfl ?_
            rw [el]
            refine g_icmp_ne (tgt := 133) dX11_run_126 (by decide) rfl (fun h_ => absurd (rfl) h_) (fun _ => ?_)
            refine g_iconst (v := -1) dX11_run_129 (by decide) rfl ?_
            refine g_goto (tgt := 134) dX11_run_130 (by decide) ?_
            exact g_iret dX11_run_134 rfl (by first | rfl | exact b01 | exact nb01 hv01) (⟨by rw [if_neg h100, if_pos rfl], hf, hl.1⟩)
          · refine g_aload_n dX11_run_103 rfl rfl rfl ?_
            refine g_getR dX11_run_104 ff_X11_64 rfl (k100 hl.1.1) (r100_33 hl.1.1) rfl ?_
            refine g_bipush (v := 61) dX11_run_107 (by decide) rfl ?_
            refine g_iald (i := 61) dX11_run_109 (k114 hl.1.1) (l114 hl.1.1) rfl (by decide) rfl ?_
            rw [e28, show cix 61 = 62 from rfl]
            refine g_aload_n dX11_run_110 rfl rfl rfl ?_
            refine g_getR dX11_run_111 ff_X11_61 rfl (k100 hl.1.1) (r100_32 hl.1.1) rfl ?_
            refine g_bipush (v := 61) dX11_run_114 (by decide) rfl ?_
            refine g_iald (i := 61) dX11_run_116 (k113 hl.1.1) (l113 hl.1.1) rfl (by decide) rfl ?_
            rw [h61]
            refine g_isub dX11_run_117 rfl ?_
            exact g_iret dX11_run_118 rfl (by first | rfl | exact b01 | exact nb01 hv01) (⟨by rw [if_pos h100], hf, hl.1⟩)
        · obtain ⟨Mi, c, hl, hrw, hok, hcc, hw, hf, h61, ⟨c3, c0, c300⟩, hg⟩ := hI
          have elk : k < tv Mi 0 6 := by unfold tv; rw [c0]; exact lk
          have etl : tv Mi (300 + 5 * k) 3 = tv Mc (300 + 5 * k) 3 := by unfold tv; rw [c300 _ (by omega)]
          have eli : i < tv Mi (300 + 5 * k) 3 := by rw [etl]; exact hi
          have el : gmi M1 112 k = nI (tv Mc (300 + 5 * k) 3) := by rw [(hw.2.2 k elk).2.1, c300 _ (by omega)]; exact hlen.1
          have hp1 : ¬ gmi Mi 3 7 = 0 := by rw [c3]; exact hp0
          rw [show tv Mc (300 + 5 * k) 3 - i = (tv Mc (300 + 5 * k) 3 - (i + 1)) + 1 by omega] at hg
          unfold goSt at hg
          have hcan := r_canStep (d := d + 35) (r := 28) hx hl hw hp1 (Or.inr rfl) hrw elk eli
          by_cases hb : stepB Mi 28 (300 + 5 * k) i = true
          · rw [if_pos hb] at hg
            rw [ib_t hb] at hcan
            have hgs := r_goStep (d := d) (r := 28) hx hZ hl hw (Or.inr rfl) hrw hok hcc.1 hcc.2 elk eli hb
            refine g_iload_n dX11_run_47 rfl rfl rfl ?_
            refine g_aload_n dX11_run_48 rfl rfl rfl ?_
            refine g_getR dX11_run_49 ff_X11_58 rfl (k100 hl.1.1) (r100_25 hl.1.1) rfl ?_
            refine g_iload_n dX11_run_52 rfl rfl rfl ?_
            refine g_iald (i := k) dX11_run_53 (k112 hl.1.1) (l112 hl.1.1) (nI_toInt (by omega)) (by omega) rfl ?_
            rw [el]
            refine g_icmp_ge (tgt := 98) dX11_run_54 (by decide) rfl (fun h_ => absurd h_ (nI_ge hi (by omega))) (fun _ => ?_)
            refine g_aload_n dX11_run_57 rfl rfl rfl ?_
            refine g_aload_n dX11_run_58 rfl rfl rfl ?_
            refine g_getR dX11_run_59 ff_X11_64 rfl (k100 hl.1.1) (r100_33 hl.1.1) rfl ?_
            refine g_iconst (v := 3) dX11_run_62 (by decide) rfl ?_
            refine g_bipush (v := 16) dX11_run_63 (by decide) rfl ?_
            refine g_iload_n dX11_run_65 rfl rfl rfl ?_
            refine g_imul dX11_run_66 rfl ?_
            refine g_iload_n dX11_run_67 rfl rfl rfl ?_
            refine g_iadd dX11_run_68 rfl ?_
            refine g_imul dX11_run_69 rfl ?_
            rw [show (16 : Int32) = nI 16 from rfl, show (3 : Int32) = nI 3 from rfl, pk_mul, nI_add, pk_mul]
            refine g_callVdi (ci := 11) dX11_run_70 lm_X11_414 mv_X11_canStep (hcan) rfl rfl (k100 hl.1.1) rfl rfl (Nat.le_of_ble_eq_true rfl) (gFit_room (by omega)) rfl ?_
            refine g_if_eq (tgt := 98) dX11_run_73 (by decide) rfl (fun h_ => absurd h_ (by decide)) (fun _ => ?_)
            refine g_aload_n dX11_run_76 rfl rfl rfl ?_
            refine g_aload_n dX11_run_77 rfl rfl rfl ?_
            refine g_getR dX11_run_78 ff_X11_64 rfl (k100 hl.1.1) (r100_33 hl.1.1) rfl ?_
            refine g_iconst (v := 3) dX11_run_81 (by decide) rfl ?_
            refine g_bipush (v := 16) dX11_run_82 (by decide) rfl ?_
            refine g_iload_n dX11_run_84 rfl rfl rfl ?_
            refine g_imul dX11_run_85 rfl ?_
            refine g_iload_n dX11_run_86 rfl rfl rfl ?_
            refine g_iadd dX11_run_87 rfl ?_
            refine g_imul dX11_run_88 rfl ?_
            rw [show (16 : Int32) = nI 16 from rfl, show (3 : Int32) = nI 3 from rfl, pk_mul, nI_add, pk_mul]
            refine g_callVq (ci := 11) dX11_run_89 lm_X11_417 mv_X11_goStep (hgs) rfl rfl (k100 hl.1.1) rfl rfl (Nat.le_of_ble_eq_true rfl) (gFit_room (by omega)) rfl (fun v M3 hQ => ?_)
            obtain ⟨rfl, hq1, hq2⟩ := hQ
            have hx3 : xFr (fun q => q = 114) M1 M3 ∧ R0 Mi M3 n E EV := Classical.byCases (fun y : isDay Mi k i => (hq2 y).q hl (Or.inr rfl)) (fun y => ⟨(hq1 y).1, (hq1 y).2.1⟩)
            obtain ⟨o1, o2⟩ := stepF_ok (EV := EV) hl.2.1 hok hb
            obtain ⟨s1, s2, s3⟩ := stepM_r (Mc := Mi) (EV := EV) (k := k) (i := i) (r := 28) (en := 29) (by decide)
            have hso : gFr (fun c => c = 28 ∨ c = 29) Mi (stepM Mi EV 28 29 (300 + 5 * k) i) := stepM_only (Or.inl rfl) (Or.inr rfl)
            have hrow3 : RowR M3 114 (gmi (stepM Mi EV 28 29 (300 + 5 * k) i) 28) := by
              rw [s1]
              refine Classical.byCases (fun y : isDay Mi k i => ?_) (fun y => (hq1 y).2.2.1)
              have := (hq2 y).2.1
              unfold stepF
              rw [if_neg y.1, if_neg y.2.1, if_neg y.2.2]
              exact this
            have hc3 : ∃ c2, gmi M3 114 67 = nI c2 ∧ c2 ≤ 60 := by
              refine Classical.byCases (fun y : isDay Mi k i => ⟨_, (hq2 y).2.2.1, ?_⟩) (fun y => ⟨c, by rw [(hq1 y).2.2.2 67 (by decide)]; exact hcc.1, hcc.2⟩)
              have := hcc.2
              unfold lgC
              split <;> omega
            obtain ⟨c2, hc2⟩ := hc3
            refine g_iincV (c := 1) dX11_run_92 rfl (by decide) (by decide) rfl ?_
            refine g_goto (tgt := 47) dX11_run_95 (by decide) ?_
            exact g_go (ih M3 ⟨stepM Mi EV 28 29 (300 + 5 * k) i, c2, hx3.2.sm (fun c _ h9 => hso.2.2.2 c (by omega)), hrow3, by rw [s1]; exact o1, hc2, (hw.x hx3.1 (by decide) (by decide) (by decide)).sm (hso.2.2.2 0 (by decide)) (fun c hc => hso.2.2.2 c (by omega)), hf.tr (hx3.1.mono (fun c q => Or.inl q)), by rw [hx3.1.2.2.2.2.2.1 113 (by decide) (by decide) (by decide) (by decide)]; exact h61, ⟨by rw [hso.2.2.2 3 (by decide), c3], by rw [hso.2.2.2 0 (by decide), c0], fun c hc => by rw [hso.2.2.2 c (by omega), c300 c hc]⟩, hg⟩) ⟨rfl, rfl, rfl, by rw [← nI_1 i]; rfl, trivial⟩
          · rw [if_neg hb] at hg
            rw [ib_f hb] at hcan
            have e28 := hrw 61 (by decide)
            have hg1 : (runSt Mc EV k).1 = i := by rw [← hg]
            have hg2 : (runSt Mc EV k).2 = Mi := by rw [← hg]
            unfold runV
            rw [hg1, hg2]
            refine g_iload_n dX11_run_47 rfl rfl rfl ?_
            refine g_aload_n dX11_run_48 rfl rfl rfl ?_
            refine g_getR dX11_run_49 ff_X11_58 rfl (k100 hl.1.1) (r100_25 hl.1.1) rfl ?_
            refine g_iload_n dX11_run_52 rfl rfl rfl ?_
            refine g_iald (i := k) dX11_run_53 (k112 hl.1.1) (l112 hl.1.1) (nI_toInt (by omega)) (by omega) rfl ?_
            rw [el]
            refine g_icmp_ge (tgt := 98) dX11_run_54 (by decide) rfl (fun h_ => absurd h_ (nI_ge hi (by omega))) (fun _ => ?_)
            refine g_aload_n dX11_run_57 rfl rfl rfl ?_
            refine g_aload_n dX11_run_58 rfl rfl rfl ?_
            refine g_getR dX11_run_59 ff_X11_64 rfl (k100 hl.1.1) (r100_33 hl.1.1) rfl ?_
            refine g_iconst (v := 3) dX11_run_62 (by decide) rfl ?_
            refine g_bipush (v := 16) dX11_run_63 (by decide) rfl ?_
            refine g_iload_n dX11_run_65 rfl rfl rfl ?_
            refine g_imul dX11_run_66 rfl ?_
            refine g_iload_n dX11_run_67 rfl rfl rfl ?_
            refine g_iadd dX11_run_68 rfl ?_
            refine g_imul dX11_run_69 rfl ?_
            rw [show (16 : Int32) = nI 16 from rfl, show (3 : Int32) = nI 3 from rfl, pk_mul, nI_add, pk_mul]
            refine g_callVdi (ci := 11) dX11_run_70 lm_X11_414 mv_X11_canStep (hcan) rfl rfl (k100 hl.1.1) rfl rfl (Nat.le_of_ble_eq_true rfl) (gFit_room (by omega)) rfl ?_
            refine g_if_eq (tgt := 98) dX11_run_73 (by decide) rfl (fun _ => ?_) (fun h_ => absurd (by decide) h_)
            refine g_iload_n dX11_run_98 rfl rfl rfl ?_
            refine g_iconst (v := 1) dX11_run_99 (by decide) rfl ?_
            refine g_icmp_ne (tgt := 119) dX11_run_100 (by decide) rfl (fun h100 => ?_) (fun h100 => ?_)
            · refine g_iload_n dX11_run_119 rfl rfl rfl ?_
              refine g_aload_n dX11_run_120 rfl rfl rfl ?_
              refine g_getR dX11_run_121 ff_X11_58 rfl (k100 hl.1.1) (r100_25 hl.1.1) rfl ?_
              refine g_iload_n dX11_run_124 rfl rfl rfl ?_
              refine g_iald (i := k) dX11_run_125 (k112 hl.1.1) (l112 hl.1.1) (nI_toInt (by omega)) (by omega) rfl ?_
              rw [el]
              refine g_icmp_ne (tgt := 133) dX11_run_126 (by decide) rfl (fun _ => ?_) (fun h_ => absurd h_ (fun y => absurd ((nI_eq (by omega) (by omega)).mp y) (by omega)))
              refine g_iload_n dX11_run_133 rfl rfl rfl ?_
              exact g_iret dX11_run_134 rfl (by first | rfl | exact b01 | exact nb01 hv01) (⟨by rw [if_neg h100, if_neg (by omega)], hf, hl.1⟩)
            · refine g_aload_n dX11_run_103 rfl rfl rfl ?_
              refine g_getR dX11_run_104 ff_X11_64 rfl (k100 hl.1.1) (r100_33 hl.1.1) rfl ?_
              refine g_bipush (v := 61) dX11_run_107 (by decide) rfl ?_
              refine g_iald (i := 61) dX11_run_109 (k114 hl.1.1) (l114 hl.1.1) rfl (by decide) rfl ?_
              rw [e28, show cix 61 = 62 from rfl]
              refine g_aload_n dX11_run_110 rfl rfl rfl ?_
              refine g_getR dX11_run_111 ff_X11_61 rfl (k100 hl.1.1) (r100_32 hl.1.1) rfl ?_
              refine g_bipush (v := 61) dX11_run_114 (by decide) rfl ?_
              refine g_iald (i := 61) dX11_run_116 (k113 hl.1.1) (l113 hl.1.1) rfl (by decide) rfl ?_
              rw [h61]
              refine g_isub dX11_run_117 rfl ?_
              exact g_iret dX11_run_118 rfl (by first | rfl | exact b01 | exact nb01 hv01) (⟨by rw [if_pos h100], hf, hl.1⟩)
      · rw [if_neg (fun y => hz ⟨Int32.not_lt.mp y.2.2.1, y.2.2.2⟩)]
        refine g_aload_n dX11_run_0 rfl rfl rfl ?_
        refine g_iconst (v := 0) dX11_run_1 (by decide) rfl ?_
        refine g_putI dX11_run_2 fp_X11_90 rfl rfl rfl (k100 hL) rfl ?_
        refine g_aload_n dX11_run_5 rfl rfl rfl ?_
        refine g_iload_n dX11_run_6 rfl rfl rfl ?_
        refine g_callVdi (ci := 11) dX11_run_7 lm_X11_406 mv_X11_isPlan (r_isPlan (d := d + 37) hx (gLay_I hL) hW1) rfl rfl (k100 (gLay_I hL)) rfl rfl (Nat.le_of_ble_eq_true rfl) (gFit_room (by omega)) rfl ?_
        rw [ib_t hin]
        refine g_if_eq (tgt := 30) dX11_run_10 (by decide) rfl (fun h_ => absurd h_ (by decide)) (fun _ => ?_)
        refine g_aload_n dX11_run_13 rfl rfl rfl ?_
        refine g_getI dX11_run_14 ff_X11_285 rfl (k100 (gLay_I hL)) rfl ?_
        rw [e26c]
        refine g_if_eq (tgt := 30) dX11_run_17 (by decide) rfl (fun h_ => absurd h_ (hp0)) (fun _ => ?_)
        refine g_iload_n dX11_run_20 rfl rfl rfl ?_
        refine g_i2l dX11_run_21 rfl ?_
        refine g_lconst (v := 0) dX11_run_22 (by decide) rfl ?_
        refine g_lconst (v := 1) dX11_run_23 (by decide) rfl ?_
        refine g_callSdi dX11_run_24 lm_X11_211 mv_X11_isIn (r_isIn (d := d + 37) (l := 0) (h := 1) hx rfl (by decide) (by decide)) rfl rfl (Nat.le_of_ble_eq_true rfl) (gFit_room (by omega)) rfl ?_
        rw [ib_f hz]
        refine g_if_ne (tgt := 34) dX11_run_27 (by decide) rfl (fun h_ => absurd (by decide) h_) (fun _ => ?_)
        refine g_ldcw dX11_run_30 lq_X11_409 rfl ?_
        exact g_iret dX11_run_33 rfl (by first | rfl | exact b01 | exact nb01 hv01) (⟨rfl, hf0, h1.1⟩)
  · rw [if_neg (fun y => hin y.1)]
    refine g_aload_n dX11_run_0 rfl rfl rfl ?_
    refine g_iconst (v := 0) dX11_run_1 (by decide) rfl ?_
    refine g_putI dX11_run_2 fp_X11_90 rfl rfl rfl (k100 hL) rfl ?_
    refine g_aload_n dX11_run_5 rfl rfl rfl ?_
    refine g_iload_n dX11_run_6 rfl rfl rfl ?_
    refine g_callVdi (ci := 11) dX11_run_7 lm_X11_406 mv_X11_isPlan (r_isPlan (d := d + 37) hx (gLay_I hL) hW1) rfl rfl (k100 (gLay_I hL)) rfl rfl (Nat.le_of_ble_eq_true rfl) (gFit_room (by omega)) rfl ?_
    rw [ib_f hin]
    refine g_if_eq (tgt := 30) dX11_run_10 (by decide) rfl (fun _ => ?_) (fun h_ => absurd (by decide) h_)
    refine g_ldcw dX11_run_30 lq_X11_409 rfl ?_
    exact g_iret dX11_run_33 rfl (by first | rfl | exact b01 | exact nb01 hv01) (⟨rfl, hf0, h1.1⟩)
end H20
