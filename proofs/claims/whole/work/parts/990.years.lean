section H21
variable {X : gX} {Mc M : gM} {d n A N c w r k i : Nat} {E : Nat → LE} {EV : EVt} {F G : Nat → Int32}
set_option maxRecDepth 20000 in
theorem r_draw (hx : gXok X) (hL : gLay M) {m : Int32} (hn : ¬ m.toInt64 = 0) {x : Int64} (h40 : gml M 100 40 = x) : gDet X (d + 0) yX11_draw cX11_draw 2 (some .int) [.ref 100, .int m] M (some (.int (drawN (nextX x) m))) (gwL M 100 40 (nextX x)) := by
  refine gMet.of hx (by decide) (Nat.le_of_ble_eq_true rfl) ?_
  subst h40
  refine g_aload_n dX11_draw_0 rfl rfl rfl ?_
  refine g_aload_n dX11_draw_1 rfl rfl rfl ?_
  refine g_getL dX11_draw_2 ff_X11_393 rfl (k100 hL) rfl ?_
  refine g_ldc2 dX11_draw_5 lq_X11_397 rfl ?_
  refine g_lmul dX11_draw_8 rfl ?_
  refine g_ldc2 dX11_draw_9 lq_X11_399 rfl ?_
  refine g_ladd dX11_draw_12 rfl ?_
  refine g_putL dX11_draw_13 fp_X11_393 rfl (k100 hL) rfl ?_
  refine g_aload_n dX11_draw_16 rfl rfl rfl ?_
  refine g_getL dX11_draw_17 ff_X11_393 rfl (k100 (gLay_L hL)) rfl ?_
  rw [gml_L, va_up_self]
  refine g_bipush (v := 33) dX11_draw_20 (by decide) rfl ?_
  refine g_lushr dX11_draw_22 rfl ?_
  refine g_iload_n dX11_draw_23 rfl rfl rfl ?_
  refine g_i2l dX11_draw_24 rfl ?_
  refine g_lrem dX11_draw_25 hn rfl ?_
  refine g_l2i dX11_draw_26 rfl ?_
  exact g_iret dX11_draw_27 rfl rfl ⟨rfl, rfl⟩
set_option maxRecDepth 20000 in
set_option maxHeartbeats 1000000 in
theorem r_years (hx : gXok X) (hZ : gSt X) (h : LfR Mc M n E EV N A 0) (h35 : gmi M 100 35 = gmi Mc 0 15) (hq : 1 ≤ tv Mc 3 7 → 1 ≤ tv Mc 3 8) {x : Int32} {v : Int64} : gPos X (d + 38) yX11_years cX11_years 9 (some .int) [.ref 100, .int x, .long v] M (fun o M2 => o = some (.int (if mayYears Mc x then gmi Mc 25 66 + x else -1)) ∧ xFr scY M M2 ∧ ∃ N2 A2, LfR (if mayYears Mc x then yrSt EV (tn x) (gwL Mc 81 0 v) else Mc) M2 n E EV N2 A2 0) := by
  have h0 := h.1
  have hL := h0.1.1
  have hT := h0.2.1
  have hP6 := hT.1.2
  have hD8 := hT.2.1.2
  have h1 := h.th
  have e26c : gmi (gwI M 100 0 0) 100 26 = gmi Mc 3 7 := h1.1.2.2.1
  have hf0 : xFr scY M (gwI M 100 0 0) := xFr.wf (Or.inl (Or.inr (Or.inr (Or.inr rfl))))
  have r65 : gmi (gwI M 100 0 0) 113 65 = gmi Mc 25 66 := h1.2.1.1 65 (by decide)
  obtain ⟨D, hD9, hD⟩ := h.2.1.2.2.2.2.2
  refine gMet.of hx (by decide) (Nat.le_of_ble_eq_true rfl) ?_
  by_cases hp0 : gmi Mc 3 7 = 0
  · rw [if_neg (fun y => y.1 hp0), if_neg (fun y => y.1 hp0)]
    refine g_aload_n dX11_years_0 rfl rfl rfl ?_
    refine g_iconst (v := 0) dX11_years_1 (by decide) rfl ?_
    refine g_putI dX11_years_2 fp_X11_90 rfl rfl rfl (k100 hL) rfl ?_
    refine g_aload_n dX11_years_5 rfl rfl rfl ?_
    refine g_getI dX11_years_6 ff_X11_285 rfl (k100 (gLay_I hL)) rfl ?_
    rw [e26c]
    refine g_if_eq (tgt := 39) dX11_years_9 (by decide) rfl (fun _ => ?_) (fun h_ => absurd (hp0) h_)
    refine g_iconst (v := -1) dX11_years_39 (by decide) rfl ?_
    exact g_iret dX11_years_40 rfl (by first | rfl | exact b01 | exact nb01 hv01) (⟨rfl, hf0, N, A, h1⟩)
  · by_cases hxr : 1 ≤ x ∧ x ≤ 30
    · by_cases hsum : gmi Mc 25 66 + x ≤ 999
      · have hmay : mayYears Mc x := ⟨hp0, Int32.not_lt.mpr hxr.1, Int32.not_lt.mpr hxr.2, hsum⟩
        rw [if_pos hmay, if_pos hmay]
        obtain ⟨ex, lx⟩ := in_row (x := x) (b := 31) (n := 31) rfl (by omega) ⟨Int32.le_trans (by decide) hxr.1, Int32.lt_of_le_of_lt hxr.2 (by decide)⟩
        generalize hkx : tn x = Y at *
        subst ex
        have hY1 : 1 ≤ Y := (nI_leI (a := 1) (by decide) (by omega)).mp hxr.1
        have hDY : D + Y ≤ 999 := by
          rw [hD, nI_add] at hsum
          exact (nI_leI (b := 999) (by omega) (by decide)).mp hsum
        have hP1 : 1 ≤ tv Mc 3 7 := tv_ge1 hT.1 hp0
        have hQ1 := hq hP1
        have hst : LfR (gwL Mc 81 0 v) (gwL (gwI M 100 0 0) 100 40 v) n E EV N A 0 := (h1.wL (v := v)).sm (fun _ _ => rfl)
        refine g_aload_n dX11_years_0 rfl rfl rfl ?_
        refine g_iconst (v := 0) dX11_years_1 (by decide) rfl ?_
        refine g_putI dX11_years_2 fp_X11_90 rfl rfl rfl (k100 hL) rfl ?_
        refine g_aload_n dX11_years_5 rfl rfl rfl ?_
        refine g_getI dX11_years_6 ff_X11_285 rfl (k100 (gLay_I hL)) rfl ?_
        rw [e26c]
        refine g_if_eq (tgt := 39) dX11_years_9 (by decide) rfl (fun h_ => absurd h_ (hp0)) (fun _ => ?_)
        refine g_iload_n dX11_years_12 rfl rfl rfl ?_
        refine g_i2l dX11_years_13 rfl ?_
        refine g_lconst (v := 1) dX11_years_14 (by decide) rfl ?_
        refine g_ldc2 dX11_years_15 lq_X11_401 rfl ?_
        refine g_callSdi dX11_years_18 lm_X11_211 mv_X11_isIn (r_isIn (d := d + 37) (l := 1) (h := 30) hx rfl (by decide) (by decide)) rfl rfl (Nat.le_of_ble_eq_true rfl) (gFit_room (by omega)) rfl ?_
        rw [ib_t hxr]
        refine g_if_eq (tgt := 39) dX11_years_21 (by decide) rfl (fun h_ => absurd h_ (by decide)) (fun _ => ?_)
        refine g_aload_n dX11_years_24 rfl rfl rfl ?_
        refine g_getR dX11_years_25 ff_X11_61 rfl (k100 (gLay_I hL)) (r100_32 (gLay_I hL)) rfl ?_
        refine g_bipush (v := 65) dX11_years_28 (by decide) rfl ?_
        refine g_iald (i := 65) dX11_years_30 (k113 (gLay_I hL)) (l113 (gLay_I hL)) rfl (by decide) rfl ?_
        rw [r65]
        refine g_iload_n dX11_years_31 rfl rfl rfl ?_
        refine g_iadd dX11_years_32 rfl ?_
        refine g_sipush (v := 999) dX11_years_33 (by decide) rfl ?_
        refine g_icmp_le (tgt := 41) dX11_years_36 (by decide) rfl (fun _ => ?_) (fun h_ => absurd (hsum) h_)
        refine g_aload_n dX11_years_41 rfl rfl rfl ?_
        refine g_lload_n dX11_years_42 rfl rfl rfl ?_
        refine g_putL dX11_years_43 fp_X11_393 rfl (k100 (gLay_I hL)) rfl ?_
        refine g_iconst (v := 0) dX11_years_46 (by decide) rfl ?_
        refine g_istore dX11_years_47 (by decide) rfl ?_
        refine g_loopM (fun i => [(0, .ref 100), (1, .int (nI Y)), (4, .int (nI i))]) (fun i M1 => ∃ Mi N2 A2, LfR Mi M1 n E EV N2 A2 0 ∧ gml M1 100 40 = gml Mi 81 0 ∧ xFr scY M M1 ∧ (gmi Mi 3 = gmi Mc 3 ∧ gmi M1 100 35 = gmi Mi 0 15) ∧ gmi Mi 25 66 = nI (D + i) ∧ yrSt EV (Y - i) Mi = yrSt EV Y (gwL Mc 81 0 v)) Y 0 (Nat.zero_le _) ⟨rfl, rfl, rfl, trivial⟩ ⟨gwL Mc 81 0 v, N, A, hst, by rw [gml_L, va_up_self, gml_L, va_up_self], hf0.tr (xFr.wL (Or.inr rfl)), ⟨rfl, h35⟩, hD, rfl⟩ (fun M1 hI => ?_) (fun i M1 _ hi hI ih => ?_)
        · obtain ⟨Mi, N2, A2, hl, h40, hf, -, h66, hg⟩ := hI
          rw [Nat.sub_self] at hg
          have r65 : gmi M1 113 65 = gmi Mi 25 66 := hl.2.1.1 65 (by decide)
          refine g_iload dX11_years_49 rfl rfl ?_
          refine g_iload_n dX11_years_51 rfl rfl rfl ?_
          refine g_icmp_ge (tgt := 170) dX11_years_52 (by decide) rfl (fun _ => ?_) (fun h_ => absurd (nI_le (Nat.le_refl _) (by omega)) h_)
          refine g_aload_n dX11_years_170 rfl rfl rfl ?_
          refine g_getR dX11_years_171 ff_X11_61 rfl (k100 hl.1.1.1) (r100_32 hl.1.1.1) rfl ?_
          refine g_bipush (v := 65) dX11_years_174 (by decide) rfl ?_
          refine g_iald (i := 65) dX11_years_176 (k113 hl.1.1.1) (l113 hl.1.1.1) rfl (by decide) rfl ?_
          rw [r65, h66]
          exact g_iret dX11_years_177 rfl (by first | rfl | exact b01 | exact nb01 hv01) (⟨by rw [hD, nI_add], hf, N2, A2, by rw [← hg]; exact hl⟩)
        · obtain ⟨Mi, N2, A2, hl, h40, hf, ⟨c3, c35⟩, h66, hg⟩ := hI
          rw [show Y - i = (Y - (i + 1)) + 1 by omega] at hg
          have hn := hl.2.2.1
          refine g_iload dX11_years_49 rfl rfl ?_
          refine g_iload_n dX11_years_51 rfl rfl rfl ?_
          refine g_icmp_ge (tgt := 170) dX11_years_52 (by decide) rfl (fun h_ => absurd h_ (nI_ge hi (by omega))) (fun _ => ?_)
          refine g_aload_n dX11_years_55 rfl rfl rfl ?_
          refine g_callVq (ci := 11) dX11_years_56 lm_X11_354 mv_X11_remember (r_remember (d := d + 37) hx hl.1.1.1 hl.2.2.2.1.2.1 hl.2.2.2.1.2.2) rfl rfl (k100 hl.1.1.1) rfl rfl (Nat.le_of_ble_eq_true rfl) (gFit_room (by omega)) rfl (fun v0 Ma hQ => ?_)
          obtain ⟨rfl, hrem⟩ := hQ
          have hlk := hl.keep hrem
          have k3c : gmi (keepM Mi) 3 = gmi Mc 3 := (keep_25 hn.1 hn.2 (by decide)).trans c3
          have k0 : gmi (keepM Mi) 0 = gmi Mi 0 := keep_25 hn.1 hn.2 (by decide)
          have k66 : gmi (keepM Mi) 25 66 = nI (D + i) := by rw [keep_25 hn.1 hn.2 (by decide)]; exact h66
          have k81 : gml (keepM Mi) 81 0 = gml Mi 81 0 := rfl
          have ha40 : gml Ma 100 40 = gml (keepM Mi) 81 0 := by rw [hrem.1.2.2.2.2.1 (by decide)]; exact h40
          have ha35 : gmi Ma 100 35 = gmi (keepM Mi) 0 15 := by rw [hrem.1.2.2.2.2.2.2 35 (by decide) (by decide) (by decide), c35, k0]
          have hfa : xFr scY M Ma := hf.tr (hrem.1.mono (fun c q => Or.inl (q.elim (fun y => Or.inr (Or.inl y)) (fun y => Or.inr (Or.inr (Or.inl y))))))
          have hgk : yrSt EV (Y - (i + 1)) (dayM (liveM (keepM Mi) EV)) = yrSt EV Y (gwL Mc 81 0 v) := hg
          generalize keepM Mi = Mk at hlk k3c k66 ha40 ha35 hgk k81 k0
          generalize hsx : gml Mk 81 0 = s at ha40
          have hTk := hlk.1.2.1
          have eP : tv Mk 3 7 = tv Mc 3 7 := by unfold tv; rw [k3c]
          have eD : tv Mk 3 8 = tv Mc 3 8 := by unfold tv; rw [k3c]
          have nP : ¬ (gmi Mk 3 7).toInt64 = 0 := by rw [hTk.1.1]; exact (n64 (by omega) (by omega)).2
          have nD : ¬ (gmi Mk 3 8).toInt64 = 0 := by rw [hTk.2.1.1]; exact (n64 (by omega) (by omega)).2
          -- the day's end: the row 154
          have m154 : ∀ (Md : gM) (G : Nat → Int32) (lz : List (Nat × Value)), LfR (gwF Mk 25 G) Md n E EV ((N2 + 1) % 40) (rmA A2 + 1) 1 → G 66 = nI (D + i) → xFr scY M Md → gml Md 100 40 = liveX Mk s → gmi Md 100 35 = gmi Mk 0 15 → G = liveF Mk EV s → gW X (gRoom (d + 38) 0 0) (gZ X gN0 0 0 (fun o M2 => o = some (.int (gmi Mc 25 66 + nI Y)) ∧ xFr scY M M2 ∧ ∃ N2 A2, LfR (yrSt EV Y (gwL Mc 81 0 v)) M2 n E EV N2 A2 0)) gN0 yX11_years cX11_years 9 (some .int) 154 ((0, .ref 100) :: (1, .int (nI Y)) :: (4, .int (nI i)) :: lz) [] Md 0 0 := by
            intro Md G lz hld hG66 hfd hd40 hd35 hGF
            have g66 : gmi (gwF Mk 25 G) 25 66 = nI (D + i) := by rw [gmi_F]; exact hG66
            have ge : gmi (gwF Mk 25 G) 25 = G := gmi_F _ _ _
            obtain ⟨m, hm9, hm⟩ := hld.2.1.2.2.2.2.1
            have hgd := r_goDay (d := d + 35) hx hld.1 (Or.inl rfl) hld.2.1.1 hm hm9 g66 (by omega) (hld.2.1.c67 g66 (by omega)) (Nat.min_le_left _ _)
            refine g_aload_n dX11_years_154 rfl rfl rfl ?_
            refine g_aload_n dX11_years_155 rfl rfl rfl ?_
            refine g_getR dX11_years_156 ff_X11_61 rfl (k100 hld.1.1.1) (r100_32 hld.1.1.1) rfl ?_
            refine g_callVq (ci := 11) dX11_years_159 lm_X11_390 mv_X11_goDay (hgd) rfl rfl (k100 hld.1.1.1) rfl rfl (Nat.le_of_ble_eq_true rfl) (gFit_room (by omega)) rfl (fun v0 Me hQ => ?_)
            obtain ⟨rfl, hdw⟩ := hQ
            have hle := hld.day g66 (by omega) hdw
            have hxe := (hdw.q hld.1 (Or.inl rfl)).1
            have hle2 : LfR (dayM (liveM Mk EV)) Me n E EV ((N2 + 1) % 40) (rmA A2 + 1) 0 := by
              refine hle.sm (fun c _ => ?_)
              unfold liveM
              rw [hsx, ← hGF]
              rfl
            have g81 : gml (dayM (liveM Mk EV)) 81 0 = liveX Mk s := by
              show gml (gwL Mk 81 0 (liveX Mk (gml Mk 81 0))) 81 0 = _
              rw [gml_L, va_up_self, hsx]
            have e0 : gmi (dayM (liveM Mk EV)) 0 = gmi Mk 0 := by
              show gmi (gwF (gwF (gwF (gwL Mk 81 0 (liveX Mk (gml Mk 81 0))) 25 (liveF Mk EV (gml Mk 81 0))) 26 _) 25 _) 0 = _
              rw [gmi_Fn _ _ (by decide), gmi_Fn _ _ (by decide), gmi_Fn _ _ (by decide)]
              rfl
            have e3 : gmi (dayM (liveM Mk EV)) 3 = gmi Mk 3 := by
              show gmi (gwF (gwF (gwF (gwL Mk 81 0 (liveX Mk (gml Mk 81 0))) 25 (liveF Mk EV (gml Mk 81 0))) 26 _) 25 _) 3 = _
              rw [gmi_Fn _ _ (by decide), gmi_Fn _ _ (by decide), gmi_Fn _ _ (by decide)]
              rfl
            have e66 : gmi (dayM (liveM Mk EV)) 25 66 = nI (D + (i + 1)) := by
              have q1 := hle2.2.1
              have q2 : gmi (dayM (liveM Mk EV)) 25 = gmi (dayM (gwF Mk 25 G)) 25 := by
                unfold liveM
                rw [hsx, ← hGF]
                rfl
              rw [q2]
              unfold dayM
              rw [gmi_F, dayR_F]
              exact day_66 hld.1.2.1 g66
            refine g_istore dX11_years_162 (by decide) rfl ?_
            refine g_iincV (c := 1) dX11_years_164 rfl (by decide) (by decide) rfl ?_
            refine g_goto (tgt := 49) dX11_years_167 (by decide) ?_
            exact g_go (ih Me ⟨_, _, _, hle2, by rw [hxe.2.2.2.2.1 (by decide), hd40, g81], hfd.tr (hxe.mono (fun c q => Or.inl (Or.inl q))), ⟨by rw [e3, k3c], by rw [hxe.2.2.2.2.2.2 35 (by decide) (by decide) (by decide), hd35, e0]⟩, e66, hgk⟩) ⟨rfl, rfl, by rw [← nI_1 i]; rfl, trivial⟩
          -- behind the deed: the row 106
          have m106 : ∀ (Mb : gM) (lz : List (Nat × Value)), LfR (gwF Mk 25 (liveF1 Mk s)) Mb n E EV ((N2 + 1) % 40) (rmA A2 + 1) 1 → xFr scY M Mb → gml Mb 100 40 = nextX (nextX s) → gmi Mb 100 35 = gmi Mk 0 15 → gW X (gRoom (d + 38) 0 0) (gZ X gN0 0 0 (fun o M2 => o = some (.int (gmi Mc 25 66 + nI Y)) ∧ xFr scY M M2 ∧ ∃ N2 A2, LfR (yrSt EV Y (gwL Mc 81 0 v)) M2 n E EV N2 A2 0)) gN0 yX11_years cX11_years 9 (some .int) 106 ((0, .ref 100) :: (1, .int (nI Y)) :: (4, .int (nI i)) :: lz) [] Mb 0 0 := by
            intro Mb lz hlb hfb hb40 hb35
            have hRb : R0 Mk Mb n E EV := hlb.1.sm (fun c h3 h9 => (gmi_Fn _ _ (by omega)).symm)
            have hrb : RowR Mb 113 (liveF1 Mk s) := by have := hlb.2.1.1; rw [gmi_F] at this; exact this
            have hok : RowOK (liveF1 Mk s) := by have := hlb.2.1.2.2; rw [gmi_F] at this; exact this
            have l66 : liveF1 Mk s 66 = nI (D + i) := by rw [live1_66 hTk]; exact k66
            have s1 := r_draw (d := d + 37) (m := 10) hx hRb.1.1 (by decide) hb40
            have b35 : gmi (gwL Mb 100 40 (nextX (nextX (nextX s)))) 100 35 = gmi Mk 0 15 := hb35
            have b26 : gmi (gwL Mb 100 40 (nextX (nextX (nextX s)))) 100 26 = gmi Mk 3 7 := hRb.2.2.1
            refine g_aload_n dX11_years_106 rfl rfl rfl ?_
            refine g_bipush (v := 10) dX11_years_107 (by decide) rfl ?_
            refine g_callVdi (ci := 11) dX11_years_109 lm_X11_403 mv_X11_draw (s1) rfl rfl (k100 hRb.1.1) rfl rfl (Nat.le_of_ble_eq_true rfl) (gFit_room (by omega)) rfl ?_
            refine g_aload_n dX11_years_112 rfl rfl rfl ?_
            refine g_getI dX11_years_113 ff_X11_71 rfl (k100 hRb.wL.1.1) rfl ?_
            rw [b35]
            refine g_icmp_ge (tgt := 154) dX11_years_116 (by decide) rfl (fun h116 => ?_) (fun h116 => ?_)
            · have hlx : ¬ drL s < gmi Mk 0 15 := Int32.not_lt.mpr h116
              exact m154 _ (liveF1 Mk s) _ hlb.wL l66 (hfb.tr (xFr.wL (Or.inr rfl))) (by rw [gml_L, va_up_self]; exact (if_neg hlx).symm) hb35 (if_neg (fun y => hlx y.1)).symm
            · have hlx : drL s < gmi Mk 0 15 := Int32.not_le.mp h116
              have s2 := r_draw (d := d + 37) (m := gmi Mk 3 7) (M := gwL Mb 100 40 (nextX (nextX (nextX s)))) hx hRb.wL.1.1 nP (by rw [gml_L, va_up_self])
              have hRc : R0 Mk (gwL (gwL Mb 100 40 (nextX (nextX (nextX s)))) 100 40 (nextX (nextX (nextX (nextX s))))) n E EV := hRb.wL.wL
              have s3 := r_canGo (d := d + 36) (x := drQ Mk s) hx hRc (Or.inl rfl) (show RowR (gwL (gwL Mb 100 40 (nextX (nextX (nextX s)))) 100 40 (nextX (nextX (nextX (nextX s))))) 113 (liveF1 Mk s) from hrb)
              refine g_aload_n dX11_years_119 rfl rfl rfl ?_
              refine g_aload_n dX11_years_120 rfl rfl rfl ?_
              refine g_getI dX11_years_121 ff_X11_285 rfl (k100 hRb.wL.1.1) rfl ?_
              rw [b26]
              refine g_callVdi (ci := 11) dX11_years_124 lm_X11_403 mv_X11_draw (s2) rfl rfl (k100 hRb.wL.1.1) rfl rfl (Nat.le_of_ble_eq_true rfl) (gFit_room (by omega)) rfl ?_
              refine g_istore dX11_years_127 (by decide) rfl ?_
              refine g_aload_n dX11_years_129 rfl rfl rfl ?_
              refine g_aload_n dX11_years_130 rfl rfl rfl ?_
              refine g_getR dX11_years_131 ff_X11_61 rfl (k100 hRc.1.1) (r100_32 hRc.1.1) rfl ?_
              refine g_iload dX11_years_134 rfl rfl ?_
              refine g_callVdi (ci := 11) dX11_years_136 lm_X11_374 mv_X11_canGo (s3) rfl rfl (k100 hRc.1.1) rfl rfl (Nat.le_of_ble_eq_true rfl) (gFit_room (by omega)) rfl ?_
              refine g_ieq (tgt := 154) dX11_years_139 (by decide) rfl (fun h139 => ?_) (fun h139 => ?_)
              · exact g_go (m154 _ (liveF1 Mk s) [] hlb.wL.wL l66 ((hfb.tr (xFr.wL (Or.inr rfl))).tr (xFr.wL (Or.inr rfl))) (by rw [gml_L, va_up_self]; exact (if_pos hlx).symm) hb35 (if_neg (fun y => h139 y.2)).symm) ⟨rfl, rfl, rfl, trivial⟩
              · obtain ⟨eq_, lq⟩ := in_row hTk.1.1 (by omega) h139.1
                have s4 := r_goes (d := d + 1) (p := tn (drQ Mk s)) hx hZ hRc (Or.inl rfl) (show RowR (gwL (gwL Mb 100 40 (nextX (nextX (nextX s)))) 100 40 (nextX (nextX (nextX (nextX s))))) 113 (liveF1 Mk s) from hrb) hok.1 hok.2.1 lq
                rw [← eq_] at s4
                refine g_aload_n dX11_years_142 rfl rfl rfl ?_
                refine g_aload_n dX11_years_143 rfl rfl rfl ?_
                refine g_getR dX11_years_144 ff_X11_61 rfl (k100 hRc.1.1) (r100_32 hRc.1.1) rfl ?_
                refine g_iload dX11_years_147 rfl rfl ?_
                refine g_callVq (ci := 11) dX11_years_149 lm_X11_377 mv_X11_goes (s4) rfl rfl (k100 hRc.1.1) rfl rfl (Nat.le_of_ble_eq_true rfl) (gFit_room (by omega)) rfl (fun v0 Me hQ => ?_)
                obtain ⟨rfl, hqw⟩ := hQ
                have hG66 : goF (gunF Mk EV (liveF1 Mk s) (tn (drQ Mk s))) (liveF1 Mk s) (tn (drQ Mk s)) (gmi Mk 3 9) 66 = nI (D + i) := by rw [goF_66 (by omega)]; exact l66
                have hle := (hlb.wL.wL (v := nextX (nextX (nextX (nextX s))))).row (M2 := Me) (G := goF (gunF Mk EV (liveF1 Mk s) (tn (drQ Mk s))) (liveF1 Mk s) (tn (drQ Mk s)) (gmi Mk 3 9)) ⟨hqw.1, hqw.2.1.sm (fun c h3 h9 => gmi_Fn _ _ (by omega)), hqw.2.2.1, hqw.2.2.2⟩ (hok.go (by omega)) (by rw [gmi_F, l66]; exact hG66)
                refine g_istore dX11_years_152 (by decide) rfl ?_
                exact g_go (m154 Me (goF (gunF Mk EV (liveF1 Mk s) (tn (drQ Mk s))) (liveF1 Mk s) (tn (drQ Mk s)) (gmi Mk 3 9)) [] (hle.sm (fun c _ => Classical.byCases (fun z : c = 25 => by rw [z, gmi_F, gmi_F]) (fun z => by rw [gmi_Fn _ _ z, gmi_Fn _ _ z, gmi_Fn _ _ z]))) hG66 (((hfb.tr (xFr.wL (Or.inr rfl))).tr (xFr.wL (Or.inr rfl))).tr (hqw.1.mono (fun c q => Or.inl (Or.inl q)))) (by rw [hqw.1.2.2.2.2.1 (by decide), gml_L, va_up_self]; exact (if_pos hlx).symm) (by rw [hqw.1.2.2.2.2.2.2 35 (by decide) (by decide) (by decide)]; exact hb35) (if_pos ⟨hlx, h139⟩).symm) ⟨rfl, rfl, rfl, trivial⟩
          have a26 : gmi Ma 100 26 = gmi Mk 3 7 := hlk.1.2.2.1
          have a27 : gmi (gwL Ma 100 40 (nextX s)) 100 27 = gmi Mk 3 8 := hlk.1.2.2.2.1
          have s1 := r_draw (d := d + 37) (m := gmi Mk 3 7) hx hlk.1.1.1 nP ha40
          have s2 := r_draw (d := d + 37) (m := gmi Mk 3 8) (M := gwL Ma 100 40 (nextX s)) hx hlk.wL.1.1.1 nD (by rw [gml_L, va_up_self])
          have hlc : LfR Mk (gwL (gwL Ma 100 40 (nextX s)) 100 40 (nextX (nextX s))) n E EV ((N2 + 1) % 40) (rmA A2 + 1) 1 := hlk.wL.wL
          have hfc : xFr scY M (gwL (gwL Ma 100 40 (nextX s)) 100 40 (nextX (nextX s))) := (hfa.tr (xFr.wL (Or.inr rfl))).tr (xFr.wL (Or.inr rfl))
          have s3 := r_canCommit (d := d + 36) (x := drP Mk s) (z := drD Mk s) hx hlc.1 (Or.inl rfl) hlc.2.1.1
          refine g_aload_n dX11_years_59 rfl rfl rfl ?_
          refine g_aload_n dX11_years_60 rfl rfl rfl ?_
          refine g_getI dX11_years_61 ff_X11_285 rfl (k100 hlk.1.1.1) rfl ?_
          rw [a26]
          refine g_callVdi (ci := 11) dX11_years_64 lm_X11_403 mv_X11_draw (s1) rfl rfl (k100 hlk.1.1.1) rfl rfl (Nat.le_of_ble_eq_true rfl) (gFit_room (by omega)) rfl ?_
          refine g_istore dX11_years_67 (by decide) rfl ?_
          refine g_aload_n dX11_years_69 rfl rfl rfl ?_
          refine g_aload_n dX11_years_70 rfl rfl rfl ?_
          refine g_getI dX11_years_71 ff_X11_288 rfl (k100 hlk.wL.1.1.1) rfl ?_
          rw [a27]
          refine g_callVdi (ci := 11) dX11_years_74 lm_X11_403 mv_X11_draw (s2) rfl rfl (k100 hlk.wL.1.1.1) rfl rfl (Nat.le_of_ble_eq_true rfl) (gFit_room (by omega)) rfl ?_
          refine g_istore dX11_years_77 (by decide) rfl ?_
          refine g_aload_n dX11_years_79 rfl rfl rfl ?_
          refine g_aload_n dX11_years_80 rfl rfl rfl ?_
          refine g_getR dX11_years_81 ff_X11_61 rfl (k100 hlc.1.1.1) (r100_32 hlc.1.1.1) rfl ?_
          refine g_iload dX11_years_84 rfl rfl ?_
          refine g_iload dX11_years_86 rfl rfl ?_
          refine g_callVdi (ci := 11) dX11_years_88 lm_X11_350 mv_X11_canCommit (s3) rfl rfl (k100 hlc.1.1.1) rfl rfl (Nat.le_of_ble_eq_true rfl) (gFit_room (by omega)) rfl ?_
          refine g_ieq (tgt := 106) dX11_years_91 (by decide) rfl (fun h91 => ?_) (fun h91 => ?_)
          · have e1 : liveF1 Mk s = gmi Mk 25 := if_neg h91
            refine g_go (m106 _ [] ?_ hfc (by rw [gml_L, va_up_self]) ha35) ⟨rfl, rfl, rfl, trivial⟩
            rw [e1, gwF_id]
            exact hlc
          · obtain ⟨ep, lp⟩ := in_row hTk.1.1 (by omega) h91.1.1
            obtain ⟨ee, le⟩ := in_row hTk.2.1.1 (by omega) h91.1.2
            have e1 : liveF1 Mk s = takeF (gmi Mk 25) (12 + tn (drP Mk s) * 8 + tn (drD Mk s)) (gmi Mk 9 (tn (drD Mk s))) (gmi Mk 8 (tn (drD Mk s))) := if_pos h91
            have s4 := r_commits (d := d + 36) (p := tn (drP Mk s)) (e := tn (drD Mk s)) hx hlc.1 (Or.inl rfl) hlc.2.1.1 (by omega) le
            rw [← ep, ← ee] at s4
            refine g_aload_n dX11_years_94 rfl rfl rfl ?_
            refine g_aload_n dX11_years_95 rfl rfl rfl ?_
            refine g_getR dX11_years_96 ff_X11_61 rfl (k100 hlc.1.1.1) (r100_32 hlc.1.1.1) rfl ?_
            refine g_iload dX11_years_99 rfl rfl ?_
            refine g_iload dX11_years_101 rfl rfl ?_
            refine g_callVq (ci := 11) dX11_years_103 lm_X11_357 mv_X11_commits (s4) rfl rfl (k100 hlc.1.1.1) rfl rfl (Nat.le_of_ble_eq_true rfl) (gFit_room (by omega)) rfl (fun v0 Mb hQ => ?_)
            obtain ⟨rfl, hrw⟩ := hQ
            have hqw := hrw.q hlc.1 (Or.inl rfl)
            rw [← e1] at hqw
            have hok : RowOK (liveF1 Mk s) := by
              rw [e1]
              exact hlc.2.1.2.2.take (by omega) (by omega) ⟨_, (hTk.2.2.2.2.1 _ (by omega)).1, (hTk.2.2.2.2.1 _ (by omega)).2⟩
            have hlb := hlc.row hqw hok (live1_66 hTk s)
            exact g_go (m106 Mb [] hlb (hfc.tr (hqw.1.mono (fun c q => Or.inl (Or.inl q)))) (by rw [hqw.1.2.2.2.2.1 (by decide), gml_L, va_up_self]) (by rw [hqw.1.2.2.2.2.2.2 35 (by decide) (by decide) (by decide)]; exact ha35)) ⟨rfl, rfl, rfl, trivial⟩
      · have hmay : ¬ mayYears Mc x := fun y => hsum y.2.2.2
        rw [if_neg hmay, if_neg hmay]
        refine g_aload_n dX11_years_0 rfl rfl rfl ?_
        refine g_iconst (v := 0) dX11_years_1 (by decide) rfl ?_
        refine g_putI dX11_years_2 fp_X11_90 rfl rfl rfl (k100 hL) rfl ?_
        refine g_aload_n dX11_years_5 rfl rfl rfl ?_
        refine g_getI dX11_years_6 ff_X11_285 rfl (k100 (gLay_I hL)) rfl ?_
        rw [e26c]
        refine g_if_eq (tgt := 39) dX11_years_9 (by decide) rfl (fun h_ => absurd h_ (hp0)) (fun _ => ?_)
        refine g_iload_n dX11_years_12 rfl rfl rfl ?_
        refine g_i2l dX11_years_13 rfl ?_
        refine g_lconst (v := 1) dX11_years_14 (by decide) rfl ?_
        refine g_ldc2 dX11_years_15 lq_X11_401 rfl ?_
        refine g_callSdi dX11_years_18 lm_X11_211 mv_X11_isIn (r_isIn (d := d + 37) (l := 1) (h := 30) hx rfl (by decide) (by decide)) rfl rfl (Nat.le_of_ble_eq_true rfl) (gFit_room (by omega)) rfl ?_
        rw [ib_t hxr]
        refine g_if_eq (tgt := 39) dX11_years_21 (by decide) rfl (fun h_ => absurd h_ (by decide)) (fun _ => ?_)
        refine g_aload_n dX11_years_24 rfl rfl rfl ?_
        refine g_getR dX11_years_25 ff_X11_61 rfl (k100 (gLay_I hL)) (r100_32 (gLay_I hL)) rfl ?_
        refine g_bipush (v := 65) dX11_years_28 (by decide) rfl ?_
        refine g_iald (i := 65) dX11_years_30 (k113 (gLay_I hL)) (l113 (gLay_I hL)) rfl (by decide) rfl ?_
        rw [r65]
        refine g_iload_n dX11_years_31 rfl rfl rfl ?_
        refine g_iadd dX11_years_32 rfl ?_
        refine g_sipush (v := 999) dX11_years_33 (by decide) rfl ?_
        refine g_icmp_le (tgt := 41) dX11_years_36 (by decide) rfl (fun h_ => absurd h_ (hsum)) (fun _ => ?_)
        refine g_iconst (v := -1) dX11_years_39 (by decide) rfl ?_
        exact g_iret dX11_years_40 rfl (by first | rfl | exact b01 | exact nb01 hv01) (⟨rfl, hf0, N, A, h1⟩)
    · have hmay : ¬ mayYears Mc x := fun y => hxr ⟨Int32.not_lt.mp y.2.1, Int32.not_lt.mp y.2.2.1⟩
      rw [if_neg hmay, if_neg hmay]
      refine g_aload_n dX11_years_0 rfl rfl rfl ?_
      refine g_iconst (v := 0) dX11_years_1 (by decide) rfl ?_
      refine g_putI dX11_years_2 fp_X11_90 rfl rfl rfl (k100 hL) rfl ?_
      refine g_aload_n dX11_years_5 rfl rfl rfl ?_
      refine g_getI dX11_years_6 ff_X11_285 rfl (k100 (gLay_I hL)) rfl ?_
      rw [e26c]
      refine g_if_eq (tgt := 39) dX11_years_9 (by decide) rfl (fun h_ => absurd h_ (hp0)) (fun _ => ?_)
      refine g_iload_n dX11_years_12 rfl rfl rfl ?_
      refine g_i2l dX11_years_13 rfl ?_
      refine g_lconst (v := 1) dX11_years_14 (by decide) rfl ?_
      refine g_ldc2 dX11_years_15 lq_X11_401 rfl ?_
      refine g_callSdi dX11_years_18 lm_X11_211 mv_X11_isIn (r_isIn (d := d + 37) (l := 1) (h := 30) hx rfl (by decide) (by decide)) rfl rfl (Nat.le_of_ble_eq_true rfl) (gFit_room (by omega)) rfl ?_
      rw [ib_f hxr]
      refine g_if_eq (tgt := 39) dX11_years_21 (by decide) rfl (fun _ => ?_) (fun h_ => absurd (by decide) h_)
      refine g_iconst (v := -1) dX11_years_39 (by decide) rfl ?_
      exact g_iret dX11_years_40 rfl (by first | rfl | exact b01 | exact nb01 hv01) (⟨rfl, hf0, N, A, h1⟩)
end H21
