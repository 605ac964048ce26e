section H5
variable {X : gX} {Mc M : gM} {d n A : Nat} {E : Nat → LE} {EV : EVt} {F : Nat → Int32}
abbrev maySellF (M : gM) (F : Nat → Int32) (x o z : Int32) : Prop := (inP M x ∧ inD M z) ∧ inP M o ∧ ¬ x = o ∧ ¬ F (12 + tn x * 8 + tn z) ≤ 0 ∧ F (12 + tn o * 8 + tn z) = 0 ∧ ¬ F 65 < 1
theorem LeftF.z {F : Nat → Int32} {i : Nat} (h : LeftF F) (h1 : 12 ≤ i) (h2 : i < 60) : (F i ≤ 0 ↔ F i = 0) ∧ (0 < F i ↔ ¬ F i = 0) := by
  obtain ⟨m, e, hm⟩ := h i h1 h2
  rw [e]
  have a1 := qle m 0 (c := nI m) (x := 0) rfl rfl (by omega) (by decide)
  have a2 := qeq m 0 (c := nI m) (x := 0) rfl rfl (by omega) (by decide)
  have a3 := qlt 0 m (c := 0) (x := nI m) rfl rfl (by decide) (by omega)
  rw [a1, a2, a3]
  omega
set_option maxRecDepth 20000 in
set_option maxHeartbeats 1000000 in
theorem r_sell (hx : gXok X) (h0 : R0 Mc M n E EV) (hN : RowR M 113 F) (hF : LeftF F) (hA : gmi M 100 39 = nI A) (hA40 : A ≤ 40) {x o z : Int32} : gPos X (d + 1) yX11_sell cX11_sell 4 (some .int) [.ref 100, .int x, .int o, .int z] M (fun v M2 => v = some (.int (if maySellF Mc F x o z then F (12 + tn x * 8 + tn z) else -1)) ∧ (maySellF Mc F x o z → Act M M2 A (sellF F (12 + tn x * 8 + tn z) (12 + tn o * 8 + tn z))) ∧ (¬ maySellF Mc F x o z → M2 = gwI M 100 0 0)) := by
  have hL := h0.1.1
  have h1 := h0.th (v := 0)
  have hT := h0.2.1
  have hN1 := hN.wf (j := 0) (v := 0) (show 113 ≠ 100 by decide)
  have r64 : gmi (gwI M 100 0 0) 113 64 = F 65 := hN1 64 (by decide)
  refine gMet.of hx (by decide) (Nat.le_of_ble_eq_true rfl) ?_
  -- refused
  have bad : ¬ maySellF Mc F x o z → gW X (gRoom (d + 1) 0 0) (gZ X gN0 0 0 (fun v M2 => v = some (.int (if maySellF Mc F x o z then F (12 + tn x * 8 + tn z) else -1)) ∧ (maySellF Mc F x o z → Act M M2 A (sellF F (12 + tn x * 8 + tn z) (12 + tn o * 8 + tn z))) ∧ (¬ maySellF Mc F x o z → M2 = gwI M 100 0 0))) gN0 yX11_sell cX11_sell 4 (some .int) 69 [(0, .ref 100)] [] (gwI M 100 0 0) 0 0 := by
    intro hc
    rw [if_neg hc]
    refine g_iconst (v := -1) dX11_sell_69 (by decide) rfl ?_
    exact g_iret dX11_sell_70 rfl (by first | rfl | exact b01 | exact nb01 hv01) (⟨rfl, fun q => absurd q hc, fun _ => rfl⟩)
  by_cases hp : inP Mc x
  · by_cases ho : inP Mc o
    · by_cases hd : inD Mc z
      · obtain ⟨ex, lx⟩ := in_row hT.1.1 (by have := hT.1.2; omega) hp
        obtain ⟨eo, lo⟩ := in_row hT.1.1 (by have := hT.1.2; omega) ho
        obtain ⟨ez, lz⟩ := in_row hT.2.1.1 (by have := hT.2.1.2; omega) hd
        have m6 := Nat.lt_of_lt_of_le lx hT.1.2
        have o6 := Nat.lt_of_lt_of_le lo hT.1.2
        have m8 := Nat.lt_of_lt_of_le lz hT.2.1.2
        have hlx := r_left0 (d := d) hx h1.1.1 (Or.inl rfl) hN1 m6 m8
        have hlo := r_left0 (d := d) hx h1.1.1 (Or.inl rfl) hN1 o6 m8
        rw [← ex, ← ez] at hlx
        rw [← eo, ← ez] at hlo
        have zx := hF.z (show 12 ≤ 12 + tn x * 8 + tn z by omega) (show 12 + tn x * 8 + tn z < 60 by omega)
        have zo := hF.z (show 12 ≤ 12 + tn o * 8 + tn z by omega) (show 12 + tn o * 8 + tn z < 60 by omega)
        by_cases hc : maySellF Mc F x o z
        · clear bad
          rw [if_pos hc]
          obtain ⟨-, -, hne, c1, c2, c3⟩ := hc
          have hno : tn x ≠ tn o := fun q => hne (by rw [ex, eo, q])
          refine g_aload_n dX11_sell_0 rfl rfl rfl ?_
          refine g_iconst (v := 0) dX11_sell_1 (by decide) rfl ?_
          refine g_putI dX11_sell_2 fp_X11_90 rfl rfl rfl (k100 hL) rfl ?_
          refine g_aload_n dX11_sell_5 rfl rfl rfl ?_
          refine g_iload_n dX11_sell_6 rfl rfl rfl ?_
          refine g_callVdi (ci := 11) dX11_sell_7 lm_X11_342 mv_X11_isPerson (h1.isP (d := d) hx) rfl rfl (k100 (gLay_I hL)) rfl rfl (Nat.le_of_ble_eq_true rfl) (gFit_room (by omega)) rfl ?_
          rw [ib_t hp]
          refine g_if_eq (tgt := 69) dX11_sell_10 (by decide) rfl (fun h_ => absurd h_ (by decide)) (fun _ => ?_)
          refine g_aload_n dX11_sell_13 rfl rfl rfl ?_
          refine g_iload_n dX11_sell_14 rfl rfl rfl ?_
          refine g_callVdi (ci := 11) dX11_sell_15 lm_X11_342 mv_X11_isPerson (h1.isP (d := d) hx) rfl rfl (k100 (gLay_I hL)) rfl rfl (Nat.le_of_ble_eq_true rfl) (gFit_room (by omega)) rfl ?_
          rw [ib_t ho]
          refine g_if_eq (tgt := 69) dX11_sell_18 (by decide) rfl (fun h_ => absurd h_ (by decide)) (fun _ => ?_)
          refine g_aload_n dX11_sell_21 rfl rfl rfl ?_
          refine g_iload_n dX11_sell_22 rfl rfl rfl ?_
          refine g_callVdi (ci := 11) dX11_sell_23 lm_X11_347 mv_X11_isDeed (h1.isD (d := d) hx) rfl rfl (k100 (gLay_I hL)) rfl rfl (Nat.le_of_ble_eq_true rfl) (gFit_room (by omega)) rfl ?_
          rw [ib_t hd]
          refine g_if_eq (tgt := 69) dX11_sell_26 (by decide) rfl (fun h_ => absurd h_ (by decide)) (fun _ => ?_)
          refine g_iload_n dX11_sell_29 rfl rfl rfl ?_
          refine g_iload_n dX11_sell_30 rfl rfl rfl ?_
          refine g_icmp_eq (tgt := 69) dX11_sell_31 (by decide) rfl (fun h_ => absurd h_ (hne)) (fun _ => ?_)
          refine g_aload_n dX11_sell_34 rfl rfl rfl ?_
          refine g_getR dX11_sell_35 ff_X11_61 rfl (k100 (gLay_I hL)) (r100_32 (gLay_I hL)) rfl ?_
          refine g_iload_n dX11_sell_38 rfl rfl rfl ?_
          refine g_iload_n dX11_sell_39 rfl rfl rfl ?_
          refine g_callSdi dX11_sell_40 lm_X11_300 mv_X11_left0 (hlx) rfl rfl (Nat.le_of_ble_eq_true rfl) (gFit_room (by omega)) rfl ?_
          refine g_if_eq (tgt := 69) dX11_sell_43 (by decide) rfl (fun h_ => absurd h_ (fun q => c1 (zx.1.mpr q))) (fun _ => ?_)
          refine g_aload_n dX11_sell_46 rfl rfl rfl ?_
          refine g_getR dX11_sell_47 ff_X11_61 rfl (k100 (gLay_I hL)) (r100_32 (gLay_I hL)) rfl ?_
          refine g_iload_n dX11_sell_50 rfl rfl rfl ?_
          refine g_iload_n dX11_sell_51 rfl rfl rfl ?_
          refine g_callSdi dX11_sell_52 lm_X11_300 mv_X11_left0 (hlo) rfl rfl (Nat.le_of_ble_eq_true rfl) (gFit_room (by omega)) rfl ?_
          refine g_if_gt (tgt := 69) dX11_sell_55 (by decide) rfl (fun h_ => absurd h_ (fun q => (zo.2.mp q) c2)) (fun _ => ?_)
          refine g_aload_n dX11_sell_58 rfl rfl rfl ?_
          refine g_getR dX11_sell_59 ff_X11_61 rfl (k100 (gLay_I hL)) (r100_32 (gLay_I hL)) rfl ?_
          refine g_bipush (v := 64) dX11_sell_62 (by decide) rfl ?_
          refine g_iald (i := 64) dX11_sell_64 (k113 (gLay_I hL)) (l113 (gLay_I hL)) rfl (by decide) rfl ?_
          rw [r64]
          refine g_iconst (v := 1) dX11_sell_65 (by decide) rfl ?_
          refine g_icmp_ge (tgt := 71) dX11_sell_66 (by decide) rfl (fun _ => ?_) (fun h_ => absurd (Int32.not_lt.mp c3) h_)
          refine g_aload_n dX11_sell_71 rfl rfl rfl ?_
          refine g_callVq (ci := 11) dX11_sell_72 lm_X11_354 mv_X11_remember (r_remember (d := d) hx h1.1.1 (th39 hA) hA40) rfl rfl (k100 (gLay_I hL)) rfl rfl (Nat.le_of_ble_eq_true rfl) (gFit_room (by omega)) rfl (fun v M2 hQ => ?_)
          obtain ⟨rfl, hf⟩ := hQ
          have hr := hf
          have h2 := hr.r0 h1
          have hN2 := hr.row hN1
          have hW := (RW.rf hN2).st (v := F 65 - 1) (show 64 < 67 by decide)
          rw [show cix 64 = 65 from rfl] at hW
          generalize hk : tn x = k at *
          generalize hj : tn o = j at *
          generalize he : tn z = e at *
          subst ex eo ez
          have hW2 := hW.st (v := F (12 + k * 8 + e)) (show 10 * j + 2 + e < 67 by omega)
          rw [cix_l j o6 e m8] at hW2
          have hW3 := hW2.st (v := 0) (show 10 * k + 2 + e < 67 by omega)
          rw [cix_l k m6 e m8] at hW3
          have hl1 := r_left0 (d := d) hx (hW.1.lay h2.1.1) (Or.inl rfl) hW.2.1 m6 m8
          have hl2 := r_left0 (d := d) hx (hW3.1.lay h2.1.1) (Or.inl rfl) hW3.2.1 o6 m8
          have hfin : RW M2 (gwI (gwI (gwI M2 113 64 (F 65 - 1)) 113 (10 * j + 2 + e) (F (12 + k * 8 + e))) 113 (10 * k + 2 + e) 0) 113 (sellF F (12 + k * 8 + e) (12 + j * 8 + e)) := by
            refine hW3.cg (fun q hq => ?_)
            unfold sellF
            by_cases e1 : q = 65
            · rw [e1, va_up_ne _ _ (by omega), va_up_ne _ _ (by omega), va_up_self, va_up_self, va_up_ne _ _ (by omega), va_up_ne _ _ (by omega)]
            · rw [va_up_ne (va_up (va_up F (12 + j * 8 + e) (F (12 + k * 8 + e))) (12 + k * 8 + e) 0) _ e1]
              by_cases e2 : q = 12 + k * 8 + e
              · rw [e2, va_up_self, va_up_self]
              · rw [va_up_ne _ _ e2, va_up_ne _ _ e2]
                by_cases e3 : q = 12 + j * 8 + e
                · rw [e3, va_up_self, va_up_self]
                · rw [va_up_ne _ _ e3, va_up_ne _ _ e1, va_up_ne _ _ e3]
          refine g_aload_n dX11_sell_75 rfl rfl rfl ?_
          refine g_getR dX11_sell_76 ff_X11_61 rfl (k100 h2.1.1) (r100_32 h2.1.1) rfl ?_
          refine g_bipush (v := 64) dX11_sell_79 (by decide) rfl ?_
          refine g_dup2 dX11_sell_81 rfl rfl rfl ?_
          refine g_iald (i := 64) dX11_sell_82 (k113 h2.1.1) (l113 h2.1.1) rfl (by decide) rfl ?_
          rw [hN2 64 (by decide), show cix 64 = 65 from rfl]
          refine g_iconst (v := 1) dX11_sell_83 (by decide) rfl ?_
          refine g_isub dX11_sell_84 rfl ?_
          refine g_iast (i := 64) dX11_sell_85 (k113 h2.1.1) (l113 h2.1.1) rfl (by decide) rfl ?_
          refine g_aload_n dX11_sell_86 rfl rfl rfl ?_
          refine g_getR dX11_sell_87 ff_X11_61 rfl (k100 (gLay_I h2.1.1)) (r100_32 (gLay_I h2.1.1)) rfl ?_
          refine g_bipush (v := 10) dX11_sell_90 (by decide) rfl ?_
          refine g_iload_n dX11_sell_92 rfl rfl rfl ?_
          refine g_imul dX11_sell_93 rfl ?_
          refine g_iconst (v := 2) dX11_sell_94 (by decide) rfl ?_
          refine g_iadd dX11_sell_95 rfl ?_
          refine g_iload_n dX11_sell_96 rfl rfl rfl ?_
          refine g_iadd dX11_sell_97 rfl ?_
          refine g_aload_n dX11_sell_98 rfl rfl rfl ?_
          refine g_getR dX11_sell_99 ff_X11_61 rfl (k100 (gLay_I h2.1.1)) (r100_32 (gLay_I h2.1.1)) rfl ?_
          refine g_iload_n dX11_sell_102 rfl rfl rfl ?_
          refine g_iload_n dX11_sell_103 rfl rfl rfl ?_
          refine g_callSdi dX11_sell_104 lm_X11_300 mv_X11_left0 (hl1) rfl rfl (Nat.le_of_ble_eq_true rfl) (gFit_room (by omega)) rfl ?_
          rw [va_up_ne _ _ (show 12 + k * 8 + e ≠ 65 by omega), show (10 : Int32) = nI 10 from rfl, show (2 : Int32) = nI 2 from rfl, pk_mul, nI_add, nI_add]
          refine g_iast (i := (10 * j + 2 + e)) dX11_sell_107 (k113 (gLay_I h2.1.1)) (l113 (gLay_I h2.1.1)) (nI_toInt (by omega)) (by omega) rfl ?_
          refine g_aload_n dX11_sell_108 rfl rfl rfl ?_
          refine g_getR dX11_sell_109 ff_X11_61 rfl (k100 (gLay_I (gLay_I h2.1.1))) (r100_32 (gLay_I (gLay_I h2.1.1))) rfl ?_
          refine g_bipush (v := 10) dX11_sell_112 (by decide) rfl ?_
          refine g_iload_n dX11_sell_114 rfl rfl rfl ?_
          refine g_imul dX11_sell_115 rfl ?_
          refine g_iconst (v := 2) dX11_sell_116 (by decide) rfl ?_
          refine g_iadd dX11_sell_117 rfl ?_
          refine g_iload_n dX11_sell_118 rfl rfl rfl ?_
          refine g_iadd dX11_sell_119 rfl ?_
          refine g_iconst (v := 0) dX11_sell_120 (by decide) rfl ?_
          rw [show (10 : Int32) = nI 10 from rfl, show (2 : Int32) = nI 2 from rfl, pk_mul, nI_add, nI_add]
          refine g_iast (i := (10 * k + 2 + e)) dX11_sell_121 (k113 (gLay_I (gLay_I h2.1.1))) (l113 (gLay_I (gLay_I h2.1.1))) (nI_toInt (by omega)) (by omega) rfl ?_
          refine g_aload_n dX11_sell_122 rfl rfl rfl ?_
          refine g_getR dX11_sell_123 ff_X11_61 rfl (k100 (gLay_I (gLay_I (gLay_I h2.1.1)))) (r100_32 (gLay_I (gLay_I (gLay_I h2.1.1)))) rfl ?_
          refine g_iload_n dX11_sell_126 rfl rfl rfl ?_
          refine g_iload_n dX11_sell_127 rfl rfl rfl ?_
          refine g_callSdi dX11_sell_128 lm_X11_300 mv_X11_left0 (hl2) rfl rfl (Nat.le_of_ble_eq_true rfl) (gFit_room (by omega)) rfl ?_
          rw [va_up_ne _ _ (show 12 + j * 8 + e ≠ 12 + k * 8 + e by omega), va_up_self]
          exact g_iret dX11_sell_131 rfl (by first | rfl | exact b01 | exact nb01 hv01) (⟨rfl, fun _ => ⟨_, hr, hfin⟩, fun q => absurd ⟨⟨hp, hd⟩, ho, hne, by rw [hk, he]; exact c1, by rw [hj, he]; exact c2, c3⟩ q⟩)
        · refine g_aload_n dX11_sell_0 rfl rfl rfl ?_
          refine g_iconst (v := 0) dX11_sell_1 (by decide) rfl ?_
          refine g_putI dX11_sell_2 fp_X11_90 rfl rfl rfl (k100 hL) rfl ?_
          refine g_aload_n dX11_sell_5 rfl rfl rfl ?_
          refine g_iload_n dX11_sell_6 rfl rfl rfl ?_
          refine g_callVdi (ci := 11) dX11_sell_7 lm_X11_342 mv_X11_isPerson (h1.isP (d := d) hx) rfl rfl (k100 (gLay_I hL)) rfl rfl (Nat.le_of_ble_eq_true rfl) (gFit_room (by omega)) rfl ?_
          rw [ib_t hp]
          refine g_if_eq (tgt := 69) dX11_sell_10 (by decide) rfl (fun h_ => absurd h_ (by decide)) (fun _ => ?_)
          refine g_aload_n dX11_sell_13 rfl rfl rfl ?_
          refine g_iload_n dX11_sell_14 rfl rfl rfl ?_
          refine g_callVdi (ci := 11) dX11_sell_15 lm_X11_342 mv_X11_isPerson (h1.isP (d := d) hx) rfl rfl (k100 (gLay_I hL)) rfl rfl (Nat.le_of_ble_eq_true rfl) (gFit_room (by omega)) rfl ?_
          rw [ib_t ho]
          refine g_if_eq (tgt := 69) dX11_sell_18 (by decide) rfl (fun h_ => absurd h_ (by decide)) (fun _ => ?_)
          refine g_aload_n dX11_sell_21 rfl rfl rfl ?_
          refine g_iload_n dX11_sell_22 rfl rfl rfl ?_
          refine g_callVdi (ci := 11) dX11_sell_23 lm_X11_347 mv_X11_isDeed (h1.isD (d := d) hx) rfl rfl (k100 (gLay_I hL)) rfl rfl (Nat.le_of_ble_eq_true rfl) (gFit_room (by omega)) rfl ?_
          rw [ib_t hd]
          refine g_if_eq (tgt := 69) dX11_sell_26 (by decide) rfl (fun h_ => absurd h_ (by decide)) (fun _ => ?_)
          refine g_iload_n dX11_sell_29 rfl rfl rfl ?_
          refine g_iload_n dX11_sell_30 rfl rfl rfl ?_
          refine g_icmp_eq (tgt := 69) dX11_sell_31 (by decide) rfl (fun h31 => ?_) (fun h31 => ?_)
          · exact g_go (bad hc) ⟨rfl, trivial⟩
          · refine g_aload_n dX11_sell_34 rfl rfl rfl ?_
            refine g_getR dX11_sell_35 ff_X11_61 rfl (k100 (gLay_I hL)) (r100_32 (gLay_I hL)) rfl ?_
            refine g_iload_n dX11_sell_38 rfl rfl rfl ?_
            refine g_iload_n dX11_sell_39 rfl rfl rfl ?_
            refine g_callSdi dX11_sell_40 lm_X11_300 mv_X11_left0 (hlx) rfl rfl (Nat.le_of_ble_eq_true rfl) (gFit_room (by omega)) rfl ?_
            refine g_if_eq (tgt := 69) dX11_sell_43 (by decide) rfl (fun h43 => ?_) (fun h43 => ?_)
            · exact g_go (bad hc) ⟨rfl, trivial⟩
            · refine g_aload_n dX11_sell_46 rfl rfl rfl ?_
              refine g_getR dX11_sell_47 ff_X11_61 rfl (k100 (gLay_I hL)) (r100_32 (gLay_I hL)) rfl ?_
              refine g_iload_n dX11_sell_50 rfl rfl rfl ?_
              refine g_iload_n dX11_sell_51 rfl rfl rfl ?_
              refine g_callSdi dX11_sell_52 lm_X11_300 mv_X11_left0 (hlo) rfl rfl (Nat.le_of_ble_eq_true rfl) (gFit_room (by omega)) rfl ?_
              refine g_if_gt (tgt := 69) dX11_sell_55 (by decide) rfl (fun h55 => ?_) (fun h55 => ?_)
              · exact g_go (bad hc) ⟨rfl, trivial⟩
              · refine g_aload_n dX11_sell_58 rfl rfl rfl ?_
                refine g_getR dX11_sell_59 ff_X11_61 rfl (k100 (gLay_I hL)) (r100_32 (gLay_I hL)) rfl ?_
                refine g_bipush (v := 64) dX11_sell_62 (by decide) rfl ?_
                refine g_iald (i := 64) dX11_sell_64 (k113 (gLay_I hL)) (l113 (gLay_I hL)) rfl (by decide) rfl ?_
                rw [r64]
                refine g_iconst (v := 1) dX11_sell_65 (by decide) rfl ?_
                refine g_icmp_ge (tgt := 71) dX11_sell_66 (by decide) rfl (fun h_ => absurd h_ (fun q => hc ⟨⟨hp, hd⟩, ho, h31, fun y => h43 (zx.1.mp y), Decidable.by_contra (fun y => h55 (zo.2.mpr y)), Int32.not_lt.mpr q⟩)) (fun _ => ?_)
                exact g_go (bad hc) ⟨rfl, trivial⟩
      · refine g_aload_n dX11_sell_0 rfl rfl rfl ?_
        refine g_iconst (v := 0) dX11_sell_1 (by decide) rfl ?_
        refine g_putI dX11_sell_2 fp_X11_90 rfl rfl rfl (k100 hL) rfl ?_
        refine g_aload_n dX11_sell_5 rfl rfl rfl ?_
        refine g_iload_n dX11_sell_6 rfl rfl rfl ?_
        refine g_callVdi (ci := 11) dX11_sell_7 lm_X11_342 mv_X11_isPerson (h1.isP (d := d) hx) rfl rfl (k100 (gLay_I hL)) rfl rfl (Nat.le_of_ble_eq_true rfl) (gFit_room (by omega)) rfl ?_
        rw [ib_t hp]
        refine g_if_eq (tgt := 69) dX11_sell_10 (by decide) rfl (fun h_ => absurd h_ (by decide)) (fun _ => ?_)
        refine g_aload_n dX11_sell_13 rfl rfl rfl ?_
        refine g_iload_n dX11_sell_14 rfl rfl rfl ?_
        refine g_callVdi (ci := 11) dX11_sell_15 lm_X11_342 mv_X11_isPerson (h1.isP (d := d) hx) rfl rfl (k100 (gLay_I hL)) rfl rfl (Nat.le_of_ble_eq_true rfl) (gFit_room (by omega)) rfl ?_
        rw [ib_t ho]
        refine g_if_eq (tgt := 69) dX11_sell_18 (by decide) rfl (fun h_ => absurd h_ (by decide)) (fun _ => ?_)
        refine g_aload_n dX11_sell_21 rfl rfl rfl ?_
        refine g_iload_n dX11_sell_22 rfl rfl rfl ?_
        refine g_callVdi (ci := 11) dX11_sell_23 lm_X11_347 mv_X11_isDeed (h1.isD (d := d) hx) rfl rfl (k100 (gLay_I hL)) rfl rfl (Nat.le_of_ble_eq_true rfl) (gFit_room (by omega)) rfl ?_
        rw [ib_f hd]
        refine g_if_eq (tgt := 69) dX11_sell_26 (by decide) rfl (fun _ => ?_) (fun h_ => absurd (by decide) h_)
        exact g_go (bad (fun q => hd q.1.2)) ⟨rfl, trivial⟩
    · refine g_aload_n dX11_sell_0 rfl rfl rfl ?_
      refine g_iconst (v := 0) dX11_sell_1 (by decide) rfl ?_
      refine g_putI dX11_sell_2 fp_X11_90 rfl rfl rfl (k100 hL) rfl ?_
      refine g_aload_n dX11_sell_5 rfl rfl rfl ?_
      refine g_iload_n dX11_sell_6 rfl rfl rfl ?_
      refine g_callVdi (ci := 11) dX11_sell_7 lm_X11_342 mv_X11_isPerson (h1.isP (d := d) hx) rfl rfl (k100 (gLay_I hL)) rfl rfl (Nat.le_of_ble_eq_true rfl) (gFit_room (by omega)) rfl ?_
      rw [ib_t hp]
      refine g_if_eq (tgt := 69) dX11_sell_10 (by decide) rfl (fun h_ => absurd h_ (by decide)) (fun _ => ?_)
      refine g_aload_n dX11_sell_13 rfl rfl rfl ?_
      refine g_iload_n dX11_sell_14 rfl rfl rfl ?_
      refine g_callVdi (ci := 11) dX11_sell_15 lm_X11_342 mv_X11_isPerson (h1.isP (d := d) hx) rfl rfl (k100 (gLay_I hL)) rfl rfl (Nat.le_of_ble_eq_true rfl) (gFit_room (by omega)) rfl ?_
      rw [ib_f ho]
      refine g_if_eq (tgt := 69) dX11_sell_18 (by decide) rfl (fun _ => ?_) (fun h_ => absurd (by decide) h_)
      exact g_go (bad (fun q => ho q.2.1)) ⟨rfl, trivial⟩
  · refine g_aload_n dX11_sell_0 rfl rfl rfl ?_
    refine g_iconst (v := 0) dX11_sell_1 (by decide) rfl ?_
    refine g_putI dX11_sell_2 fp_X11_90 rfl rfl rfl (k100 hL) rfl ?_
    refine g_aload_n dX11_sell_5 rfl rfl rfl ?_
    refine g_iload_n dX11_sell_6 rfl rfl rfl ?_
    refine g_callVdi (ci := 11) dX11_sell_7 lm_X11_342 mv_X11_isPerson (h1.isP (d := d) hx) rfl rfl (k100 (gLay_I hL)) rfl rfl (Nat.le_of_ble_eq_true rfl) (gFit_room (by omega)) rfl ?_
    rw [ib_f hp]
    refine g_if_eq (tgt := 69) dX11_sell_10 (by decide) rfl (fun _ => ?_) (fun h_ => absurd (by decide) h_)
    exact g_go (bad (fun q => hp q.1.1)) ⟨rfl, trivial⟩
set_option maxRecDepth 20000 in
theorem r_undo0 (hx : gXok X) (hL : gLay M) (hA : gmi M 100 39 = 0) : gDet X (d + 0) yX11_undo cX11_undo 2 (some .int) [.ref 100] M (some (.int (-1))) (gwI M 100 0 0) := by
  have e39 : gmi (gwI M 100 0 0) 100 39 = 0 := by rw [gmi_I, va_up_ne _ _ (by decide)]; exact hA
  refine gMet.of hx (by decide) (Nat.le_of_ble_eq_true rfl) ?_
  refine g_aload_n dX11_undo_0 rfl rfl rfl ?_
  refine g_iconst (v := 0) dX11_undo_1 (by decide) rfl ?_
  refine g_putI dX11_undo_2 fp_X11_90 rfl rfl rfl (k100 hL) rfl ?_
  refine g_aload_n dX11_undo_5 rfl rfl rfl ?_
  refine g_getI dX11_undo_6 ff_X11_294 rfl (k100 (gLay_I hL)) rfl ?_
  rw [e39]
  refine g_if_ne (tgt := 14) dX11_undo_9 (by decide) rfl (fun h_ => absurd (rfl) h_) (fun _ => ?_)
  refine g_iconst (v := -1) dX11_undo_12 (by decide) rfl ?_
  exact g_iret dX11_undo_13 rfl (by first | rfl | exact b01 | exact nb01 hv01) (⟨by first | rfl | assumption | exact gFr.rf | grind [ib], by first | rfl | assumption | exact gFr.rf | grind [ib]⟩)
set_option maxRecDepth 20000 in
theorem r_undo (hx : gXok X) (hL : gLay M) (hA : gmi M 100 39 = nI (A + 1)) (hA40 : A < 40) : gPos X (d + 0) yX11_undo cX11_undo 2 (some .int) [.ref 100] M (fun v M2 => v = some (.int (nI A)) ∧ xFr (fun c => c = 113 ∨ c = 1039 ∨ c = 1000) M M2 ∧ gml M2 115 = gml M 115 ∧ gmi M2 116 = gmi M 116 ∧ gmi M2 100 39 = nI A ∧ ∀ j, j < 248 → gmi M2 113 j = gmi M 117 (248 * A + j)) := by
  have e39 : gmi (gwI M 100 0 0) 100 39 = nI (A + 1) := by rw [gmi_I, va_up_ne _ _ (by decide)]; exact hA
  refine gMet.of hx (by decide) (Nat.le_of_ble_eq_true rfl) ?_
  refine g_aload_n dX11_undo_0 rfl rfl rfl ?_
  refine g_iconst (v := 0) dX11_undo_1 (by decide) rfl ?_
  refine g_putI dX11_undo_2 fp_X11_90 rfl rfl rfl (k100 hL) rfl ?_
  refine g_aload_n dX11_undo_5 rfl rfl rfl ?_
  refine g_getI dX11_undo_6 ff_X11_294 rfl (k100 (gLay_I hL)) rfl ?_
  rw [e39]
  refine g_if_ne (tgt := 14) dX11_undo_9 (by decide) rfl (fun _ => ?_) (fun h_ => absurd h_ (fun q => absurd ((qeq (A + 1) 0 rfl rfl (by omega) (by decide)).mp q) (by omega)))
  refine g_aload_n dX11_undo_14 rfl rfl rfl ?_
  refine g_dup dX11_undo_15 rfl rfl ?_
  refine g_getI dX11_undo_16 ff_X11_294 rfl (k100 (gLay_I hL)) rfl ?_
  refine g_iconst (v := 1) dX11_undo_19 (by decide) rfl ?_
  refine g_isub dX11_undo_20 rfl ?_
  rw [e39, nI_pred]
  refine g_putI dX11_undo_21 fp_X11_294 rfl rfl rfl (k100 (gLay_I hL)) rfl ?_
  refine g_iconst (v := 0) dX11_undo_24 (by decide) rfl ?_
  refine g_istore_n dX11_undo_25 rfl (by decide) rfl ?_
  have hb : xFr (fun c => c = 113 ∨ c = 1039 ∨ c = 1000) M (gwI (gwI M 100 0 0) 100 39 (nI A)) := (xFr.wf (Or.inr (Or.inr rfl))).tr (xFr.wf (Or.inr (Or.inl rfl)))
  have f39 : gmi (gwI (gwI M 100 0 0) 100 39 (nI A)) 100 39 = nI A := by rw [gmi_I, va_up_self]
  have f117 : gmi (gwI (gwI M 100 0 0) 100 39 (nI A)) 117 = gmi M 117 := by rw [gmi_In _ _ _ (by decide), gmi_In _ _ _ (by decide)]
  have f116 : gmi (gwI (gwI M 100 0 0) 100 39 (nI A)) 116 = gmi M 116 := by rw [gmi_In _ _ _ (by decide), gmi_In _ _ _ (by decide)]
  have f115 : gml (gwI (gwI M 100 0 0) 100 39 (nI A)) 115 = gml M 115 := rfl
  generalize gwI (gwI M 100 0 0) 100 39 (nI A) = M1 at hb f39 f117 f116 f115 ⊢
  have hL1 := hb.lay hL
  refine g_loopM (fun i => [(0, .ref 100), (1, .int (nI i))]) (fun i M2 => gFr (fun c => c = 113) M1 M2 ∧ ∀ j, j < i → gmi M2 113 j = gmi M 117 (248 * A + j)) 248 0 (by decide) ⟨rfl, rfl, trivial⟩ ⟨gFr.rf, fun j hj => absurd hj (by omega)⟩ (fun M2 hI => ?_) (fun i M2 _ hi hI ih => ?_)
  · obtain ⟨g1, g2⟩ := hI
    have g39 : gmi M2 100 39 = nI A := by rw [g1.2.2.2 100 (by decide)]; exact f39
    refine g_iload_n dX11_undo_26 rfl rfl rfl ?_
    refine g_sipush (v := 248) dX11_undo_27 (by decide) rfl ?_
    refine g_icmp_ge (tgt := 60) dX11_undo_30 (by decide) rfl (fun _ => ?_) (fun h_ => absurd (nI_le (Nat.le_refl 248) (by decide)) h_)
    refine g_aload_n dX11_undo_60 rfl rfl rfl ?_
    refine g_getI dX11_undo_61 ff_X11_294 rfl (k100 (g1.lay hL1)) rfl ?_
    rw [g39]
    exact g_iret dX11_undo_64 rfl (by first | rfl | exact b01 | exact nb01 hv01) (⟨rfl, hb.tr ((g1.x (by decide)).mono (fun c q => Or.inl q)), (g1.2.2.1 115).trans f115, (g1.2.2.2 116 (by decide)).trans f116, g39, g2⟩)
  · obtain ⟨g1, g2⟩ := hI
    have g39 : gmi M2 100 39 = nI A := by rw [g1.2.2.2 100 (by decide)]; exact f39
    refine g_iload_n dX11_undo_26 rfl rfl rfl ?_
    refine g_sipush (v := 248) dX11_undo_27 (by decide) rfl ?_
    refine g_icmp_ge (tgt := 60) dX11_undo_30 (by decide) rfl (fun h_ => absurd h_ (nI_ge (b := 248) hi (by decide))) (fun _ => ?_)
    refine g_aload_n dX11_undo_33 rfl rfl rfl ?_
    refine g_getR dX11_undo_34 ff_X11_61 rfl (k100 (g1.lay hL1)) (r100_32 (g1.lay hL1)) rfl ?_
    refine g_iload_n dX11_undo_37 rfl rfl rfl ?_
    refine g_aload_n dX11_undo_38 rfl rfl rfl ?_
    refine g_getR dX11_undo_39 ff_X11_81 rfl (k100 (g1.lay hL1)) (r100_38 (g1.lay hL1)) rfl ?_
    refine g_sipush (v := 248) dX11_undo_42 (by decide) rfl ?_
    refine g_aload_n dX11_undo_45 rfl rfl rfl ?_
    refine g_getI dX11_undo_46 ff_X11_294 rfl (k100 (g1.lay hL1)) rfl ?_
    refine g_imul dX11_undo_49 rfl ?_
    refine g_iload_n dX11_undo_50 rfl rfl rfl ?_
    rw [g39, show (248 : Int32) = nI 248 from rfl, pk_mul]
    refine g_iadd dX11_undo_51 rfl ?_
    rw [nI_add]
    refine g_iald (i := (248 * A + i)) dX11_undo_52 (k117 (g1.lay hL1)) (l117 (g1.lay hL1)) (nI_toInt (by omega)) (by omega) rfl ?_
    rw [g1.2.2.2 117 (by decide), f117]
    refine g_iast (i := i) dX11_undo_53 (k113 (g1.lay hL1)) (l113 (g1.lay hL1)) (nI_toInt (by omega)) (by omega) rfl ?_
    refine g_iincV (c := 1) dX11_undo_54 rfl (by decide) (by decide) rfl ?_
    refine g_goto (tgt := 26) dX11_undo_57 (by decide) ?_
    refine g_go (ih _ ⟨g1.tr (gFr.wI rfl), fun j hj => ?_⟩) ⟨rfl, by rw [← nI_1 i]; rfl, trivial⟩
    rw [gmi_I]
    by_cases e1 : j = i
    · rw [e1, va_up_self]
    · rw [va_up_ne _ _ e1]; exact g2 j (by omega)
set_option maxRecDepth 20000 in
theorem r_image (hx : gXok X) (h0 : R0 Mc M n E EV) : gPos X (d + 0) yX11_image cX11_image 2 (some .int) [.ref 100] M (fun v M2 => v = some (.int (if gmi Mc 3 7 = 0 then -1 else gmi M 113 65)) ∧ (gmi Mc 3 7 = 0 → M2 = gwI M 100 0 0) ∧ (¬ gmi Mc 3 7 = 0 → xFr (fun c => c = 119 ∨ c = 1046 ∨ c = 1000) M M2 ∧ gml M2 115 = gml M 115 ∧ gmi M2 116 = gmi M 116 ∧ gmi M2 100 46 = 1 ∧ ∀ j, j < 248 → gmi M2 119 j = gmi M 113 j)) := by
  have hL := h0.1.1
  have e26 : gmi (gwI M 100 0 0) 100 26 = gmi Mc 3 7 := by rw [gmi_I, va_up_ne _ _ (by decide)]; exact h0.2.2.1
  refine gMet.of hx (by decide) (Nat.le_of_ble_eq_true rfl) ?_
  by_cases hp : gmi Mc 3 7 = 0
  · rw [if_pos hp]
    refine g_aload_n dX11_image_0 rfl rfl rfl ?_
    refine g_iconst (v := 0) dX11_image_1 (by decide) rfl ?_
    refine g_putI dX11_image_2 fp_X11_90 rfl rfl rfl (k100 hL) rfl ?_
    refine g_aload_n dX11_image_5 rfl rfl rfl ?_
    refine g_getI dX11_image_6 ff_X11_285 rfl (k100 (gLay_I hL)) rfl ?_
    rw [e26]
    refine g_if_ne (tgt := 14) dX11_image_9 (by decide) rfl (fun h_ => absurd (hp) h_) (fun _ => ?_)
    refine g_iconst (v := -1) dX11_image_12 (by decide) rfl ?_
    exact g_iret dX11_image_13 rfl (by first | rfl | exact b01 | exact nb01 hv01) (⟨rfl, fun _ => rfl, fun q => absurd hp q⟩)
  · rw [if_neg hp]
    refine g_aload_n dX11_image_0 rfl rfl rfl ?_
    refine g_iconst (v := 0) dX11_image_1 (by decide) rfl ?_
    refine g_putI dX11_image_2 fp_X11_90 rfl rfl rfl (k100 hL) rfl ?_
    refine g_aload_n dX11_image_5 rfl rfl rfl ?_
    refine g_getI dX11_image_6 ff_X11_285 rfl (k100 (gLay_I hL)) rfl ?_
    rw [e26]
    refine g_if_ne (tgt := 14) dX11_image_9 (by decide) rfl (fun _ => ?_) (fun h_ => absurd h_ (hp))
    refine g_iconst (v := 0) dX11_image_14 (by decide) rfl ?_
    refine g_istore_n dX11_image_15 rfl (by decide) rfl ?_
    have hb : xFr (fun c => c = 119 ∨ c = 1046 ∨ c = 1000) M (gwI M 100 0 0) := xFr.wf (Or.inr (Or.inr rfl))
    have f113 : gmi (gwI M 100 0 0) 113 = gmi M 113 := gmi_In _ _ _ (by decide)
    have f116 : gmi (gwI M 100 0 0) 116 = gmi M 116 := gmi_In _ _ _ (by decide)
    have f115 : gml (gwI M 100 0 0) 115 = gml M 115 := rfl
    generalize gwI M 100 0 0 = M1 at hb f113 f116 f115 ⊢
    have hL1 := hb.lay hL
    refine g_loopM (fun i => [(0, .ref 100), (1, .int (nI i))]) (fun i M2 => gFr (fun c => c = 119) M1 M2 ∧ ∀ j, j < i → gmi M2 119 j = gmi M 113 j) 248 0 (by decide) ⟨rfl, rfl, trivial⟩ ⟨gFr.rf, fun j hj => absurd hj (by omega)⟩ (fun M2 hI => ?_) (fun i M2 _ hi hI ih => ?_)
    · obtain ⟨g1, g2⟩ := hI
      refine g_iload_n dX11_image_16 rfl rfl rfl ?_
      refine g_sipush (v := 248) dX11_image_17 (by decide) rfl ?_
      refine g_icmp_ge (tgt := 41) dX11_image_20 (by decide) rfl (fun _ => ?_) (fun h_ => absurd (nI_le (Nat.le_refl 248) (by decide)) h_)
      refine g_aload_n dX11_image_41 rfl rfl rfl ?_
      refine g_iconst (v := 1) dX11_image_42 (by decide) rfl ?_
      refine g_putI dX11_image_43 fp_X11_297 rfl rfl rfl (k100 (g1.lay hL1)) rfl ?_
      refine g_aload_n dX11_image_46 rfl rfl rfl ?_
      refine g_getR dX11_image_47 ff_X11_61 rfl (k100 (gLay_I (g1.lay hL1))) (r100_32 (gLay_I (g1.lay hL1))) rfl ?_
      refine g_bipush (v := 65) dX11_image_50 (by decide) rfl ?_
      refine g_iald (i := 65) dX11_image_52 (k113 (gLay_I (g1.lay hL1))) (l113 (gLay_I (g1.lay hL1))) rfl (by decide) rfl ?_
      rw [gmi_In _ _ _ (show 113 ≠ 100 by decide), g1.2.2.2 113 (by decide), f113]
      exact g_iret dX11_image_53 rfl (by first | rfl | exact b01 | exact nb01 hv01) (⟨rfl, fun q => absurd q hp, fun _ => ⟨(hb.tr ((g1.x (by decide)).mono (fun c q => Or.inl q))).tr (xFr.wf (Or.inr (Or.inl rfl))), (g1.2.2.1 115).trans f115, by rw [gmi_In _ _ _ (by decide)]; exact (g1.2.2.2 116 (by decide)).trans f116, by rw [gmi_I, va_up_self], fun j hj => by rw [gmi_In _ _ _ (by decide)]; exact g2 j hj⟩⟩)
    · obtain ⟨g1, g2⟩ := hI
      refine g_iload_n dX11_image_16 rfl rfl rfl ?_
      refine g_sipush (v := 248) dX11_image_17 (by decide) rfl ?_
      refine g_icmp_ge (tgt := 41) dX11_image_20 (by decide) rfl (fun h_ => absurd h_ (nI_ge (b := 248) hi (by decide))) (fun _ => ?_)
      refine g_aload_n dX11_image_23 rfl rfl rfl ?_
      refine g_getR dX11_image_24 ff_X11_87 rfl (k100 (g1.lay hL1)) (r100_45 (g1.lay hL1)) rfl ?_
      refine g_iload_n dX11_image_27 rfl rfl rfl ?_
      refine g_aload_n dX11_image_28 rfl rfl rfl ?_
      refine g_getR dX11_image_29 ff_X11_61 rfl (k100 (g1.lay hL1)) (r100_32 (g1.lay hL1)) rfl ?_
      refine g_iload_n dX11_image_32 rfl rfl rfl ?_
      refine g_iald (i := i) dX11_image_33 (k113 (g1.lay hL1)) (l113 (g1.lay hL1)) (nI_toInt (by omega)) (by omega) rfl ?_
      rw [g1.2.2.2 113 (by decide), f113]
      refine g_iast (i := i) dX11_image_34 (k119 (g1.lay hL1)) (l119 (g1.lay hL1)) (nI_toInt (by omega)) (by omega) rfl ?_
      refine g_iincV (c := 1) dX11_image_35 rfl (by decide) (by decide) rfl ?_
      refine g_goto (tgt := 16) dX11_image_38 (by decide) ?_
      refine g_go (ih _ ⟨g1.tr (gFr.wI rfl), fun j hj => ?_⟩) ⟨rfl, by rw [← nI_1 i]; rfl, trivial⟩
      rw [gmi_I]
      by_cases e1 : j = i
      · rw [e1, va_up_self]
      · rw [va_up_ne _ _ e1]; exact g2 j (by omega)
set_option maxRecDepth 20000 in
theorem r_back (hx : gXok X) (hL : gLay M) : gPos X (d + 0) yX11_back cX11_back 2 (some .int) [.ref 100] M (fun v M2 => v = some (.int (if gmi M 100 46 = 0 then -1 else gmi M 119 65)) ∧ (gmi M 100 46 = 0 → M2 = gwI M 100 0 0) ∧ (¬ gmi M 100 46 = 0 → xFr (fun c => c = 113 ∨ c = 1039 ∨ c = 1000) M M2 ∧ gml M2 115 = gml M 115 ∧ gmi M2 116 = gmi M 116 ∧ gmi M2 100 39 = 0 ∧ ∀ j, j < 248 → gmi M2 113 j = gmi M 119 j)) := by
  have e46 : gmi (gwI M 100 0 0) 100 46 = gmi M 100 46 := by rw [gmi_I, va_up_ne _ _ (by decide)]
  refine gMet.of hx (by decide) (Nat.le_of_ble_eq_true rfl) ?_
  by_cases hp : gmi M 100 46 = 0
  · rw [if_pos hp]
    refine g_aload_n dX11_back_0 rfl rfl rfl ?_
    refine g_iconst (v := 0) dX11_back_1 (by decide) rfl ?_
    refine g_putI dX11_back_2 fp_X11_90 rfl rfl rfl (k100 hL) rfl ?_
    refine g_aload_n dX11_back_5 rfl rfl rfl ?_
    refine g_getI dX11_back_6 ff_X11_297 rfl (k100 (gLay_I hL)) rfl ?_
    rw [e46]
    refine g_if_ne (tgt := 14) dX11_back_9 (by decide) rfl (fun h_ => absurd (hp) h_) (fun _ => ?_)
    refine g_iconst (v := -1) dX11_back_12 (by decide) rfl ?_
    exact g_iret dX11_back_13 rfl (by first | rfl | exact b01 | exact nb01 hv01) (⟨rfl, fun _ => rfl, fun q => absurd hp q⟩)
  · rw [if_neg hp]
    refine g_aload_n dX11_back_0 rfl rfl rfl ?_
    refine g_iconst (v := 0) dX11_back_1 (by decide) rfl ?_
    refine g_putI dX11_back_2 fp_X11_90 rfl rfl rfl (k100 hL) rfl ?_
    refine g_aload_n dX11_back_5 rfl rfl rfl ?_
    refine g_getI dX11_back_6 ff_X11_297 rfl (k100 (gLay_I hL)) rfl ?_
    rw [e46]
    refine g_if_ne (tgt := 14) dX11_back_9 (by decide) rfl (fun _ => ?_) (fun h_ => absurd h_ (hp))
    refine g_iconst (v := 0) dX11_back_14 (by decide) rfl ?_
    refine g_istore_n dX11_back_15 rfl (by decide) rfl ?_
    have hb : xFr (fun c => c = 113 ∨ c = 1039 ∨ c = 1000) M (gwI M 100 0 0) := xFr.wf (Or.inr (Or.inr rfl))
    have f119 : gmi (gwI M 100 0 0) 119 = gmi M 119 := gmi_In _ _ _ (by decide)
    have f116 : gmi (gwI M 100 0 0) 116 = gmi M 116 := gmi_In _ _ _ (by decide)
    have f115 : gml (gwI M 100 0 0) 115 = gml M 115 := rfl
    generalize gwI M 100 0 0 = M1 at hb f119 f116 f115 ⊢
    have hL1 := hb.lay hL
    refine g_loopM (fun i => [(0, .ref 100), (1, .int (nI i))]) (fun i M2 => gFr (fun c => c = 113) M1 M2 ∧ ∀ j, j < i → gmi M2 113 j = gmi M 119 j) 248 0 (by decide) ⟨rfl, rfl, trivial⟩ ⟨gFr.rf, fun j hj => absurd hj (by omega)⟩ (fun M2 hI => ?_) (fun i M2 _ hi hI ih => ?_)
    · obtain ⟨g1, g2⟩ := hI
      refine g_iload_n dX11_back_16 rfl rfl rfl ?_
      refine g_sipush (v := 248) dX11_back_17 (by decide) rfl ?_
      refine g_icmp_ge (tgt := 41) dX11_back_20 (by decide) rfl (fun _ => ?_) (fun h_ => absurd (nI_le (Nat.le_refl 248) (by decide)) h_)
      refine g_aload_n dX11_back_41 rfl rfl rfl ?_
      refine g_iconst (v := 0) dX11_back_42 (by decide) rfl ?_
      refine g_putI dX11_back_43 fp_X11_294 rfl rfl rfl (k100 (g1.lay hL1)) rfl ?_
      refine g_aload_n dX11_back_46 rfl rfl rfl ?_
      refine g_getR dX11_back_47 ff_X11_61 rfl (k100 (gLay_I (g1.lay hL1))) (r100_32 (gLay_I (g1.lay hL1))) rfl ?_
      refine g_bipush (v := 65) dX11_back_50 (by decide) rfl ?_
      refine g_iald (i := 65) dX11_back_52 (k113 (gLay_I (g1.lay hL1))) (l113 (gLay_I (g1.lay hL1))) rfl (by decide) rfl ?_
      rw [gmi_In _ _ _ (show 113 ≠ 100 by decide), g2 65 (by decide)]
      exact g_iret dX11_back_53 rfl (by first | rfl | exact b01 | exact nb01 hv01) (⟨rfl, fun q => absurd q hp, fun _ => ⟨(hb.tr ((g1.x (by decide)).mono (fun c q => Or.inl q))).tr (xFr.wf (Or.inr (Or.inl rfl))), (g1.2.2.1 115).trans f115, by rw [gmi_In _ _ _ (by decide)]; exact (g1.2.2.2 116 (by decide)).trans f116, by rw [gmi_I, va_up_self], fun j hj => by rw [gmi_In _ _ _ (by decide)]; exact g2 j hj⟩⟩)
    · obtain ⟨g1, g2⟩ := hI
      refine g_iload_n dX11_back_16 rfl rfl rfl ?_
      refine g_sipush (v := 248) dX11_back_17 (by decide) rfl ?_
      refine g_icmp_ge (tgt := 41) dX11_back_20 (by decide) rfl (fun h_ => absurd h_ (nI_ge (b := 248) hi (by decide))) (fun _ => ?_)
      refine g_aload_n dX11_back_23 rfl rfl rfl ?_
      refine g_getR dX11_back_24 ff_X11_61 rfl (k100 (g1.lay hL1)) (r100_32 (g1.lay hL1)) rfl ?_
      refine g_iload_n dX11_back_27 rfl rfl rfl ?_
      refine g_aload_n dX11_back_28 rfl rfl rfl ?_
      refine g_getR dX11_back_29 ff_X11_87 rfl (k100 (g1.lay hL1)) (r100_45 (g1.lay hL1)) rfl ?_
      refine g_iload_n dX11_back_32 rfl rfl rfl ?_
      refine g_iald (i := i) dX11_back_33 (k119 (g1.lay hL1)) (l119 (g1.lay hL1)) (nI_toInt (by omega)) (by omega) rfl ?_
      rw [g1.2.2.2 119 (by decide), f119]
      refine g_iast (i := i) dX11_back_34 (k113 (g1.lay hL1)) (l113 (g1.lay hL1)) (nI_toInt (by omega)) (by omega) rfl ?_
      refine g_iincV (c := 1) dX11_back_35 rfl (by decide) (by decide) rfl ?_
      refine g_goto (tgt := 16) dX11_back_38 (by decide) ?_
      refine g_go (ih _ ⟨g1.tr (gFr.wI rfl), fun j hj => ?_⟩) ⟨rfl, by rw [← nI_1 i]; rfl, trivial⟩
      rw [gmi_I]
      by_cases e1 : j = i
      · rw [e1, va_up_self]
      · rw [va_up_ne _ _ e1]; exact g2 j (by omega)
end H5
