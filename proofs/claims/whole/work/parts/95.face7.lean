/-- some reading on: the row of now is F -/
def QS (S : Nat → Prop) (Mc M M1 : gM) (n : Nat) (E : Nat → LE) (EV : EVt) (F : Nat → Int32) : Prop := xFr S M M1 ∧ R0 Mc M1 n E EV ∧ RowR M1 113 F
section H7
variable {X : gX} {Mc M : gM} {d n A : Nat} {E : Nat → LE} {EV : EVt} {F : Nat → Int32} {S : Nat → Prop}
theorem QS.q {M1 M2 : gM} (h : QS S Mc M M1 n E EV F) (h1 : qFr M1 M2) (h2 : RQ M2 n E EV) : QS S Mc M M2 n E EV F := ⟨h.1.tr h1.x, h.2.1.fr h1 h2, h.2.2.fr h1 (Or.inl rfl)⟩
theorem QS.th (h0 : R0 Mc M n E EV) (hN : RowR M 113 F) (hS : S 1000) : QS S Mc M (gwI M 100 0 0) n E EV F := ⟨xFr.wf hS, h0.th, hN.wf (by decide)⟩
theorem gub_rd {p b : Nat} : (gub Mc EV p b = true) ↔ 0 < rd EV (nI (heft Mc b)) (gmi Mc 5 p) (gmi Mc 25 p) (ibc (nI b)) (gmi Mc 25 66) (gmi Mc 25 (6 + p)) := by unfold gub; rw [decide_eq_true_iff]
set_option maxRecDepth 20000 in
set_option maxHeartbeats 1000000 in
theorem r_bargain (hx : gXok X) (hZ : gSt X) (h0 : R0 Mc M n E EV) (hN : RNow Mc M) {x o : Int32} : gPos X (d + 35) yX11_bargain cX11_bargain 6 (some .int) [.ref 100, .int x, .int o] M (fun v M2 => v = some (.int (barV Mc EV x o)) ∧ xFr (fun c => c = 1000) M M2 ∧ RQ M2 n E EV) := by
  have hL := h0.1.1
  have hT := h0.2.1
  obtain ⟨hrow, hlog, hRng, hlf, -, D0, hD0, h66⟩ := hN
  have hQ0 : QS (fun c => c = 1000) Mc M (gwI M 100 0 0) n E EV (gmi Mc 25) := QS.th h0 hrow rfl
  have h1 := hQ0.2.1
  obtain ⟨e26, e27, h6, h8⟩ := h1.e26
  refine gMet.of hx (by decide) (Nat.le_of_ble_eq_true rfl) ?_
  unfold barV
  by_cases hc : inP Mc x ∧ inP Mc o ∧ ¬ x = o
  · rw [if_pos hc]
    obtain ⟨hp, ho, hne⟩ := hc
    obtain ⟨ex, lx⟩ := in_row hT.1.1 (by omega) hp
    obtain ⟨eo, lo⟩ := in_row hT.1.1 (by omega) ho
    have m6 := Nat.lt_of_lt_of_le lx h6
    have o6 := Nat.lt_of_lt_of_le lo h6
    generalize tn x = p at *
    generalize tn o = q at *
    subst ex eo
    have ha := dset_lt hT 25 p 0
    have hb := dset_lt hT 25 q 0
    have s1 := r_setOf (d := d + 33) hx h1 (Or.inl rfl) hQ0.2.2 hlf m6
    have s2 := r_setOf (d := d + 33) hx h1 (Or.inl rfl) hQ0.2.2 hlf o6
    rw [show dsF (gmi Mc 25) (tv Mc 3 8) p 0 = dset Mc 25 p 0 from rfl] at s1
    rw [show dsF (gmi Mc 25) (tv Mc 3 8) q 0 = dset Mc 25 q 0 from rfl] at s2
    refine g_aload_n dX11_bargain_0 rfl rfl rfl ?_
    refine g_iconst (v := 0) dX11_bargain_1 (by decide) rfl ?_
    refine g_putI dX11_bargain_2 fp_X11_90 rfl rfl rfl (k100 hL) rfl ?_
    refine g_aload_n dX11_bargain_5 rfl rfl rfl ?_
    refine g_iload_n dX11_bargain_6 rfl rfl rfl ?_
    refine g_callVdi (ci := 11) dX11_bargain_7 lm_X11_342 mv_X11_isPerson (h1.isP (d := d + 34) hx) rfl rfl (k100 (gLay_I hL)) rfl rfl (Nat.le_of_ble_eq_true rfl) (gFit_room (by omega)) rfl ?_
    rw [ib_t hp]
    refine g_if_eq (tgt := 26) dX11_bargain_10 (by decide) rfl (fun h_ => absurd h_ (by decide)) (fun _ => ?_)
    refine g_aload_n dX11_bargain_13 rfl rfl rfl ?_
    refine g_iload_n dX11_bargain_14 rfl rfl rfl ?_
    refine g_callVdi (ci := 11) dX11_bargain_15 lm_X11_342 mv_X11_isPerson (h1.isP (d := d + 34) hx) rfl rfl (k100 (gLay_I hL)) rfl rfl (Nat.le_of_ble_eq_true rfl) (gFit_room (by omega)) rfl ?_
    rw [ib_t ho]
    refine g_if_eq (tgt := 26) dX11_bargain_18 (by decide) rfl (fun h_ => absurd h_ (by decide)) (fun _ => ?_)
    refine g_iload_n dX11_bargain_21 rfl rfl rfl ?_
    refine g_iload_n dX11_bargain_22 rfl rfl rfl ?_
    refine g_icmp_ne (tgt := 28) dX11_bargain_23 (by decide) rfl (fun _ => ?_) (fun h_ => absurd h_ (hne))
    refine g_aload_n dX11_bargain_28 rfl rfl rfl ?_
    refine g_aload_n dX11_bargain_29 rfl rfl rfl ?_
    refine g_getR dX11_bargain_30 ff_X11_61 rfl (k100 (gLay_I hL)) (r100_32 (gLay_I hL)) rfl ?_
    refine g_iload_n dX11_bargain_33 rfl rfl rfl ?_
    refine g_callVdi (ci := 11) dX11_bargain_34 lm_X11_335 mv_X11_setOf (s1) rfl rfl (k100 (gLay_I hL)) rfl rfl (Nat.le_of_ble_eq_true rfl) (gFit_room (by omega)) rfl ?_
    refine g_istore_n dX11_bargain_37 rfl (by decide) rfl ?_
    refine g_aload_n dX11_bargain_38 rfl rfl rfl ?_
    refine g_aload_n dX11_bargain_39 rfl rfl rfl ?_
    refine g_getR dX11_bargain_40 ff_X11_61 rfl (k100 (gLay_I hL)) (r100_32 (gLay_I hL)) rfl ?_
    refine g_iload_n dX11_bargain_43 rfl rfl rfl ?_
    refine g_callVdi (ci := 11) dX11_bargain_44 lm_X11_335 mv_X11_setOf (s2) rfl rfl (k100 (gLay_I hL)) rfl rfl (Nat.le_of_ble_eq_true rfl) (gFit_room (by omega)) rfl ?_
    refine g_istore dX11_bargain_47 (by decide) rfl ?_
    refine g_iconst (v := 0) dX11_bargain_49 (by decide) rfl ?_
    refine g_istore dX11_bargain_50 (by decide) rfl ?_
    refine g_loopM (fun i => [(0, .ref 100), (1, .int (nI p)), (2, .int (nI q)), (3, .int (nI (dset Mc 25 p 0))), (4, .int (nI (dset Mc 25 q 0))), (5, .int (nI i))]) (fun i M1 => QS (fun c => c = 1000) Mc M M1 n E EV (gmi Mc 25) ∧ ∀ e, e < i → (!trad Mc EV p q e) = true) (tv Mc 3 8) 0 (by omega) ⟨rfl, rfl, rfl, rfl, rfl, rfl, trivial⟩ ⟨hQ0, fun e he => absurd he (by omega)⟩ (fun M1 hI => ?_) (fun i M1 _ hi hI ih => ?_)
    · have e27' := hI.1.2.1.e26.2.1
      refine g_iload dX11_bargain_52 rfl rfl ?_
      refine g_aload_n dX11_bargain_54 rfl rfl rfl ?_
      refine g_getI dX11_bargain_55 ff_X11_288 rfl (k100 hI.1.2.1.1.1) rfl ?_
      rw [e27']
      refine g_icmp_ge (tgt := 128) dX11_bargain_58 (by decide) rfl (fun _ => ?_) (fun h_ => absurd (nI_le (Nat.le_refl _) (by omega)) h_)
      refine g_iconst (v := -1) dX11_bargain_128 (by decide) rfl ?_
      exact g_iret dX11_bargain_129 rfl (by first | rfl | exact b01 | exact nb01 hv01) (⟨by rw [sfrom_none hI.2], hI.1.1, hI.1.2.1.1⟩)
    · have e27' := hI.1.2.1.e26.2.1
      have h2i : 2 ^ i < 256 := Nat.lt_of_lt_of_le (Nat.pow_lt_pow_right (by decide) (show i < 8 by omega)) (by decide)
      have etr : trad Mc EV p q i = (((dset Mc 25 p 0).testBit i && !(dset Mc 25 q 0).testBit i) && (gub Mc EV p (bdif (dset Mc 25 p 0) (2 ^ i)) && gub Mc EV q (dset Mc 25 q 0 ||| 2 ^ i))) := rfl
      have next : ∀ M2, QS (fun c => c = 1000) Mc M M2 n E EV (gmi Mc 25) → ¬ trad Mc EV p q i = true → gW X (gRoom (d + 35) 0 0) (gZ X gN0 0 0 (fun v M2 => v = some (.int (sfrom (fun e => !trad Mc EV p q e) (tv Mc 3 8) 0)) ∧ xFr (fun c => c = 1000) M M2 ∧ RQ M2 n E EV)) gN0 yX11_bargain cX11_bargain 6 (some .int) 122 [(0, .ref 100), (1, .int (nI p)), (2, .int (nI q)), (3, .int (nI (dset Mc 25 p 0))), (4, .int (nI (dset Mc 25 q 0))), (5, .int (nI i))] [] M2 0 0 := by
        intro M2 hq2 hz
        refine g_iincV (c := 1) dX11_bargain_122 rfl (by decide) (by decide) rfl ?_
        refine g_goto (tgt := 52) dX11_bargain_125 (by decide) ?_
        refine g_go (ih M2 ⟨hq2, fun e he => ?_⟩) ⟨rfl, rfl, rfl, rfl, rfl, by rw [← nI_1 i]; rfl, trivial⟩
        by_cases e1 : e = i
        · rw [e1, Bool.eq_false_iff.mpr hz]; rfl
        · exact hI.2 e (by omega)
      refine g_iload dX11_bargain_52 rfl rfl ?_
      refine g_aload_n dX11_bargain_54 rfl rfl rfl ?_
      refine g_getI dX11_bargain_55 ff_X11_288 rfl (k100 hI.1.2.1.1.1) rfl ?_
      rw [e27']
      refine g_icmp_ge (tgt := 128) dX11_bargain_58 (by decide) rfl (fun h_ => absurd h_ (nI_ge hi (by omega))) (fun _ => ?_)
      refine g_iload_n dX11_bargain_61 rfl rfl rfl ?_
      refine g_iload dX11_bargain_62 rfl rfl ?_
      refine g_callSdi dX11_bargain_64 lm_X11_223 mv_X11_has (r_has (d := d + 34) hx (show dset Mc 25 p 0 < 2 ^ 31 by omega) (show i < 32 by omega)) rfl rfl (Nat.le_of_ble_eq_true rfl) (gFit_room (by omega)) rfl ?_
      refine g_ieq (tgt := 122) dX11_bargain_67 (by decide) rfl (fun h67 => ?_) (fun h67 => ?_)
      · first
          | exact g_go (next M1 hI.1 (fun z => h67 (by rw [etr] at z; exact (Bool.and_eq_true _ _ ▸ (Bool.and_eq_true _ _ ▸ z : _ ∧ _).1 : _ ∧ _).1))) ⟨rfl, rfl, rfl, rfl, rfl, rfl, trivial⟩
          | exact g_go (next M1 hI.1 (fun z => by rw [etr, h77] at z; simp at z)) ⟨rfl, rfl, rfl, rfl, rfl, rfl, trivial⟩
          | exact g_go (next _ hqb (fun z => Int32.not_lt.mpr h116 (gub_rd.mp (by rw [etr] at z; exact (Bool.and_eq_true _ _ ▸ (Bool.and_eq_true _ _ ▸ z : _ ∧ _).2 : _ ∧ _).2)))) ⟨rfl, rfl, rfl, rfl, rfl, rfl, trivial⟩
          | exact g_go (next _ hqa (fun z => Int32.not_lt.mpr h97 (gub_rd.mp (by rw [etr] at z; exact (Bool.and_eq_true _ _ ▸ (Bool.and_eq_true _ _ ▸ z : _ ∧ _).2 : _ ∧ _).1)))) ⟨rfl, rfl, rfl, rfl, rfl, rfl, trivial⟩
      · refine g_iload dX11_bargain_70 rfl rfl ?_
        refine g_iload dX11_bargain_72 rfl rfl ?_
        refine g_callSdi dX11_bargain_74 lm_X11_223 mv_X11_has (r_has (d := d + 34) hx (show dset Mc 25 q 0 < 2 ^ 31 by omega) (show i < 32 by omega)) rfl rfl (Nat.le_of_ble_eq_true rfl) (gFit_room (by omega)) rfl ?_
        refine g_ine (tgt := 122) dX11_bargain_77 (by decide) rfl (fun h77 => ?_) (fun h77 => ?_)
        · first
            | exact g_go (next M1 hI.1 (fun z => h67 (by rw [etr] at z; exact (Bool.and_eq_true _ _ ▸ (Bool.and_eq_true _ _ ▸ z : _ ∧ _).1 : _ ∧ _).1))) ⟨rfl, rfl, rfl, rfl, rfl, rfl, trivial⟩
            | exact g_go (next M1 hI.1 (fun z => by rw [etr, h77] at z; simp at z)) ⟨rfl, rfl, rfl, rfl, rfl, rfl, trivial⟩
            | exact g_go (next _ hqb (fun z => Int32.not_lt.mpr h116 (gub_rd.mp (by rw [etr] at z; exact (Bool.and_eq_true _ _ ▸ (Bool.and_eq_true _ _ ▸ z : _ ∧ _).2 : _ ∧ _).2)))) ⟨rfl, rfl, rfl, rfl, rfl, rfl, trivial⟩
            | exact g_go (next _ hqa (fun z => Int32.not_lt.mpr h97 (gub_rd.mp (by rw [etr] at z; exact (Bool.and_eq_true _ _ ▸ (Bool.and_eq_true _ _ ▸ z : _ ∧ _).2 : _ ∧ _).1)))) ⟨rfl, rfl, rfl, rfl, rfl, rfl, trivial⟩
        · refine g_aload_n dX11_bargain_80 rfl rfl rfl ?_
          refine g_aload_n dX11_bargain_81 rfl rfl rfl ?_
          refine g_getR dX11_bargain_82 ff_X11_61 rfl (k100 hI.1.2.1.1.1) (r100_32 hI.1.2.1.1.1) rfl ?_
          refine g_iload_n dX11_bargain_85 rfl rfl rfl ?_
          refine g_iload_n dX11_bargain_86 rfl rfl rfl ?_
          refine g_iconst (v := 1) dX11_bargain_87 (by decide) rfl ?_
          refine g_iload dX11_bargain_88 rfl rfl ?_
          refine g_ishl dX11_bargain_90 rfl ?_
          refine g_iconst (v := -1) dX11_bargain_91 (by decide) rfl ?_
          refine g_ixor dX11_bargain_92 rfl ?_
          refine g_iand dX11_bargain_93 rfl ?_
          rw [bt_one i (by omega), bt_andn]
          refine g_callVq (ci := 11) dX11_bargain_94 lm_X11_339 mv_X11_readWith (r_readWith (d := d) hx hZ hI.1.2.1 (Or.inl rfl) hI.1.2.2 hRng lx (bdif_lt (b := 2 ^ i) ha)) rfl rfl (k100 hI.1.2.1.1.1) rfl rfl (Nat.le_of_ble_eq_true rfl) (gFit_room (by omega)) rfl (fun v M2 hQ => ?_)
          obtain ⟨rfl, hf⟩ := hQ
          have hqa := hI.1.q hf.1 hf.2
          refine g_if_le (tgt := 122) dX11_bargain_97 (by decide) rfl (fun h97 => ?_) (fun h97 => ?_)
          · first
              | exact g_go (next M1 hI.1 (fun z => h67 (by rw [etr] at z; exact (Bool.and_eq_true _ _ ▸ (Bool.and_eq_true _ _ ▸ z : _ ∧ _).1 : _ ∧ _).1))) ⟨rfl, rfl, rfl, rfl, rfl, rfl, trivial⟩
              | exact g_go (next M1 hI.1 (fun z => by rw [etr, h77] at z; simp at z)) ⟨rfl, rfl, rfl, rfl, rfl, rfl, trivial⟩
              | exact g_go (next _ hqb (fun z => Int32.not_lt.mpr h116 (gub_rd.mp (by rw [etr] at z; exact (Bool.and_eq_true _ _ ▸ (Bool.and_eq_true _ _ ▸ z : _ ∧ _).2 : _ ∧ _).2)))) ⟨rfl, rfl, rfl, rfl, rfl, rfl, trivial⟩
              | exact g_go (next _ hqa (fun z => Int32.not_lt.mpr h97 (gub_rd.mp (by rw [etr] at z; exact (Bool.and_eq_true _ _ ▸ (Bool.and_eq_true _ _ ▸ z : _ ∧ _).2 : _ ∧ _).1)))) ⟨rfl, rfl, rfl, rfl, rfl, rfl, trivial⟩
          · refine g_aload_n dX11_bargain_100 rfl rfl rfl ?_
            refine g_aload_n dX11_bargain_101 rfl rfl rfl ?_
            refine g_getR dX11_bargain_102 ff_X11_61 rfl (k100 hqa.2.1.1.1) (r100_32 hqa.2.1.1.1) rfl ?_
            refine g_iload_n dX11_bargain_105 rfl rfl rfl ?_
            refine g_iload dX11_bargain_106 rfl rfl ?_
            refine g_iconst (v := 1) dX11_bargain_108 (by decide) rfl ?_
            refine g_iload dX11_bargain_109 rfl rfl ?_
            refine g_ishl dX11_bargain_111 rfl ?_
            refine g_ior dX11_bargain_112 rfl ?_
            rw [bt_one i (by omega), fa_or]
            refine g_callVq (ci := 11) dX11_bargain_113 lm_X11_339 mv_X11_readWith (r_readWith (d := d) hx hZ hqa.2.1 (Or.inl rfl) hqa.2.2 hRng lo (bt_orlt hb h2i)) rfl rfl (k100 hqa.2.1.1.1) rfl rfl (Nat.le_of_ble_eq_true rfl) (gFit_room (by omega)) rfl (fun v M2 hQ => ?_)
            obtain ⟨rfl, hf⟩ := hQ
            have hqb := hqa.q hf.1 hf.2
            refine g_if_le (tgt := 122) dX11_bargain_116 (by decide) rfl (fun h116 => ?_) (fun h116 => ?_)
            · first
                | exact g_go (next M1 hI.1 (fun z => h67 (by rw [etr] at z; exact (Bool.and_eq_true _ _ ▸ (Bool.and_eq_true _ _ ▸ z : _ ∧ _).1 : _ ∧ _).1))) ⟨rfl, rfl, rfl, rfl, rfl, rfl, trivial⟩
                | exact g_go (next M1 hI.1 (fun z => by rw [etr, h77] at z; simp at z)) ⟨rfl, rfl, rfl, rfl, rfl, rfl, trivial⟩
                | exact g_go (next _ hqb (fun z => Int32.not_lt.mpr h116 (gub_rd.mp (by rw [etr] at z; exact (Bool.and_eq_true _ _ ▸ (Bool.and_eq_true _ _ ▸ z : _ ∧ _).2 : _ ∧ _).2)))) ⟨rfl, rfl, rfl, rfl, rfl, rfl, trivial⟩
                | exact g_go (next _ hqa (fun z => Int32.not_lt.mpr h97 (gub_rd.mp (by rw [etr] at z; exact (Bool.and_eq_true _ _ ▸ (Bool.and_eq_true _ _ ▸ z : _ ∧ _).2 : _ ∧ _).1)))) ⟨rfl, rfl, rfl, rfl, rfl, rfl, trivial⟩
            · refine g_iload dX11_bargain_119 rfl rfl ?_
              exact g_iret dX11_bargain_121 rfl (by first | rfl | exact b01 | exact nb01 hv01) (⟨by rw [sfrom_at hi hI.2 (by rw [etr, h67, Bool.eq_false_iff.mpr h77, gub_rd.mpr (Int32.not_le.mp h97), gub_rd.mpr (Int32.not_le.mp h116)]; rfl)], hqb.1, hqb.2.1.1⟩)
  · rw [if_neg hc]
    refine g_aload_n dX11_bargain_0 rfl rfl rfl ?_
    refine g_iconst (v := 0) dX11_bargain_1 (by decide) rfl ?_
    refine g_putI dX11_bargain_2 fp_X11_90 rfl rfl rfl (k100 hL) rfl ?_
    refine g_aload_n dX11_bargain_5 rfl rfl rfl ?_
    refine g_iload_n dX11_bargain_6 rfl rfl rfl ?_
    refine g_callVdi (ci := 11) dX11_bargain_7 lm_X11_342 mv_X11_isPerson (h1.isP (d := d + 34) hx) rfl rfl (k100 (gLay_I hL)) rfl rfl (Nat.le_of_ble_eq_true rfl) (gFit_room (by omega)) rfl ?_
    refine g_ieq (tgt := 26) dX11_bargain_10 (by decide) rfl (fun h10 => ?_) (fun h10 => ?_)
    · refine g_iconst (v := -1) dX11_bargain_26 (by decide) rfl ?_
      exact g_iret dX11_bargain_27 rfl (by first | rfl | exact b01 | exact nb01 hv01) (⟨rfl, hQ0.1, h1.1⟩)
    · refine g_aload_n dX11_bargain_13 rfl rfl rfl ?_
      refine g_iload_n dX11_bargain_14 rfl rfl rfl ?_
      refine g_callVdi (ci := 11) dX11_bargain_15 lm_X11_342 mv_X11_isPerson (h1.isP (d := d + 34) hx) rfl rfl (k100 (gLay_I hL)) rfl rfl (Nat.le_of_ble_eq_true rfl) (gFit_room (by omega)) rfl ?_
      refine g_ieq (tgt := 26) dX11_bargain_18 (by decide) rfl (fun h18 => ?_) (fun h18 => ?_)
      · refine g_iconst (v := -1) dX11_bargain_26 (by decide) rfl ?_
        exact g_iret dX11_bargain_27 rfl (by first | rfl | exact b01 | exact nb01 hv01) (⟨rfl, hQ0.1, h1.1⟩)
      · refine g_iload_n dX11_bargain_21 rfl rfl rfl ?_
        refine g_iload_n dX11_bargain_22 rfl rfl rfl ?_
        refine g_icmp_ne (tgt := 28) dX11_bargain_23 (by decide) rfl (fun h_ => absurd (Decidable.by_contra (fun z => hc ⟨h10, h18, z⟩)) h_) (fun _ => ?_)
        refine g_iconst (v := -1) dX11_bargain_26 (by decide) rfl ?_
        exact g_iret dX11_bargain_27 rfl (by first | rfl | exact b01 | exact nb01 hv01) (⟨rfl, hQ0.1, h1.1⟩)
set_option maxRecDepth 20000 in
theorem r_skin (hx : gXok X) (hZ : gSt X) (h0 : R0 Mc M n E EV) (hN : RNow Mc M) {x w : Int32} : gPos X (d + 35) yX11_skin cX11_skin 4 (some .int) [.ref 100, .int x, .int w] M (fun v M2 => v = some (.int (if inP Mc x then (if w = 0 then nI (heft Mc (dset Mc 25 (tn x) 0)) else if w = 1 then rd EV (nI (heft Mc (dset Mc 25 (tn x) 0))) (gmi Mc 5 (tn x)) (gmi Mc 25 (tn x)) (ibc (nI (dset Mc 25 (tn x) 0))) (gmi Mc 25 66) (gmi Mc 25 (6 + tn x)) else if w = 2 then ib (gub Mc EV (tn x) (dset Mc 25 (tn x) 0) = true) else -1000000) else -1000000)) ∧ xFr (fun c => c = 1000) M M2 ∧ RQ M2 n E EV) := by
  have hL := h0.1.1
  have hT := h0.2.1
  obtain ⟨hrow, hlog, hRng, hlf, -, D0, hD0, h66⟩ := hN
  have hQ0 : QS (fun c => c = 1000) Mc M (gwI M 100 0 0) n E EV (gmi Mc 25) := QS.th h0 hrow rfl
  have h1 := hQ0.2.1
  refine gMet.of hx (by decide) (Nat.le_of_ble_eq_true rfl) ?_
  by_cases hp : inP Mc x
  · rw [if_pos hp]
    obtain ⟨ex, lx⟩ := in_row hT.1.1 (by have := hT.1.2; omega) hp
    have m6 := Nat.lt_of_lt_of_le lx hT.1.2
    generalize tn x = p at *
    subst ex
    have hg := r_guiltOf (d := d + 32) hx h1 hQ0.2.2 hlf m6
    have s1 := r_setOf (d := d + 33) hx h1 (Or.inl rfl) hQ0.2.2 hlf m6
    rw [show dsF (gmi Mc 25) (tv Mc 3 8) p 0 = dset Mc 25 p 0 from rfl] at s1 hg
    have rw1 := r_readWith (d := d) hx hZ h1 (Or.inl rfl) hQ0.2.2 hRng lx (dset_lt hT 25 p 0)
    by_cases hw : 0 ≤ w ∧ w ≤ 2
    · by_cases w0 : w = 0
      · rw [if_pos w0]
        refine g_aload_n dX11_skin_0 rfl rfl rfl ?_
        refine g_iconst (v := 0) dX11_skin_1 (by decide) rfl ?_
        refine g_putI dX11_skin_2 fp_X11_90 rfl rfl rfl (k100 hL) rfl ?_
        refine g_aload_n dX11_skin_5 rfl rfl rfl ?_
        refine g_iload_n dX11_skin_6 rfl rfl rfl ?_
        refine g_callVdi (ci := 11) dX11_skin_7 lm_X11_342 mv_X11_isPerson (h1.isP (d := d + 34) hx) rfl rfl (k100 (gLay_I hL)) rfl rfl (Nat.le_of_ble_eq_true rfl) (gFit_room (by omega)) rfl ?_
        rw [ib_t hp]
        refine g_if_eq (tgt := 25) dX11_skin_10 (by decide) rfl (fun h_ => absurd h_ (by decide)) (fun _ => ?_)
        refine g_iload_n dX11_skin_13 rfl rfl rfl ?_
        refine g_i2l dX11_skin_14 rfl ?_
        refine g_lconst (v := 0) dX11_skin_15 (by decide) rfl ?_
        refine g_ldc2 dX11_skin_16 lq_X11_266 rfl ?_
        refine g_callSdi dX11_skin_19 lm_X11_211 mv_X11_isIn (r_isIn (d := d + 34) (l := 0) (h := 2) hx rfl (by decide) (by decide)) rfl rfl (Nat.le_of_ble_eq_true rfl) (gFit_room (by omega)) rfl ?_
        rw [ib_t hw]
        refine g_if_ne (tgt := 29) dX11_skin_22 (by decide) rfl (fun _ => ?_) (fun h_ => absurd h_ (by decide))
        refine g_iload_n dX11_skin_29 rfl rfl rfl ?_
        refine g_if_ne (tgt := 39) dX11_skin_30 (by decide) rfl (fun h_ => absurd (w0) h_) (fun _ => ?_)
        refine g_aload_n dX11_skin_33 rfl rfl rfl ?_
        refine g_iload_n dX11_skin_34 rfl rfl rfl ?_
        refine g_callVdi (ci := 11) dX11_skin_35 lm_X11_361 mv_X11_guiltOf (hg) rfl rfl (k100 (gLay_I hL)) rfl rfl (Nat.le_of_ble_eq_true rfl) (gFit_room (by omega)) rfl ?_
        exact g_iret dX11_skin_38 rfl (by first | rfl | exact b01 | exact nb01 hv01) (⟨rfl, hQ0.1, h1.1⟩)
      · rw [if_neg w0]
        by_cases w1 : w = 1
        · rw [if_pos w1]
          refine g_aload_n dX11_skin_0 rfl rfl rfl ?_
          refine g_iconst (v := 0) dX11_skin_1 (by decide) rfl ?_
          refine g_putI dX11_skin_2 fp_X11_90 rfl rfl rfl (k100 hL) rfl ?_
          refine g_aload_n dX11_skin_5 rfl rfl rfl ?_
          refine g_iload_n dX11_skin_6 rfl rfl rfl ?_
          refine g_callVdi (ci := 11) dX11_skin_7 lm_X11_342 mv_X11_isPerson (h1.isP (d := d + 34) hx) rfl rfl (k100 (gLay_I hL)) rfl rfl (Nat.le_of_ble_eq_true rfl) (gFit_room (by omega)) rfl ?_
          rw [ib_t hp]
          refine g_if_eq (tgt := 25) dX11_skin_10 (by decide) rfl (fun h_ => absurd h_ (by decide)) (fun _ => ?_)
          refine g_iload_n dX11_skin_13 rfl rfl rfl ?_
          refine g_i2l dX11_skin_14 rfl ?_
          refine g_lconst (v := 0) dX11_skin_15 (by decide) rfl ?_
          refine g_ldc2 dX11_skin_16 lq_X11_266 rfl ?_
          refine g_callSdi dX11_skin_19 lm_X11_211 mv_X11_isIn (r_isIn (d := d + 34) (l := 0) (h := 2) hx rfl (by decide) (by decide)) rfl rfl (Nat.le_of_ble_eq_true rfl) (gFit_room (by omega)) rfl ?_
          rw [ib_t hw]
          refine g_if_ne (tgt := 29) dX11_skin_22 (by decide) rfl (fun _ => ?_) (fun h_ => absurd h_ (by decide))
          refine g_iload_n dX11_skin_29 rfl rfl rfl ?_
          refine g_if_ne (tgt := 39) dX11_skin_30 (by decide) rfl (fun _ => ?_) (fun h_ => absurd h_ (w0))
          refine g_aload_n dX11_skin_39 rfl rfl rfl ?_
          refine g_aload_n dX11_skin_40 rfl rfl rfl ?_
          refine g_getR dX11_skin_41 ff_X11_61 rfl (k100 (gLay_I hL)) (r100_32 (gLay_I hL)) rfl ?_
          refine g_iload_n dX11_skin_44 rfl rfl rfl ?_
          refine g_aload_n dX11_skin_45 rfl rfl rfl ?_
          refine g_aload_n dX11_skin_46 rfl rfl rfl ?_
          refine g_getR dX11_skin_47 ff_X11_61 rfl (k100 (gLay_I hL)) (r100_32 (gLay_I hL)) rfl ?_
          refine g_iload_n dX11_skin_50 rfl rfl rfl ?_
          refine g_callVdi (ci := 11) dX11_skin_51 lm_X11_335 mv_X11_setOf (s1) rfl rfl (k100 (gLay_I hL)) rfl rfl (Nat.le_of_ble_eq_true rfl) (gFit_room (by omega)) rfl ?_
          refine g_callVq (ci := 11) dX11_skin_54 lm_X11_339 mv_X11_readWith (rw1) rfl rfl (k100 (gLay_I hL)) rfl rfl (Nat.le_of_ble_eq_true rfl) (gFit_room (by omega)) rfl (fun v M2 hQ => ?_)
          obtain ⟨rfl, hf⟩ := hQ
          refine g_istore_n dX11_skin_57 rfl (by decide) rfl ?_
          refine g_iload_n dX11_skin_58 rfl rfl rfl ?_
          refine g_iconst (v := 1) dX11_skin_59 (by decide) rfl ?_
          refine g_icmp_ne (tgt := 67) dX11_skin_60 (by decide) rfl (fun h_ => absurd (w1) h_) (fun _ => ?_)
          refine g_iload_n dX11_skin_63 rfl rfl rfl ?_
          refine g_goto (tgt := 76) dX11_skin_64 (by decide) ?_
          exact g_iret dX11_skin_76 rfl (by first | rfl | exact b01 | exact nb01 hv01) (⟨rfl, (hQ0.q hf.1 hf.2).1, hf.2⟩)
        · have w2 : w = 2 := by
            obtain ⟨ew, lw⟩ := le_row (m := 2) (by decide) hw
            rcases (show tn w = 0 ∨ tn w = 1 ∨ tn w = 2 by omega) with z | z | z
            · rw [z] at ew; exact absurd ew w0
            · rw [z] at ew; exact absurd ew w1
            · rw [z] at ew; exact ew
          rw [if_neg w1, if_pos w2]
          refine g_aload_n dX11_skin_0 rfl rfl rfl ?_
          refine g_iconst (v := 0) dX11_skin_1 (by decide) rfl ?_
          refine g_putI dX11_skin_2 fp_X11_90 rfl rfl rfl (k100 hL) rfl ?_
          refine g_aload_n dX11_skin_5 rfl rfl rfl ?_
          refine g_iload_n dX11_skin_6 rfl rfl rfl ?_
          refine g_callVdi (ci := 11) dX11_skin_7 lm_X11_342 mv_X11_isPerson (h1.isP (d := d + 34) hx) rfl rfl (k100 (gLay_I hL)) rfl rfl (Nat.le_of_ble_eq_true rfl) (gFit_room (by omega)) rfl ?_
          rw [ib_t hp]
          refine g_if_eq (tgt := 25) dX11_skin_10 (by decide) rfl (fun h_ => absurd h_ (by decide)) (fun _ => ?_)
          refine g_iload_n dX11_skin_13 rfl rfl rfl ?_
          refine g_i2l dX11_skin_14 rfl ?_
          refine g_lconst (v := 0) dX11_skin_15 (by decide) rfl ?_
          refine g_ldc2 dX11_skin_16 lq_X11_266 rfl ?_
          refine g_callSdi dX11_skin_19 lm_X11_211 mv_X11_isIn (r_isIn (d := d + 34) (l := 0) (h := 2) hx rfl (by decide) (by decide)) rfl rfl (Nat.le_of_ble_eq_true rfl) (gFit_room (by omega)) rfl ?_
          rw [ib_t hw]
          refine g_if_ne (tgt := 29) dX11_skin_22 (by decide) rfl (fun _ => ?_) (fun h_ => absurd h_ (by decide))
          refine g_iload_n dX11_skin_29 rfl rfl rfl ?_
          refine g_if_ne (tgt := 39) dX11_skin_30 (by decide) rfl (fun _ => ?_) (fun h_ => absurd h_ (w0))
          refine g_aload_n dX11_skin_39 rfl rfl rfl ?_
          refine g_aload_n dX11_skin_40 rfl rfl rfl ?_
          refine g_getR dX11_skin_41 ff_X11_61 rfl (k100 (gLay_I hL)) (r100_32 (gLay_I hL)) rfl ?_
          refine g_iload_n dX11_skin_44 rfl rfl rfl ?_
          refine g_aload_n dX11_skin_45 rfl rfl rfl ?_
          refine g_aload_n dX11_skin_46 rfl rfl rfl ?_
          refine g_getR dX11_skin_47 ff_X11_61 rfl (k100 (gLay_I hL)) (r100_32 (gLay_I hL)) rfl ?_
          refine g_iload_n dX11_skin_50 rfl rfl rfl ?_
          refine g_callVdi (ci := 11) dX11_skin_51 lm_X11_335 mv_X11_setOf (s1) rfl rfl (k100 (gLay_I hL)) rfl rfl (Nat.le_of_ble_eq_true rfl) (gFit_room (by omega)) rfl ?_
          refine g_callVq (ci := 11) dX11_skin_54 lm_X11_339 mv_X11_readWith (rw1) rfl rfl (k100 (gLay_I hL)) rfl rfl (Nat.le_of_ble_eq_true rfl) (gFit_room (by omega)) rfl (fun v M2 hQ => ?_)
          obtain ⟨rfl, hf⟩ := hQ
          refine g_istore_n dX11_skin_57 rfl (by decide) rfl ?_
          refine g_iload_n dX11_skin_58 rfl rfl rfl ?_
          refine g_iconst (v := 1) dX11_skin_59 (by decide) rfl ?_
          refine g_icmp_ne (tgt := 67) dX11_skin_60 (by decide) rfl (fun _ => ?_) (fun h_ => absurd h_ (w1))
          refine g_iload_n dX11_skin_67 rfl rfl rfl ?_
          refine g_if_le (tgt := 75) dX11_skin_68 (by decide) rfl (fun h68 => ?_) (fun h68 => ?_)
          · have hr : ¬ gub Mc EV p (dset Mc 25 p 0) = true := fun q => Int32.not_lt.mpr h68 (gub_rd.mp q)
            refine g_iconst (v := 0) dX11_skin_75 (by decide) rfl ?_
            exact g_iret dX11_skin_76 rfl (by first | rfl | exact b01 | exact nb01 hv01) (⟨by first | rw [ib_t hr] | rw [ib_f hr], (hQ0.q hf.1 hf.2).1, hf.2⟩)
          · have hr : gub Mc EV p (dset Mc 25 p 0) = true := gub_rd.mpr (Int32.not_le.mp h68)
            refine g_iconst (v := 1) dX11_skin_71 (by decide) rfl ?_
            refine g_goto (tgt := 76) dX11_skin_72 (by decide) ?_
            exact g_iret dX11_skin_76 rfl (by first | rfl | exact b01 | exact nb01 hv01) (⟨by first | rw [ib_t hr] | rw [ib_f hr], (hQ0.q hf.1 hf.2).1, hf.2⟩)
    · rw [if_neg (fun z => hw (by rw [z]; decide)), if_neg (fun z => hw (by rw [z]; decide)), if_neg (fun z => hw (by rw [z]; decide))]
      refine g_aload_n dX11_skin_0 rfl rfl rfl ?_
      refine g_iconst (v := 0) dX11_skin_1 (by decide) rfl ?_
      refine g_putI dX11_skin_2 fp_X11_90 rfl rfl rfl (k100 hL) rfl ?_
      refine g_aload_n dX11_skin_5 rfl rfl rfl ?_
      refine g_iload_n dX11_skin_6 rfl rfl rfl ?_
      refine g_callVdi (ci := 11) dX11_skin_7 lm_X11_342 mv_X11_isPerson (h1.isP (d := d + 34) hx) rfl rfl (k100 (gLay_I hL)) rfl rfl (Nat.le_of_ble_eq_true rfl) (gFit_room (by omega)) rfl ?_
      rw [ib_t hp]
      refine g_if_eq (tgt := 25) dX11_skin_10 (by decide) rfl (fun h_ => absurd h_ (by decide)) (fun _ => ?_)
      refine g_iload_n dX11_skin_13 rfl rfl rfl ?_
      refine g_i2l dX11_skin_14 rfl ?_
      refine g_lconst (v := 0) dX11_skin_15 (by decide) rfl ?_
      refine g_ldc2 dX11_skin_16 lq_X11_266 rfl ?_
      refine g_callSdi dX11_skin_19 lm_X11_211 mv_X11_isIn (r_isIn (d := d + 34) (l := 0) (h := 2) hx rfl (by decide) (by decide)) rfl rfl (Nat.le_of_ble_eq_true rfl) (gFit_room (by omega)) rfl ?_
      rw [ib_f hw]
      refine g_if_ne (tgt := 29) dX11_skin_22 (by decide) rfl (fun h_ => absurd (by decide) h_) (fun _ => ?_)
      refine g_ldcw dX11_skin_25 lq_X11_409 rfl ?_
      exact g_iret dX11_skin_28 rfl (by first | rfl | exact b01 | exact nb01 hv01) (⟨rfl, hQ0.1, h1.1⟩)
  · rw [if_neg hp]
    refine g_aload_n dX11_skin_0 rfl rfl rfl ?_
    refine g_iconst (v := 0) dX11_skin_1 (by decide) rfl ?_
    refine g_putI dX11_skin_2 fp_X11_90 rfl rfl rfl (k100 hL) rfl ?_
    refine g_aload_n dX11_skin_5 rfl rfl rfl ?_
    refine g_iload_n dX11_skin_6 rfl rfl rfl ?_
    refine g_callVdi (ci := 11) dX11_skin_7 lm_X11_342 mv_X11_isPerson (h1.isP (d := d + 34) hx) rfl rfl (k100 (gLay_I hL)) rfl rfl (Nat.le_of_ble_eq_true rfl) (gFit_room (by omega)) rfl ?_
    rw [ib_f hp]
    refine g_if_eq (tgt := 25) dX11_skin_10 (by decide) rfl (fun _ => ?_) (fun h_ => absurd (by decide) h_)
    refine g_ldcw dX11_skin_25 lq_X11_409 rfl ?_
    exact g_iret dX11_skin_28 rfl (by first | rfl | exact b01 | exact nb01 hv01) (⟨rfl, hQ0.1, h1.1⟩)
end H7
