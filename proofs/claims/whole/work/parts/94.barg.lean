section B0
variable {X : gX} {Mc M : gM} {d n A : Nat} {E : Nat → LE} {EV : EVt} {F : Nat → Int32}
abbrev barV (M : gM) (EV : EVt) (x o : Int32) : Int32 := if inP M x ∧ inP M o ∧ ¬ x = o then sfrom (fun e => !trad M EV (tn x) (tn o) e) (tv M 3 8) 0 else -1
theorem dif_bit (a b e : Nat) (h : a < 256) (he : e < 8) : (nI (a ^^^ (a &&& b)) &&& nI (2 ^ e) = 0) ↔ ¬ (a.testBit e && !b.testBit e) = true := by
  rw [fa_bit (by omega)]
  rw [Nat.testBit_xor, Nat.testBit_and]
  cases a.testBit e <;> cases b.testBit e <;> simp
set_option maxRecDepth 20000 in
set_option maxHeartbeats 1000000 in
theorem c_bargain (hx : gXok X) (hL : gLay M) (hT : TownOK M) (hl : LeftOK M 25) {EV : EVt} (hC : CourtSem M EV) {x o : Int32} : gPos X (d + 5) yX10_bargain cX10_bargain 7 (some .int) [.ref 0, .int x, .int o] M (fun v M2 => v = some (.int (barV M EV x o)) ∧ gFr scr0 M M2) := by
  have hL0 := hL
  have h6 := hT.1.2
  have h8D := hT.2.1.2
  refine gMet.of hx (by decide) (Nat.le_of_ble_eq_true rfl) ?_
  unfold barV
  by_cases hc : inP M x ∧ inP M o ∧ ¬ x = o
  · rw [if_pos hc]
    obtain ⟨hp, ho, hne⟩ := hc
    obtain ⟨ex, lx⟩ := in_row hT.1.1 (by omega) hp
    obtain ⟨eo, lo⟩ := in_row hT.1.1 (by omega) ho
    have m6 := Nat.lt_of_lt_of_le lx h6
    have o6 := Nat.lt_of_lt_of_le lo h6
    generalize tn x = p at *
    generalize tn o = q at *
    subst ex eo
    have ha := dset_lt hT 25 p 0
    have hb := dset_lt hT 25 q 0
    refine g_aload_n dX10_bargain_0 rfl rfl rfl ?_
    refine g_getR dX10_bargain_1 ff_X10_19 rfl (k0 hL) (r0_1 hL) rfl ?_
    refine g_iload_n dX10_bargain_4 rfl rfl rfl ?_
    refine g_callVdi (ci := 8) dX10_bargain_5 lm_X10_158 mv_X8_hasPerson (c_hasPerson (d := d + 4) hx hL) rfl rfl (k3 hL) rfl rfl (Nat.le_of_ble_eq_true rfl) (gFit_room (by omega)) rfl ?_
    rw [if_pos hp]
    refine g_if_eq (tgt := 27) dX10_bargain_8 (by decide) rfl (fun h_ => absurd h_ (by decide)) (fun _ => ?_)
    refine g_aload_n dX10_bargain_11 rfl rfl rfl ?_
    refine g_getR dX10_bargain_12 ff_X10_19 rfl (k0 hL) (r0_1 hL) rfl ?_
    refine g_iload_n dX10_bargain_15 rfl rfl rfl ?_
    refine g_callVdi (ci := 8) dX10_bargain_16 lm_X10_158 mv_X8_hasPerson (c_hasPerson (d := d + 4) hx hL) rfl rfl (k3 hL) rfl rfl (Nat.le_of_ble_eq_true rfl) (gFit_room (by omega)) rfl ?_
    rw [if_pos ho]
    refine g_if_eq (tgt := 27) dX10_bargain_19 (by decide) rfl (fun h_ => absurd h_ (by decide)) (fun _ => ?_)
    refine g_iload_n dX10_bargain_22 rfl rfl rfl ?_
    refine g_iload_n dX10_bargain_23 rfl rfl rfl ?_
    refine g_icmp_ne (tgt := 29) dX10_bargain_24 (by decide) rfl (fun _ => ?_) (fun h_ => absurd h_ (hne))
    refine g_aload_n dX10_bargain_29 rfl rfl rfl ?_
    refine g_getR dX10_bargain_30 ff_X10_58 rfl (k0 hL) (r0_8 hL) rfl ?_
    refine g_iload_n dX10_bargain_33 rfl rfl rfl ?_
    refine g_callVdi (ci := 4) dX10_bargain_34 lm_X10_239 mv_X4_deedsOf (c_deedsOf_now (d := d + 2) hx hL hT hl m6) rfl rfl (k24 hL) rfl rfl (Nat.le_of_ble_eq_true rfl) (gFit_room (by omega)) rfl ?_
    refine g_istore_n dX10_bargain_37 rfl (by decide) rfl ?_
    refine g_aload_n dX10_bargain_38 rfl rfl rfl ?_
    refine g_getR dX10_bargain_39 ff_X10_58 rfl (k0 hL) (r0_8 hL) rfl ?_
    refine g_iload_n dX10_bargain_42 rfl rfl rfl ?_
    refine g_callVdi (ci := 4) dX10_bargain_43 lm_X10_239 mv_X4_deedsOf (c_deedsOf_now (d := d + 2) hx hL hT hl o6) rfl rfl (k24 hL) rfl rfl (Nat.le_of_ble_eq_true rfl) (gFit_room (by omega)) rfl ?_
    refine g_istore dX10_bargain_46 (by decide) rfl ?_
    refine g_iconst (v := 0) dX10_bargain_48 (by decide) rfl ?_
    refine g_istore dX10_bargain_49 (by decide) rfl ?_
    refine g_loopM (fun i => [(0, .ref 0), (1, .int (nI p)), (2, .int (nI q)), (3, .int (nI (dset M 25 p 0))), (4, .int (nI (dset M 25 q 0))), (5, .int (nI i))]) (fun i M1 => gFr scr0 M M1 ∧ ∀ e, e < i → (!trad M EV p q e) = true) (tv M 3 8) 0 (by omega) ⟨rfl, rfl, rfl, rfl, rfl, rfl, trivial⟩ ⟨gFr.rf, fun e he => absurd he (by omega)⟩ (fun M1 hI => ?_) (fun i M1 _ hi hI ih => ?_)
    · have hL1 := hI.1.lay hL
      have e8 : gmi M1 3 8 = nI (tv M 3 8) := by rw [hI.1.2.2.2 3 (scr0_lo (by decide) (by decide))]; exact hT.2.1.1
      refine g_iload dX10_bargain_51 rfl rfl ?_
      refine g_aload_n dX10_bargain_53 rfl rfl rfl ?_
      refine g_getR dX10_bargain_54 ff_X10_19 rfl (k0 hL1) (r0_1 hL1) rfl ?_
      refine g_getI dX10_bargain_57 ff_X10_283 rfl (k3 hL1) rfl ?_
      rw [e8]
      refine g_icmp_ge (tgt := 131) dX10_bargain_60 (by decide) rfl (fun _ => ?_) (fun h_ => absurd (nI_le (Nat.le_refl _) (by omega)) h_)
      refine g_iconst (v := -1) dX10_bargain_131 (by decide) rfl ?_
      exact g_iret dX10_bargain_132 rfl (by first | rfl | exact b01 | exact nb01 hv01) (⟨by rw [sfrom_none hI.2], hI.1⟩)
    · have hL1 := hI.1.lay hL
      have e8 : gmi M1 3 8 = nI (tv M 3 8) := by rw [hI.1.2.2.2 3 (scr0_lo (by decide) (by decide))]; exact hT.2.1.1
      have hdb := dif_bit (dset M 25 p 0) (dset M 25 q 0) i ha (by omega)
      have h2i : 2 ^ i < 256 := Nat.lt_of_lt_of_le (Nat.pow_lt_pow_right (by decide) (show i < 8 by omega)) (by decide)
      have etr : trad M EV p q i = (((dset M 25 p 0).testBit i && !(dset M 25 q 0).testBit i) && (gub M EV p (bdif (dset M 25 p 0) (2 ^ i)) && gub M EV q (dset M 25 q 0 ||| 2 ^ i))) := rfl
      have next : ∀ M2, gFr scr0 M M2 → ¬ trad M EV p q i = true → gW X (gRoom (d + 5) 0 0) (gZ X gN0 0 0 (fun v M2 => v = some (.int (sfrom (fun e => !trad M EV p q e) (tv M 3 8) 0)) ∧ gFr scr0 M M2)) gN0 yX10_bargain cX10_bargain 7 (some .int) 125 [(0, .ref 0), (1, .int (nI p)), (2, .int (nI q)), (3, .int (nI (dset M 25 p 0))), (4, .int (nI (dset M 25 q 0))), (5, .int (nI i))] [] M2 0 0 := by
        intro M2 hf2 hz
        refine g_iincV (c := 1) dX10_bargain_125 rfl (by decide) (by decide) rfl ?_
        refine g_goto (tgt := 51) dX10_bargain_128 (by decide) ?_
        refine g_go (ih M2 ⟨hf2, fun e he => ?_⟩) ⟨rfl, rfl, rfl, rfl, rfl, by rw [← nI_1 i]; rfl, trivial⟩
        by_cases e1 : e = i
        · rw [e1, Bool.eq_false_iff.mpr hz]; rfl
        · exact hI.2 e (by omega)
      refine g_iload dX10_bargain_51 rfl rfl ?_
      refine g_aload_n dX10_bargain_53 rfl rfl rfl ?_
      refine g_getR dX10_bargain_54 ff_X10_19 rfl (k0 hL1) (r0_1 hL1) rfl ?_
      refine g_getI dX10_bargain_57 ff_X10_283 rfl (k3 hL1) rfl ?_
      rw [e8]
      refine g_icmp_ge (tgt := 131) dX10_bargain_60 (by decide) rfl (fun h_ => absurd h_ (nI_ge hi (by omega))) (fun _ => ?_)
      refine g_iconst (v := 1) dX10_bargain_63 (by decide) rfl ?_
      refine g_iload dX10_bargain_64 rfl rfl ?_
      refine g_ishl dX10_bargain_66 rfl ?_
      rw [bt_one i (by omega)]
      refine g_istore dX10_bargain_67 (by decide) rfl ?_
      refine g_iload_n dX10_bargain_69 rfl rfl rfl ?_
      refine g_iload dX10_bargain_70 rfl rfl ?_
      refine g_iconst (v := -1) dX10_bargain_72 (by decide) rfl ?_
      refine g_ixor dX10_bargain_73 rfl ?_
      refine g_iand dX10_bargain_74 rfl ?_
      rw [bt_andn]
      refine g_iload dX10_bargain_75 rfl rfl ?_
      refine g_iand dX10_bargain_77 rfl ?_
      refine g_if_eq (tgt := 125) dX10_bargain_78 (by decide) rfl (fun h78 => ?_) (fun h78 => ?_)
      · first
          | exact g_go (next M1 hI.1 (fun z => hdb.mp h78 (by rw [etr] at z; exact (Bool.and_eq_true _ _ ▸ z : _ ∧ _).1))) ⟨rfl, rfl, rfl, rfl, rfl, rfl, trivial⟩
          | exact g_go (next _ hf (fun z => h99 (by rw [etr] at z; exact (Bool.and_eq_true _ _ ▸ (Bool.and_eq_true _ _ ▸ z : _ ∧ _).2 : _ ∧ _).1))) ⟨rfl, rfl, rfl, rfl, rfl, rfl, trivial⟩
          | exact g_go (next _ hf (fun z => h119 (by rw [etr] at z; exact (Bool.and_eq_true _ _ ▸ (Bool.and_eq_true _ _ ▸ z : _ ∧ _).2 : _ ∧ _).2))) ⟨rfl, rfl, rfl, rfl, rfl, rfl, trivial⟩
      · refine g_aload_n dX10_bargain_81 rfl rfl rfl ?_
        refine g_getR dX10_bargain_82 ff_X10_40 rfl (k0 hL1) (r0_4 hL1) rfl ?_
        refine g_aload_n dX10_bargain_85 rfl rfl rfl ?_
        refine g_getR dX10_bargain_86 ff_X10_58 rfl (k0 hL1) (r0_8 hL1) rfl ?_
        refine g_iload_n dX10_bargain_89 rfl rfl rfl ?_
        refine g_iload_n dX10_bargain_90 rfl rfl rfl ?_
        refine g_iload dX10_bargain_91 rfl rfl ?_
        refine g_iconst (v := -1) dX10_bargain_93 (by decide) rfl ?_
        refine g_ixor dX10_bargain_94 rfl ?_
        refine g_iand dX10_bargain_95 rfl ?_
        rw [bt_andn]
        refine g_callVq (ci := 0) dX10_bargain_96 lm_X10_242 mv_X0_isGuilty (c_gub (d := d) hx hL0 hT hC hI.1 m6 (bdif_lt ha)) rfl rfl (k20 hL1) rfl rfl (Nat.le_of_ble_eq_true rfl) (gFit_room (by omega)) rfl (fun v M2 hQ => ?_)
        obtain ⟨rfl, hf⟩ := hQ
        refine g_ieq (tgt := 125) dX10_bargain_99 (by decide) rfl (fun h99 => ?_) (fun h99 => ?_)
        · first
            | exact g_go (next M1 hI.1 (fun z => hdb.mp h78 (by rw [etr] at z; exact (Bool.and_eq_true _ _ ▸ z : _ ∧ _).1))) ⟨rfl, rfl, rfl, rfl, rfl, rfl, trivial⟩
            | exact g_go (next _ hf (fun z => h99 (by rw [etr] at z; exact (Bool.and_eq_true _ _ ▸ (Bool.and_eq_true _ _ ▸ z : _ ∧ _).2 : _ ∧ _).1))) ⟨rfl, rfl, rfl, rfl, rfl, rfl, trivial⟩
            | exact g_go (next _ hf (fun z => h119 (by rw [etr] at z; exact (Bool.and_eq_true _ _ ▸ (Bool.and_eq_true _ _ ▸ z : _ ∧ _).2 : _ ∧ _).2))) ⟨rfl, rfl, rfl, rfl, rfl, rfl, trivial⟩
        · refine g_aload_n dX10_bargain_102 rfl rfl rfl ?_
          refine g_getR dX10_bargain_103 ff_X10_40 rfl (k0 (hf.lay hL)) (r0_4 (hf.lay hL)) rfl ?_
          refine g_aload_n dX10_bargain_106 rfl rfl rfl ?_
          refine g_getR dX10_bargain_107 ff_X10_58 rfl (k0 (hf.lay hL)) (r0_8 (hf.lay hL)) rfl ?_
          refine g_iload_n dX10_bargain_110 rfl rfl rfl ?_
          refine g_iload dX10_bargain_111 rfl rfl ?_
          refine g_iload dX10_bargain_113 rfl rfl ?_
          refine g_ior dX10_bargain_115 rfl ?_
          rw [fa_or]
          have hf9 := hf
          refine g_callVq (ci := 0) dX10_bargain_116 lm_X10_242 mv_X0_isGuilty (c_gub (d := d) hx hL0 hT hC hf o6 (bt_orlt hb h2i)) rfl rfl (k20 (hf.lay hL)) rfl rfl (Nat.le_of_ble_eq_true rfl) (gFit_room (by omega)) rfl (fun v M2 hQ => ?_)
          obtain ⟨rfl, hf⟩ := hQ
          refine g_ieq (tgt := 125) dX10_bargain_119 (by decide) rfl (fun h119 => ?_) (fun h119 => ?_)
          · first
              | exact g_go (next M1 hI.1 (fun z => hdb.mp h78 (by rw [etr] at z; exact (Bool.and_eq_true _ _ ▸ z : _ ∧ _).1))) ⟨rfl, rfl, rfl, rfl, rfl, rfl, trivial⟩
              | exact g_go (next _ hf (fun z => h99 (by rw [etr] at z; exact (Bool.and_eq_true _ _ ▸ (Bool.and_eq_true _ _ ▸ z : _ ∧ _).2 : _ ∧ _).1))) ⟨rfl, rfl, rfl, rfl, rfl, rfl, trivial⟩
              | exact g_go (next _ hf (fun z => h119 (by rw [etr] at z; exact (Bool.and_eq_true _ _ ▸ (Bool.and_eq_true _ _ ▸ z : _ ∧ _).2 : _ ∧ _).2))) ⟨rfl, rfl, rfl, rfl, rfl, rfl, trivial⟩
          · refine g_iload dX10_bargain_122 rfl rfl ?_
            exact g_iret dX10_bargain_124 rfl (by first | rfl | exact b01 | exact nb01 hv01) (⟨by rw [sfrom_at hi hI.2 (by rw [etr, Decidable.not_not.mp (fun z => h78 (hdb.mpr z)), h99, h119]; rfl)], hf⟩)
  · rw [if_neg hc]
    refine g_aload_n dX10_bargain_0 rfl rfl rfl ?_
    refine g_getR dX10_bargain_1 ff_X10_19 rfl (k0 hL) (r0_1 hL) rfl ?_
    refine g_iload_n dX10_bargain_4 rfl rfl rfl ?_
    refine g_callVdi (ci := 8) dX10_bargain_5 lm_X10_158 mv_X8_hasPerson (c_hasPerson (d := d + 4) hx hL) rfl rfl (k3 hL) rfl rfl (Nat.le_of_ble_eq_true rfl) (gFit_room (by omega)) rfl ?_
    refine g_ieq (tgt := 27) dX10_bargain_8 (by decide) rfl (fun h8 => ?_) (fun h8 => ?_)
    · refine g_iconst (v := -1) dX10_bargain_27 (by decide) rfl ?_
      exact g_iret dX10_bargain_28 rfl (by first | rfl | exact b01 | exact nb01 hv01) (⟨rfl, gFr.rf⟩)
    · refine g_aload_n dX10_bargain_11 rfl rfl rfl ?_
      refine g_getR dX10_bargain_12 ff_X10_19 rfl (k0 hL) (r0_1 hL) rfl ?_
      refine g_iload_n dX10_bargain_15 rfl rfl rfl ?_
      refine g_callVdi (ci := 8) dX10_bargain_16 lm_X10_158 mv_X8_hasPerson (c_hasPerson (d := d + 4) hx hL) rfl rfl (k3 hL) rfl rfl (Nat.le_of_ble_eq_true rfl) (gFit_room (by omega)) rfl ?_
      refine g_ieq (tgt := 27) dX10_bargain_19 (by decide) rfl (fun h19 => ?_) (fun h19 => ?_)
      · refine g_iconst (v := -1) dX10_bargain_27 (by decide) rfl ?_
        exact g_iret dX10_bargain_28 rfl (by first | rfl | exact b01 | exact nb01 hv01) (⟨rfl, gFr.rf⟩)
      · refine g_iload_n dX10_bargain_22 rfl rfl rfl ?_
        refine g_iload_n dX10_bargain_23 rfl rfl rfl ?_
        refine g_icmp_ne (tgt := 29) dX10_bargain_24 (by decide) rfl (fun h_ => absurd (Decidable.by_contra (fun z => hc ⟨h8, h19, z⟩)) h_) (fun _ => ?_)
        refine g_iconst (v := -1) dX10_bargain_27 (by decide) rfl ?_
        exact g_iret dX10_bargain_28 rfl (by first | rfl | exact b01 | exact nb01 hv01) (⟨rfl, gFr.rf⟩)
end B0
