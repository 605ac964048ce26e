section G4
variable {X : gX} {M : gM} {d : Nat}
def hmA (M : gM) (q b : Nat) : Nat := ssum q (fun p => ssum (bdif b (dset M 25 p 0)) (tv M 8) (tv M 3 8)) (tv M 3 7)
theorem hmA_fr {M2 : gM} (h : gFr scr0 M M2) (q b : Nat) : hmA M2 q b = hmA M q b := by
  have e8 := h.2.2.2 8 (scr0_lo (by decide) (by decide))
  unfold hmA
  rw [tv_eq (e3 h), tv_eq e8]
  exact ssum_cong (fun k _ => ⟨rfl, by rw [ds_fr h]⟩)
/-- whether a set is better than the best so far -/
abbrev bet (bh : Int32 × Int32) (n : Nat) (hm : Int32) : Prop := bh.1 = -1 ∨ hm < bh.2 ∨ (hm = bh.2 ∧ ibc (nI n) < ibc bh.1)
def chS (M : gM) (EV : EVt) (q : Nat) : Nat → Int32 × Int32
  | 0 => (-1, -1)
  | n + 1 => if bet (chS M EV q n) n (nI (hmA M q n)) ∧ allG M EV q n (tv M 3 7) = true then (nI n, nI (hmA M q n)) else chS M EV q n
set_option maxRecDepth 20000 in
set_option maxHeartbeats 4000000 in
theorem c_cheapest (hx : gXok X) (hL : gLay M) (hT : TownOK M) (hl : LeftOK M 25) {EV : EVt} (hC : CourtSem M EV) {q : Nat} (hq : q < 64) {z : Int32} :
    gPos X (d + 6) yX10_cheapest cX10_cheapest 9 (some .int) [.ref 0, .int (nI q), .int z] M (fun v M2 => v = some (.int (if ¬ z < 0 ∧ z ≤ 1 then (if z = 0 then (chS M EV q (2 ^ tv M 3 8)).1 else (chS M EV q (2 ^ tv M 3 8)).2) else -1)) ∧ gFr scr0 M M2) := by
  have h8 := hT.2.1.2
  have hL0 := hL
  have h256 : 2 ^ tv M 3 8 ≤ 256 := Nat.le_trans (bt_pow h8) (by decide)
  refine gMet.of hx (by decide) (Nat.le_of_ble_eq_true rfl) ?_
  refine g_iload_n dX10_cheapest_0 rfl rfl rfl ?_
  refine g_if_lt (tgt := 9) dX10_cheapest_1 (by decide) rfl (fun h1 => ?_) (fun h1 => ?_)
  · refine g_iconst (v := -1) dX10_cheapest_9 (by decide) rfl ?_
    exact g_iret dX10_cheapest_10 rfl rfl ⟨by rw [if_neg (fun q => q.1 h1)], gFr.rf⟩
  · refine g_iload_n dX10_cheapest_4 rfl rfl rfl ?_
    refine g_iconst (v := 1) dX10_cheapest_5 (by decide) rfl ?_
    refine g_icmp_le (tgt := 11) dX10_cheapest_6 (by decide) rfl (fun h6 => ?_) (fun h6 => ?_)
    · rw [if_pos ⟨h1, h6⟩]
      refine g_iconst (v := -1) dX10_cheapest_11 (by decide) rfl ?_
      refine g_istore_n dX10_cheapest_12 rfl (by decide) rfl ?_
      refine g_iconst (v := -1) dX10_cheapest_13 (by decide) rfl ?_
      refine g_istore dX10_cheapest_14 (by decide) rfl ?_
      refine g_iconst (v := 1) dX10_cheapest_16 (by decide) rfl ?_
      refine g_aload_n dX10_cheapest_17 rfl rfl rfl ?_
      refine g_getR dX10_cheapest_18 ff_X10_19 rfl (k0 hL) (r0_1 hL) rfl ?_
      refine g_getI dX10_cheapest_21 ff_X10_283 rfl (k3 hL) rfl ?_
      refine g_ishl dX10_cheapest_24 rfl ?_
      rw [hT.2.1.1, bt_one _ (by omega)]
      refine g_istore dX10_cheapest_25 (by decide) rfl ?_
      refine g_iconst (v := 0) dX10_cheapest_27 (by decide) rfl ?_
      refine g_istore dX10_cheapest_28 (by decide) rfl ?_
      refine g_loopM (fun i => [(0, .ref 0), (1, .int (nI q)), (2, .int z), (3, .int (chS M EV q i).1), (4, .int (chS M EV q i).2), (5, .int (nI (2 ^ tv M 3 8))), (6, .int (nI i))]) (fun _ M1 => gFr scr0 M M1) (2 ^ tv M 3 8) 0 (Nat.zero_le _) ⟨rfl, rfl, rfl, rfl, rfl, rfl, rfl, trivial⟩ gFr.rf (fun M1 hI => ?_) (fun i M1 _ hi hI ih => ?_)
      · refine g_iload dX10_cheapest_30 rfl rfl ?_
        refine g_iload dX10_cheapest_32 rfl rfl ?_
        refine g_icmp_ge (tgt := 112) dX10_cheapest_34 (by decide) rfl (fun _ => ?_) (fun h_ => absurd (nI_le (Nat.le_refl _) (by omega)) h_)
        refine g_iload_n dX10_cheapest_112 rfl rfl rfl ?_
        refine g_if_ne (tgt := 120) dX10_cheapest_113 (by decide) rfl (fun h113 => ?_) (fun h113 => ?_)
        · refine g_iload dX10_cheapest_120 rfl rfl ?_
          exact g_iret dX10_cheapest_122 rfl rfl ⟨by rw [if_neg h113], hI⟩
        · refine g_iload_n dX10_cheapest_116 rfl rfl rfl ?_
          refine g_goto (tgt := 122) dX10_cheapest_117 (by decide) ?_
          exact g_iret dX10_cheapest_122 rfl rfl ⟨by rw [if_pos h113], hI⟩
      · have hL1 := hI.lay hL
        have hha := c_harmAmong (X := X) (d := d) hx hL1 (hI.town scr0_town hT) (LeftOK_fr (e25 hI) hl) hq (show i < 256 by omega)
        rw [show ssum q (fun p => ssum (bdif i (dset M1 25 p 0)) (tv M1 8) (tv M1 3 8)) (tv M1 3 7) = hmA M q i from hmA_fr hI q i] at hha
        refine g_iload dX10_cheapest_30 rfl rfl ?_
        refine g_iload dX10_cheapest_32 rfl rfl ?_
        refine g_icmp_ge (tgt := 112) dX10_cheapest_34 (by decide) rfl (fun h_ => absurd h_ (nI_ge hi (by omega))) (fun _ => ?_)
        refine g_aload_n dX10_cheapest_37 rfl rfl rfl ?_
        refine g_iload_n dX10_cheapest_38 rfl rfl rfl ?_
        refine g_iload dX10_cheapest_39 rfl rfl ?_
        refine g_callVdi (ci := 10) dX10_cheapest_41 lm_X10_330 mv_X10_harmAmong (hha) rfl rfl (k0 hL1) rfl rfl (Nat.le_of_ble_eq_true rfl) (gFit_room (by omega)) rfl ?_
        refine g_istore dX10_cheapest_44 (by decide) rfl ?_
        have fin : gW X (gRoom (d + 6) 0 0) (gZ X gN0 0 0 (fun v M2 => v = some (.int (if z = 0 then (chS M EV q (2 ^ tv M 3 8)).1 else (chS M EV q (2 ^ tv M 3 8)).2)) ∧ gFr scr0 M M2)) gN0 yX10_cheapest cX10_cheapest 9 (some .int) 82 [(0, .ref 0), (1, .int (nI q)), (2, .int z), (3, .int (chS M EV q i).1), (4, .int (chS M EV q i).2), (5, .int (nI (2 ^ tv M 3 8))), (6, .int (nI i)), (7, .int (nI (hmA M q i)))] [.int (ib (bet (chS M EV q i) i (nI (hmA M q i))))] M1 0 0 := by
          refine g_istore dX10_cheapest_82 (by decide) rfl ?_
          refine g_iload dX10_cheapest_84 rfl rfl ?_
          refine g_ieq (tgt := 106) dX10_cheapest_86 (by decide) rfl (fun q86 => ?_) (fun q86 => ?_)
          · have e : chS M EV q (i + 1) = chS M EV q i := if_neg (fun z => q86 z.1)
            rw [e] at ih
            refine g_iincV (c := 1) dX10_cheapest_106 rfl (by decide) (by decide) rfl ?_
            refine g_goto (tgt := 30) dX10_cheapest_109 (by decide) ?_
            exact g_go (ih M1 hI) ⟨rfl, rfl, rfl, rfl, rfl, rfl, by rw [← nI_1 i]; rfl, trivial⟩
          · refine g_aload_n dX10_cheapest_89 rfl rfl rfl ?_
            refine g_iload_n dX10_cheapest_90 rfl rfl rfl ?_
            refine g_iload dX10_cheapest_91 rfl rfl ?_
            refine g_callVq (ci := 10) dX10_cheapest_93 lm_X10_333 mv_X10_allGuiltyWith (c_allGuiltyWith (d := d) hx hL0 hT hl hC hI hq (show i < 256 by omega)) rfl rfl (k0 hL1) rfl rfl (Nat.le_of_ble_eq_true rfl) (gFit_room (by omega)) rfl (fun v M2 hQ => ?_)
            obtain ⟨rfl, hf⟩ := hQ
            refine g_ieq (tgt := 106) dX10_cheapest_96 (by decide) rfl (fun q96 => ?_) (fun q96 => ?_)
            · have e : chS M EV q (i + 1) = chS M EV q i := if_neg (fun z => q96 z.2)
              rw [e] at ih
              refine g_iincV (c := 1) dX10_cheapest_106 rfl (by decide) (by decide) rfl ?_
              refine g_goto (tgt := 30) dX10_cheapest_109 (by decide) ?_
              exact g_go (ih M2 hf) ⟨rfl, rfl, rfl, rfl, rfl, rfl, by rw [← nI_1 i]; rfl, trivial⟩
            · have e : chS M EV q (i + 1) = (nI i, nI (hmA M q i)) := if_pos ⟨q86, q96⟩
              rw [e] at ih
              refine g_iload dX10_cheapest_99 rfl rfl ?_
              refine g_istore_n dX10_cheapest_101 rfl (by decide) rfl ?_
              refine g_iload dX10_cheapest_102 rfl rfl ?_
              refine g_istore dX10_cheapest_104 (by decide) rfl ?_
              refine g_iincV (c := 1) dX10_cheapest_106 rfl (by decide) (by decide) rfl ?_
              refine g_goto (tgt := 30) dX10_cheapest_109 (by decide) ?_
              exact g_go (ih M2 hf) ⟨rfl, rfl, rfl, rfl, rfl, rfl, by rw [← nI_1 i]; rfl, trivial⟩
        refine g_iload_n dX10_cheapest_46 rfl rfl rfl ?_
        refine g_iconst (v := -1) dX10_cheapest_47 (by decide) rfl ?_
        refine g_icmp_eq (tgt := 77) dX10_cheapest_48 (by decide) rfl (fun h48 => ?_) (fun h48 => ?_)
        · rw [ib_t (Or.inl h48)] at fin
          refine g_iconst (v := 1) dX10_cheapest_77 (by decide) rfl ?_
          refine g_goto (tgt := 82) dX10_cheapest_78 (by decide) ?_
          exact g_go fin ⟨rfl, rfl, rfl, rfl, rfl, rfl, rfl, rfl, trivial⟩
        · refine g_iload dX10_cheapest_51 rfl rfl ?_
          refine g_iload dX10_cheapest_53 rfl rfl ?_
          refine g_icmp_lt (tgt := 77) dX10_cheapest_55 (by decide) rfl (fun h55 => ?_) (fun h55 => ?_)
          · rw [ib_t (Or.inr (Or.inl h55))] at fin
            refine g_iconst (v := 1) dX10_cheapest_77 (by decide) rfl ?_
            refine g_goto (tgt := 82) dX10_cheapest_78 (by decide) ?_
            exact g_go fin ⟨rfl, rfl, rfl, rfl, rfl, rfl, rfl, rfl, trivial⟩
          · refine g_iload dX10_cheapest_58 rfl rfl ?_
            refine g_iload dX10_cheapest_60 rfl rfl ?_
            refine g_icmp_ne (tgt := 81) dX10_cheapest_62 (by decide) rfl (fun h62 => ?_) (fun h62 => ?_)
            · rw [ib_f (fun z => z.elim h48 (fun z => z.elim h55 (fun z => h62 z.1)))] at fin
              refine g_iconst (v := 0) dX10_cheapest_81 (by decide) rfl ?_
              exact g_go fin ⟨rfl, rfl, rfl, rfl, rfl, rfl, rfl, rfl, trivial⟩
            · refine g_iload dX10_cheapest_65 rfl rfl ?_
              refine g_callSdi dX10_cheapest_67 lm_X10_269 mv_J6_bitCount_0f7a4 (c_bitCount (d := d) hx) rfl rfl (Nat.le_of_ble_eq_true rfl) (gFit_room (by omega)) rfl ?_
              refine g_iload_n dX10_cheapest_70 rfl rfl rfl ?_
              refine g_callSdi dX10_cheapest_71 lm_X10_269 mv_J6_bitCount_0f7a4 (c_bitCount (d := d) hx) rfl rfl (Nat.le_of_ble_eq_true rfl) (gFit_room (by omega)) rfl ?_
              refine g_icmp_ge (tgt := 81) dX10_cheapest_74 (by decide) rfl (fun h74 => ?_) (fun h74 => ?_)
              · rw [ib_f (fun z => z.elim h48 (fun z => z.elim h55 (fun z => Int32.not_lt.mpr h74 z.2)))] at fin
                refine g_iconst (v := 0) dX10_cheapest_81 (by decide) rfl ?_
                exact g_go fin ⟨rfl, rfl, rfl, rfl, rfl, rfl, rfl, rfl, trivial⟩
              · rw [ib_t (Or.inr (Or.inr ⟨h62, Int32.not_le.mp h74⟩))] at fin
                refine g_iconst (v := 1) dX10_cheapest_77 (by decide) rfl ?_
                refine g_goto (tgt := 82) dX10_cheapest_78 (by decide) ?_
                exact g_go fin ⟨rfl, rfl, rfl, rfl, rfl, rfl, rfl, rfl, trivial⟩
    · refine g_iconst (v := -1) dX10_cheapest_9 (by decide) rfl ?_
      exact g_iret dX10_cheapest_10 rfl rfl ⟨by rw [if_neg (fun q => h6 q.2)], gFr.rf⟩
def cheapV (M : gM) (EV : EVt) (q : Nat) (z : Int32) : Int32 := if ¬ z < 0 ∧ z ≤ 1 then (if z = 0 then (chS M EV q (2 ^ tv M 3 8)).1 else (chS M EV q (2 ^ tv M 3 8)).2) else -1
set_option maxRecDepth 20000 in
theorem c_least (hx : gXok X) (hL : gLay M) (hT : TownOK M) (hl : LeftOK M 25) {EV : EVt} (hC : CourtSem M EV) {x z : Int32} :
    gPos X (d + 7) yX10_least cX10_least 3 (some .int) [.ref 0, .int x, .int z] M (fun v M2 => v = some (.int (if inP M x then cheapV M EV (2 ^ tn x) z else -1)) ∧ gFr scr0 M M2) := by
  have h6 := hT.1.2
  refine gMet.of hx (by decide) (Nat.le_of_ble_eq_true rfl) ?_
  refine g_aload_n dX10_least_0 rfl rfl rfl ?_
  refine g_getR dX10_least_1 ff_X10_19 rfl (k0 hL) (r0_1 hL) rfl ?_
  refine g_iload_n dX10_least_4 rfl rfl rfl ?_
  refine g_callVdi (ci := 8) dX10_least_5 lm_X10_158 mv_X8_hasPerson (c_hasPerson (d := d) hx hL) rfl rfl (k3 hL) rfl rfl (Nat.le_of_ble_eq_true rfl) (gFit_room (by omega)) rfl ?_
  refine g_ieq (tgt := 22) dX10_least_8 (by decide) rfl (fun q8 => ?_) (fun q8 => ?_)
  · refine g_iconst (v := -1) dX10_least_22 (by decide) rfl ?_
    exact g_iret dX10_least_23 rfl rfl ⟨by rw [if_neg q8], gFr.rf⟩
  · obtain ⟨ex, hx6⟩ := in_row hT.1.1 (by omega) q8
    rw [if_pos q8]
    generalize hk : tn x = k at ex hx6
    subst ex
    refine g_aload_n dX10_least_11 rfl rfl rfl ?_
    refine g_iconst (v := 1) dX10_least_12 (by decide) rfl ?_
    refine g_iload_n dX10_least_13 rfl rfl rfl ?_
    refine g_ishl dX10_least_14 rfl ?_
    refine g_iload_n dX10_least_15 rfl rfl rfl ?_
    rw [bt_one _ (show k < 31 by omega)]
    have h64 : 2 ^ k < 64 := Nat.lt_of_lt_of_le (Nat.pow_lt_pow_right (by decide) (show k < 6 by omega)) (by decide)
    refine g_callVq (ci := 10) dX10_least_16 lm_X10_327 mv_X10_cheapest (c_cheapest (d := d) hx hL hT hl hC h64) rfl rfl (k0 hL) rfl rfl (Nat.le_of_ble_eq_true rfl) (gFit_room (by omega)) rfl (fun v M2 hQ => ?_)
    obtain ⟨rfl, hf⟩ := hQ
    refine g_goto (tgt := 23) dX10_least_19 (by decide) ?_
    exact g_iret dX10_least_23 rfl rfl ⟨rfl, hf⟩
set_option maxRecDepth 20000 in
theorem c_cover (hx : gXok X) (hL : gLay M) (hT : TownOK M) (hl : LeftOK M 25) {EV : EVt} (hC : CourtSem M EV) {x z : Int32} :
    gPos X (d + 7) yX10_cover cX10_cover 3 (some .int) [.ref 0, .int x, .int z] M (fun v M2 => v = some (.int (if ¬ x < 1 ∧ x < nI (2 ^ tv M 3 7) then cheapV M EV (tn x) z else -1)) ∧ gFr scr0 M M2) := by
  have h6 := hT.1.2
  have h64 : 2 ^ tv M 3 7 ≤ 64 := Nat.le_trans (bt_pow h6) (by decide)
  refine gMet.of hx (by decide) (Nat.le_of_ble_eq_true rfl) ?_
  refine g_iload_n dX10_cover_0 rfl rfl rfl ?_
  refine g_iconst (v := 1) dX10_cover_1 (by decide) rfl ?_
  refine g_icmp_lt (tgt := 18) dX10_cover_2 (by decide) rfl (fun h2 => ?_) (fun h2 => ?_)
  · refine g_iconst (v := -1) dX10_cover_18 (by decide) rfl ?_
    exact g_iret dX10_cover_19 rfl rfl ⟨by rw [if_neg (fun q => q.1 h2)], gFr.rf⟩
  · refine g_iload_n dX10_cover_5 rfl rfl rfl ?_
    refine g_iconst (v := 1) dX10_cover_6 (by decide) rfl ?_
    refine g_aload_n dX10_cover_7 rfl rfl rfl ?_
    refine g_getR dX10_cover_8 ff_X10_19 rfl (k0 hL) (r0_1 hL) rfl ?_
    refine g_getI dX10_cover_11 ff_X10_141 rfl (k3 hL) rfl ?_
    refine g_ishl dX10_cover_14 rfl ?_
    rw [hT.1.1, bt_one _ (show tv M 3 7 < 31 by omega)]
    refine g_icmp_lt (tgt := 20) dX10_cover_15 (by decide) rfl (fun h15 => ?_) (fun h15 => ?_)
    · have h0 : 0 ≤ x := Int32.le_of_lt (Int32.lt_of_lt_of_le (by decide) (Int32.not_lt.mp h2))
      obtain ⟨ex, hx6⟩ := in_row (n := 2 ^ tv M 3 7) rfl (by omega) ⟨h0, h15⟩
      rw [if_pos ⟨h2, h15⟩]
      generalize hk : tn x = k at ex hx6
      subst ex
      refine g_aload_n dX10_cover_20 rfl rfl rfl ?_
      refine g_iload_n dX10_cover_21 rfl rfl rfl ?_
      refine g_iload_n dX10_cover_22 rfl rfl rfl ?_
      refine g_callVq (ci := 10) dX10_cover_23 lm_X10_327 mv_X10_cheapest (c_cheapest (d := d) hx hL hT hl hC (show k < 64 by omega)) rfl rfl (k0 hL) rfl rfl (Nat.le_of_ble_eq_true rfl) (gFit_room (by omega)) rfl (fun v M2 hQ => ?_)
      obtain ⟨rfl, hf⟩ := hQ
      exact g_iret dX10_cover_26 rfl rfl ⟨rfl, hf⟩
    · refine g_iconst (v := -1) dX10_cover_18 (by decide) rfl ?_
      exact g_iret dX10_cover_19 rfl rfl ⟨by rw [if_neg (fun q => h15 q.2)], gFr.rf⟩
end G4
