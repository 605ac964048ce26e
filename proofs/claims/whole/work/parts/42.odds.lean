section O0
variable {X : gX} {M : gM} {d : Nat}
/-- how many parts notice just these -/
def partN (his n ch : Nat) : Nat → Nat
  | 0 => 1000000000
  | e + 1 => if his.testBit e then (if n.testBit e then partN his n ch e - partN his n ch e * ch / 100 else partN his n ch e * ch / 100) else partN his n ch e
theorem partN_le {his n ch : Nat} (hc : ch ≤ 100) : ∀ e, partN his n ch e ≤ 1000000000
  | 0 => Nat.le_refl _
  | e + 1 => by
    have h := partN_le (his := his) (n := n) hc e
    unfold partN
    split
    · split
      · omega
      · refine Nat.le_trans (Nat.div_le_of_le_mul ?_) h
        rw [Nat.mul_comm 100]
        exact Nat.mul_le_mul_left _ hc
    · exact h
set_option maxRecDepth 20000 in
set_option maxHeartbeats 1000000 in
theorem c_partOf (hx : gXok X) (hL : gLay M) (hT : TownOK M) {his n ch : Nat} (hh : his < 256) (hn : n < 256) (hc : ch ≤ 100) : gDet X (d + 0) yX10_partOf cX10_partOf 9 (some .long) [.ref 0, .int (nI his), .int (nI n), .int (nI ch)] M (some (.long (lN (partN his n ch (tv M 3 8))))) M := by
  have h8 := hT.2.1.2
  refine gMet.of hx (by decide) (Nat.le_of_ble_eq_true rfl) ?_
  refine g_ldc2 dX10_partOf_0 lq_X10_376 rfl ?_
  refine g_lstore dX10_partOf_3 (by decide) rfl ?_
  refine g_iconst (v := 0) dX10_partOf_5 (by decide) rfl ?_
  refine g_istore dX10_partOf_6 (by decide) rfl ?_
  refine g_loop (fun i => [(0, .ref 0), (1, .int (nI his)), (2, .int (nI n)), (3, .int (nI ch)), (4, .long (lN (partN his n ch i))), (6, .int (nI i))]) (fun _ => M) (tv M 3 8) 0 (Nat.zero_le _) ⟨rfl, rfl, rfl, rfl, rfl, rfl, trivial⟩ rfl ?_ (fun i _ hi ih => ?_)
  · refine g_iload dX10_partOf_8 rfl rfl ?_
    refine g_aload_n dX10_partOf_10 rfl rfl rfl ?_
    refine g_getR dX10_partOf_11 ff_X10_19 rfl (k0 hL) (r0_1 hL) rfl ?_
    refine g_getI dX10_partOf_14 ff_X10_283 rfl (k3 hL) rfl ?_
    refine g_icmp_ge (tgt := 69) dX10_partOf_17 (by decide) rfl (fun _ => ?_) (fun h_ => absurd (by rw [hT.2.1.1]; exact nI_le (Nat.le_refl _) (by omega)) h_)
    refine g_lload dX10_partOf_69 rfl rfl ?_
    exact g_lret dX10_partOf_71 rfl (⟨by first | rfl | assumption | exact gFr.rf | grind [ib], by first | rfl | assumption | exact gFr.rf | grind [ib]⟩)
  · have hp := partN_le (his := his) (n := n) hc i
    have hpc : partN his n ch i * ch ≤ 1000000000 * 100 := Nat.mul_le_mul hp hc
    have hdv : partN his n ch i * ch / 100 ≤ partN his n ch i := Nat.div_le_of_le_mul (by rw [Nat.mul_comm 100]; exact Nat.mul_le_mul_left _ hc)
    have e1 : partN his n ch (i + 1) = if his.testBit i then (if n.testBit i then partN his n ch i - partN his n ch i * ch / 100 else partN his n ch i * ch / 100) else partN his n ch i := rfl
    refine g_iload dX10_partOf_8 rfl rfl ?_
    refine g_aload_n dX10_partOf_10 rfl rfl rfl ?_
    refine g_getR dX10_partOf_11 ff_X10_19 rfl (k0 hL) (r0_1 hL) rfl ?_
    refine g_getI dX10_partOf_14 ff_X10_283 rfl (k3 hL) rfl ?_
    refine g_icmp_ge (tgt := 69) dX10_partOf_17 (by decide) rfl (fun h_ => absurd h_ (by rw [hT.2.1.1]; exact nI_ge hi (by omega))) (fun _ => ?_)
    refine g_iload_n dX10_partOf_20 rfl rfl rfl ?_
    refine g_iload dX10_partOf_21 rfl rfl ?_
    refine g_ishr dX10_partOf_23 rfl ?_
    refine g_iconst (v := 1) dX10_partOf_24 (by decide) rfl ?_
    refine g_iand dX10_partOf_25 rfl ?_
    refine g_iconst (v := 1) dX10_partOf_26 (by decide) rfl ?_
    refine g_icmp_ne (tgt := 63) dX10_partOf_27 (by decide) rfl (fun h27 => ?_) (fun h27 => ?_)
    · first
        | (rw [if_neg (fun q => h27 ((bt_is1 (by omega) (by omega)).mpr q))] at e1
           refine g_iincV (c := 1) dX10_partOf_63 rfl (by decide) (by decide) rfl ?_
           refine g_goto (tgt := 8) dX10_partOf_66 (by decide) ?_
           exact g_go ih ⟨rfl, rfl, rfl, rfl, by rw [e1]; rfl, by rw [← nI_1 i]; rfl, trivial⟩)
    · refine g_lload dX10_partOf_30 rfl rfl ?_
      refine g_iload_n dX10_partOf_32 rfl rfl rfl ?_
      refine g_i2l dX10_partOf_33 rfl ?_
      rw [nI_l (by omega)]
      refine g_lmul dX10_partOf_34 rfl ?_
      refine g_ldc2 dX10_partOf_35 lq_X10_378 rfl ?_
      rw [lN_mul, show (100 : Int64) = lN 100 from rfl]
      refine g_ldiv dX10_partOf_38 (by decide) rfl ?_
      rw [pk_lDiv (by omega) (by omega) (by omega)]
      rw [if_pos ((bt_is1 (by omega) (by omega)).mp h27)] at e1
      refine g_lstore dX10_partOf_39 (by decide) rfl ?_
      refine g_iload_n dX10_partOf_41 rfl rfl rfl ?_
      refine g_iload dX10_partOf_42 rfl rfl ?_
      refine g_ishr dX10_partOf_44 rfl ?_
      refine g_iconst (v := 1) dX10_partOf_45 (by decide) rfl ?_
      refine g_iand dX10_partOf_46 rfl ?_
      refine g_iconst (v := 1) dX10_partOf_47 (by decide) rfl ?_
      refine g_icmp_ne (tgt := 59) dX10_partOf_48 (by decide) rfl (fun h48 => ?_) (fun h48 => ?_)
      · rw [if_neg (fun q => h48 ((bt_is1 (by omega) (by omega)).mpr q))] at e1
        refine g_lload dX10_partOf_59 rfl rfl ?_
        refine g_lstore dX10_partOf_61 (by decide) rfl ?_
        refine g_iincV (c := 1) dX10_partOf_63 rfl (by decide) (by decide) rfl ?_
        refine g_goto (tgt := 8) dX10_partOf_66 (by decide) ?_
        exact g_go ih ⟨rfl, rfl, rfl, rfl, by rw [e1]; rfl, by rw [← nI_1 i]; rfl, trivial⟩
      · rw [if_pos ((bt_is1 (by omega) (by omega)).mp h48)] at e1
        refine g_lload dX10_partOf_51 rfl rfl ?_
        refine g_lload dX10_partOf_53 rfl rfl ?_
        refine g_lsub dX10_partOf_55 rfl ?_
        rw [lN_sub hdv]
        refine g_goto (tgt := 61) dX10_partOf_56 (by decide) ?_
        refine g_lstore dX10_partOf_61 (by decide) rfl ?_
        refine g_iincV (c := 1) dX10_partOf_63 rfl (by decide) (by decide) rfl ?_
        refine g_goto (tgt := 8) dX10_partOf_66 (by decide) ?_
        exact g_go ih ⟨rfl, rfl, rfl, rfl, by rw [e1]; rfl, by rw [← nI_1 i]; rfl, trivial⟩
/-- the parts by which he is guilty -/
def oddsB (M : gM) (EV : EVt) (p ch n : Nat) : Nat := if bdif n (dset M 25 p 0) = 0 ∧ gub M EV p n = true then partN (dset M 25 p 0) n ch (tv M 3 8) else 0
def oddsN (M : gM) (EV : EVt) (p ch : Nat) : Nat → Nat
  | 0 => 0
  | n + 1 => oddsN M EV p ch n + oddsB M EV p ch n
abbrev inO (M : gM) (x z : Int32) : Prop := inP M x ∧ ¬ z < 0 ∧ z ≤ 100
theorem lcmp0 {n : Nat} (h : n < 2 ^ 63) : lg_cmp (lN n) 0 ≤ 0 ↔ n = 0 := by
  unfold lg_cmp
  have e := pk_lLT (a := 0) (b := n) (by omega) h
  have e2 := pk_lEQ (a := n) (b := 0) h (by omega)
  have e3 := pk_lLT (a := n) (b := 0) h (by omega)
  rw [show lN 0 = (0 : Int64) from rfl] at e e2 e3
  by_cases h0 : n = 0
  · subst h0; decide
  · grind
set_option maxRecDepth 20000 in
set_option maxHeartbeats 2000000 in
theorem c_odds (hx : gXok X) (hL : gLay M) (hT : TownOK M) (hl : LeftOK M 25) {EV : EVt} (hC : CourtSem M EV) {x z : Int32} :
    gPos X (d + 5) yX10_odds cX10_odds 10 (some .int) [.ref 0, .int x, .int z] M (fun v M2 => v = some (.int (if inO M x z then nI (oddsN M EV (tn x) (tn z) (2 ^ tv M 3 8)) else -1)) ∧ gFr scr0 M M2) := by
  have hL0 := hL
  have hD8 := hT.2.1.2
  have h256 : 2 ^ tv M 3 8 ≤ 256 := Nat.le_trans (bt_pow hD8) (by decide)
  refine gMet.of hx (by decide) (Nat.le_of_ble_eq_true rfl) ?_
  refine g_aload_n dX10_odds_0 rfl rfl rfl ?_
  refine g_getR dX10_odds_1 ff_X10_19 rfl (k0 hL) (r0_1 hL) rfl ?_
  refine g_iload_n dX10_odds_4 rfl rfl rfl ?_
  refine g_callVdi (ci := 8) dX10_odds_5 lm_X10_158 mv_X8_hasPerson (c_hasPerson (d := d) hx hL) rfl rfl (k3 hL) rfl rfl (Nat.le_of_ble_eq_true rfl) (gFit_room (by omega)) rfl ?_
  refine g_ieq (tgt := 21) dX10_odds_8 (by decide) rfl (fun h8 => ?_) (fun h8 => ?_)
  · refine g_iconst (v := -1) dX10_odds_21 (by decide) rfl ?_
    exact g_iret dX10_odds_22 rfl (by first | rfl | exact b01) (⟨by first | rfl | assumption | exact gFr.rf | grind [ib], by first | rfl | assumption | exact gFr.rf | grind [ib]⟩)
  · refine g_iload_n dX10_odds_11 rfl rfl rfl ?_
    refine g_if_lt (tgt := 21) dX10_odds_12 (by decide) rfl (fun h12 => ?_) (fun h12 => ?_)
    · refine g_iconst (v := -1) dX10_odds_21 (by decide) rfl ?_
      exact g_iret dX10_odds_22 rfl (by first | rfl | exact b01) (⟨by first | rfl | assumption | exact gFr.rf | grind [ib], by first | rfl | assumption | exact gFr.rf | grind [ib]⟩)
    · refine g_iload_n dX10_odds_15 rfl rfl rfl ?_
      refine g_bipush (v := 100) dX10_odds_16 (by decide) rfl ?_
      refine g_icmp_le (tgt := 23) dX10_odds_18 (by decide) rfl (fun h18 => ?_) (fun h18 => ?_)
      · rw [if_pos (show inO M x z from ⟨h8, h12, h18⟩)]
        obtain ⟨ez, lz⟩ := in_row (x := z) (b := 101) (n := 101) rfl (by omega) ⟨Int32.not_lt.mp h12, Int32.lt_of_le_of_lt h18 (by decide)⟩
        generalize hkz : tn z = ch at ez lz
        subst ez
        obtain ⟨ex_, lk⟩ := in_row hT.1.1 (by have := hT.1.2; omega) (h8)
        have mk := Nat.lt_of_lt_of_le lk hT.1.2
        generalize gk : tn x = k at *
        subst ex_
        have hdl := dset_lt hT 25 k 0
        refine g_aload_n dX10_odds_23 rfl rfl rfl ?_
        refine g_getR dX10_odds_24 ff_X10_58 rfl (k0 hL) (r0_8 hL) rfl ?_
        refine g_iload_n dX10_odds_27 rfl rfl rfl ?_
        refine g_callVdi (ci := 4) dX10_odds_28 lm_X10_239 mv_X4_deedsOf (c_deedsOf_now (d := d) hx hL hT hl mk) rfl rfl (k24 hL) rfl rfl (Nat.le_of_ble_eq_true rfl) (gFit_room (by omega)) rfl ?_
        refine g_istore_n dX10_odds_31 rfl (by decide) rfl ?_
        refine g_lconst (v := 0) dX10_odds_32 (by decide) rfl ?_
        refine g_lstore dX10_odds_33 (by decide) rfl ?_
        refine g_iconst (v := 1) dX10_odds_35 (by decide) rfl ?_
        refine g_aload_n dX10_odds_36 rfl rfl rfl ?_
        refine g_getR dX10_odds_37 ff_X10_19 rfl (k0 hL) (r0_1 hL) rfl ?_
        refine g_getI dX10_odds_40 ff_X10_283 rfl (k3 hL) rfl ?_
        refine g_ishl dX10_odds_43 rfl ?_
        rw [hT.2.1.1, bt_one _ (by omega)]
        refine g_istore dX10_odds_44 (by decide) rfl ?_
        refine g_iconst (v := 0) dX10_odds_46 (by decide) rfl ?_
        refine g_istore dX10_odds_47 (by decide) rfl ?_
        refine g_loopM (fun i => [(0, .ref 0), (1, .int (nI k)), (2, .int (nI ch)), (3, .int (nI (dset M 25 k 0))), (4, .long (lN (oddsN M EV k ch i))), (6, .int (nI (2 ^ tv M 3 8))), (7, .int (nI i))]) (fun i M1 => gFr scr0 M M1) (2 ^ tv M 3 8) 0 (Nat.zero_le _) ⟨rfl, rfl, rfl, rfl, rfl, rfl, rfl, trivial⟩ gFr.rf (fun M1 hI => ?_) (fun i M1 _ hi hI ih => ?_)
        · refine g_iload dX10_odds_49 rfl rfl ?_
          refine g_iload dX10_odds_51 rfl rfl ?_
          refine g_icmp_ge (tgt := 112) dX10_odds_53 (by decide) rfl (fun _ => ?_) (fun h_ => absurd (nI_le (Nat.le_refl _) (by omega)) h_)
          refine g_lload dX10_odds_112 rfl rfl ?_
          refine g_l2i dX10_odds_114 rfl ?_
          exact g_iret dX10_odds_115 rfl (by first | rfl | exact b01) (⟨by rw [lN_i], hI⟩)
        · have hadd : ∀ q, oddsB M EV k ch i = q → lN (oddsN M EV k ch i + q) = lN (oddsN M EV k ch (i + 1)) := fun q hq => by rw [← hq]; rfl
          have hno : ∀ M2, gFr scr0 M M2 → oddsB M EV k ch i = 0 → gW X (gRoom (d + 5) 0 0) (gZ X gN0 0 0 (fun v M2 => v = some (.int (nI (oddsN M EV k ch (2 ^ tv M 3 8)))) ∧ gFr scr0 M M2)) gN0 yX10_odds cX10_odds 10 (some .int) 106 [(0, .ref 0), (1, .int (nI k)), (2, .int (nI ch)), (3, .int (nI (dset M 25 k 0))), (4, .long (lN (oddsN M EV k ch i))), (6, .int (nI (2 ^ tv M 3 8))), (7, .int (nI i))] [] M2 0 0 := by
            intro M2 h2 h0
            refine g_iincV (c := 1) dX10_odds_106 rfl (by decide) (by decide) rfl ?_
            refine g_goto (tgt := 49) dX10_odds_109 (by decide) ?_
            exact g_go (ih M2 h2) ⟨rfl, rfl, rfl, rfl, by rw [← hadd 0 h0]; rfl, rfl, by rw [← nI_1 i]; rfl, trivial⟩
          have hbl : bdif i (dset M 25 k 0) < 256 := bdif_lt (by omega)
          have hpt := c_partOf (X := X) (d := d) (his := dset M 25 k 0) (n := i) (ch := ch) hx (hI.lay hL0) (hI.town scr0_town hT) hdl (by omega) (by omega)
          rw [tv_eq (e3 hI)] at hpt
          have hpl := partN_le (his := dset M 25 k 0) (n := i) (show ch ≤ 100 by omega) (tv M 3 8)
          refine g_iload dX10_odds_49 rfl rfl ?_
          refine g_iload dX10_odds_51 rfl rfl ?_
          refine g_icmp_ge (tgt := 112) dX10_odds_53 (by decide) rfl (fun h_ => absurd h_ (nI_ge hi (by omega))) (fun _ => ?_)
          refine g_iload dX10_odds_56 rfl rfl ?_
          refine g_iload_n dX10_odds_58 rfl rfl rfl ?_
          refine g_iconst (v := -1) dX10_odds_59 (by decide) rfl ?_
          refine g_ixor dX10_odds_60 rfl ?_
          refine g_iand dX10_odds_61 rfl ?_
          rw [bt_andn, show i ^^^ (i &&& dset M 25 k 0) = bdif i (dset M 25 k 0) from rfl]
          refine g_if_ne (tgt := 106) dX10_odds_62 (by decide) rfl (fun h62 => ?_) (fun h62 => ?_)
          · first | exact g_go (hno M1 hI (if_neg (fun q => h62 (by rw [q.1]; rfl)))) ⟨rfl, rfl, rfl, rfl, rfl, rfl, rfl, trivial⟩ | exact g_go (hno M1 hI (by unfold oddsB; rw [(lcmp0 (by omega)).mp h79]; split <;> rfl)) ⟨rfl, rfl, rfl, rfl, rfl, rfl, rfl, trivial⟩ | exact g_go (hno M2 hf (if_neg (fun q => h96 q.2))) ⟨rfl, rfl, rfl, rfl, rfl, rfl, rfl, trivial⟩
          · refine g_aload_n dX10_odds_65 rfl rfl rfl ?_
            refine g_iload_n dX10_odds_66 rfl rfl rfl ?_
            refine g_iload dX10_odds_67 rfl rfl ?_
            refine g_iload_n dX10_odds_69 rfl rfl rfl ?_
            refine g_callVdl (ci := 10) dX10_odds_70 lm_X10_372 mv_X10_partOf (hpt) rfl rfl (k0 (hI.lay hL0)) rfl rfl (Nat.le_of_ble_eq_true rfl) (gFit_room (by omega)) rfl ?_
            refine g_lstore dX10_odds_73 (by decide) rfl ?_
            refine g_lload dX10_odds_75 rfl rfl ?_
            refine g_lconst (v := 0) dX10_odds_77 (by decide) rfl ?_
            refine g_lcmp dX10_odds_78 rfl ?_
            refine g_if_le (tgt := 106) dX10_odds_79 (by decide) rfl (fun h79 => ?_) (fun h79 => ?_)
            · first | exact g_go (hno M1 hI (if_neg (fun q => h62 (by rw [q.1]; rfl)))) ⟨rfl, rfl, rfl, rfl, rfl, rfl, rfl, trivial⟩ | exact g_go (hno M1 hI (by unfold oddsB; rw [(lcmp0 (by omega)).mp h79]; split <;> rfl)) ⟨rfl, rfl, rfl, rfl, rfl, rfl, rfl, trivial⟩ | exact g_go (hno M2 hf (if_neg (fun q => h96 q.2))) ⟨rfl, rfl, rfl, rfl, rfl, rfl, rfl, trivial⟩
            · refine g_aload_n dX10_odds_82 rfl rfl rfl ?_
              refine g_getR dX10_odds_83 ff_X10_40 rfl (k0 (hI.lay hL0)) (r0_4 (hI.lay hL0)) rfl ?_
              refine g_aload_n dX10_odds_86 rfl rfl rfl ?_
              refine g_getR dX10_odds_87 ff_X10_58 rfl (k0 (hI.lay hL0)) (r0_8 (hI.lay hL0)) rfl ?_
              refine g_iload_n dX10_odds_90 rfl rfl rfl ?_
              refine g_iload dX10_odds_91 rfl rfl ?_
              refine g_callVq (ci := 0) dX10_odds_93 lm_X10_242 mv_X0_isGuilty (c_gub (d := d) hx hL0 hT hC hI mk (show i < 256 by omega)) rfl rfl (k20 (hI.lay hL0)) rfl rfl (Nat.le_of_ble_eq_true rfl) (gFit_room (by omega)) rfl (fun v M2 hQ => ?_)
              obtain ⟨rfl, hf⟩ := hQ
              refine g_ieq (tgt := 106) dX10_odds_96 (by decide) rfl (fun h96 => ?_) (fun h96 => ?_)
              · first | exact g_go (hno M1 hI (if_neg (fun q => h62 (by rw [q.1]; rfl)))) ⟨rfl, rfl, rfl, rfl, rfl, rfl, rfl, trivial⟩ | exact g_go (hno M1 hI (by unfold oddsB; rw [(lcmp0 (by omega)).mp h79]; split <;> rfl)) ⟨rfl, rfl, rfl, rfl, rfl, rfl, rfl, trivial⟩ | exact g_go (hno M2 hf (if_neg (fun q => h96 q.2))) ⟨rfl, rfl, rfl, rfl, rfl, rfl, rfl, trivial⟩
              · have hz := hadd (partN (dset M 25 k 0) i ch (tv M 3 8)) (if_pos ⟨(qeq _ 0 rfl rfl (by omega) (by omega)).mp h62, h96⟩)
                refine g_lload dX10_odds_99 rfl rfl ?_
                refine g_lload dX10_odds_101 rfl rfl ?_
                refine g_ladd dX10_odds_103 rfl ?_
                refine g_lstore dX10_odds_104 (by decide) rfl ?_
                refine g_iincV (c := 1) dX10_odds_106 rfl (by decide) (by decide) rfl ?_
                refine g_goto (tgt := 49) dX10_odds_109 (by decide) ?_
                exact g_go (ih M2 hf) ⟨rfl, rfl, rfl, rfl, by rw [← hz, ← lN_add]; rfl, rfl, by rw [← nI_1 i]; rfl, trivial⟩
      · refine g_iconst (v := -1) dX10_odds_21 (by decide) rfl ?_
        exact g_iret dX10_odds_22 rfl (by first | rfl | exact b01) (⟨by first | rfl | assumption | exact gFr.rf | grind [ib], by first | rfl | assumption | exact gFr.rf | grind [ib]⟩)
end O0
