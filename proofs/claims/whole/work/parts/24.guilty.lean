section C1
variable {X : gX} {M : gM} {d : Nat}
set_option maxRecDepth 20000 in
theorem c_readIn_now (hx : gXok X) (hL : gLay M) {EV : Option ((Nat → Int32) → Int32)} (hC : CourtSem M EV) {p : Nat} (hp : p < 6) {x g n : Int32} :
    gPos X (d + 4) yX0_readIn cX0_readIn 7 (some .int) [.ref 20, .ref 24, .int (nI p), .int x, .int g, .int n] M (fun v M2 => v = some (.int (rd EV g (gmi M 5 p) (imin 99 (gmi M 25 p + x)) n (gmi M 25 66 + x) (gmi M 25 (6 + p)))) ∧ gFr scr0 M M2) := by
  refine gMet.of hx (by decide) (Nat.le_of_ble_eq_true rfl) ?_
  refine g_bipush (v := 99) dX0_readIn_0 (by decide) rfl ?_
  refine g_aload_n dX0_readIn_2 rfl rfl rfl ?_
  refine g_iload_n dX0_readIn_3 rfl rfl rfl ?_
  refine g_callVdi (ci := 4) dX0_readIn_4 lm_X0_58 mv_X4_beardOf (c_beardOf_now (d := d) hx hL hp) rfl rfl (k24 hL) rfl rfl (Nat.le_of_ble_eq_true rfl) (gFit_room (by omega)) rfl ?_
  refine g_iload_n dX0_readIn_7 rfl rfl rfl ?_
  refine g_iadd dX0_readIn_8 rfl ?_
  refine g_callSdi dX0_readIn_9 lm_X0_49 mv_J9_min_7cf53 (c_min (d := d) hx) rfl rfl (Nat.le_of_ble_eq_true rfl) (gFit_room (by omega)) rfl ?_
  refine g_istore dX0_readIn_12 (by decide) rfl ?_
  refine g_aload_n dX0_readIn_14 rfl rfl rfl ?_
  refine g_iload_n dX0_readIn_15 rfl rfl rfl ?_
  refine g_iload dX0_readIn_16 rfl rfl ?_
  refine g_iload dX0_readIn_18 rfl rfl ?_
  refine g_iload dX0_readIn_20 rfl rfl ?_
  refine g_aload_n dX0_readIn_22 rfl rfl rfl ?_
  refine g_bipush (v := 66) dX0_readIn_23 (by decide) rfl ?_
  refine g_callVdi (ci := 4) dX0_readIn_25 lm_X0_64 mv_X4_get (c_get_now (d := d) (i := 66) hx hL (by decide)) rfl rfl (k24 hL) rfl rfl (Nat.le_of_ble_eq_true rfl) (gFit_room (by omega)) rfl ?_
  refine g_iload_n dX0_readIn_28 rfl rfl rfl ?_
  refine g_iadd dX0_readIn_29 rfl ?_
  refine g_aload_n dX0_readIn_30 rfl rfl rfl ?_
  refine g_iload_n dX0_readIn_31 rfl rfl rfl ?_
  refine g_callVdi (ci := 4) dX0_readIn_32 lm_X0_67 mv_X4_shavedOf (c_shavedOf_now (d := d) hx hL hp) rfl rfl (k24 hL) rfl rfl (Nat.le_of_ble_eq_true rfl) (gFit_room (by omega)) rfl ?_
  refine g_callVq (ci := 0) dX0_readIn_35 lm_X0_70 mv_X0_read (c_read (d := d) hx hL hC hp) rfl rfl (k20 hL) rfl rfl (Nat.le_of_ble_eq_true rfl) (gFit_room (by omega)) rfl (fun v M2 hQ => ?_)
  obtain ⟨rfl, hf⟩ := hQ
  exact g_iret dX0_readIn_38 rfl rfl ⟨rfl, hf⟩
set_option maxRecDepth 20000 in
theorem c_isGuilty_now (hx : gXok X) (hL : gLay M) (hT : TownOK M) {EV : Option ((Nat → Int32) → Int32)} (hC : CourtSem M EV) {p b : Nat} (hp : p < 6) (hb : b < 256) :
    gPos X (d + 4) yX0_isGuilty cX0_isGuilty 4 (some .boolean) [.ref 20, .ref 24, .int (nI p), .int (nI b)] M (fun v M2 => v = some (.int (ib (0 < rd EV (nI (heft M b)) (gmi M 5 p) (gmi M 25 p) (ibc (nI b)) (gmi M 25 66) (gmi M 25 (6 + p))))) ∧ gFr scr0 M M2) := by
  refine gMet.of hx (by decide) (Nat.le_of_ble_eq_true rfl) ?_
  refine g_aload_n dX0_isGuilty_0 rfl rfl rfl ?_
  refine g_iload_n dX0_isGuilty_1 rfl rfl rfl ?_
  refine g_aload_n dX0_isGuilty_2 rfl rfl rfl ?_
  refine g_getR dX0_isGuilty_3 ff_X0_25 rfl (k20 hL) (r20_0 hL) rfl ?_
  refine g_iload_n dX0_isGuilty_6 rfl rfl rfl ?_
  refine g_callVdi (ci := 8) dX0_isGuilty_7 lm_X0_74 mv_X8_weightOf (c_weightOf (d := d) hx hL hb hT.2.1 hT.2.2.1) rfl rfl (k3 hL) rfl rfl (Nat.le_of_ble_eq_true rfl) (gFit_room (by omega)) rfl ?_
  refine g_iload_n dX0_isGuilty_10 rfl rfl rfl ?_
  refine g_callSdi dX0_isGuilty_11 lm_X0_77 mv_J6_bitCount_0f7a4 (c_bitCount (d := d) hx) rfl rfl (Nat.le_of_ble_eq_true rfl) (gFit_room (by omega)) rfl ?_
  refine g_aload_n dX0_isGuilty_14 rfl rfl rfl ?_
  refine g_iload_n dX0_isGuilty_15 rfl rfl rfl ?_
  refine g_callVdi (ci := 4) dX0_isGuilty_16 lm_X0_58 mv_X4_beardOf (c_beardOf_now (d := d) hx hL hp) rfl rfl (k24 hL) rfl rfl (Nat.le_of_ble_eq_true rfl) (gFit_room (by omega)) rfl ?_
  refine g_aload_n dX0_isGuilty_19 rfl rfl rfl ?_
  refine g_bipush (v := 66) dX0_isGuilty_20 (by decide) rfl ?_
  refine g_callVdi (ci := 4) dX0_isGuilty_22 lm_X0_64 mv_X4_get (c_get_now (d := d) (i := 66) hx hL (by decide)) rfl rfl (k24 hL) rfl rfl (Nat.le_of_ble_eq_true rfl) (gFit_room (by omega)) rfl ?_
  refine g_aload_n dX0_isGuilty_25 rfl rfl rfl ?_
  refine g_iload_n dX0_isGuilty_26 rfl rfl rfl ?_
  refine g_callVdi (ci := 4) dX0_isGuilty_27 lm_X0_67 mv_X4_shavedOf (c_shavedOf_now (d := d) hx hL hp) rfl rfl (k24 hL) rfl rfl (Nat.le_of_ble_eq_true rfl) (gFit_room (by omega)) rfl ?_
  refine g_callVq (ci := 0) dX0_isGuilty_30 lm_X0_70 mv_X0_read (c_read (d := d) hx hL hC hp) rfl rfl (k20 hL) rfl rfl (Nat.le_of_ble_eq_true rfl) (gFit_room (by omega)) rfl (fun v M2 hQ => ?_)
  obtain ⟨rfl, hf⟩ := hQ
  refine g_if_le (tgt := 40) dX0_isGuilty_33 (by decide) rfl (fun h33 => ?_) (fun h33 => ?_)
  · refine g_iconst (v := 0) dX0_isGuilty_40 (by decide) rfl ?_
    exact g_iret dX0_isGuilty_41 rfl rfl ⟨congrArg (fun z => some (Value.int z)) (ib_f (Int32.not_lt.mpr h33)).symm, hf⟩
  · refine g_iconst (v := 1) dX0_isGuilty_36 (by decide) rfl ?_
    refine g_goto (tgt := 41) dX0_isGuilty_37 (by decide) ?_
    exact g_iret dX0_isGuilty_41 rfl rfl ⟨congrArg (fun z => some (Value.int z)) (ib_t (Int32.not_le.mp h33)).symm, hf⟩
set_option maxRecDepth 20000 in
theorem c_readIn_trial (hx : gXok X) (hL : gLay M) {EV : Option ((Nat → Int32) → Int32)} (hC : CourtSem M EV) {p : Nat} (hp : p < 6) {x g n : Int32} :
    gPos X (d + 4) yX0_readIn cX0_readIn 7 (some .int) [.ref 20, .ref 27, .int (nI p), .int x, .int g, .int n] M (fun v M2 => v = some (.int (rd EV g (gmi M 5 p) (imin 99 (gmi M 28 p + x)) n (gmi M 28 66 + x) (gmi M 28 (6 + p)))) ∧ gFr scr0 M M2) := by
  refine gMet.of hx (by decide) (Nat.le_of_ble_eq_true rfl) ?_
  refine g_bipush (v := 99) dX0_readIn_0 (by decide) rfl ?_
  refine g_aload_n dX0_readIn_2 rfl rfl rfl ?_
  refine g_iload_n dX0_readIn_3 rfl rfl rfl ?_
  refine g_callVdi (ci := 4) dX0_readIn_4 lm_X0_58 mv_X4_beardOf (c_beardOf_trial (d := d) hx hL hp) rfl rfl (k27 hL) rfl rfl (Nat.le_of_ble_eq_true rfl) (gFit_room (by omega)) rfl ?_
  refine g_iload_n dX0_readIn_7 rfl rfl rfl ?_
  refine g_iadd dX0_readIn_8 rfl ?_
  refine g_callSdi dX0_readIn_9 lm_X0_49 mv_J9_min_7cf53 (c_min (d := d) hx) rfl rfl (Nat.le_of_ble_eq_true rfl) (gFit_room (by omega)) rfl ?_
  refine g_istore dX0_readIn_12 (by decide) rfl ?_
  refine g_aload_n dX0_readIn_14 rfl rfl rfl ?_
  refine g_iload_n dX0_readIn_15 rfl rfl rfl ?_
  refine g_iload dX0_readIn_16 rfl rfl ?_
  refine g_iload dX0_readIn_18 rfl rfl ?_
  refine g_iload dX0_readIn_20 rfl rfl ?_
  refine g_aload_n dX0_readIn_22 rfl rfl rfl ?_
  refine g_bipush (v := 66) dX0_readIn_23 (by decide) rfl ?_
  refine g_callVdi (ci := 4) dX0_readIn_25 lm_X0_64 mv_X4_get (c_get_trial (d := d) (i := 66) hx hL (by decide)) rfl rfl (k27 hL) rfl rfl (Nat.le_of_ble_eq_true rfl) (gFit_room (by omega)) rfl ?_
  refine g_iload_n dX0_readIn_28 rfl rfl rfl ?_
  refine g_iadd dX0_readIn_29 rfl ?_
  refine g_aload_n dX0_readIn_30 rfl rfl rfl ?_
  refine g_iload_n dX0_readIn_31 rfl rfl rfl ?_
  refine g_callVdi (ci := 4) dX0_readIn_32 lm_X0_67 mv_X4_shavedOf (c_shavedOf_trial (d := d) hx hL hp) rfl rfl (k27 hL) rfl rfl (Nat.le_of_ble_eq_true rfl) (gFit_room (by omega)) rfl ?_
  refine g_callVq (ci := 0) dX0_readIn_35 lm_X0_70 mv_X0_read (c_read (d := d) hx hL hC hp) rfl rfl (k20 hL) rfl rfl (Nat.le_of_ble_eq_true rfl) (gFit_room (by omega)) rfl (fun v M2 hQ => ?_)
  obtain ⟨rfl, hf⟩ := hQ
  exact g_iret dX0_readIn_38 rfl rfl ⟨rfl, hf⟩
set_option maxRecDepth 20000 in
theorem c_isGuilty_trial (hx : gXok X) (hL : gLay M) (hT : TownOK M) {EV : Option ((Nat → Int32) → Int32)} (hC : CourtSem M EV) {p b : Nat} (hp : p < 6) (hb : b < 256) :
    gPos X (d + 4) yX0_isGuilty cX0_isGuilty 4 (some .boolean) [.ref 20, .ref 27, .int (nI p), .int (nI b)] M (fun v M2 => v = some (.int (ib (0 < rd EV (nI (heft M b)) (gmi M 5 p) (gmi M 28 p) (ibc (nI b)) (gmi M 28 66) (gmi M 28 (6 + p))))) ∧ gFr scr0 M M2) := by
  refine gMet.of hx (by decide) (Nat.le_of_ble_eq_true rfl) ?_
  refine g_aload_n dX0_isGuilty_0 rfl rfl rfl ?_
  refine g_iload_n dX0_isGuilty_1 rfl rfl rfl ?_
  refine g_aload_n dX0_isGuilty_2 rfl rfl rfl ?_
  refine g_getR dX0_isGuilty_3 ff_X0_25 rfl (k20 hL) (r20_0 hL) rfl ?_
  refine g_iload_n dX0_isGuilty_6 rfl rfl rfl ?_
  refine g_callVdi (ci := 8) dX0_isGuilty_7 lm_X0_74 mv_X8_weightOf (c_weightOf (d := d) hx hL hb hT.2.1 hT.2.2.1) rfl rfl (k3 hL) rfl rfl (Nat.le_of_ble_eq_true rfl) (gFit_room (by omega)) rfl ?_
  refine g_iload_n dX0_isGuilty_10 rfl rfl rfl ?_
  refine g_callSdi dX0_isGuilty_11 lm_X0_77 mv_J6_bitCount_0f7a4 (c_bitCount (d := d) hx) rfl rfl (Nat.le_of_ble_eq_true rfl) (gFit_room (by omega)) rfl ?_
  refine g_aload_n dX0_isGuilty_14 rfl rfl rfl ?_
  refine g_iload_n dX0_isGuilty_15 rfl rfl rfl ?_
  refine g_callVdi (ci := 4) dX0_isGuilty_16 lm_X0_58 mv_X4_beardOf (c_beardOf_trial (d := d) hx hL hp) rfl rfl (k27 hL) rfl rfl (Nat.le_of_ble_eq_true rfl) (gFit_room (by omega)) rfl ?_
  refine g_aload_n dX0_isGuilty_19 rfl rfl rfl ?_
  refine g_bipush (v := 66) dX0_isGuilty_20 (by decide) rfl ?_
  refine g_callVdi (ci := 4) dX0_isGuilty_22 lm_X0_64 mv_X4_get (c_get_trial (d := d) (i := 66) hx hL (by decide)) rfl rfl (k27 hL) rfl rfl (Nat.le_of_ble_eq_true rfl) (gFit_room (by omega)) rfl ?_
  refine g_aload_n dX0_isGuilty_25 rfl rfl rfl ?_
  refine g_iload_n dX0_isGuilty_26 rfl rfl rfl ?_
  refine g_callVdi (ci := 4) dX0_isGuilty_27 lm_X0_67 mv_X4_shavedOf (c_shavedOf_trial (d := d) hx hL hp) rfl rfl (k27 hL) rfl rfl (Nat.le_of_ble_eq_true rfl) (gFit_room (by omega)) rfl ?_
  refine g_callVq (ci := 0) dX0_isGuilty_30 lm_X0_70 mv_X0_read (c_read (d := d) hx hL hC hp) rfl rfl (k20 hL) rfl rfl (Nat.le_of_ble_eq_true rfl) (gFit_room (by omega)) rfl (fun v M2 hQ => ?_)
  obtain ⟨rfl, hf⟩ := hQ
  refine g_if_le (tgt := 40) dX0_isGuilty_33 (by decide) rfl (fun h33 => ?_) (fun h33 => ?_)
  · refine g_iconst (v := 0) dX0_isGuilty_40 (by decide) rfl ?_
    exact g_iret dX0_isGuilty_41 rfl rfl ⟨congrArg (fun z => some (Value.int z)) (ib_f (Int32.not_lt.mpr h33)).symm, hf⟩
  · refine g_iconst (v := 1) dX0_isGuilty_36 (by decide) rfl ?_
    refine g_goto (tgt := 41) dX0_isGuilty_37 (by decide) ?_
    exact g_iret dX0_isGuilty_41 rfl rfl ⟨congrArg (fun z => some (Value.int z)) (ib_t (Int32.not_le.mp h33)).symm, hf⟩
set_option maxRecDepth 20000 in
theorem c_isGuiltyIn (hx : gXok X) (hL : gLay M) (hT : TownOK M) (hl : LeftOK M 25) {EV : Option ((Nat → Int32) → Int32)} (hC : CourtSem M EV) {p n : Nat} (hp : p < 6) (hn : n < 2 ^ 30) :
    gPos X (d + 5) yX0_isGuiltyIn cX0_isGuiltyIn 5 (some .boolean) [.ref 20, .ref 24, .int (nI p), .int (nI n)] M (fun v M2 => v = some (.int (ib (0 < rd EV (nI (heft M (dset M 25 p n))) (gmi M 5 p) (imin 99 (gmi M 25 p + nI n)) (ibc (nI (dset M 25 p n))) (gmi M 25 66 + nI n) (gmi M 25 (6 + p))))) ∧ gFr scr0 M M2) := by
  refine gMet.of hx (by decide) (Nat.le_of_ble_eq_true rfl) ?_
  refine g_aload_n dX0_isGuiltyIn_0 rfl rfl rfl ?_
  refine g_iload_n dX0_isGuiltyIn_1 rfl rfl rfl ?_
  refine g_iload_n dX0_isGuiltyIn_2 rfl rfl rfl ?_
  refine g_callVdi (ci := 4) dX0_isGuiltyIn_3 lm_X0_82 mv_X4_deedsIn (c_deedsIn_now (d := d) hx hL hp hn hT.2.1 (fun e he => hl _ (by omega) (by omega))) rfl rfl (k24 hL) rfl rfl (Nat.le_of_ble_eq_true rfl) (gFit_room (by omega)) rfl ?_
  refine g_istore dX0_isGuiltyIn_6 (by decide) rfl ?_
  refine g_aload_n dX0_isGuiltyIn_8 rfl rfl rfl ?_
  refine g_aload_n dX0_isGuiltyIn_9 rfl rfl rfl ?_
  refine g_iload_n dX0_isGuiltyIn_10 rfl rfl rfl ?_
  refine g_iload_n dX0_isGuiltyIn_11 rfl rfl rfl ?_
  refine g_aload_n dX0_isGuiltyIn_12 rfl rfl rfl ?_
  refine g_getR dX0_isGuiltyIn_13 ff_X0_25 rfl (k20 hL) (r20_0 hL) rfl ?_
  refine g_iload dX0_isGuiltyIn_16 rfl rfl ?_
  refine g_callVdi (ci := 8) dX0_isGuiltyIn_18 lm_X0_74 mv_X8_weightOf (c_weightOf (d := d) hx hL (dset_lt hT 25 p n) hT.2.1 hT.2.2.1) rfl rfl (k3 hL) rfl rfl (Nat.le_of_ble_eq_true rfl) (gFit_room (by omega)) rfl ?_
  refine g_iload dX0_isGuiltyIn_21 rfl rfl ?_
  refine g_callSdi dX0_isGuiltyIn_23 lm_X0_77 mv_J6_bitCount_0f7a4 (c_bitCount (d := d) hx) rfl rfl (Nat.le_of_ble_eq_true rfl) (gFit_room (by omega)) rfl ?_
  refine g_callVq (ci := 0) dX0_isGuiltyIn_26 lm_X0_85 mv_X0_readIn (c_readIn_now (d := d) hx hL hC hp) rfl rfl (k20 hL) rfl rfl (Nat.le_of_ble_eq_true rfl) (gFit_room (by omega)) rfl (fun v M2 hQ => ?_)
  obtain ⟨rfl, hf⟩ := hQ
  refine g_if_le (tgt := 36) dX0_isGuiltyIn_29 (by decide) rfl (fun h29 => ?_) (fun h29 => ?_)
  · refine g_iconst (v := 0) dX0_isGuiltyIn_36 (by decide) rfl ?_
    exact g_iret dX0_isGuiltyIn_37 rfl rfl ⟨congrArg (fun z => some (Value.int z)) (ib_f (Int32.not_lt.mpr h29)).symm, hf⟩
  · refine g_iconst (v := 1) dX0_isGuiltyIn_32 (by decide) rfl ?_
    refine g_goto (tgt := 37) dX0_isGuiltyIn_33 (by decide) ?_
    exact g_iret dX0_isGuiltyIn_37 rfl rfl ⟨congrArg (fun z => some (Value.int z)) (ib_t (Int32.not_le.mp h29)).symm, hf⟩
end C1
