section L0
variable {X : gX} {M : gM} {d : Nat}
theorem c_guin (hx : gXok X) (hL : gLay M) (hT : TownOK M) (hl : LeftOK M 25) {EV : EVt} (hC : CourtSem M EV) {M1 : gM} (hf : gFr scr0 M M1) {p n : Nat} (hp : p < 6) (hn : n < 2 ^ 30) :
    gPos X (d + 5) yX0_isGuiltyIn cX0_isGuiltyIn 5 (some .boolean) [.ref 20, .ref 24, .int (nI p), .int (nI n)] M1 (fun v M2 => v = some (.int (ib (guin M EV p n = true))) ∧ gFr scr0 M M2) := by
  have h := c_isGuiltyIn (X := X) (d := d) hx (hf.lay hL) (hf.town scr0_town hT) (LeftOK_fr (hf.2.2.2 25 (scr0_lo (by decide) (by decide))) hl) (CourtSem_fr scr0_court hf hC) hp hn
  refine gMet.mono h (fun v M2 q => ⟨?_, hf.tr q.2⟩)
  rw [q.1, ← guin_fr hf]
  unfold guin
  exact congrArg (fun z => some (Value.int z)) (ib_iff (by simp))
set_option maxRecDepth 20000 in
theorem c_guiltyP (hx : gXok X) (hL : gLay M) (hT : TownOK M) (hl : LeftOK M 25) {EV : EVt} (hC : CourtSem M EV) :
    gPos X (d + 6) yX10_guiltyPeople cX10_guiltyPeople 3 (some .int) [.ref 0] M (fun v M2 => v = some (.int (nI (bsum (fun p => guin M EV p 0) (tv M 3 7)))) ∧ gFr scr0 M M2) := by
  have h6 := hT.1.2
  have hL0 := hL
  refine gMet.of hx (by decide) (Nat.le_of_ble_eq_true rfl) ?_
  refine g_iconst (v := 0) dX10_guiltyPeople_0 (by decide) rfl ?_
  refine g_istore_n dX10_guiltyPeople_1 rfl (by decide) rfl ?_
  refine g_iconst (v := 0) dX10_guiltyPeople_2 (by decide) rfl ?_
  refine g_istore_n dX10_guiltyPeople_3 rfl (by decide) rfl ?_
  refine g_loopM (fun i => [(0, .ref 0), (1, .int (nI (bsum (fun p => guin M EV p 0) i))), (2, .int (nI i))]) (fun i M1 => gFr scr0 M M1) (tv M 3 7) 0 (Nat.zero_le _) ⟨rfl, rfl, rfl, trivial⟩ gFr.rf (fun M1 hI => ?_) (fun i M1 _ hi hI ih => ?_)
  · refine g_iload_n dX10_guiltyPeople_4 rfl rfl rfl ?_
    refine g_aload_n dX10_guiltyPeople_5 rfl rfl rfl ?_
    refine g_getR dX10_guiltyPeople_6 ff_X10_19 rfl (k0 (hI.lay hL0)) (r0_1 (hI.lay hL0)) rfl ?_
    refine g_getI dX10_guiltyPeople_9 ff_X10_141 rfl (k3 (hI.lay hL0)) rfl ?_
    refine g_icmp_ge (tgt := 43) dX10_guiltyPeople_12 (by decide) rfl (fun _ => ?_) (fun h_ => absurd (by rw [e3 hI, hT.1.1]; exact nI_le (Nat.le_refl _) (by omega)) h_)
    refine g_iload_n dX10_guiltyPeople_43 rfl rfl rfl ?_
    exact g_iret dX10_guiltyPeople_44 rfl (by first | rfl | exact b01) (⟨by first | rfl | assumption | exact gFr.rf | grind [ib], by first | rfl | assumption | exact gFr.rf | grind [ib]⟩)
  · have hbl := bsum_lt (fun p => guin M EV p 0) i
    have e1 : ∀ b, guin M EV i 0 = b → bsum (fun p => guin M EV p 0) (i + 1) = bsum (fun p => guin M EV p 0) i + (if b then 2 ^ i else 0) := fun b hb => by rw [← hb]; rfl
    refine g_iload_n dX10_guiltyPeople_4 rfl rfl rfl ?_
    refine g_aload_n dX10_guiltyPeople_5 rfl rfl rfl ?_
    refine g_getR dX10_guiltyPeople_6 ff_X10_19 rfl (k0 (hI.lay hL0)) (r0_1 (hI.lay hL0)) rfl ?_
    refine g_getI dX10_guiltyPeople_9 ff_X10_141 rfl (k3 (hI.lay hL0)) rfl ?_
    refine g_icmp_ge (tgt := 43) dX10_guiltyPeople_12 (by decide) rfl (fun h_ => absurd h_ (by rw [e3 hI, hT.1.1]; exact nI_ge hi (by omega))) (fun _ => ?_)
    refine g_aload_n dX10_guiltyPeople_15 rfl rfl rfl ?_
    refine g_getR dX10_guiltyPeople_16 ff_X10_40 rfl (k0 (hI.lay hL0)) (r0_4 (hI.lay hL0)) rfl ?_
    refine g_aload_n dX10_guiltyPeople_19 rfl rfl rfl ?_
    refine g_getR dX10_guiltyPeople_20 ff_X10_58 rfl (k0 (hI.lay hL0)) (r0_8 (hI.lay hL0)) rfl ?_
    refine g_iload_n dX10_guiltyPeople_23 rfl rfl rfl ?_
    refine g_iconst (v := 0) dX10_guiltyPeople_24 (by decide) rfl ?_
    refine g_callVq (ci := 0) dX10_guiltyPeople_25 lm_X10_339 mv_X0_isGuiltyIn (c_guin (d := d) (n := 0) hx hL0 hT hl hC hI (show i < 6 by omega) (by decide)) rfl rfl (k20 (hI.lay hL0)) rfl rfl (Nat.le_of_ble_eq_true rfl) (gFit_room (by omega)) rfl (fun v M2 hQ => ?_)
    obtain ⟨rfl, hf⟩ := hQ
    refine g_ieq (tgt := 37) dX10_guiltyPeople_28 (by decide) rfl (fun h28 => ?_) (fun h28 => ?_)
    · refine g_iincV (c := 1) dX10_guiltyPeople_37 rfl (by decide) (by decide) rfl ?_
      refine g_goto (tgt := 4) dX10_guiltyPeople_40 (by decide) ?_
      exact g_go (ih M2 hf) ⟨rfl, by rw [e1 false (Bool.eq_false_iff.mpr h28)]; rfl, by rw [← nI_1 i]; rfl, trivial⟩
    · refine g_iload_n dX10_guiltyPeople_31 rfl rfl rfl ?_
      refine g_iconst (v := 1) dX10_guiltyPeople_32 (by decide) rfl ?_
      refine g_iload_n dX10_guiltyPeople_33 rfl rfl rfl ?_
      refine g_ishl dX10_guiltyPeople_34 rfl ?_
      refine g_ior dX10_guiltyPeople_35 rfl ?_
      refine g_istore_n dX10_guiltyPeople_36 rfl (by decide) rfl ?_
      refine g_iincV (c := 1) dX10_guiltyPeople_37 rfl (by decide) (by decide) rfl ?_
      refine g_goto (tgt := 4) dX10_guiltyPeople_40 (by decide) ?_
      exact g_go (ih M2 hf) ⟨rfl, by rw [e1 true h28, if_pos rfl, ← bt_or hbl (by omega)]; rfl, by rw [← nI_1 i]; rfl, trivial⟩
set_option maxRecDepth 20000 in
theorem c_innocentP (hx : gXok X) (hL : gLay M) (hT : TownOK M) (hl : LeftOK M 25) :
    gDet X (d + 3) yX10_innocentPeople cX10_innocentPeople 3 (some .int) [.ref 0] M (some (.int (nI (bsum (fun p => decide (dset M 25 p 0 = 0)) (tv M 3 7))))) M := by
  have h6 := hT.1.2
  refine gMet.of hx (by decide) (Nat.le_of_ble_eq_true rfl) ?_
  refine g_iconst (v := 0) dX10_innocentPeople_0 (by decide) rfl ?_
  refine g_istore_n dX10_innocentPeople_1 rfl (by decide) rfl ?_
  refine g_iconst (v := 0) dX10_innocentPeople_2 (by decide) rfl ?_
  refine g_istore_n dX10_innocentPeople_3 rfl (by decide) rfl ?_
  refine g_loop (fun i => [(0, .ref 0), (1, .int (nI (bsum (fun p => decide (dset M 25 p 0 = 0)) i))), (2, .int (nI i))]) (fun _ => M) (tv M 3 7) 0 (Nat.zero_le _) ⟨rfl, rfl, rfl, trivial⟩ rfl ?_ (fun i _ hi ih => ?_)
  · refine g_iload_n dX10_innocentPeople_4 rfl rfl rfl ?_
    refine g_aload_n dX10_innocentPeople_5 rfl rfl rfl ?_
    refine g_getR dX10_innocentPeople_6 ff_X10_19 rfl (k0 hL) (r0_1 hL) rfl ?_
    refine g_getI dX10_innocentPeople_9 ff_X10_141 rfl (k3 hL) rfl ?_
    refine g_icmp_ge (tgt := 38) dX10_innocentPeople_12 (by decide) rfl (fun _ => ?_) (fun h_ => absurd (by rw [hT.1.1]; exact nI_le (Nat.le_refl _) (by omega)) h_)
    refine g_iload_n dX10_innocentPeople_38 rfl rfl rfl ?_
    exact g_iret dX10_innocentPeople_39 rfl (by first | rfl | exact b01) (⟨by first | rfl | assumption | exact gFr.rf | grind [ib], by first | rfl | assumption | exact gFr.rf | grind [ib]⟩)
  · have hbl := bsum_lt (fun p => decide (dset M 25 p 0 = 0)) i
    have hdl := dset_lt hT 25 i 0
    have e1 : ∀ b, decide (dset M 25 i 0 = 0) = b → bsum (fun p => decide (dset M 25 p 0 = 0)) (i + 1) = bsum (fun p => decide (dset M 25 p 0 = 0)) i + (if b then 2 ^ i else 0) := fun b hb => by rw [← hb]; rfl
    refine g_iload_n dX10_innocentPeople_4 rfl rfl rfl ?_
    refine g_aload_n dX10_innocentPeople_5 rfl rfl rfl ?_
    refine g_getR dX10_innocentPeople_6 ff_X10_19 rfl (k0 hL) (r0_1 hL) rfl ?_
    refine g_getI dX10_innocentPeople_9 ff_X10_141 rfl (k3 hL) rfl ?_
    refine g_icmp_ge (tgt := 38) dX10_innocentPeople_12 (by decide) rfl (fun h_ => absurd h_ (by rw [hT.1.1]; exact nI_ge hi (by omega))) (fun _ => ?_)
    refine g_aload_n dX10_innocentPeople_15 rfl rfl rfl ?_
    refine g_getR dX10_innocentPeople_16 ff_X10_58 rfl (k0 hL) (r0_8 hL) rfl ?_
    refine g_iload_n dX10_innocentPeople_19 rfl rfl rfl ?_
    refine g_callVdi (ci := 4) dX10_innocentPeople_20 lm_X10_239 mv_X4_deedsOf (c_deedsOf_now (d := d) hx hL hT hl (show i < 6 by omega)) rfl rfl (k24 hL) rfl rfl (Nat.le_of_ble_eq_true rfl) (gFit_room (by omega)) rfl ?_
    refine g_if_ne (tgt := 32) dX10_innocentPeople_23 (by decide) rfl (fun h23 => ?_) (fun h23 => ?_)
    · refine g_iincV (c := 1) dX10_innocentPeople_32 rfl (by decide) (by decide) rfl ?_
      refine g_goto (tgt := 4) dX10_innocentPeople_35 (by decide) ?_
      exact g_go ih ⟨rfl, by rw [e1 false (decide_eq_false (fun q => h23 (by rw [q]; rfl)))]; rfl, by rw [← nI_1 i]; rfl, trivial⟩
    · refine g_iload_n dX10_innocentPeople_26 rfl rfl rfl ?_
      refine g_iconst (v := 1) dX10_innocentPeople_27 (by decide) rfl ?_
      refine g_iload_n dX10_innocentPeople_28 rfl rfl rfl ?_
      refine g_ishl dX10_innocentPeople_29 rfl ?_
      refine g_ior dX10_innocentPeople_30 rfl ?_
      refine g_istore_n dX10_innocentPeople_31 rfl (by decide) rfl ?_
      refine g_iincV (c := 1) dX10_innocentPeople_32 rfl (by decide) (by decide) rfl ?_
      refine g_goto (tgt := 4) dX10_innocentPeople_35 (by decide) ?_
      exact g_go ih ⟨rfl, by rw [e1 true (decide_eq_true ((qeq _ 0 rfl rfl (by omega) (by omega)).mp h23)), if_pos rfl, ← bt_or hbl (by omega)]; rfl, by rw [← nI_1 i]; rfl, trivial⟩
theorem ifm7 : ∀ a, a < 7 → ∀ D, D < 1000 → ifmod (nI a - nI D) 7 = nI ((a + 7 - D % 7) % 7) := by decide +kernel
/-- days to the wished day -/
def wishD (M : gM) (p : Nat) : Nat := (tv M 6 p + 7 - tv M 25 66 % 7) % 7
theorem wishD_eq (hT : TownOK M) (hd : okv M 25 66 999) {p : Nat} (hp : p < 6) : ifmod (gmi M 6 p - gmi M 25 66) 7 = nI (wishD M p) := by
  have h1 := hT.2.2.2.2.2.2.1 p hp
  have := h1.2
  have := hd.2
  rw [h1.1, hd.1]
  exact ifm7 _ (by omega) _ (by omega)
set_option maxRecDepth 20000 in
theorem c_servedP (hx : gXok X) (hL : gLay M) (hT : TownOK M) (hl : LeftOK M 25) (hd : okv M 25 66 999) {EV : EVt} (hC : CourtSem M EV) :
    gPos X (d + 6) yX10_servedPeople cX10_servedPeople 3 (some .int) [.ref 0] M (fun v M2 => v = some (.int (nI (fb_ct (fun p => guin M EV p (wishD M p)) (tv M 3 7)))) ∧ gFr scr0 M M2) := by
  have h6 := hT.1.2
  have hL0 := hL
  refine gMet.of hx (by decide) (Nat.le_of_ble_eq_true rfl) ?_
  refine g_iconst (v := 0) dX10_servedPeople_0 (by decide) rfl ?_
  refine g_istore_n dX10_servedPeople_1 rfl (by decide) rfl ?_
  refine g_iconst (v := 0) dX10_servedPeople_2 (by decide) rfl ?_
  refine g_istore_n dX10_servedPeople_3 rfl (by decide) rfl ?_
  refine g_loopM (fun i => [(0, .ref 0), (1, .int (nI (fb_ct (fun p => guin M EV p (wishD M p)) i))), (2, .int (nI i))]) (fun i M1 => gFr scr0 M M1) (tv M 3 7) 0 (Nat.zero_le _) ⟨rfl, rfl, rfl, trivial⟩ gFr.rf (fun M1 hI => ?_) (fun i M1 _ hi hI ih => ?_)
  · refine g_iload_n dX10_servedPeople_4 rfl rfl rfl ?_
    refine g_aload_n dX10_servedPeople_5 rfl rfl rfl ?_
    refine g_getR dX10_servedPeople_6 ff_X10_19 rfl (k0 (hI.lay hL0)) (r0_1 (hI.lay hL0)) rfl ?_
    refine g_getI dX10_servedPeople_9 ff_X10_141 rfl (k3 (hI.lay hL0)) rfl ?_
    refine g_icmp_ge (tgt := 44) dX10_servedPeople_12 (by decide) rfl (fun _ => ?_) (fun h_ => absurd (by rw [e3 hI, hT.1.1]; exact nI_le (Nat.le_refl _) (by omega)) h_)
    refine g_iload_n dX10_servedPeople_44 rfl rfl rfl ?_
    exact g_iret dX10_servedPeople_45 rfl (by first | rfl | exact b01) (⟨by first | rfl | assumption | exact gFr.rf | grind [ib], by first | rfl | assumption | exact gFr.rf | grind [ib]⟩)
  · have e1 : ∀ b, guin M EV i (wishD M i) = b → fb_ct (fun p => guin M EV p (wishD M p)) (i + 1) = fb_ct (fun p => guin M EV p (wishD M p)) i + (if b then 1 else 0) := fun b hb => by rw [← hb]; rfl
    have hdw := c_daysToWish (X := X) (d := d) hx (hI.lay hL0) (show i < 6 by omega)
    rw [hI.2.2.2 6 (scr0_lo (by decide) (by decide)), hI.2.2.2 25 (scr0_lo (by decide) (by decide)), wishD_eq hT hd (by omega)] at hdw
    have hw7 : wishD M i < 7 := Nat.mod_lt _ (by decide)
    refine g_iload_n dX10_servedPeople_4 rfl rfl rfl ?_
    refine g_aload_n dX10_servedPeople_5 rfl rfl rfl ?_
    refine g_getR dX10_servedPeople_6 ff_X10_19 rfl (k0 (hI.lay hL0)) (r0_1 (hI.lay hL0)) rfl ?_
    refine g_getI dX10_servedPeople_9 ff_X10_141 rfl (k3 (hI.lay hL0)) rfl ?_
    refine g_icmp_ge (tgt := 44) dX10_servedPeople_12 (by decide) rfl (fun h_ => absurd h_ (by rw [e3 hI, hT.1.1]; exact nI_ge hi (by omega))) (fun _ => ?_)
    refine g_aload_n dX10_servedPeople_15 rfl rfl rfl ?_
    refine g_getR dX10_servedPeople_16 ff_X10_40 rfl (k0 (hI.lay hL0)) (r0_4 (hI.lay hL0)) rfl ?_
    refine g_aload_n dX10_servedPeople_19 rfl rfl rfl ?_
    refine g_getR dX10_servedPeople_20 ff_X10_58 rfl (k0 (hI.lay hL0)) (r0_8 (hI.lay hL0)) rfl ?_
    refine g_iload_n dX10_servedPeople_23 rfl rfl rfl ?_
    refine g_aload_n dX10_servedPeople_24 rfl rfl rfl ?_
    refine g_iload_n dX10_servedPeople_25 rfl rfl rfl ?_
    refine g_callVdi (ci := 10) dX10_servedPeople_26 lm_X10_380 mv_X10_daysToWish (hdw) rfl rfl (k0 (hI.lay hL0)) rfl rfl (Nat.le_of_ble_eq_true rfl) (gFit_room (by omega)) rfl ?_
    refine g_callVq (ci := 0) dX10_servedPeople_29 lm_X10_339 mv_X0_isGuiltyIn (c_guin (d := d) hx hL0 hT hl hC hI (show i < 6 by omega) (show wishD M i < 2 ^ 30 by omega)) rfl rfl (k20 (hI.lay hL0)) rfl rfl (Nat.le_of_ble_eq_true rfl) (gFit_room (by omega)) rfl (fun v M2 hQ => ?_)
    obtain ⟨rfl, hf⟩ := hQ
    refine g_ieq (tgt := 38) dX10_servedPeople_32 (by decide) rfl (fun h32 => ?_) (fun h32 => ?_)
    · refine g_iincV (c := 1) dX10_servedPeople_38 rfl (by decide) (by decide) rfl ?_
      refine g_goto (tgt := 4) dX10_servedPeople_41 (by decide) ?_
      exact g_go (ih M2 hf) ⟨rfl, by rw [e1 false (Bool.eq_false_iff.mpr h32)]; rfl, by rw [← nI_1 i]; rfl, trivial⟩
    · refine g_iincV (c := 1) dX10_servedPeople_35 rfl (by decide) (by decide) rfl ?_
      refine g_iincV (c := 1) dX10_servedPeople_38 rfl (by decide) (by decide) rfl ?_
      refine g_goto (tgt := 4) dX10_servedPeople_41 (by decide) ?_
      exact g_go (ih M2 hf) ⟨rfl, by rw [e1 true h32, if_pos rfl, ← nI_1]; rfl, by rw [← nI_1 i]; rfl, trivial⟩
/-- by what the most is told -/
def measV (M : gM) (w : Int32) (k : Nat) : Int32 := if w = 0 then gmi M 25 k else if w = 1 then nI (heft M (dset M 25 k 0)) else if w = 2 then - gmi M 5 k else if w = 3 then gmi M 25 (6 + k) else if w = 4 then gmi M 7 k else - gmi M 8 k
set_option maxRecDepth 20000 in
theorem c_measure (hx : gXok X) (hL : gLay M) (hT : TownOK M) (hl : LeftOK M 25) {w : Int32} {k : Nat} (hk : k < 6 ∨ (4 ≤ w ∧ k < 8)) : gDet X (d + 4) yX10_measure cX10_measure 3 (some .int) [.ref 0, .int w, .int (nI k)] M (some (.int (measV M w k))) M := by
  have hk8 : k < 8 := by omega
  have h6 : w = 0 ∨ w = 1 ∨ w = 2 ∨ w = 3 → k < 6 := fun q => hk.elim id (fun z => by rcases q with rfl | rfl | rfl | rfl <;> exact absurd z.1 (by decide))
  refine gMet.of hx (by decide) (Nat.le_of_ble_eq_true rfl) ?_
  unfold measV
  refine g_iload_n dX10_measure_0 rfl rfl rfl ?_
  by_cases e1_0 : w = 0
  · rw [e1_0]
    refine g_tableIn (off := 35) (tgt := 36) dX10_measure_1 (by decide) (by decide) (by decide) (by decide) ?_
    have hk6 := h6 (Or.inl e1_0)
    refine g_aload_n dX10_measure_36 rfl rfl rfl ?_
    refine g_getR dX10_measure_37 ff_X10_58 rfl (k0 hL) (r0_8 hL) rfl ?_
    refine g_iload_n dX10_measure_40 rfl rfl rfl ?_
    refine g_callVdi (ci := 4) dX10_measure_41 lm_X10_165 mv_X4_beardOf (c_beardOf_now (d := d) hx hL hk6) rfl rfl (k24 hL) rfl rfl (Nat.le_of_ble_eq_true rfl) (gFit_room (by omega)) rfl ?_
    exact g_iret dX10_measure_44 rfl (by first | rfl | exact b01) (⟨by first | rfl | assumption | exact gFr.rf | grind [ib], by first | rfl | assumption | exact gFr.rf | grind [ib]⟩)
  by_cases e1_1 : w = 1
  · rw [e1_1]
    refine g_tableIn (off := 44) (tgt := 45) dX10_measure_1 (by decide) (by decide) (by decide) (by decide) ?_
    have hk6 := h6 (Or.inr (Or.inl e1_1))
    refine g_aload_n dX10_measure_45 rfl rfl rfl ?_
    refine g_getR dX10_measure_46 ff_X10_58 rfl (k0 hL) (r0_8 hL) rfl ?_
    refine g_iload_n dX10_measure_49 rfl rfl rfl ?_
    refine g_callVdi (ci := 4) dX10_measure_50 lm_X10_215 mv_X4_guiltOf (c_guiltOf_now (d := d) hx hL hT hl hk6) rfl rfl (k24 hL) rfl rfl (Nat.le_of_ble_eq_true rfl) (gFit_room (by omega)) rfl ?_
    exact g_iret dX10_measure_53 rfl (by first | rfl | exact b01) (⟨by first | rfl | assumption | exact gFr.rf | grind [ib], by first | rfl | assumption | exact gFr.rf | grind [ib]⟩)
  by_cases e1_2 : w = 2
  · rw [e1_2]
    refine g_tableIn (off := 53) (tgt := 54) dX10_measure_1 (by decide) (by decide) (by decide) (by decide) ?_
    have hk6 := h6 (Or.inr (Or.inr (Or.inl e1_2)))
    refine g_aload_n dX10_measure_54 rfl rfl rfl ?_
    refine g_getR dX10_measure_55 ff_X10_19 rfl (k0 hL) (r0_1 hL) rfl ?_
    refine g_getR dX10_measure_58 ff_X10_168 rfl (k3 hL) (r3_1 hL) rfl ?_
    refine g_iload_n dX10_measure_61 rfl rfl rfl ?_
    refine g_iald (i := k) dX10_measure_62 (k5 hL) (l5 hL) (by (try simp only [nI_lit, pk_mul, nI_add, Nat.zero_add]); exact nI_toInt (by omega)) (by omega) rfl ?_
    refine g_ineg dX10_measure_63 rfl ?_
    exact g_iret dX10_measure_64 rfl (by first | rfl | exact b01) (⟨by first | rfl | assumption | exact gFr.rf | grind [ib], by first | rfl | assumption | exact gFr.rf | grind [ib]⟩)
  by_cases e1_3 : w = 3
  · rw [e1_3]
    refine g_tableIn (off := 64) (tgt := 65) dX10_measure_1 (by decide) (by decide) (by decide) (by decide) ?_
    have hk6 := h6 (Or.inr (Or.inr (Or.inr e1_3)))
    refine g_aload_n dX10_measure_65 rfl rfl rfl ?_
    refine g_getR dX10_measure_66 ff_X10_58 rfl (k0 hL) (r0_8 hL) rfl ?_
    refine g_iload_n dX10_measure_69 rfl rfl rfl ?_
    refine g_callVdi (ci := 4) dX10_measure_70 lm_X10_175 mv_X4_shavedOf (c_shavedOf_now (d := d) hx hL hk6) rfl rfl (k24 hL) rfl rfl (Nat.le_of_ble_eq_true rfl) (gFit_room (by omega)) rfl ?_
    exact g_iret dX10_measure_73 rfl (by first | rfl | exact b01) (⟨by first | rfl | assumption | exact gFr.rf | grind [ib], by first | rfl | assumption | exact gFr.rf | grind [ib]⟩)
  by_cases e1_4 : w = 4
  · rw [e1_4]
    refine g_tableIn (off := 73) (tgt := 74) dX10_measure_1 (by decide) (by decide) (by decide) (by decide) ?_
    refine g_aload_n dX10_measure_74 rfl rfl rfl ?_
    refine g_getR dX10_measure_75 ff_X10_19 rfl (k0 hL) (r0_1 hL) rfl ?_
    refine g_getR dX10_measure_78 ff_X10_184 rfl (k3 hL) (r3_3 hL) rfl ?_
    refine g_iload_n dX10_measure_81 rfl rfl rfl ?_
    refine g_iald (i := k) dX10_measure_82 (k7 hL) (l7 hL) (by (try simp only [nI_lit, pk_mul, nI_add, Nat.zero_add]); exact nI_toInt (by omega)) (by omega) rfl ?_
    exact g_iret dX10_measure_83 rfl (by first | rfl | exact b01) (⟨by first | rfl | assumption | exact gFr.rf | grind [ib], by first | rfl | assumption | exact gFr.rf | grind [ib]⟩)
  refine g_tableOut (tgt := 84) dX10_measure_1 (swo 0 5 (by decide) (fun k hk => match k, hk with | 0, _ => e1_0 | 1, _ => e1_1 | 2, _ => e1_2 | 3, _ => e1_3 | 4, _ => e1_4 | (k + 5), hk => absurd hk (by omega))) (by decide) ?_
  refine g_aload_n dX10_measure_84 rfl rfl rfl ?_
  refine g_getR dX10_measure_85 ff_X10_19 rfl (k0 hL) (r0_1 hL) rfl ?_
  refine g_getR dX10_measure_88 ff_X10_187 rfl (k3 hL) (r3_4 hL) rfl ?_
  refine g_iload_n dX10_measure_91 rfl rfl rfl ?_
  refine g_iald (i := k) dX10_measure_92 (k8 hL) (l8 hL) (by (try simp only [nI_lit, pk_mul, nI_add, Nat.zero_add]); exact nI_toInt (by omega)) (by omega) rfl ?_
  refine g_ineg dX10_measure_93 rfl ?_
  exact g_iret dX10_measure_94 rfl (by first | rfl | exact b01) (⟨by first | rfl | assumption | exact gFr.rf | grind [ib], by first | rfl | assumption | exact gFr.rf | grind [ib]⟩)
def bx (f : Nat → Int32) : Nat → Nat
  | 0 => 0
  | n + 1 => if f (bx f n) < f (n + 1) then n + 1 else bx f n
theorem bx_le (f : Nat → Int32) : ∀ n, bx f n ≤ n
  | 0 => Nat.le_refl _
  | n + 1 => by
    have := bx_le f n
    unfold bx
    split <;> omega
set_option maxRecDepth 20000 in
set_option maxHeartbeats 1000000 in
theorem c_first (hx : gXok X) (hL : gLay M) (hT : TownOK M) (hl : LeftOK M 25) (hp1 : 1 ≤ tv M 3 7) (hd1 : 1 ≤ tv M 3 8) {w : Int32} : gDet X (d + 5) yX10_firstOfMost cX10_firstOfMost 5 (some .int) [.ref 0, .int w] M (some (.int (nI (bx (measV M w) ((if w < 4 then tv M 3 7 else tv M 3 8) - 1))))) M := by
  have h6 := hT.1.2
  have h8 := hT.2.1.2
  refine gMet.of hx (by decide) (Nat.le_of_ble_eq_true rfl) ?_
  have main : ∀ n, (n = if w < 4 then tv M 3 7 else tv M 3 8) → gW X (gRoom (d + 5) 0 0) (gZ X gN0 0 0 (fun v M' => v = some (.int (nI (bx (measV M w) ((if w < 4 then tv M 3 7 else tv M 3 8) - 1)))) ∧ M' = M)) gN0 yX10_firstOfMost cX10_firstOfMost 5 (some .int) 24 [(0, .ref 0), (1, .int w), (2, .int 0)] [.int (nI n)] M 0 0 := by
    intro n hn
    have hn1 : 1 ≤ n := by rw [hn]; split <;> omega
    have hok : ∀ k, k < n → k < 6 ∨ (4 ≤ w ∧ k < 8) := fun k hk => by
      by_cases hw : w < 4
      · rw [if_pos hw] at hn; omega
      · rw [if_neg hw] at hn; exact Or.inr ⟨Int32.not_lt.mp hw, by omega⟩
    have hn8 : n ≤ 8 := by rw [hn]; split <;> omega
    rw [← hn]
    refine g_istore_n dX10_firstOfMost_24 rfl (by decide) rfl ?_
    refine g_iconst (v := 1) dX10_firstOfMost_25 (by decide) rfl ?_
    refine g_istore dX10_firstOfMost_26 (by decide) rfl ?_
    refine g_loop (fun i => [(0, .ref 0), (1, .int w), (2, .int (nI (bx (measV M w) (i - 1)))), (3, .int (nI n)), (4, .int (nI i))]) (fun _ => M) n 1 hn1 ⟨rfl, rfl, rfl, rfl, rfl, trivial⟩ rfl ?_ (fun i hi1 hi ih => ?_)
    · refine g_iload dX10_firstOfMost_28 rfl rfl ?_
      refine g_iload_n dX10_firstOfMost_30 rfl rfl rfl ?_
      refine g_icmp_ge (tgt := 59) dX10_firstOfMost_31 (by decide) rfl (fun _ => ?_) (fun h_ => absurd (nI_le (Nat.le_refl _) (by omega)) h_)
      refine g_iload_n dX10_firstOfMost_59 rfl rfl rfl ?_
      exact g_iret dX10_firstOfMost_60 rfl (by first | rfl | exact b01) (⟨by first | rfl | assumption | exact gFr.rf | grind [ib], by first | rfl | assumption | exact gFr.rf | grind [ib]⟩)
    · have hb := bx_le (measV M w) (i - 1)
      have e1 : bx (measV M w) (i + 1 - 1) = if measV M w (bx (measV M w) (i - 1)) < measV M w i then i else bx (measV M w) (i - 1) := by
        obtain ⟨m, rfl⟩ : ∃ m, i = m + 1 := ⟨i - 1, by omega⟩
        rfl
      refine g_iload dX10_firstOfMost_28 rfl rfl ?_
      refine g_iload_n dX10_firstOfMost_30 rfl rfl rfl ?_
      refine g_icmp_ge (tgt := 59) dX10_firstOfMost_31 (by decide) rfl (fun h_ => absurd h_ (nI_ge hi (by omega))) (fun _ => ?_)
      refine g_aload_n dX10_firstOfMost_34 rfl rfl rfl ?_
      refine g_iload_n dX10_firstOfMost_35 rfl rfl rfl ?_
      refine g_iload dX10_firstOfMost_36 rfl rfl ?_
      refine g_callVdi (ci := 10) dX10_firstOfMost_38 lm_X10_398 mv_X10_measure (c_measure (d := d) hx hL hT hl (hok i hi)) rfl rfl (k0 hL) rfl rfl (Nat.le_of_ble_eq_true rfl) (gFit_room (by omega)) rfl ?_
      refine g_aload_n dX10_firstOfMost_41 rfl rfl rfl ?_
      refine g_iload_n dX10_firstOfMost_42 rfl rfl rfl ?_
      refine g_iload_n dX10_firstOfMost_43 rfl rfl rfl ?_
      refine g_callVdi (ci := 10) dX10_firstOfMost_44 lm_X10_398 mv_X10_measure (c_measure (d := d) hx hL hT hl (hok (bx (measV M w) (i - 1)) (by omega))) rfl rfl (k0 hL) rfl rfl (Nat.le_of_ble_eq_true rfl) (gFit_room (by omega)) rfl ?_
      refine g_icmp_le (tgt := 53) dX10_firstOfMost_47 (by decide) rfl (fun h47 => ?_) (fun h47 => ?_)
      · rw [if_neg (Int32.not_lt.mpr h47)] at e1
        refine g_iincV (c := 1) dX10_firstOfMost_53 rfl (by decide) (by decide) rfl ?_
        refine g_goto (tgt := 28) dX10_firstOfMost_56 (by decide) ?_
        exact g_go ih ⟨rfl, rfl, by rw [e1]; rfl, rfl, by rw [← nI_1 i]; rfl, trivial⟩
      · rw [if_pos (Int32.not_le.mp h47)] at e1
        refine g_iload dX10_firstOfMost_50 rfl rfl ?_
        refine g_istore_n dX10_firstOfMost_52 rfl (by decide) rfl ?_
        refine g_iincV (c := 1) dX10_firstOfMost_53 rfl (by decide) (by decide) rfl ?_
        refine g_goto (tgt := 28) dX10_firstOfMost_56 (by decide) ?_
        exact g_go ih ⟨rfl, rfl, by rw [e1]; rfl, rfl, by rw [← nI_1 i]; rfl, trivial⟩
  refine g_iconst (v := 0) dX10_firstOfMost_0 (by decide) rfl ?_
  refine g_istore_n dX10_firstOfMost_1 rfl (by decide) rfl ?_
  refine g_iload_n dX10_firstOfMost_2 rfl rfl rfl ?_
  refine g_iconst (v := 4) dX10_firstOfMost_3 (by decide) rfl ?_
  refine g_icmp_ge (tgt := 17) dX10_firstOfMost_4 (by decide) rfl (fun h4 => ?_) (fun h4 => ?_)
  · refine g_aload_n dX10_firstOfMost_17 rfl rfl rfl ?_
    refine g_getR dX10_firstOfMost_18 ff_X10_19 rfl (k0 hL) (r0_1 hL) rfl ?_
    refine g_getI dX10_firstOfMost_21 ff_X10_283 rfl (k3 hL) rfl ?_
    have hm := main (tv M 3 8) (by rw [if_neg (Int32.not_lt.mpr h4)])
    rw [← hT.2.1.1] at hm
    exact g_go hm ⟨rfl, rfl, rfl, trivial⟩
  · refine g_aload_n dX10_firstOfMost_7 rfl rfl rfl ?_
    refine g_getR dX10_firstOfMost_8 ff_X10_19 rfl (k0 hL) (r0_1 hL) rfl ?_
    refine g_getI dX10_firstOfMost_11 ff_X10_141 rfl (k3 hL) rfl ?_
    have hm := main (tv M 3 7) (by rw [if_pos (Int32.not_le.mp h4)])
    rw [← hT.1.1] at hm
    refine g_goto (tgt := 24) dX10_firstOfMost_14 (by decide) ?_
    exact g_go hm ⟨rfl, rfl, rfl, trivial⟩
def allV (M : gM) (EV : EVt) (w : Int32) : Int32 := if w < 0 then -1 else if w < 6 then nI (bx (measV M w) ((if w < 4 then tv M 3 7 else tv M 3 8) - 1)) else if w = 6 then nI (bsum (fun p => guin M EV p 0) (tv M 3 7)) else if w = 7 then nI (smo M 25) else if w = 8 then nI (bsum (fun p => decide (dset M 25 p 0 = 0)) (tv M 3 7)) else if w = 9 then nI (fb_ct (fun p => guin M EV p (wishD M p)) (tv M 3 7)) else -1
set_option maxRecDepth 20000 in
theorem c_all (hx : gXok X) (hL : gLay M) (hT : TownOK M) (hl : LeftOK M 25) (hd : okv M 25 66 999) (hq : 1 ≤ tv M 3 7 → 1 ≤ tv M 3 8) {EV : EVt} (hC : CourtSem M EV) {w : Int32} :
    gPos X (d + 7) yX10_all cX10_all 2 (some .int) [.ref 0, .int w] M (fun v M2 => v = some (.int (if gmi M 3 7 = 0 then -1 else allV M EV w)) ∧ gFr scr0 M M2) := by
  refine gMet.of hx (by decide) (Nat.le_of_ble_eq_true rfl) ?_
  unfold allV
  have hs := c_smooth_now (X := X) (d := d) hx hL hT
  rw [show bsum (fun p => decide (gmi M 25 p = 0)) (tv M 3 7) = smo M 25 from rfl] at hs
  refine g_aload_n dX10_all_0 rfl rfl rfl ?_
  refine g_callVdi (ci := 10) dX10_all_1 lm_X10_250 mv_X10_noTown (c_noTown (d := d) hx hL) rfl rfl (k0 hL) rfl rfl (Nat.le_of_ble_eq_true rfl) (gFit_room (by omega)) rfl ?_
  refine g_ine (tgt := 11) dX10_all_4 (by decide) rfl (fun h4 => ?_) (fun h4 => ?_)
  · refine g_iconst (v := -1) dX10_all_11 (by decide) rfl ?_
    exact g_iret dX10_all_12 rfl (by first | rfl | exact b01) (⟨by first | rfl | assumption | exact gFr.rf | grind [ib], by first | rfl | assumption | exact gFr.rf | grind [ib]⟩)
  · rw [if_neg h4]
    have hp1 := tv_ge1 hT.1 h4
    refine g_iload_n dX10_all_7 rfl rfl rfl ?_
    refine g_if_ge (tgt := 13) dX10_all_8 (by decide) rfl (fun h8 => ?_) (fun h8 => ?_)
    · rw [if_neg (Int32.not_lt.mpr h8)]
      refine g_iload_n dX10_all_13 rfl rfl rfl ?_
      refine g_bipush (v := 6) dX10_all_14 (by decide) rfl ?_
      refine g_icmp_ge (tgt := 25) dX10_all_16 (by decide) rfl (fun h16 => ?_) (fun h16 => ?_)
      · rw [if_neg (Int32.not_lt.mpr h16)]
        refine g_iload_n dX10_all_25 rfl rfl rfl ?_
        by_cases e26_6 : w = 6
        · rw [e26_6]
          refine g_tableIn (off := 30) (tgt := 56) dX10_all_26 (by decide) (by decide) (by decide) (by decide) ?_
          refine g_aload_n dX10_all_56 rfl rfl rfl ?_
          refine g_callVq (ci := 10) dX10_all_57 lm_X10_389 mv_X10_guiltyPeople (c_guiltyP (d := d) hx hL hT hl hC) rfl rfl (k0 hL) rfl rfl (Nat.le_of_ble_eq_true rfl) (gFit_room (by omega)) rfl (fun v M2 hQ => ?_)
          obtain ⟨rfl, hf⟩ := hQ
          exact g_iret dX10_all_60 rfl (by first | rfl | exact b01) (⟨by first | rfl | assumption | exact gFr.rf | grind [ib], by first | rfl | assumption | exact gFr.rf | grind [ib]⟩)
        by_cases e26_7 : w = 7
        · rw [e26_7]
          refine g_tableIn (off := 35) (tgt := 61) dX10_all_26 (by decide) (by decide) (by decide) (by decide) ?_
          refine g_aload_n dX10_all_61 rfl rfl rfl ?_
          refine g_getR dX10_all_62 ff_X10_58 rfl (k0 hL) (r0_8 hL) rfl ?_
          refine g_callVdi (ci := 4) dX10_all_65 lm_X10_263 mv_X4_smooth (hs) rfl rfl (k24 hL) rfl rfl (Nat.le_of_ble_eq_true rfl) (gFit_room (by omega)) rfl ?_
          exact g_iret dX10_all_68 rfl (by first | rfl | exact b01) (⟨by first | rfl | assumption | exact gFr.rf | grind [ib], by first | rfl | assumption | exact gFr.rf | grind [ib]⟩)
        by_cases e26_8 : w = 8
        · rw [e26_8]
          refine g_tableIn (off := 43) (tgt := 69) dX10_all_26 (by decide) (by decide) (by decide) (by decide) ?_
          refine g_aload_n dX10_all_69 rfl rfl rfl ?_
          refine g_callVdi (ci := 10) dX10_all_70 lm_X10_392 mv_X10_innocentPeople (c_innocentP (d := d) hx hL hT hl) rfl rfl (k0 hL) rfl rfl (Nat.le_of_ble_eq_true rfl) (gFit_room (by omega)) rfl ?_
          exact g_iret dX10_all_73 rfl (by first | rfl | exact b01) (⟨by first | rfl | assumption | exact gFr.rf | grind [ib], by first | rfl | assumption | exact gFr.rf | grind [ib]⟩)
        by_cases e26_9 : w = 9
        · rw [e26_9]
          refine g_tableIn (off := 48) (tgt := 74) dX10_all_26 (by decide) (by decide) (by decide) (by decide) ?_
          refine g_aload_n dX10_all_74 rfl rfl rfl ?_
          refine g_callVq (ci := 10) dX10_all_75 lm_X10_395 mv_X10_servedPeople (c_servedP (d := d) hx hL hT hl hd hC) rfl rfl (k0 hL) rfl rfl (Nat.le_of_ble_eq_true rfl) (gFit_room (by omega)) rfl (fun v M2 hQ => ?_)
          obtain ⟨rfl, hf⟩ := hQ
          exact g_iret dX10_all_78 rfl (by first | rfl | exact b01) (⟨by first | rfl | assumption | exact gFr.rf | grind [ib], by first | rfl | assumption | exact gFr.rf | grind [ib]⟩)
        refine g_tableOut (tgt := 79) dX10_all_26 (swo 6 4 (by decide) (fun k hk => match k, hk with | 0, _ => e26_6 | 1, _ => e26_7 | 2, _ => e26_8 | 3, _ => e26_9 | (k + 4), hk => absurd hk (by omega))) (by decide) ?_
        refine g_iconst (v := -1) dX10_all_79 (by decide) rfl ?_
        exact g_iret dX10_all_80 rfl (by first | rfl | exact b01) (⟨by first | rfl | assumption | exact gFr.rf | grind [ib], by first | rfl | assumption | exact gFr.rf | grind [ib]⟩)
      · rw [if_pos (Int32.not_le.mp h16)]
        refine g_aload_n dX10_all_19 rfl rfl rfl ?_
        refine g_iload_n dX10_all_20 rfl rfl rfl ?_
        refine g_callVdi (ci := 10) dX10_all_21 lm_X10_386 mv_X10_firstOfMost (c_first (d := d) hx hL hT hl hp1 (hq hp1)) rfl rfl (k0 hL) rfl rfl (Nat.le_of_ble_eq_true rfl) (gFit_room (by omega)) rfl ?_
        exact g_iret dX10_all_24 rfl (by first | rfl | exact b01) (⟨by first | rfl | assumption | exact gFr.rf | grind [ib], by first | rfl | assumption | exact gFr.rf | grind [ib]⟩)
    · refine g_iconst (v := -1) dX10_all_11 (by decide) rfl ?_
      exact g_iret dX10_all_12 rfl (by first | rfl | exact b01) (⟨by first | rfl | assumption | exact gFr.rf | grind [ib], by first | rfl | assumption | exact gFr.rf | grind [ib]⟩)
end L0
