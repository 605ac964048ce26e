section L0
variable {X : gX} {M : gM} {d : Nat}
theorem c_guin (hx : gXok X) (hL : gLay M) (hT : TownOK M) (hl : LeftOK M 25) {EV : EVt} (hC : CourtSem M EV) {M1 : gM} (hf : gFr scr0 M M1) {p n : Nat} (hp : p < 6) (hn : n < 2 ^ 30) :
    gPos X (d + 5) yX0_isGuiltyIn cX0_isGuiltyIn 5 (some .boolean) [.ref 20, .ref 24, .int (nI p), .int (nI n)] M1 (fun v M2 => v = some (.int (ib (guin M EV p n = true))) ∧ gFr scr0 M M2) := by
  have h := c_isGuiltyIn (X := X) (d := d) hx (hf.lay hL) (hf.town scr0_town hT) (LeftOK_fr (hf.2.2.2 25 (scr0_lo (by decide) (by decide))) hl) (CourtSem_fr scr0_court hf hC) hp hn
  refine gMet.mono h (fun v M2 q => ⟨?_, hf.tr q.2⟩)
  rw [q.1, ← guin_fr hf]
  unfold guin
  exact congrArg (fun z => some (Value.int z)) (ib_iff (by simp))
set_option maxRecDepth 20000 in
theorem c_guiltyP (hx : gXok X) (hL : gLay M) (hT : TownOK M) (hl : LeftOK M 25) {EV : EVt} (hC : CourtSem M EV) :
    gPos X (d + 6) yX10_guiltyPeople cX10_guiltyPeople 3 (some .int) [.ref 0] M (fun v M2 => v = some (.int (nI (bsum (fun p => guin M EV p 0) (tv M 3 7)))) ∧ gFr scr0 M M2) := by
  have h6 := hT.1.2
  have hL0 := hL
  refine gMet.of hx (by decide) (Nat.le_of_ble_eq_true rfl) ?_
  refine g_iconst (v := 0) dX10_guiltyPeople_0 (by decide) rfl ?_
  refine g_istore_n dX10_guiltyPeople_1 rfl (by decide) rfl ?_
  refine g_iconst (v := 0) dX10_guiltyPeople_2 (by decide) rfl ?_
  refine g_istore_n dX10_guiltyPeople_3 rfl (by decide) rfl ?_
  refine g_loopM (fun i => [(0, .ref 0), (1, .int (nI (bsum (fun p => guin M EV p 0) i))), (2, .int (nI i))]) (fun i M1 => gFr scr0 M M1) (tv M 3 7) 0 (Nat.zero_le _) ⟨rfl, rfl, rfl, trivial⟩ gFr.rf (fun M1 hI => ?_) (fun i M1 _ hi hI ih => ?_)
  · refine g_iload_n dX10_guiltyPeople_4 rfl rfl rfl ?_
    refine g_aload_n dX10_guiltyPeople_5 rfl rfl rfl ?_
    refine g_getR dX10_guiltyPeople_6 ff_X10_19 rfl (k0 (hI.lay hL0)) (r0_1 (hI.lay hL0)) rfl ?_
    refine g_getI dX10_guiltyPeople_9 ff_X10_141 rfl (k3 (hI.lay hL0)) rfl ?_
    refine g_icmp_ge (tgt := 43) dX10_guiltyPeople_12 (by decide) rfl (fun _ => ?_) (fun h_ => absurd (by rw [e3 hI, hT.1.1]; exact nI_le (Nat.le_refl _) (by omega)) h_)
    refine g_iload_n dX10_guiltyPeople_43 rfl rfl rfl ?_
    exact g_iret dX10_guiltyPeople_44 rfl (by first | rfl | exact b01) (⟨by first | rfl | assumption | exact gFr.rf | grind [ib], by first | rfl | assumption | exact gFr.rf | grind [ib]⟩)
  · have hbl := bsum_lt (fun p => guin M EV p 0) i
    have e1 : ∀ b, guin M EV i 0 = b → bsum (fun p => guin M EV p 0) (i + 1) = bsum (fun p => guin M EV p 0) i + (if b then 2 ^ i else 0) := fun b hb => by rw [← hb]; rfl
    refine g_iload_n dX10_guiltyPeople_4 rfl rfl rfl ?_
    refine g_aload_n dX10_guiltyPeople_5 rfl rfl rfl ?_
    refine g_getR dX10_guiltyPeople_6 ff_X10_19 rfl (k0 (hI.lay hL0)) (r0_1 (hI.lay hL0)) rfl ?_
    refine g_getI dX10_guiltyPeople_9 ff_X10_141 rfl (k3 (hI.lay hL0)) rfl ?_
    refine g_icmp_ge (tgt := 43) dX10_guiltyPeople_12 (by decide) rfl (fun h_ => absurd h_ (by rw [e3 hI, hT.1.1]; exact nI_ge hi (by omega))) (fun _ => ?_)
    refine g_aload_n dX10_guiltyPeople_15 rfl rfl rfl ?_
    refine g_getR dX10_guiltyPeople_16 ff_X10_40 rfl (k0 (hI.lay hL0)) (r0_4 (hI.lay hL0)) rfl ?_
    refine g_aload_n dX10_guiltyPeople_19 rfl rfl rfl ?_
    refine g_getR dX10_guiltyPeople_20 ff_X10_58 rfl (k0 (hI.lay hL0)) (r0_8 (hI.lay hL0)) rfl ?_
    refine g_iload_n dX10_guiltyPeople_23 rfl rfl rfl ?_
    refine g_iconst (v := 0) dX10_guiltyPeople_24 (by decide) rfl ?_
    refine g_callVq (ci := 0) dX10_guiltyPeople_25 lm_X10_339 mv_X0_isGuiltyIn (c_guin (d := d) (n := 0) hx hL0 hT hl hC hI (show i < 6 by omega) (by decide)) rfl rfl (k20 (hI.lay hL0)) rfl rfl (Nat.le_of_ble_eq_true rfl) (gFit_room (by omega)) rfl (fun v M2 hQ => ?_)
    obtain ⟨rfl, hf⟩ := hQ
    refine g_ieq (tgt := 37) dX10_guiltyPeople_28 (by decide) rfl (fun h28 => ?_) (fun h28 => ?_)
    · first
        | (%w 37 4
           exact g_go (ih M2 hf) ⟨rfl, by rw [e1 false (Bool.eq_false_iff.mpr h28)]; rfl, by rw [← nI_1 i]; rfl, trivial⟩)
        | (%w 37 4
           exact g_go (ih M2 hf) ⟨rfl, by rw [e1 true h28, bt_or hbl (by omega)]; rfl, by rw [← nI_1 i]; rfl, trivial⟩)
    · refine g_iload_n dX10_guiltyPeople_31 rfl rfl rfl ?_
      refine g_iconst (v := 1) dX10_guiltyPeople_32 (by decide) rfl ?_
      refine g_iload_n dX10_guiltyPeople_33 rfl rfl rfl ?_
      refine g_ishl dX10_guiltyPeople_34 rfl ?_
      refine g_ior dX10_guiltyPeople_35 rfl ?_
      refine g_istore_n dX10_guiltyPeople_36 rfl (by decide) rfl ?_
      first
        | (%w 37 4
           exact g_go (ih M2 hf) ⟨rfl, by rw [e1 false (Bool.eq_false_iff.mpr h28)]; rfl, by rw [← nI_1 i]; rfl, trivial⟩)
        | (%w 37 4
           exact g_go (ih M2 hf) ⟨rfl, by rw [e1 true h28, bt_or hbl (by omega)]; rfl, by rw [← nI_1 i]; rfl, trivial⟩)
end L0
