section P0
variable {X : gX} {M : gM} {d : Nat}
theorem and1 (x : Int32) : ib (x &&& 1 = 1) = x &&& 1 := by
  have h1 : x &&& 1 = nI (x.toBitVec.toNat &&& 1) := by
    apply Int32.toBitVec_inj.mp
    apply BitVec.eq_of_toNat_eq
    have h1 : x.toBitVec.toNat &&& 1 < 2 ^ 32 := Nat.lt_of_le_of_lt Nat.and_le_right (by decide)
    show (x.toBitVec &&& 1#32).toNat = (BitVec.ofNat 32 (x.toBitVec.toNat &&& 1)).toNat
    rw [BitVec.toNat_and, BitVec.toNat_ofNat, BitVec.toNat_ofNat, Nat.mod_eq_of_lt h1]
  have h2 : x.toBitVec.toNat &&& 1 ≤ 1 := Nat.and_le_right
  rw [h1]
  rcases (show (x.toBitVec.toNat &&& 1) = 0 ∨ (x.toBitVec.toNat &&& 1) = 1 by omega) with e | e
  · rw [e]; exact ib_f (by decide)
  · rw [e]; exact ib_t (by decide)
set_option maxRecDepth 20000 in
set_option maxHeartbeats 1000000 in
theorem c_person (hx : gXok X) (hL : gLay M) (hT : TownOK M) {x z : Int32} (hin : inPe M x z) : gDet X (d + 1) yX10_person cX10_person 3 (some .int) [.ref 0, .int x, .int z] M (some (.int (persV M (gmi M 25) x z))) M := by
  have h6 := hT.1.2
  refine gMet.of hx (by decide) (Nat.le_of_ble_eq_true rfl) ?_
  obtain ⟨hxc, hz⟩ := hin
  obtain ⟨ez, lz⟩ := in_row (x := z) (b := 5) (n := 5) rfl (by omega) ⟨hz.1, Int32.lt_of_le_of_lt hz.2 (by decide)⟩
  unfold persV
  generalize hkz : tn z = u at ez lz
  subst ez
  obtain ⟨ex_, lp⟩ := in_row hT.1.1 (by have := hT.1.2; omega) (hxc)
  have mp := Nat.lt_of_lt_of_le lp hT.1.2
  generalize gp : tn x = p at *
  subst ex_
  have hp6 : p < 6 := by omega
  refine g_aload_n dX10_person_0 rfl rfl rfl ?_
  refine g_getR dX10_person_1 ff_X10_19 rfl (k0 hL) (r0_1 hL) rfl ?_
  refine g_iload_n dX10_person_4 rfl rfl rfl ?_
  refine g_callVdi (ci := 8) dX10_person_5 lm_X10_158 mv_X8_hasPerson (c_hasPerson (d := d) hx hL) rfl rfl (k3 hL) rfl rfl (Nat.le_of_ble_eq_true rfl) (gFit_room (by omega)) rfl ?_
  rw [if_pos hxc]
  refine g_if_eq (tgt := 20) dX10_person_8 (by decide) rfl (fun h_ => absurd h_ (by decide)) (fun _ => ?_)
  refine g_iload_n dX10_person_11 rfl rfl rfl ?_
  refine g_if_lt (tgt := 20) dX10_person_12 (by decide) rfl (fun h_ => absurd h_ (Int32.not_lt.mpr hz.1)) (fun _ => ?_)
  refine g_iload_n dX10_person_15 rfl rfl rfl ?_
  refine g_iconst (v := 4) dX10_person_16 (by decide) rfl ?_
  refine g_icmp_le (tgt := 28) dX10_person_17 (by decide) rfl (fun _ => ?_) (fun h_ => absurd (hz.2) h_)
  refine g_iload_n dX10_person_28 rfl rfl rfl ?_
  rcases (show u = 0 ∨ u = 1 ∨ u = 2 ∨ u = 3 ∨ u = 4 by omega) with e | e | e | e | e <;> subst e
  · refine g_tableIn (off := 31) (tgt := 60) dX10_person_29 (by decide) (by decide) (by decide) (by decide) ?_
    refine g_aload_n dX10_person_60 rfl rfl rfl ?_
    refine g_getR dX10_person_61 ff_X10_58 rfl (k0 hL) (r0_8 hL) rfl ?_
    refine g_iload_n dX10_person_64 rfl rfl rfl ?_
    refine g_callVdi (ci := 4) dX10_person_65 lm_X10_165 mv_X4_beardOf (c_beardOf_now (d := d) hx hL hp6) rfl rfl (k24 hL) rfl rfl (Nat.le_of_ble_eq_true rfl) (gFit_room (by omega)) rfl ?_
    exact g_iret dX10_person_68 rfl rfl ⟨rfl, rfl⟩
  · refine g_tableIn (off := 40) (tgt := 69) dX10_person_29 (by decide) (by decide) (by decide) (by decide) ?_
    refine g_aload_n dX10_person_69 rfl rfl rfl ?_
    refine g_getR dX10_person_70 ff_X10_19 rfl (k0 hL) (r0_1 hL) rfl ?_
    refine g_getR dX10_person_73 ff_X10_168 rfl (k3 hL) (r3_1 hL) rfl ?_
    refine g_iload_n dX10_person_76 rfl rfl rfl ?_
    refine g_iald (i := p) dX10_person_77 (k5 hL) (l5 hL) (nI_toInt (by omega)) (by omega) rfl ?_
    exact g_iret dX10_person_78 rfl rfl ⟨rfl, rfl⟩
  · refine g_tableIn (off := 50) (tgt := 79) dX10_person_29 (by decide) (by decide) (by decide) (by decide) ?_
    refine g_aload_n dX10_person_79 rfl rfl rfl ?_
    refine g_getR dX10_person_80 ff_X10_19 rfl (k0 hL) (r0_1 hL) rfl ?_
    refine g_getR dX10_person_83 ff_X10_172 rfl (k3 hL) (r3_2 hL) rfl ?_
    refine g_iload_n dX10_person_86 rfl rfl rfl ?_
    refine g_iald (i := p) dX10_person_87 (k6 hL) (l6 hL) (nI_toInt (by omega)) (by omega) rfl ?_
    exact g_iret dX10_person_88 rfl rfl ⟨rfl, rfl⟩
  · refine g_tableIn (off := 60) (tgt := 89) dX10_person_29 (by decide) (by decide) (by decide) (by decide) ?_
    refine g_aload_n dX10_person_89 rfl rfl rfl ?_
    refine g_getR dX10_person_90 ff_X10_58 rfl (k0 hL) (r0_8 hL) rfl ?_
    refine g_iload_n dX10_person_93 rfl rfl rfl ?_
    refine g_callVdi (ci := 4) dX10_person_94 lm_X10_175 mv_X4_shavedOf (c_shavedOf_now (d := d) hx hL hp6) rfl rfl (k24 hL) rfl rfl (Nat.le_of_ble_eq_true rfl) (gFit_room (by omega)) rfl ?_
    exact g_iret dX10_person_97 rfl rfl ⟨rfl, rfl⟩
  · refine g_tableOut (tgt := 98) dX10_person_29 (Or.inr (by decide)) rfl ?_
    refine g_aload_n dX10_person_98 rfl rfl rfl ?_
    refine g_getR dX10_person_99 ff_X10_58 rfl (k0 hL) (r0_8 hL) rfl ?_
    refine g_iload_n dX10_person_102 rfl rfl rfl ?_
    refine g_callVdi (ci := 4) dX10_person_103 lm_X10_178 mv_X4_went (c_went_now (d := d) hx hL) rfl rfl (k24 hL) rfl rfl (Nat.le_of_ble_eq_true rfl) (gFit_room (by omega)) rfl ?_
    have h1 := and1 (gmi M 25 60 >>> (nI p &&& 31))
    refine g_if_eq (tgt := 113) dX10_person_106 rfl rfl (fun h => ?_) (fun h => ?_)
    · rw [h1] at h
      refine g_iconst dX10_person_113 rfl rfl ?_
      exact g_iret dX10_person_114 rfl rfl ⟨by rw [show ∀ a b c d e : Int32, (if nI 4 = 0 then a else if nI 4 = 1 then b else if nI 4 = 2 then c else if nI 4 = 3 then d else e) = e from fun _ _ _ _ _ => rfl, h]; rfl, rfl⟩
    · refine g_iconst dX10_person_109 rfl rfl ?_
      refine g_goto (tgt := 114) dX10_person_110 rfl ?_
      have h2 : gmi M 25 60 >>> (nI p &&& 31) &&& 1 = 1 := by
        by_cases q : gmi M 25 60 >>> (nI p &&& 31) &&& 1 = 1
        · exact q
        · rw [ib_f q] at h; exact absurd rfl h
      exact g_iret dX10_person_114 rfl rfl ⟨by rw [show ∀ a b c d e : Int32, (if nI 4 = 0 then a else if nI 4 = 1 then b else if nI 4 = 2 then c else if nI 4 = 3 then d else e) = e from fun _ _ _ _ _ => rfl, h2]; rfl, rfl⟩
end P0
