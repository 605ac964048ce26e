/-! places of faults -/
section L0
variable {T : Nat → Nat} {L : Nat}
theorem itemsP_le {k : Nat} : ∀ (n i t : Nat) (vs : Nat → Nat), i ≤ L → (itemsP T L k n i t vs).2.1 ≤ L
  | 0, i, _, _, h => h
  | n + 1, i, t, vs, h => by
    have h1 := nxt_le (T := T) h
    unfold itemsP
    by_cases q1 : L ≤ nxt T L i ∨ T (nxt T L i) = 59
    · rw [if_pos q1]; exact h1
    · rw [if_neg q1]
      have hp : nxt T L i + 1 ≤ L := by
        have : ¬ L ≤ nxt T L i := fun z => q1 (Or.inl z)
        omega
      by_cases q2 : itJ k (T (nxt T L i)) = 3 ∨ t.testBit (itJ k (T (nxt T L i))) = true
      · rw [if_pos q2]; exact h1
      · rw [if_neg q2]
        have h2 := numP_le (T := T) (mx := 2) (lo := lowN (3 * k + itJ k (T (nxt T L i)))) (hi := highN (3 * k + itJ k (T (nxt T L i)))) hp
        split
        · exact itemsP_le n _ _ _ h2
        · exact h2
theorem clsP_le : ∀ (n : Nat) (b : Bool) (i : Nat) (s : TS), i ≤ L → (clsP T L n b i s).2.1 ≤ L
  | 0, _, i, _, h => h
  | n + 1, b, i, s, h => by
    unfold clsP
    by_cases q1 : b = true ∨ isS T L i 59 = true
    · rw [if_pos q1]
      have hj : (if b then i else nxt T L i + 1) ≤ L := by
        by_cases hb : b = true
        · rw [if_pos hb]; exact h
        · rw [if_neg hb]; exact (isS_in (q1.resolve_left hb)).1
      generalize (if b then i else nxt T L i + 1) = j at hj ⊢
      have h1 := nxt_le (T := T) hj
      by_cases q2 : kdN T L (nxt T L j) s = 3
      · rw [if_pos q2]; exact h1
      · rw [if_neg q2]
        have hp : nxt T L j + 1 ≤ L := by
          by_cases z : nxt T L j < L
          · exact z
          · exact absurd (by unfold kdN; first | exact if_neg z | simp [z]) q2
        have h2 := itemsP_le (T := T) (L := L) (k := kdN T L (nxt T L j) s) 4 (nxt T L j + 1) 0 (fun q => untN (3 * kdN T L (nxt T L j) s + q)) hp
        split
        · exact clsP_le n _ _ _ h2
        · exact h2
    · rw [if_neg q1]; exact nxt_le h
theorem townAt_le : townAt T L ≤ L := by
  have := clsP_le (T := T) (L := L) 16 true 0 townI (Nat.zero_le _)
  unfold townAt townP
  split
  · exact nxt_le this
  · exact this
theorem digP_le {i : Nat} (h : i ≤ L) : (digP T L i).2.1 ≤ L := by
  unfold digP
  split
  · rename_i q; exact (dig_lt q).1
  · exact nxt_le h
theorem stepP_le {i : Nat} (h : i ≤ L) : (stepP T L i).2.1 ≤ L := by
  have h1 := nxt_le (T := T) h
  unfold stepP
  by_cases q1 : L ≤ nxt T L i ∨ wkJ (T (nxt T L i)) = 4
  · rw [if_pos q1]; exact h1
  · rw [if_neg q1]
    have hp : nxt T L i + 1 ≤ L := by
      have : ¬ L ≤ nxt T L i := fun z => q1 (Or.inl z)
      omega
    have h2 := digP_le (T := T) hp
    have h3 := digP_le (T := T) h2
    repeat' split
    all_goals first | exact hp | exact h2 | exact h3
theorem stsP_le : ∀ (n c i : Nat) (dt : Nat → SD), i ≤ L → (stsP T L n c i dt).2.1 ≤ L
  | 0, _, i, _, h => h
  | n + 1, c, i, dt, h => by
    unfold stsP
    by_cases q1 : c = 0 ∨ isS T L i 59 = true
    · rw [if_pos q1]
      have hj : (if c = 0 then i else nxt T L i + 1) ≤ L := by
        by_cases hb : c = 0
        · rw [if_pos hb]; exact h
        · rw [if_neg hb]; exact (isS_in (q1.resolve_left hb)).1
      generalize (if c = 0 then i else nxt T L i + 1) = j at hj ⊢
      have h2 := stepP_le (T := T) hj
      split
      · exact stsP_le n _ _ _ h2
      · exact h2
    · rw [if_neg q1]; exact nxt_le h
theorem weekAt_le : weekAt T L ≤ L := by
  have := stsP_le (T := T) (L := L) 16 0 0 (fun _ => (0, 0, 0)) (Nat.zero_le _)
  unfold weekAt weekP
  split
  · exact nxt_le this
  · exact this
theorem lwP_le : ∀ (n i : Nat), i ≤ L → (lwP T L n i).2.1 ≤ L
  | 0, _, h => h
  | n + 1, i, h => by
    unfold lwP
    have hy := yP_san (T := T) h
    split
    · split
      · rename_i q; exact lwP_le n _ (isS_in q).1
      · exact nxt_le hy.1
    · exact hy.1
theorem lawAt_le : lawAt T L ≤ L := by
  have := lwP_le (T := T) (L := L) 61 0 (Nat.zero_le _)
  unfold lawAt
  split
  · exact nxt_le this
  · exact this
end L0
section N4
variable {X : gX} {M : gM} {d : Nat} {T : Nat → Nat} {L : Nat}
def fl0 (T : Nat → Nat) (L : Nat) : Int32 := if townOK T L then -1 else nI (townAt T L)
def fl2 (T : Nat → Nat) (L : Nat) : Int32 := if weekOK T L then -1 else nI (weekAt T L)
def PF0 (M M2 : gM) (T : Nat → Nat) (L : Nat) : Prop := gFr scrD M M2 ∧ TapeC M2 T L ∧ DrF M2 (townP T L).2.2
def PF1 (M M2 : gM) (a : Nat) (T : Nat → Nat) (L : Nat) : Prop := gFr (scrR a) M M2 ∧ TapeC M2 T L ∧ (lawOK T L = true → DrC M2 a (lwP T L 61 0).2.2)
def PF2 (M M2 : gM) (a : Nat) (T : Nat → Nat) (L : Nat) : Prop := gFr (scrW a) M M2 ∧ TapeC M2 T L ∧ WkIs M2 a (weekP T L).2.2.1 (weekP T L).2.2.2
set_option maxRecDepth 20000 in
theorem c_fault0 (hx : gXok X) (hZ : gSt X) (hL : gLay M) (hTC : TapeC M T L) (hB : TownB M 11) : gPos X (d + 8) yX10_fault cX10_fault 2 (some .int) [.ref 0, .int 0] M (fun v M2 => v = some (.int (fl0 T L)) ∧ PF0 M M2 T L) := by
  refine gMet.of hx (by decide) (Nat.le_of_ble_eq_true rfl) ?_
  refine g_iload_n dX10_fault_0 rfl rfl rfl ?_
  refine g_tableIn (off := 27) (tgt := 28) dX10_fault_1 (by decide) (by decide) (by decide) (by decide) ?_
  refine g_aload_n dX10_fault_28 rfl rfl rfl ?_
  refine g_getR dX10_fault_29 ff_X10_23 rfl (k0 hL) (r0_2 hL) rfl ?_
  refine g_aload_n dX10_fault_32 rfl rfl rfl ?_
  refine g_getR dX10_fault_33 ff_X10_10 rfl (k0 hL) (r0_0 hL) rfl ?_
  refine g_callVq (ci := 8) dX10_fault_36 lm_X10_106 mv_X8_faultIn (c_faultT (d := d) hx hZ hL hTC hB) rfl rfl (k11 hL) rfl rfl (Nat.le_of_ble_eq_true rfl) (gFit_room (by omega)) rfl (fun v M2 hQ => ?_)
  obtain ⟨rfl, hf⟩ := hQ
  exact g_iret dX10_fault_39 rfl (by first | rfl | exact b01) (⟨rfl, hf⟩)
set_option maxRecDepth 20000 in
theorem c_fault1 (hx : gXok X) (hZ : gSt X) (hL : gLay M) (hTC : TapeC M T L) {a : Nat} (ha : 200 ≤ a) (hla : LawAt M a) (r_19_1 : gmr M 19 1 = some a) : gPos X (d + 72) yX10_fault cX10_fault 2 (some .int) [.ref 0, .int 1] M (fun v M2 => v = some (.int (lawV T L)) ∧ PF1 M M2 a T L) := by
  refine gMet.of hx (by decide) (Nat.le_of_ble_eq_true rfl) ?_
  refine g_iload_n dX10_fault_0 rfl rfl rfl ?_
  refine g_tableIn (off := 39) (tgt := 40) dX10_fault_1 (by decide) (by decide) (by decide) (by decide) ?_
  refine g_aload_n dX10_fault_40 rfl rfl rfl ?_
  refine g_getR dX10_fault_41 ff_X10_31 rfl (k0 hL) (r0_3 hL) rfl ?_
  refine g_callVq (ci := 3) dX10_fault_44 lm_X10_110 mv_X3_faultOfTape (c_faultL (d := d) hx hZ hL hTC ha hla r_19_1) rfl rfl (k19 hL) rfl rfl (Nat.le_of_ble_eq_true rfl) (gFit_room (by omega)) rfl (fun v M2 hQ => ?_)
  obtain ⟨rfl, hf⟩ := hQ
  exact g_iret dX10_fault_47 rfl (by first | rfl | exact b01) (⟨rfl, hf⟩)
set_option maxRecDepth 20000 in
theorem c_fault2 (hx : gXok X) (hZ : gSt X) (hL : gLay M) (hTC : TapeC M T L) {a : Nat} (ha : 300 ≤ a) (hwk : WkAt M a) (r_0_7 : gmr M 0 7 = some a) : gPos X (d + 7) yX10_fault cX10_fault 2 (some .int) [.ref 0, .int 2] M (fun v M2 => v = some (.int (fl2 T L)) ∧ PF2 M M2 a T L) := by
  refine gMet.of hx (by decide) (Nat.le_of_ble_eq_true rfl) ?_
  have k_a := hwk.1
  refine g_iload_n dX10_fault_0 rfl rfl rfl ?_
  refine g_tableIn (off := 47) (tgt := 48) dX10_fault_1 (by decide) (by decide) (by decide) (by decide) ?_
  refine g_aload_n dX10_fault_48 rfl rfl rfl ?_
  refine g_getR dX10_fault_49 ff_X10_51 rfl (k0 hL) (r_0_7) rfl ?_
  refine g_aload_n dX10_fault_52 rfl rfl rfl ?_
  refine g_getR dX10_fault_53 ff_X10_10 rfl (k0 hL) (r0_0 hL) rfl ?_
  refine g_callVq (ci := 9) dX10_fault_56 lm_X10_114 mv_X9_faultIn (c_faultW (d := d) hx hZ hL hTC ha hwk) rfl rfl hwk.1 rfl rfl (Nat.le_of_ble_eq_true rfl) (gFit_room (by omega)) rfl (fun v M2 hQ => ?_)
  obtain ⟨rfl, hf⟩ := hQ
  exact g_iret dX10_fault_59 rfl (by first | rfl | exact b01) (⟨rfl, hf⟩)
set_option maxRecDepth 20000 in
theorem c_faultN (hx : gXok X) (hL : gLay M) {x : Int32} (h0 : ¬ x = 0) (h1 : ¬ x = 1) (h2 : ¬ x = 2) : gDet X (d + 0) yX10_fault cX10_fault 2 (some .int) [.ref 0, .int x] M (some (.int (-2))) M := by
  refine gMet.of hx (by decide) (Nat.le_of_ble_eq_true rfl) ?_
  refine g_iload_n dX10_fault_0 rfl rfl rfl ?_
  by_cases e1_0 : x = 0
  · rw [e1_0]
    refine g_tableIn (off := 27) (tgt := 28) dX10_fault_1 (by decide) (by decide) (by decide) (by decide) ?_
    exact absurd e1_0 h0
  by_cases e1_1 : x = 1
  · rw [e1_1]
    refine g_tableIn (off := 39) (tgt := 40) dX10_fault_1 (by decide) (by decide) (by decide) (by decide) ?_
    exact absurd e1_1 h1
  by_cases e1_2 : x = 2
  · rw [e1_2]
    refine g_tableIn (off := 47) (tgt := 48) dX10_fault_1 (by decide) (by decide) (by decide) (by decide) ?_
    exact absurd e1_2 h2
  refine g_tableOut (tgt := 60) dX10_fault_1 (swo 0 3 (by decide) (fun k hk => match k, hk with | 0, _ => e1_0 | 1, _ => e1_1 | 2, _ => e1_2 | (k + 3), hk => absurd hk (by omega))) (by decide) ?_
  refine g_bipush (v := -2) dX10_fault_60 (by decide) rfl ?_
  exact g_iret dX10_fault_62 rfl (by first | rfl | exact b01) (⟨by first | rfl | assumption | exact gFr.rf | grind [ib], by first | rfl | assumption | exact gFr.rf | grind [ib]⟩)
theorem neg1 {n : Nat} (h : n < 2 ^ 31) : ¬ nI n = -1 := fun q => absurd (show nI n < 0 by rw [q]; decide) (nI_pos h)
theorem c_textN (hx : gXok X) (hL : gLay M) {x : Int32} (h0 : ¬ x = 0) (h1 : ¬ x = 1) (h2 : ¬ x = 2) : gDet X (d + 1) yX10_text cX10_text 2 (some .int) [.ref 0, .int x] M (some (.int (-1))) M := by
  refine gMet.of hx (by decide) (Nat.le_of_ble_eq_true rfl) ?_
  refine g_aload_n dX10_text_0 rfl rfl rfl ?_
  refine g_iload_n dX10_text_1 rfl rfl rfl ?_
  refine g_callVdi (ci := 10) dX10_text_2 lm_X10_115 mv_X10_fault (c_faultN (d := d) hx hL h0 h1 h2) rfl rfl (k0 hL) rfl rfl (Nat.le_of_ble_eq_true rfl) (gFit_room (by omega)) rfl ?_
  refine g_iconst (v := -1) dX10_text_5 (by decide) rfl ?_
  refine g_icmp_eq (tgt := 11) dX10_text_6 (by decide) rfl (fun h_ => absurd h_ (by decide)) (fun _ => ?_)
  refine g_iconst (v := -1) dX10_text_9 (by decide) rfl ?_
  exact g_iret dX10_text_10 rfl (by first | rfl | exact b01) (⟨by first | rfl | assumption | exact gFr.rf | grind [ib], by first | rfl | assumption | exact gFr.rf | grind [ib]⟩)
set_option maxRecDepth 20000 in
theorem c_text0 (hx : gXok X) (hZ : gSt X) (hL : gLay M) (hTC : TapeC M T L) (hB : TownB M 11) : gPos X (d + 9) yX10_text cX10_text 2 (some .int) [.ref 0, .int 0] M (fun v M2 => v = some (.int (if townOK T L then nI (townP T L).2.2.1 else -1)) ∧ ∃ M1, PF0 M M1 T L ∧ (townOK T L = true → Fnd M1 M2) ∧ (¬ townOK T L = true → M2 = M1)) := by
  refine gMet.of hx (by decide) (Nat.le_of_ble_eq_true rfl) ?_
  have h240 := hTC.2.1
  refine g_aload_n dX10_text_0 rfl rfl rfl ?_
  refine g_iload_n dX10_text_1 rfl rfl rfl ?_
  refine g_callVq (ci := 10) dX10_text_2 lm_X10_115 mv_X10_fault (c_fault0 (d := d) hx hZ hL hTC hB) rfl rfl (k0 hL) rfl rfl (Nat.le_of_ble_eq_true rfl) (gFit_room (by omega)) rfl (fun v M2 hQ => ?_)
  obtain ⟨rfl, hf⟩ := hQ
  unfold fl0
  have hf0 := hf
  have hL2 := hf.1.lay hL
  by_cases ho : townOK T L = true
  · rw [if_pos ho, if_pos ho]
    refine g_iconst (v := -1) dX10_text_5 (by decide) rfl ?_
    refine g_icmp_eq (tgt := 11) dX10_text_6 (by decide) rfl (fun _ => ?_) (fun h_ => absurd (by decide) h_)
    refine g_iload_n dX10_text_11 rfl rfl rfl ?_
    refine g_lookup (tgt := 40) dX10_text_12 (by decide) (by decide) (off := 28) (by decide) ?_
    refine g_aload_n dX10_text_40 rfl rfl rfl ?_
    refine g_callVq (ci := 10) dX10_text_41 lm_X10_118 mv_X10_foundTown (c_found (d := d + 6) hx hL2 hf.2.2.1.1 hf.2.2.2.2.2.1) rfl rfl (k0 hL2) rfl rfl (Nat.le_of_ble_eq_true rfl) (gFit_room (by omega)) rfl (fun v M2 hQ => ?_)
    obtain ⟨rfl, hf⟩ := hQ
    exact g_iret dX10_text_44 rfl (by first | rfl | exact b01) (⟨rfl, _, hf0, fun _ => hf, fun q => absurd ho q⟩)
  · rw [if_neg ho, if_neg ho]
    have hat : townAt T L < 2 ^ 31 := by
      have := townAt_le (T := T) (L := L)
      omega
    refine g_iconst (v := -1) dX10_text_5 (by decide) rfl ?_
    refine g_icmp_eq (tgt := 11) dX10_text_6 (by decide) rfl (fun h_ => absurd h_ (neg1 hat)) (fun _ => ?_)
    refine g_iconst (v := -1) dX10_text_9 (by decide) rfl ?_
    exact g_iret dX10_text_10 rfl (by first | rfl | exact b01) (⟨rfl, _, hf0, fun q => absurd q ho, fun _ => rfl⟩)
end N4
