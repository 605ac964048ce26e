section N5
variable {X : gX} {M : gM} {d : Nat} {T : Nat → Nat} {L : Nat}
theorem scrR_lo {a c : Nat} (ha : 200 ≤ a) (h : c < 200) (h1 : c ≠ 1) : ¬ scrR a c := fun q => by rcases q with q | q | q | q | q <;> omega
theorem scrW_lo {a c : Nat} (ha : 300 ≤ a) (h : c < 300) (h1 : c ≠ 1) : ¬ scrW a c := fun q => by rcases q with q | q | q | q | q <;> omega
set_option maxRecDepth 20000 in
theorem c_text1 (hx : gXok X) (hZ : gSt X) (hW : gNw X) (hL : gLay M) (hTC : TapeC M T L) {n : Nat} (hn : gmi M 20 3 = nI n) (h4 : n < 4) (r_19_1 : gmr M 19 1 = some (200 + 5 * n)) (hla : LawAt M (200 + 5 * n)) (h0 : ∀ c, 200 + 5 * (n + 1) ≤ c → c ≤ 200 + 5 * (n + 1) + 4 → gkd M c = 0) : gMet X (d + 73) yX10_text cX10_text 2 (some .int) [.ref 0, .int 1] M (fun c => 200 + 5 * (n + 1) ≤ c ∧ c ≤ 200 + 5 * (n + 1) + 4) 5 433 (fun v M2 => v = some (.int (if lawOK T L then nI n else -1)) ∧ ∃ M1, PF1 M M1 (200 + 5 * n) T L ∧ (lawOK T L = true → AddL M1 M2 n) ∧ (¬ lawOK T L = true → M2 = M1)) := by
  refine gMet.of hx (by decide) (Nat.le_of_ble_eq_true rfl) ?_
  have h240 := hTC.2.1
  refine g_aload_n dX10_text_0 rfl rfl rfl ?_
  refine g_iload_n dX10_text_1 rfl rfl rfl ?_
  refine g_callVq (ci := 10) dX10_text_2 lm_X10_115 mv_X10_fault (c_fault1 (d := d) hx hZ hL hTC (a := 200 + 5 * n) (by omega) hla r_19_1) rfl rfl (k0 hL) rfl rfl (Nat.le_of_ble_eq_true rfl) (gFit_room (by omega)) rfl (fun v M2 hQ => ?_)
  obtain ⟨rfl, hf⟩ := hQ
  unfold lawV
  have hf0 := hf
  have hL2 := hf.1.lay hL
  have hn2 : gmi M2 20 3 = nI n := by rw [hf.1.2.2.2 20 (scrR_lo (by omega) (by decide) (by decide))]; exact hn
  by_cases ho : lawOK T L = true
  · rw [if_pos ho, if_pos ho]
    refine g_iconst (v := -1) dX10_text_5 (by decide) rfl ?_
    refine g_icmp_eq (tgt := 11) dX10_text_6 (by decide) rfl (fun _ => ?_) (fun h_ => absurd (by decide) h_)
    refine g_iload_n dX10_text_11 rfl rfl rfl ?_
    refine g_lookup (tgt := 45) dX10_text_12 (by decide) (by decide) (off := 33) (by decide) ?_
    refine g_aload_n dX10_text_45 rfl rfl rfl ?_
    refine g_callV (ci := 10) (As := []) dX10_text_46 lm_X10_121 mv_X10_addLaw (c_addLaw (d := d + 69) hx hW hL2 hn2 h4 (by rw [hf.1.2.1]; exact r_19_1) (LawAt_fr hf.1 hla) (fun c h1 h2 => by rw [(hf.1.1 c).1]; exact h0 c h1 h2)) rfl rfl (k0 hL2) rfl rfl (Nat.le_of_ble_eq_true rfl) (gFit_room (by omega)) (by decide) (by decide) (fun c hc => hc) (anqc (anr (fun q => by have := q.1; omega)) (anqc ani anq0)) an0 rfl (fun v M3 hQ => ?_)
    obtain ⟨rfl, hA⟩ := hQ
    exact g_iret dX10_text_49 rfl rfl ⟨rfl, _, hf0, fun _ => hA, fun q => absurd ho q⟩
  · rw [if_neg ho, if_neg ho]
    have hat : lawAt T L < 2 ^ 31 := by
      have := lawAt_le (T := T) (L := L)
      omega
    refine g_iconst (v := -1) dX10_text_5 (by decide) rfl ?_
    refine g_icmp_eq (tgt := 11) dX10_text_6 (by decide) rfl (fun h_ => absurd h_ (neg1 hat)) (fun _ => ?_)
    refine g_iconst (v := -1) dX10_text_9 (by decide) rfl ?_
    exact g_iret dX10_text_10 rfl (by first | rfl | exact b01) (⟨rfl, _, hf0, fun q => absurd q ho, fun _ => rfl⟩)
set_option maxRecDepth 20000 in
theorem c_text14 (hx : gXok X) (hZ : gSt X) (hL : gLay M) (hTC : TapeC M T L) (hn : gmi M 20 3 = nI 4) {a : Nat} (ha : 200 ≤ a) (r_19_1 : gmr M 19 1 = some a) (hla : LawAt M a) : gPos X (d + 73) yX10_text cX10_text 2 (some .int) [.ref 0, .int 1] M (fun v M2 => v = some (.int (-1)) ∧ PF1 M M2 a T L) := by
  refine gMet.of hx (by decide) (Nat.le_of_ble_eq_true rfl) ?_
  have h240 := hTC.2.1
  refine g_aload_n dX10_text_0 rfl rfl rfl ?_
  refine g_iload_n dX10_text_1 rfl rfl rfl ?_
  refine g_callVq (ci := 10) dX10_text_2 lm_X10_115 mv_X10_fault (c_fault1 (d := d) hx hZ hL hTC ha hla r_19_1) rfl rfl (k0 hL) rfl rfl (Nat.le_of_ble_eq_true rfl) (gFit_room (by omega)) rfl (fun v M2 hQ => ?_)
  obtain ⟨rfl, hf⟩ := hQ
  unfold lawV
  have hf0 := hf
  have hL2 := hf.1.lay hL
  have hn2 : gmi M2 20 3 = nI 4 := by rw [hf.1.2.2.2 20 (scrR_lo (by omega) (by decide) (by decide))]; exact hn
  by_cases ho : lawOK T L = true
  · rw [if_pos ho]
    refine g_iconst (v := -1) dX10_text_5 (by decide) rfl ?_
    refine g_icmp_eq (tgt := 11) dX10_text_6 (by decide) rfl (fun _ => ?_) (fun h_ => absurd (by decide) h_)
    refine g_iload_n dX10_text_11 rfl rfl rfl ?_
    refine g_lookup (tgt := 45) dX10_text_12 (by decide) (by decide) (off := 33) (by decide) ?_
    refine g_aload_n dX10_text_45 rfl rfl rfl ?_
    refine g_callVdi (ci := 10) dX10_text_46 lm_X10_121 mv_X10_addLaw (c_addLaw4 (d := d + 72) hx hL2 hn2) rfl rfl (k0 hL2) rfl rfl (Nat.le_of_ble_eq_true rfl) (gFit_room (by omega)) rfl ?_
    exact g_iret dX10_text_49 rfl (by first | rfl | exact b01) (⟨rfl, hf0⟩)
  · rw [if_neg ho]
    have hat : lawAt T L < 2 ^ 31 := by
      have := lawAt_le (T := T) (L := L)
      omega
    refine g_iconst (v := -1) dX10_text_5 (by decide) rfl ?_
    refine g_icmp_eq (tgt := 11) dX10_text_6 (by decide) rfl (fun h_ => absurd h_ (neg1 hat)) (fun _ => ?_)
    refine g_iconst (v := -1) dX10_text_9 (by decide) rfl ?_
    exact g_iret dX10_text_10 rfl (by first | rfl | exact b01) (⟨rfl, hf0⟩)
set_option maxRecDepth 20000 in
theorem c_text2 (hx : gXok X) (hZ : gSt X) (hW : gNw X) (hL : gLay M) (hTC : TapeC M T L) {n : Nat} (hn : gmi M 0 6 = nI n) (h4 : n < 4) (r_0_7 : gmr M 0 7 = some (300 + 5 * n)) (hwk : WkAt M (300 + 5 * n)) (h0 : ∀ c, 300 + 5 * (n + 1) ≤ c → c ≤ 300 + 5 * (n + 1) + 4 → gkd M c = 0) : gMet X (d + 8) yX10_text cX10_text 2 (some .int) [.ref 0, .int 2] M (fun c => 300 + 5 * (n + 1) ≤ c ∧ c ≤ 300 + 5 * (n + 1) + 4) 4 52 (fun v M2 => v = some (.int (if weekOK T L then nI n else -1)) ∧ ∃ M1, PF2 M M1 (300 + 5 * n) T L ∧ (weekOK T L = true → AddW M1 M2 n) ∧ (¬ weekOK T L = true → M2 = M1)) := by
  refine gMet.of hx (by decide) (Nat.le_of_ble_eq_true rfl) ?_
  have h240 := hTC.2.1
  refine g_aload_n dX10_text_0 rfl rfl rfl ?_
  refine g_iload_n dX10_text_1 rfl rfl rfl ?_
  refine g_callVq (ci := 10) dX10_text_2 lm_X10_115 mv_X10_fault (c_fault2 (d := d) hx hZ hL hTC (a := 300 + 5 * n) (by omega) hwk r_0_7) rfl rfl (k0 hL) rfl rfl (Nat.le_of_ble_eq_true rfl) (gFit_room (by omega)) rfl (fun v M2 hQ => ?_)
  obtain ⟨rfl, hf⟩ := hQ
  unfold fl2
  have hf0 := hf
  have hL2 := hf.1.lay hL
  have hn2 : gmi M2 0 6 = nI n := by rw [hf.1.2.2.2 0 (scrW_lo (by omega) (by decide) (by decide))]; exact hn
  by_cases ho : weekOK T L = true
  · rw [if_pos ho, if_pos ho]
    refine g_iconst (v := -1) dX10_text_5 (by decide) rfl ?_
    refine g_icmp_eq (tgt := 11) dX10_text_6 (by decide) rfl (fun _ => ?_) (fun h_ => absurd (by decide) h_)
    refine g_iload_n dX10_text_11 rfl rfl rfl ?_
    refine g_lookup (tgt := 50) dX10_text_12 (by decide) (by decide) (off := 38) (by decide) ?_
    refine g_aload_n dX10_text_50 rfl rfl rfl ?_
    refine g_callV (ci := 10) (As := []) dX10_text_51 lm_X10_124 mv_X10_addWeek (c_addWeek (d := d + 5) hx hW hL2 hn2 h4 (by rw [hf.1.2.1]; exact r_0_7) (WkAt_fr hf.1 hwk) (fun c h1 h2 => by rw [(hf.1.1 c).1]; exact h0 c h1 h2)) rfl rfl (k0 hL2) rfl rfl (Nat.le_of_ble_eq_true rfl) (gFit_room (by omega)) (by decide) (by decide) (fun c hc => hc) (anqc (anr (fun q => by have := q.1; omega)) (anqc ani anq0)) an0 rfl (fun v M3 hQ => ?_)
    obtain ⟨rfl, hA⟩ := hQ
    exact g_iret dX10_text_54 rfl rfl ⟨rfl, _, hf0, fun _ => hA, fun q => absurd ho q⟩
  · rw [if_neg ho, if_neg ho]
    have hat : weekAt T L < 2 ^ 31 := by
      have := weekAt_le (T := T) (L := L)
      omega
    refine g_iconst (v := -1) dX10_text_5 (by decide) rfl ?_
    refine g_icmp_eq (tgt := 11) dX10_text_6 (by decide) rfl (fun h_ => absurd h_ (neg1 hat)) (fun _ => ?_)
    refine g_iconst (v := -1) dX10_text_9 (by decide) rfl ?_
    exact g_iret dX10_text_10 rfl (by first | rfl | exact b01) (⟨rfl, _, hf0, fun q => absurd q ho, fun _ => rfl⟩)
set_option maxRecDepth 20000 in
theorem c_text24 (hx : gXok X) (hZ : gSt X) (hL : gLay M) (hTC : TapeC M T L) (hn : gmi M 0 6 = nI 4) {a : Nat} (ha : 300 ≤ a) (r_0_7 : gmr M 0 7 = some a) (hwk : WkAt M a) : gPos X (d + 8) yX10_text cX10_text 2 (some .int) [.ref 0, .int 2] M (fun v M2 => v = some (.int (-1)) ∧ PF2 M M2 a T L) := by
  refine gMet.of hx (by decide) (Nat.le_of_ble_eq_true rfl) ?_
  have h240 := hTC.2.1
  refine g_aload_n dX10_text_0 rfl rfl rfl ?_
  refine g_iload_n dX10_text_1 rfl rfl rfl ?_
  refine g_callVq (ci := 10) dX10_text_2 lm_X10_115 mv_X10_fault (c_fault2 (d := d) hx hZ hL hTC ha hwk r_0_7) rfl rfl (k0 hL) rfl rfl (Nat.le_of_ble_eq_true rfl) (gFit_room (by omega)) rfl (fun v M2 hQ => ?_)
  obtain ⟨rfl, hf⟩ := hQ
  unfold fl2
  have hf0 := hf
  have hL2 := hf.1.lay hL
  have hn2 : gmi M2 0 6 = nI 4 := by rw [hf.1.2.2.2 0 (scrW_lo (by omega) (by decide) (by decide))]; exact hn
  by_cases ho : weekOK T L = true
  · rw [if_pos ho]
    refine g_iconst (v := -1) dX10_text_5 (by decide) rfl ?_
    refine g_icmp_eq (tgt := 11) dX10_text_6 (by decide) rfl (fun _ => ?_) (fun h_ => absurd (by decide) h_)
    refine g_iload_n dX10_text_11 rfl rfl rfl ?_
    refine g_lookup (tgt := 50) dX10_text_12 (by decide) (by decide) (off := 38) (by decide) ?_
    refine g_aload_n dX10_text_50 rfl rfl rfl ?_
    refine g_callVdi (ci := 10) dX10_text_51 lm_X10_124 mv_X10_addWeek (c_addWeek4 (d := d + 7) hx hL2 hn2) rfl rfl (k0 hL2) rfl rfl (Nat.le_of_ble_eq_true rfl) (gFit_room (by omega)) rfl ?_
    exact g_iret dX10_text_54 rfl (by first | rfl | exact b01) (⟨rfl, hf0⟩)
  · rw [if_neg ho]
    have hat : weekAt T L < 2 ^ 31 := by
      have := weekAt_le (T := T) (L := L)
      omega
    refine g_iconst (v := -1) dX10_text_5 (by decide) rfl ?_
    refine g_icmp_eq (tgt := 11) dX10_text_6 (by decide) rfl (fun h_ => absurd h_ (neg1 hat)) (fun _ => ?_)
    refine g_iconst (v := -1) dX10_text_9 (by decide) rfl ?_
    exact g_iret dX10_text_10 rfl (by first | rfl | exact b01) (⟨rfl, hf0⟩)
end N5
