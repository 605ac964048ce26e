section C2
variable {X : gX} {M : gM} {d : Nat} {T : Nat → Nat} {L i : Nat}
set_option maxRecDepth 20000 in
set_option maxHeartbeats 2000000 in
theorem c_readsClause (hx : gXok X) (hZ : gSt X) {a : Nat} (ha : 200 ≤ a) {cs : List CL} (hc0 : DrC M a cs) (h61 : cs.length < 61) (h : TC M T L i) (hG : (clG cs).length ≤ i) : gPos X (d + 70) yX3_readsClause cX3_readsClause 4 (some .boolean) [.ref 19] M (PoC M a T L cs (ccP T L i)) := by
  have hL := h.1
  have h240 := h.2.1.2.1
  refine gMet.of hx (by decide) (Nat.le_of_ble_eq_true rfl) ?_
  obtain ⟨hS, -, -, -⟩ := c_parts (E := fun _ => 0) (T := T) (L := L) hx hZ ha 6 (by decide) (d + 4)
  have r_19_1 := hc0.1.2.1
  have k_a := hc0.1.1.1
  have hg := nxt_ge (T := T) (L := L) (i := i)
  unfold ccP
  refine g_aload_n dX3_readsClause_0 rfl rfl rfl ?_
  refine g_getR dX3_readsClause_1 ff_X3_12 rfl (k19 hL) (r_19_1) rfl ?_
  refine g_getI dX3_readsClause_4 ff_X3_43 rfl (k_a) rfl ?_
  rw [hc0.1.2.2.1]
  refine g_istore_n dX3_readsClause_7 rfl (by decide) rfl ?_
  refine g_aload_n dX3_readsClause_8 rfl rfl rfl ?_
  refine g_getR dX3_readsClause_9 ff_X3_18 rfl (k19 hL) (r19_0 hL) rfl ?_
  refine g_callVq (ci := 7) dX3_readsClause_12 lm_X3_39 mv_X7_next (c_next (d := d + 69) hx h) rfl rfl (k1 hL) rfl rfl (Nat.le_of_ble_eq_true rfl) (gFit_room (by omega)) rfl (fun v M2 hQ => ?_)
  obtain ⟨rfl, hf⟩ := hQ
  have hn := hf
  have hd1 := hc0.1.t hn.1 ha
  by_cases hs : isS T L i 33 = true ∨ isS T L i 40 = true
  · rw [if_pos hs]
    have hcn : cdB T L (loP T L 6) none (nxt T L i) = cdB T L (loP T L 6) none i := by
      unfold cdB trB unB unP
      rw [nxt_nxt, isS_nxt, isS_nxt, smP_nxt]
    have key : ∀ x, gW X (gRoom (d + 70) 0 0) (gZ X gN0 0 0 (PoC M a T L cs (cnP T L [] (cdB T L (loP T L 6) none i)))) gN0 yX3_readsClause cX3_readsClause 4 (some .boolean) 70 [(0, .ref 19), (1, .int (nI (clG cs).length)), (2, .int x), (3, .int 0)] [] M2 0 0 := by
      intro x
      rw [← hcn]
      exact c_cond hx hZ ha (Or.inl ⟨rfl, rfl⟩) hc0 h61 (scrL1 hn.1) hn.2 (by rw [List.append_nil]; exact hd1) (by rw [List.append_nil]; omega)
    have hsg : sgn T L (nxt T L i) = 33 ∨ sgn T L (nxt T L i) = 40 := hs.elim (fun q => Or.inl ((isS_iff h (by decide)).mp q)) (fun q => Or.inr ((isS_iff h (by decide)).mp q))
    refine g_istore_n dX3_readsClause_15 rfl (by decide) rfl ?_
    refine g_iload_n dX3_readsClause_16 rfl rfl rfl ?_
    refine g_bipush (v := 33) dX3_readsClause_17 (by decide) rfl ?_
    refine g_icmp_eq (tgt := 32) dX3_readsClause_19 (by decide) rfl (fun h19 => ?_) (fun h19 => ?_)
    · refine g_iconst (v := 0) dX3_readsClause_32 (by decide) rfl ?_
      refine g_istore_n dX3_readsClause_33 rfl (by decide) rfl ?_
      refine g_iload_n dX3_readsClause_34 rfl rfl rfl ?_
      refine g_if_eq (tgt := 70) dX3_readsClause_35 (by decide) rfl (fun _ => ?_) (fun h_ => absurd (by decide) h_)
      exact g_go (key _) ⟨rfl, rfl, rfl, rfl, trivial⟩
    · refine g_iload_n dX3_readsClause_22 rfl rfl rfl ?_
      refine g_bipush (v := 40) dX3_readsClause_23 (by decide) rfl ?_
      refine g_icmp_eq (tgt := 32) dX3_readsClause_25 (by decide) rfl (fun _ => ?_) (fun h_ => absurd (by first | exact hsg.elim (fun q => absurd q h19) id) h_)
      refine g_iconst (v := 0) dX3_readsClause_32 (by decide) rfl ?_
      refine g_istore_n dX3_readsClause_33 rfl (by decide) rfl ?_
      refine g_iload_n dX3_readsClause_34 rfl rfl rfl ?_
      refine g_if_eq (tgt := 70) dX3_readsClause_35 (by decide) rfl (fun _ => ?_) (fun h_ => absurd (by decide) h_)
      exact g_go (key _) ⟨rfl, rfl, rfl, rfl, trivial⟩
  · rw [if_neg hs]
    refine g_istore_n dX3_readsClause_15 rfl (by decide) rfl ?_
    refine g_iload_n dX3_readsClause_16 rfl rfl rfl ?_
    refine g_bipush (v := 33) dX3_readsClause_17 (by decide) rfl ?_
    refine g_icmp_eq (tgt := 32) dX3_readsClause_19 (by decide) rfl (fun h_ => absurd h_ (fun q => hs (Or.inl ((isS_iff h (by decide)).mpr q)))) (fun _ => ?_)
    refine g_iload_n dX3_readsClause_22 rfl rfl rfl ?_
    refine g_bipush (v := 40) dX3_readsClause_23 (by decide) rfl ?_
    refine g_icmp_eq (tgt := 32) dX3_readsClause_25 (by decide) rfl (fun h_ => absurd h_ (fun q => hs (Or.inr ((isS_iff h (by decide)).mpr q)))) (fun _ => ?_)
    refine g_iconst (v := 1) dX3_readsClause_28 (by decide) rfl ?_
    refine g_goto (tgt := 33) dX3_readsClause_29 (by decide) ?_
    refine g_istore_n dX3_readsClause_33 rfl (by decide) rfl ?_
    refine g_iload_n dX3_readsClause_34 rfl rfl rfl ?_
    refine g_if_eq (tgt := 70) dX3_readsClause_35 (by decide) rfl (fun h_ => absurd h_ (by decide)) (fun _ => ?_)
    refine g_aload_n dX3_readsClause_38 rfl rfl rfl ?_
    refine g_iconst (v := 3) dX3_readsClause_39 (by decide) rfl ?_
    refine g_iconst (v := 0) dX3_readsClause_40 (by decide) rfl ?_
    refine g_iconst (v := 0) dX3_readsClause_41 (by decide) rfl ?_
    refine g_callVq (ci := 3) dX3_readsClause_42 lm_X3_46 mv_X3_readsJoined (hS hn.2 hd1 (by omega)) rfl rfl (k19 hn.2.1) rfl rfl (Nat.le_of_ble_eq_true rfl) (gFit_room (by omega)) rfl (fun v M2 hQ => ?_)
    obtain ⟨rfl, hf⟩ := hQ
    obtain ⟨hf1, hC1, hD1⟩ := hf
    have hnx : smP T L (loP T L 6) (nxt T L i) = smP T L (loP T L 6) i := smP_nxt
    rw [hnx] at hC1 hD1 ⊢
    have hsan := smP_san (T := T) (loP_san (T := T) (L := L) 6) i h.2.2.2
    generalize smP T L (loP T L 6) i = r at *
    by_cases hr : r.1 = true
    · rw [if_pos hr, ib_t hr]
      have hD := hD1 hr
      have hs2 := hsan.2 hr
      refine g_if_ne (tgt := 50) dX3_readsClause_45 (by decide) rfl (fun _ => ?_) (fun h_ => absurd h_ (by decide))
      refine g_aload_n dX3_readsClause_50 rfl rfl rfl ?_
      refine g_iconst (v := 2) dX3_readsClause_51 (by decide) rfl ?_
      refine g_callVq (ci := 3) dX3_readsClause_52 lm_X3_50 mv_X3_jointIn (c_jointIn (d := d + 64) hx hZ hC1 (lv := 2) (by decide)) rfl rfl (k19 hC1.1) rfl rfl (Nat.le_of_ble_eq_true rfl) (gFit_room (by omega)) rfl (fun v M2 hQ => ?_)
      obtain ⟨rfl, hf⟩ := hQ
      obtain ⟨hf2, hC2⟩ := hf
      have hd2 := hD.t hf2 ha
      by_cases h0 : jnP T L 2 (nxt T L r.2.1) = 0
      · rw [if_pos h0, if_pos h0]
        have r_19_1 := hd2.2.1
        refine g_iconst (v := -1) dX3_readsClause_55 (by decide) rfl ?_
        refine g_icmp_ne (tgt := 70) dX3_readsClause_56 (by decide) rfl (fun h_ => absurd (by decide) h_) (fun _ => ?_)
        refine g_aload_n dX3_readsClause_59 rfl rfl rfl ?_
        refine g_getR dX3_readsClause_60 ff_X3_12 rfl (k19 hC2.1) (r_19_1) rfl ?_
        refine g_iload_n dX3_readsClause_63 rfl rfl rfl ?_
        refine g_iload_n dX3_readsClause_64 rfl rfl rfl ?_
        refine g_callVq (ci := 2) dX3_readsClause_65 lm_X3_54 mv_X2_addClause (c_addClause (d := d + 69) hx hd2 h61) rfl rfl hd2.1.1 rfl rfl (Nat.le_of_ble_eq_true rfl) (gFit_room (by omega)) rfl (fun v M2 hQ => ?_)
        obtain ⟨rfl, hA, hB, hB1, hB2⟩ := hQ
        have c2 : ∀ c, c = a + 2 ∨ c = a + 3 → ¬ scrL a c := fun c q z => by rcases q with q | q <;> rcases z with z | z | z <;> omega
        have c3 : ∀ c, c = a + 2 ∨ c = a + 3 → ¬ c = 1 := fun c q z => by rcases q with q | q <;> omega
        refine g_iconst (v := 1) dX3_readsClause_68 (by decide) rfl ?_
        exact g_iret dX3_readsClause_69 rfl (by first | rfl | exact b01) (⟨rfl, (((scrR1 hn.1).tr (scrRL hf1)).tr (scrR1 hf2)).tr (scrRC hA), hC2.frc hA ha, fun _ => DrC_snoc (c := ([], r.2.2.1, fun _ => 1, r.2.2.2)) hc0 h61 (by rw [hB1, hf2.2.2.2 _ (c3 _ (Or.inl rfl)), hf1.2.2.2 _ (c2 _ (Or.inl rfl)), hn.1.2.2.2 _ (c3 _ (Or.inl rfl))]) (by rw [hB2, hf2.2.2.2 _ (c3 _ (Or.inr rfl)), hf1.2.2.2 _ (c2 _ (Or.inr rfl)), hn.1.2.2.2 _ (c3 _ (Or.inr rfl))]; rfl) hB⟩)
      · rw [if_neg h0, if_neg h0]
        have hj6 := jnP_j h0
        have hcn : cdB T L (loP T L 6) (some r.2.2.2) (nxt T L r.2.1) = cdB T L (loP T L 6) (some r.2.2.2) r.2.1 := by
          unfold cdB trB unB cmP
          dsimp only
          rw [nxt_nxt]
        have key : ∀ x, gW X (gRoom (d + 70) 0 0) (gZ X gN0 0 0 (PoC M a T L cs (cnP T L r.2.2.1 (cdB T L (loP T L 6) (some r.2.2.2) r.2.1)))) gN0 yX3_readsClause cX3_readsClause 4 (some .boolean) 70 [(0, .ref 19), (1, .int (nI (clG cs).length)), (2, .int x), (3, .int 1)] [] M2 0 0 := by
          intro x
          rw [← hcn]
          have := nxt_ge (T := T) (L := L) (i := r.2.1)
          exact c_cond hx hZ ha (Or.inr ⟨rfl, _, rfl⟩) hc0 h61 (((scrL1 hn.1).tr hf1).tr (scrL1 hf2)) hC2 hd2 (by rw [List.length_append]; omega)
        refine g_iconst (v := -1) dX3_readsClause_55 (by decide) rfl ?_
        refine g_icmp_ne (tgt := 70) dX3_readsClause_56 (by decide) rfl (fun _ => ?_) (fun h_ => absurd h_ (fun q => absurd (show nI (jnP T L 2 (nxt T L r.2.1)) < 0 by rw [q]; decide) (nI_pos (by omega))))
        exact g_go (key _) ⟨rfl, rfl, rfl, rfl, trivial⟩
    · rw [if_neg hr, ib_f hr]
      refine g_if_ne (tgt := 50) dX3_readsClause_45 (by decide) rfl (fun h_ => absurd (by decide) h_) (fun _ => ?_)
      refine g_iconst (v := 0) dX3_readsClause_48 (by decide) rfl ?_
      exact g_iret dX3_readsClause_49 rfl (by first | rfl | exact b01) (PoC_fl ((scrR1 hn.1).tr (scrRL hf1)) hC1)
theorem cnP_san {pre : List Nat} {r : PR} {i : Nat} (hr : San L i r) (hp : (r.1 = true → i ≤ r.2.1 → True)) : (cnP T L pre r).2.1 ≤ L ∧ ((cnP T L pre r).1 = true → i + 3 ≤ (cnP T L pre r).2.1 ∧ i + (cnP T L pre r).2.2.1.length + (cnP T L pre r).2.2.2.1.length + 1 ≤ (cnP T L pre r).2.1 + pre.length ∧ 0 < r.2.2.1.length + 1) := by
  unfold cnP
  by_cases h1 : r.1 = true
  · rw [if_pos h1]
    by_cases h2 : isS T L r.2.1 63 = true
    · rw [if_pos h2]
      have hz := (isS_in h2).1
      have hg := nxt_ge (T := T) (L := L) (i := r.2.1)
      have hs := smP_san (T := T) (loP_san (T := T) (L := L) 6) (nxt T L r.2.1 + 1) hz
      generalize smP T L (loP T L 6) (nxt T L r.2.1 + 1) = v at *
      by_cases h3 : v.1 = true
      · rw [if_pos h3]
        have h4 := hs.2 h3
        have h5 := hr.2 h1
        exact ⟨hs.1, fun _ => ⟨by dsimp only; omega, by dsimp only; rw [List.length_append]; omega, by omega⟩⟩
      · rw [if_neg h3]
        exact ⟨hs.1, fun q => absurd q Bool.false_ne_true⟩
    · rw [if_neg h2]
      exact ⟨nxt_le hr.1, fun q => absurd q Bool.false_ne_true⟩
  · rw [if_neg h1]
    exact ⟨hr.1, fun q => absurd q Bool.false_ne_true⟩
theorem ccP_san {i : Nat} (hi : i ≤ L) : (ccP T L i).2.1 ≤ L ∧ ((ccP T L i).1 = true → i + 1 ≤ (ccP T L i).2.1 ∧ i + clN (ccP T L i).2.2 ≤ (ccP T L i).2.1) := by
  unfold ccP clN
  have ho := loP_san (T := T) (L := L) 6
  by_cases h1 : isS T L i 33 = true ∨ isS T L i 40 = true
  · rw [if_pos h1]
    have := cnP_san (T := T) (pre := []) (cdB_san (T := T) (b := none) ho i hi) (fun _ _ => trivial)
    exact ⟨this.1, fun q => ⟨by have := (this.2 q).1; omega, by have := (this.2 q).2.1; rw [List.length_nil] at this; omega⟩⟩
  · rw [if_neg h1]
    have hs := smP_san (T := T) ho i hi
    generalize smP T L (loP T L 6) i = r at *
    by_cases h2 : r.1 = true
    · rw [if_pos h2]
      have h3 := hs.2 h2
      by_cases h4 : jnP T L 2 (nxt T L r.2.1) = 0
      · rw [if_pos h4]
        have hg := nxt_ge (T := T) (L := L) (i := r.2.1)
        exact ⟨nxt_le hs.1, fun _ => ⟨by dsimp only; omega, by dsimp only; rw [List.length_nil]; omega⟩⟩
      · rw [if_neg h4]
        have := cnP_san (T := T) (pre := r.2.2.1) (cdB_san (T := T) (b := some r.2.2.2) ho r.2.1 hs.1) (fun _ _ => trivial)
        exact ⟨this.1, fun q => ⟨by have := (this.2 q).1; omega, by have := (this.2 q).2.1; omega⟩⟩
    · rw [if_neg h2]
      exact ⟨hs.1, fun q => absurd q Bool.false_ne_true⟩
theorem yP_san {i : Nat} (hi : i ≤ L) : (yP T L i).2.1 ≤ L ∧ ((yP T L i).1 = true → i + 3 ≤ (yP T L i).2.1 ∧ i + clN (yP T L i).2.2 ≤ (yP T L i).2.1) := by
  unfold yP
  by_cases h1 : isS T L i 121 = true
  · rw [if_pos h1]
    have z1 := (isS_in h1).1
    have g1 := nxt_ge (T := T) (L := L) (i := i)
    by_cases h2 : isS T L (nxt T L i + 1) 58 = true
    · rw [if_pos h2]
      have z2 := (isS_in h2).1
      have g2 := nxt_ge (T := T) (L := L) (i := nxt T L i + 1)
      have hc := ccP_san (T := T) (L := L) (i := nxt T L (nxt T L i + 1) + 1) z2
      exact ⟨hc.1, fun q => ⟨by have := (hc.2 q).1; omega, by have := (hc.2 q).2; omega⟩⟩
    · rw [if_neg h2]
      exact ⟨nxt_le z1, fun q => absurd q Bool.false_ne_true⟩
  · rw [if_neg h1]
    exact ⟨nxt_le hi, fun q => absurd q Bool.false_ne_true⟩
end C2
