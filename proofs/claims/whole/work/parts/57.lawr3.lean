section R3
variable {X : gX} {M : gM} {d : Nat} {T : Nat → Nat} {L i : Nat}
theorem numP_nxt {mx lo hi : Nat} : numP T L mx lo hi (nxt T L i) = numP T L mx lo hi i := by unfold numP; rw [nxt_nxt]
theorem isS_nxt {c : Nat} : isS T L (nxt T L i) c = isS T L i c := by unfold isS; rw [nxt_nxt]
theorem atP_nxt {o : LO} : atP T L o (nxt T L i) = atP T L o i := by unfold atP; rw [nxt_nxt, numP_nxt, isS_nxt]
theorem smP_nxt {o : LO} : smP T L o (nxt T L i) = smP T L o i := by unfold smP tmP; rw [atP_nxt]
theorem c_join5 (hx : gXok X) {a w : Nat} {b : Int32} {f : Nat → PR} (hA : AOK X (d + 0) a w T L f) : JOK X (d + 1) a 5 w b T L f := by
  intro M G cl i h hd hG
  have hL := h.1
  refine gMet.of hx (by decide) (Nat.le_of_ble_eq_true rfl) ?_
  refine g_iload_n dX3_readsJoined_0 rfl rfl rfl ?_
  refine g_iconst (v := 2) dX3_readsJoined_1 (by decide) rfl ?_
  refine g_icmp_ne (tgt := 12) dX3_readsJoined_2 (by decide) rfl (fun _ => ?_) (fun h_ => absurd h_ (by decide))
  refine g_iload_n dX3_readsJoined_12 rfl rfl rfl ?_
  refine g_iconst (v := 5) dX3_readsJoined_13 (by decide) rfl ?_
  refine g_icmp_lt (tgt := 23) dX3_readsJoined_14 (by decide) rfl (fun h_ => absurd h_ (by decide)) (fun _ => ?_)
  refine g_aload_n dX3_readsJoined_17 rfl rfl rfl ?_
  refine g_iload_n dX3_readsJoined_18 rfl rfl rfl ?_
  refine g_callVq (ci := 3) dX3_readsJoined_19 lm_X3_62 mv_X3_readsAtom (hA h hd hG) rfl rfl (k19 hL) rfl rfl (Nat.le_of_ble_eq_true rfl) (gFit_room (by omega)) rfl (fun v M2 hQ => ?_)
  obtain ⟨rfl, hB⟩ := hQ
  exact g_iret dX3_readsJoined_22 rfl (by first | rfl | exact b01) (⟨rfl, hB⟩)
theorem c_join2 (hx : gXok X) {a w : Nat} {b : Int32} {f : Nat → PR} (hA : UOK X (d + 0) a w b T L f) : JOK X (d + 1) a 2 w b T L f := by
  intro M G cl i h hd hG
  have hL := h.1
  refine gMet.of hx (by decide) (Nat.le_of_ble_eq_true rfl) ?_
  refine g_iload_n dX3_readsJoined_0 rfl rfl rfl ?_
  refine g_iconst (v := 2) dX3_readsJoined_1 (by decide) rfl ?_
  refine g_icmp_ne (tgt := 12) dX3_readsJoined_2 (by decide) rfl (fun h_ => absurd (by decide) h_) (fun _ => ?_)
  refine g_aload_n dX3_readsJoined_5 rfl rfl rfl ?_
  refine g_iload_n dX3_readsJoined_6 rfl rfl rfl ?_
  refine g_iload_n dX3_readsJoined_7 rfl rfl rfl ?_
  refine g_callVq (ci := 3) dX3_readsJoined_8 lm_X3_58 mv_X3_readsUnit (hA h hd hG) rfl rfl (k19 hL) rfl rfl (Nat.le_of_ble_eq_true rfl) (gFit_room (by omega)) rfl (fun v M2 hQ => ?_)
  obtain ⟨rfl, hB⟩ := hQ
  exact g_iret dX3_readsJoined_11 rfl (by first | rfl | exact b01) (⟨rfl, hB⟩)
set_option maxRecDepth 20000 in
set_option maxHeartbeats 2000000 in
theorem c_join (hx : gXok X) (hZ : gSt X) {a w lv : Nat} {b : Int32} (ha : 200 ≤ a) (hlv : lv < 5) (hlv2 : lv ≠ 2) {f g : Nat → PR} (hf : SanF L f) (hg : SanF L g) (h1 : JOK X (d + 5) a (lv + 1) w b T L g) (h2 : JOK X (d + 5) a (lv + 1) w 0 T L f) : JOK X (d + 6) a lv w b T L (fun i => sqP T L f lv (g i)) := by
  intro M G cl i h hd hG
  have hL := h.1
  have h240 := h.2.1.2.1
  refine gMet.of hx (by decide) (Nat.le_of_ble_eq_true rfl) ?_
  dsimp only
  unfold sqP
  refine g_iload_n dX3_readsJoined_0 rfl rfl rfl ?_
  refine g_iconst (v := 2) dX3_readsJoined_1 (by decide) rfl ?_
  refine g_icmp_ne (tgt := 12) dX3_readsJoined_2 (by decide) rfl (fun _ => ?_) (fun h_ => absurd h_ (fun q => hlv2 ((qeq lv 2 rfl rfl (by omega) (by decide)).mp q)))
  refine g_iload_n dX3_readsJoined_12 rfl rfl rfl ?_
  refine g_iconst (v := 5) dX3_readsJoined_13 (by decide) rfl ?_
  refine g_icmp_lt (tgt := 23) dX3_readsJoined_14 (by decide) rfl (fun _ => ?_) (fun h_ => absurd ((qlt lv 5 rfl rfl (by omega) (by decide)).mpr hlv) h_)
  refine g_aload_n dX3_readsJoined_23 rfl rfl rfl ?_
  refine g_iload_n dX3_readsJoined_24 rfl rfl rfl ?_
  refine g_iconst (v := 1) dX3_readsJoined_25 (by decide) rfl ?_
  refine g_iadd dX3_readsJoined_26 rfl ?_
  refine g_iload_n dX3_readsJoined_27 rfl rfl rfl ?_
  refine g_iload_n dX3_readsJoined_28 rfl rfl rfl ?_
  rw [nI_1]
  refine g_callVq (ci := 3) dX3_readsJoined_29 lm_X3_46 mv_X3_readsJoined (h1 h hd hG) rfl rfl (k19 hL) rfl rfl (Nat.le_of_ble_eq_true rfl) (gFit_room (by omega)) rfl (fun v M2 hQ => ?_)
  obtain ⟨rfl, hf⟩ := hQ
  obtain ⟨hf1, hC1, hD1⟩ := hf
  have hs1 := hg i h.2.2.2
  generalize g i = r at *
  by_cases hr : r.1 = true
  · rw [if_pos hr, ib_t hr]
    have hD := hD1 hr
    have hs2 := hs1.2 hr
    generalize hR : (((lpP T L f lv 240 r.2.1 r.2.2.2).1, (lpP T L f lv 240 r.2.1 r.2.2.2).2.1, r.2.2.1 ++ (lpP T L f lv 240 r.2.1 r.2.2.2).2.2.1, (lpP T L f lv 240 r.2.1 r.2.2.2).2.2.2) : PR) = R
    have main : ∀ (n : Nat) (M1 : gM) (cs0 : List Nat) (j : Nat) (E : LE), n ≤ 240 → gFr (scrL a) M M1 → TC M1 T L (nxt T L j) → j ≤ L → DrL M1 a (G ++ cs0) cl → (G ++ cs0).length ≤ j → R.1 = (lpP T L f lv n j E).1 → R.2.1 = (lpP T L f lv n j E).2.1 → (R.1 = true → R.2.2.1 = cs0 ++ (lpP T L f lv n j E).2.2.1) → gW X (gRoom (d + 6) 0 0) (gZ X gN0 0 0 (PoL M a T L G cl R)) gN0 yX3_readsJoined cX3_readsJoined 6 (some .boolean) 47 [(0, .ref 19), (1, .int (nI lv)), (2, .int (nI w)), (3, .int b), (4, .int (if jnP T L lv (nxt T L j) = 0 then -1 else nI (jnP T L lv (nxt T L j)))), (5, .int (nI (240 - n)))] [] M1 0 0 := by
      intro n
      induction n with
      | zero =>
        intro M1 cs0 j E hn hf1 hC1 hj hD hl e1 e2 e3
        have f1 : R.1 = true := e1
        have f2 : R.2.1 = nxt T L j := e2
        have f3 : R.2.2.1 = cs0 := by rw [e3 f1]; exact List.append_nil _
        refine g_iload dX3_readsJoined_47 rfl rfl ?_
        refine g_sipush (v := 240) dX3_readsJoined_49 (by decide) rfl ?_
        refine g_icmp_ge (tgt := 104) dX3_readsJoined_52 (by decide) rfl (fun _ => ?_) (fun h_ => absurd (by decide) h_)
        refine g_iconst (v := 1) dX3_readsJoined_104 (by decide) rfl ?_
        exact g_iret dX3_readsJoined_105 rfl (by first | rfl | exact b01) (⟨by rw [f1]; rfl, hf1, by rw [f2]; exact hC1, fun _ => by rw [f3]; exact hD⟩)
      | succ n ih =>
        intro M1 cs0 j E hn hf1 hC1 hj hD hl e1 e2 e3
        unfold lpP at e1 e2 e3
        have hgj := nxt_ge (T := T) (L := L) (i := j)
        by_cases h0 : jnP T L lv (nxt T L j) = 0
        · rw [if_pos h0] at e1 e2 e3 ⊢
          have f1 : R.1 = true := e1
          have f2 : R.2.1 = nxt T L j := e2
          have f3 : R.2.2.1 = cs0 := by rw [e3 f1]; exact List.append_nil _
          refine g_iload dX3_readsJoined_47 rfl rfl ?_
          refine g_sipush (v := 240) dX3_readsJoined_49 (by decide) rfl ?_
          refine g_icmp_ge (tgt := 104) dX3_readsJoined_52 (by decide) rfl (fun h_ => absurd h_ (nI_ge (b := 240) (show 240 - (n + 1) < 240 by omega) (by decide))) (fun _ => ?_)
          refine g_iload dX3_readsJoined_55 rfl rfl ?_
          refine g_iconst (v := -1) dX3_readsJoined_57 (by decide) rfl ?_
          refine g_icmp_eq (tgt := 104) dX3_readsJoined_58 (by decide) rfl (fun _ => ?_) (fun h_ => absurd (by decide) h_)
          refine g_iconst (v := 1) dX3_readsJoined_104 (by decide) rfl ?_
          exact g_iret dX3_readsJoined_105 rfl (by first | rfl | exact b01) (⟨by rw [f1]; rfl, hf1, by rw [f2]; exact hC1, fun _ => by rw [f3]; exact hD⟩)
        · rw [if_neg h0] at e1 e2 e3 ⊢
          have hp := jnP_in h0
          have hj6 := jnP_j h0
          have hsf := hf (nxt T L j + 1) hp
          generalize hjs : jnP T L lv (nxt T L j) = s at *
          refine g_iload dX3_readsJoined_47 rfl rfl ?_
          refine g_sipush (v := 240) dX3_readsJoined_49 (by decide) rfl ?_
          refine g_icmp_ge (tgt := 104) dX3_readsJoined_52 (by decide) rfl (fun h_ => absurd h_ (nI_ge (b := 240) (show 240 - (n + 1) < 240 by omega) (by decide))) (fun _ => ?_)
          refine g_iload dX3_readsJoined_55 rfl rfl ?_
          refine g_iconst (v := -1) dX3_readsJoined_57 (by decide) rfl ?_
          refine g_icmp_eq (tgt := 104) dX3_readsJoined_58 (by decide) rfl (fun h_ => absurd h_ (fun q => absurd (show nI s < 0 by rw [q]; decide) (nI_pos (by omega)))) (fun _ => ?_)
          refine g_aload_n dX3_readsJoined_61 rfl rfl rfl ?_
          refine g_getR dX3_readsJoined_62 ff_X3_18 rfl (k19 hC1.1) (r19_0 hC1.1) rfl ?_
          refine g_callVq (ci := 7) dX3_readsJoined_65 lm_X3_66 mv_X7_pass (c_pass (d := d + 5) hx hC1 hp) rfl rfl (k1 hC1.1) rfl rfl (Nat.le_of_ble_eq_true rfl) (gFit_room (by omega)) rfl (fun v M2 hQ => ?_)
          obtain ⟨rfl, hf⟩ := hQ
          obtain ⟨hf2, hC2⟩ := hf
          have hd2 := hD.t hf2 ha
          refine g_aload_n dX3_readsJoined_68 rfl rfl rfl ?_
          refine g_iload_n dX3_readsJoined_69 rfl rfl rfl ?_
          refine g_iconst (v := 1) dX3_readsJoined_70 (by decide) rfl ?_
          refine g_iadd dX3_readsJoined_71 rfl ?_
          refine g_iload_n dX3_readsJoined_72 rfl rfl rfl ?_
          refine g_iconst (v := 0) dX3_readsJoined_73 (by decide) rfl ?_
          rw [nI_1]
          refine g_callVq (ci := 3) dX3_readsJoined_74 lm_X3_46 mv_X3_readsJoined (h2 hC2 hd2 (by omega)) rfl rfl (k19 hC2.1) rfl rfl (Nat.le_of_ble_eq_true rfl) (gFit_room (by omega)) rfl (fun v M2 hQ => ?_)
          obtain ⟨rfl, hf⟩ := hQ
          obtain ⟨hf3, hC3, hD3⟩ := hf
          generalize f (nxt T L j + 1) = r2 at *
          by_cases hr2 : r2.1 = true
          · rw [if_pos hr2] at e1 e2 e3
            rw [ib_t hr2]
            have hd3 := hD3 hr2
            have hs3 := hsf.2 hr2
            have r_19_1 := hd3.2.1
            have hll : (G ++ cs0 ++ r2.2.2.1).length + 1 ≤ r2.2.1 := by rw [List.length_append]; omega
            have hl4 : (G ++ cs0 ++ r2.2.2.1).length < 240 := by have := hsf.1; omega
            refine g_if_ne (tgt := 82) dX3_readsJoined_77 (by decide) rfl (fun _ => ?_) (fun h_ => absurd h_ (by decide))
            refine g_aload_n dX3_readsJoined_82 rfl rfl rfl ?_
            refine g_getR dX3_readsJoined_83 ff_X3_12 rfl (k19 hC3.1) (r_19_1) rfl ?_
            refine g_iload dX3_readsJoined_86 rfl rfl ?_
            refine g_callVq (ci := 2) dX3_readsJoined_88 lm_X3_69 mv_X2_add (c_lawAdd (d := d + 5) hx hd3 hl4 (s := s) (by omega)) rfl rfl hd3.1.1 rfl rfl (Nat.le_of_ble_eq_true rfl) (gFit_room (by omega)) rfl (fun v M2 hQ => ?_)
            obtain ⟨rfl, hA, hB⟩ := hQ
            have hC4 := hC3.fra hA ha
            refine g_aload_n dX3_readsJoined_91 rfl rfl rfl ?_
            refine g_iload_n dX3_readsJoined_92 rfl rfl rfl ?_
            refine g_callVq (ci := 3) dX3_readsJoined_93 lm_X3_50 mv_X3_jointIn (c_jointIn (d := d) hx hZ hC4 (lv := lv) (by omega)) rfl rfl (k19 hC4.1) rfl rfl (Nat.le_of_ble_eq_true rfl) (gFit_room (by omega)) rfl (fun v M2 hQ => ?_)
            obtain ⟨rfl, hf⟩ := hQ
            obtain ⟨hf5, hC5⟩ := hf
            refine g_istore dX3_readsJoined_96 (by decide) rfl ?_
            refine g_iincV (c := 1) dX3_readsJoined_98 rfl (by decide) (by decide) rfl ?_
            refine g_goto (tgt := 47) dX3_readsJoined_101 (by decide) ?_
            refine g_go (ih _ (cs0 ++ r2.2.2.1 ++ [s]) r2.2.1 (jnE s E r2.2.2.2) (by omega) ((((hf1.tr (scrL1 hf2)).tr hf3).tr (scrLA hA)).tr (scrL1 hf5)) hC5 hsf.1 (by rw [← List.append_assoc, ← List.append_assoc]; exact hB.t hf5 ha) (by rw [← List.append_assoc, ← List.append_assoc, List.length_append]; exact hll) e1 e2 (fun q => by rw [e3 q, List.append_assoc, List.append_assoc]; rfl)) ⟨rfl, rfl, rfl, rfl, rfl, by rw [show 240 - n = 240 - (n + 1) + 1 by omega, ← nI_1]; rfl, trivial⟩
          · rw [if_neg hr2] at e1 e2 e3
            rw [ib_f hr2]
            have f1 : R.1 = false := e1
            have f2 : R.2.1 = r2.2.1 := e2
            refine g_if_ne (tgt := 82) dX3_readsJoined_77 (by decide) rfl (fun h_ => absurd (by decide) h_) (fun _ => ?_)
            refine g_iconst (v := 0) dX3_readsJoined_80 (by decide) rfl ?_
            exact g_iret dX3_readsJoined_81 rfl (by first | rfl | exact b01) (⟨by rw [f1]; rfl, (hf1.tr (scrL1 hf2)).tr hf3, by rw [f2]; exact hC3, fun q => absurd (f1.symm.trans q) Bool.false_ne_true⟩)
    refine g_if_ne (tgt := 37) dX3_readsJoined_32 (by decide) rfl (fun _ => ?_) (fun h_ => absurd h_ (by decide))
    refine g_aload_n dX3_readsJoined_37 rfl rfl rfl ?_
    refine g_iload_n dX3_readsJoined_38 rfl rfl rfl ?_
    refine g_callVq (ci := 3) dX3_readsJoined_39 lm_X3_50 mv_X3_jointIn (c_jointIn (d := d) hx hZ hC1 (lv := lv) (by omega)) rfl rfl (k19 hC1.1) rfl rfl (Nat.le_of_ble_eq_true rfl) (gFit_room (by omega)) rfl (fun v M2 hQ => ?_)
    obtain ⟨rfl, hf⟩ := hQ
    obtain ⟨hf5, hC5⟩ := hf
    refine g_istore dX3_readsJoined_42 (by decide) rfl ?_
    refine g_iconst (v := 0) dX3_readsJoined_44 (by decide) rfl ?_
    refine g_istore dX3_readsJoined_45 (by decide) rfl ?_
    exact g_go (main 240 _ r.2.2.1 r.2.1 r.2.2.2 (Nat.le_refl _) (hf1.tr (scrL1 hf5)) hC5 hs1.1 (hD.t hf5 ha) (by rw [List.length_append]; omega) (by rw [← hR]) (by rw [← hR]) (fun _ => by rw [← hR])) ⟨rfl, rfl, rfl, rfl, rfl, rfl, trivial⟩
  · rw [if_neg hr, ib_f hr]
    refine g_if_ne (tgt := 37) dX3_readsJoined_32 (by decide) rfl (fun h_ => absurd (by decide) h_) (fun _ => ?_)
    refine g_iconst (v := 0) dX3_readsJoined_35 (by decide) rfl ?_
    exact g_iret dX3_readsJoined_36 rfl (by first | rfl | exact b01) (PoL_fl hf1 hC1)
/-- what is compared with a first SUM -/
theorem c_unitB (hx : gXok X) (hZ : gSt X) {a w : Nat} {lz : List (Nat × Value)} {b : Int32} (ha : 200 ≤ a) {o : LO} (ho : SanO L o) (h1 : JOK X (d + 5) a 3 w 0 T L (smP T L o)) {M0 : gM} {G cs0 : List Nat} {cl j : Nat} {E : LE} {R : PR} (hf1 : gFr (scrL a) M0 M) (h : TC M T L j) (hd : DrL M a (G ++ cs0) cl) (hG : (G ++ cs0).length ≤ j) (hlz : lz = [] ∨ ∃ v, lz = [(3, .int v)])
    (e1 : R.1 = (cmP T L o E j).1) (e2 : R.2.1 = (cmP T L o E j).2.1) (e3 : R.1 = true → R.2.2.1 = cs0 ++ (cmP T L o E j).2.2.1) : gW X (gRoom (d + 6) 0 0) (gZ X gN0 0 0 (PoL M0 a T L G cl R)) gN0 yX3_readsUnit cX3_readsUnit 4 (some .boolean) 43 ((0, .ref 19) :: (1, .int (nI w)) :: (2, .int b) :: lz) [] M 0 0 := by
  have hL := h.1
  have h240 := h.2.1.2.1
  unfold cmP at e1 e2 e3
  refine g_aload_n dX3_readsUnit_43 rfl rfl rfl ?_
  refine g_iconst (v := 2) dX3_readsUnit_44 (by decide) rfl ?_
  refine g_callVq (ci := 3) dX3_readsUnit_45 lm_X3_50 mv_X3_jointIn (c_jointIn (d := d) hx hZ h (lv := 2) (by decide)) rfl rfl (k19 hL) rfl rfl (Nat.le_of_ble_eq_true rfl) (gFit_room (by omega)) rfl (fun v M2 hQ => ?_)
  obtain ⟨rfl, hf⟩ := hQ
  obtain ⟨hf2, hC2⟩ := hf
  have hd2 := hd.t hf2 ha
  have hgj := nxt_ge (T := T) (L := L) (i := j)
  have fin : gW X (gRoom (d + 6) 0 0) (gZ X gN0 0 0 (PoL M0 a T L G cl R)) gN0 yX3_readsUnit cX3_readsUnit 4 (some .boolean) 49 [(0, .ref 19), (1, .int (nI w)), (2, .int b), (3, .int (if jnP T L 2 (nxt T L j) = 0 then -1 else nI (jnP T L 2 (nxt T L j))))] [] M2 0 0 := by
    by_cases h0 : jnP T L 2 (nxt T L j) = 0
    · rw [if_pos h0] at e1 e2 e3 ⊢
      have f1 : R.1 = false := e1
      have f2 : R.2.1 = nxt T L j := e2
      refine g_iload_n dX3_readsUnit_49 rfl rfl rfl ?_
      refine g_iconst (v := -1) dX3_readsUnit_50 (by decide) rfl ?_
      refine g_icmp_ne (tgt := 56) dX3_readsUnit_51 (by decide) rfl (fun h_ => absurd (by decide) h_) (fun _ => ?_)
      refine g_iconst (v := 0) dX3_readsUnit_54 (by decide) rfl ?_
      exact g_iret dX3_readsUnit_55 rfl (by first | rfl | exact b01) (⟨by rw [f1]; rfl, hf1.tr (scrL1 hf2), by rw [f2]; exact hC2, fun q => absurd (f1.symm.trans q) Bool.false_ne_true⟩)
    · rw [if_neg h0] at e1 e2 e3 ⊢
      have hp := jnP_in h0
      have hj6 := jnP_j h0
      have hsf := smP_san (T := T) ho (nxt T L j + 1) hp
      generalize hjs : jnP T L 2 (nxt T L j) = s at *
      refine g_iload_n dX3_readsUnit_49 rfl rfl rfl ?_
      refine g_iconst (v := -1) dX3_readsUnit_50 (by decide) rfl ?_
      refine g_icmp_ne (tgt := 56) dX3_readsUnit_51 (by decide) rfl (fun _ => ?_) (fun h_ => absurd h_ (fun q => absurd (show nI s < 0 by rw [q]; decide) (nI_pos (by omega))))
      refine g_aload_n dX3_readsUnit_56 rfl rfl rfl ?_
      refine g_getR dX3_readsUnit_57 ff_X3_18 rfl (k19 hC2.1) (r19_0 hC2.1) rfl ?_
      refine g_callVq (ci := 7) dX3_readsUnit_60 lm_X3_66 mv_X7_pass (c_pass (d := d + 5) hx hC2 hp) rfl rfl (k1 hC2.1) rfl rfl (Nat.le_of_ble_eq_true rfl) (gFit_room (by omega)) rfl (fun v M2 hQ => ?_)
      obtain ⟨rfl, hf⟩ := hQ
      obtain ⟨hf3, hC3⟩ := hf
      have hd3 := hd2.t hf3 ha
      refine g_aload_n dX3_readsUnit_63 rfl rfl rfl ?_
      refine g_iconst (v := 3) dX3_readsUnit_64 (by decide) rfl ?_
      refine g_iload_n dX3_readsUnit_65 rfl rfl rfl ?_
      refine g_iconst (v := 0) dX3_readsUnit_66 (by decide) rfl ?_
      refine g_callVq (ci := 3) dX3_readsUnit_67 lm_X3_46 mv_X3_readsJoined (h1 hC3 hd3 (by omega)) rfl rfl (k19 hC3.1) rfl rfl (Nat.le_of_ble_eq_true rfl) (gFit_room (by omega)) rfl (fun v M2 hQ => ?_)
      obtain ⟨rfl, hf⟩ := hQ
      obtain ⟨hf4, hC4, hD4⟩ := hf
      generalize smP T L o (nxt T L j + 1) = r2 at *
      by_cases hr2 : r2.1 = true
      · rw [if_pos hr2] at e1 e2 e3
        rw [ib_t hr2]
        have f1 : R.1 = true := e1
        have f2 : R.2.1 = r2.2.1 := e2
        have f3 := e3 f1
        have hd4 := hD4 hr2
        have hs3 := hsf.2 hr2
        have r_19_1 := hd4.2.1
        have hl4 : (G ++ cs0 ++ r2.2.2.1).length < 240 := by rw [List.length_append]; have := hsf.1; omega
        refine g_if_ne (tgt := 75) dX3_readsUnit_70 (by decide) rfl (fun _ => ?_) (fun h_ => absurd h_ (by decide))
        refine g_aload_n dX3_readsUnit_75 rfl rfl rfl ?_
        refine g_getR dX3_readsUnit_76 ff_X3_12 rfl (k19 hC4.1) (r_19_1) rfl ?_
        refine g_iload_n dX3_readsUnit_79 rfl rfl rfl ?_
        refine g_callVq (ci := 2) dX3_readsUnit_80 lm_X3_69 mv_X2_add (c_lawAdd (d := d + 5) hx hd4 hl4 (s := s) (by omega)) rfl rfl hd4.1.1 rfl rfl (Nat.le_of_ble_eq_true rfl) (gFit_room (by omega)) rfl (fun v M2 hQ => ?_)
        obtain ⟨rfl, hA, hB⟩ := hQ
        refine g_iconst (v := 1) dX3_readsUnit_83 (by decide) rfl ?_
        exact g_iret dX3_readsUnit_84 rfl (by first | rfl | exact b01) (⟨by rw [f1]; rfl, (((hf1.tr (scrL1 hf2)).tr (scrL1 hf3)).tr hf4).tr (scrLA hA), by rw [f2]; exact hC4.fra hA ha, fun _ => by rw [f3, ← List.append_assoc, ← List.append_assoc]; exact hB⟩)
      · rw [if_neg hr2] at e1 e2 e3
        rw [ib_f hr2]
        have f1 : R.1 = false := e1
        have f2 : R.2.1 = r2.2.1 := e2
        refine g_if_ne (tgt := 75) dX3_readsUnit_70 (by decide) rfl (fun h_ => absurd (by decide) h_) (fun _ => ?_)
        refine g_iconst (v := 0) dX3_readsUnit_73 (by decide) rfl ?_
        exact g_iret dX3_readsUnit_74 rfl (by first | rfl | exact b01) (⟨by rw [f1]; rfl, ((hf1.tr (scrL1 hf2)).tr (scrL1 hf3)).tr hf4, by rw [f2]; exact hC4, fun q => absurd (f1.symm.trans q) Bool.false_ne_true⟩)
  rcases hlz with rfl | ⟨v, rfl⟩
  · refine g_istore_n dX3_readsUnit_48 rfl (by decide) rfl ?_
    exact g_go fin ⟨rfl, rfl, rfl, rfl, trivial⟩
  · refine g_istore_n dX3_readsUnit_48 rfl (by decide) rfl ?_
    exact g_go fin ⟨rfl, rfl, rfl, rfl, trivial⟩
set_option maxRecDepth 20000 in
set_option maxHeartbeats 2000000 in
theorem c_unit1 (hx : gXok X) (hZ : gSt X) {a w : Nat} (ha : 200 ≤ a) {o : LO} (ho : SanO L o) (h1 : JOK X (d + 5) a 3 w 0 T L (smP T L o)) {E : LE} : UOK X (d + 6) a w 1 T L (cmP T L o E) := by
  intro M G cl i h hd hG
  refine gMet.of hx (by decide) (Nat.le_of_ble_eq_true rfl) ?_
  have hL := h.1
  refine g_iload_n dX3_readsUnit_0 rfl rfl rfl ?_
  refine g_if_ne (tgt := 43) dX3_readsUnit_1 (by decide) rfl (fun _ => ?_) (fun h_ => absurd h_ (by decide))
  exact c_unitB hx hZ ha ho h1 (cs0 := []) gFr.rf h (by rw [List.append_nil]; exact hd) (by rw [List.append_nil]; exact hG) (Or.inl rfl) rfl rfl (fun _ => rfl)
set_option maxRecDepth 20000 in
set_option maxHeartbeats 2000000 in
theorem c_unit0 (hx : gXok X) (hZ : gSt X) {a w : Nat} (ha : 200 ≤ a) {o : LO} (ho : SanO L o) (h1 : JOK X (d + 5) a 3 w 0 T L (smP T L o)) (hI : IOK X (d + 5) a w T L (iqP T L o)) : UOK X (d + 6) a w 0 T L (unP T L o) := by
  intro M G cl i h hd hG
  refine gMet.of hx (by decide) (Nat.le_of_ble_eq_true rfl) ?_
  have hL := h.1
  have hg := nxt_ge (T := T) (L := L) (i := i)
  unfold unP
  refine g_iload_n dX3_readsUnit_0 rfl rfl rfl ?_
  refine g_if_ne (tgt := 43) dX3_readsUnit_1 (by decide) rfl (fun h_ => absurd (by decide) h_) (fun _ => ?_)
  refine g_aload_n dX3_readsUnit_4 rfl rfl rfl ?_
  refine g_getR dX3_readsUnit_5 ff_X3_18 rfl (k19 hL) (r19_0 hL) rfl ?_
  refine g_callVq (ci := 7) dX3_readsUnit_8 lm_X3_39 mv_X7_next (c_next (d := d + 5) hx h) rfl rfl (k1 hL) rfl rfl (Nat.le_of_ble_eq_true rfl) (gFit_room (by omega)) rfl (fun v M2 hQ => ?_)
  obtain ⟨rfl, hf⟩ := hQ
  have hn := hf
  have hd1 := hd.t hn.1 ha
  by_cases hs : isS T L i 33 = true ∨ isS T L i 40 = true
  · rw [if_pos hs]
    have hp : nxt T L i < L := hs.elim (fun q => (isS_in q).1) (fun q => (isS_in q).1)
    have hc : T (nxt T L i) = 33 ∨ T (nxt T L i) = 40 := hs.elim (fun q => Or.inl (isS_in q).2) (fun q => Or.inr (isS_in q).2)
    have hc3 : T (nxt T L i) = 33 ∨ T (nxt T L i) = 40 ∨ T (nxt T L i) = 91 := hc.elim Or.inl (fun q => Or.inr (Or.inl q))
    rw [show sgn T L (nxt T L i) = nI (T (nxt T L i)) from if_pos hp]
    refine g_istore_n dX3_readsUnit_11 rfl (by decide) rfl ?_
    refine g_iload_n dX3_readsUnit_12 rfl rfl rfl ?_
    refine g_bipush (v := 33) dX3_readsUnit_13 (by decide) rfl ?_
    refine g_icmp_eq (tgt := 24) dX3_readsUnit_15 (by decide) rfl (fun h15 => ?_) (fun h15 => ?_)
    · refine g_aload_n dX3_readsUnit_24 rfl rfl rfl ?_
      refine g_iload_n dX3_readsUnit_25 rfl rfl rfl ?_
      refine g_iload_n dX3_readsUnit_26 rfl rfl rfl ?_
      refine g_callVq (ci := 3) dX3_readsUnit_27 lm_X3_88 mv_X3_readsInner (hI hn.2 hp hc3 hd1 (by omega)) rfl rfl (k19 hn.2.1) rfl rfl (Nat.le_of_ble_eq_true rfl) (gFit_room (by omega)) rfl (fun v M2 hQ => ?_)
      obtain ⟨rfl, hA, hB⟩ := hQ
      exact g_iret dX3_readsUnit_30 rfl (by first | rfl | exact b01) (⟨rfl, (scrL1 hn.1).tr hA, hB⟩)
    · refine g_iload_n dX3_readsUnit_18 rfl rfl rfl ?_
      refine g_bipush (v := 40) dX3_readsUnit_19 (by decide) rfl ?_
      refine g_icmp_ne (tgt := 31) dX3_readsUnit_21 (by decide) rfl (fun h_ => absurd (by first | exact hc.elim (fun q => absurd (by rw [q]; rfl) h15) (fun q => by rw [q]; rfl)) h_) (fun _ => ?_)
      refine g_aload_n dX3_readsUnit_24 rfl rfl rfl ?_
      refine g_iload_n dX3_readsUnit_25 rfl rfl rfl ?_
      refine g_iload_n dX3_readsUnit_26 rfl rfl rfl ?_
      refine g_callVq (ci := 3) dX3_readsUnit_27 lm_X3_88 mv_X3_readsInner (hI hn.2 hp hc3 hd1 (by omega)) rfl rfl (k19 hn.2.1) rfl rfl (Nat.le_of_ble_eq_true rfl) (gFit_room (by omega)) rfl (fun v M2 hQ => ?_)
      obtain ⟨rfl, hA, hB⟩ := hQ
      exact g_iret dX3_readsUnit_30 rfl (by first | rfl | exact b01) (⟨rfl, (scrL1 hn.1).tr hA, hB⟩)
  · rw [if_neg hs]
    unfold thP
    have hnn : ∀ c, c < 2 ^ 31 → (isS T L i c = true ↔ sgn T L (nxt T L i) = nI c) := fun c hc => isS_iff h hc
    refine g_istore_n dX3_readsUnit_11 rfl (by decide) rfl ?_
    refine g_iload_n dX3_readsUnit_12 rfl rfl rfl ?_
    refine g_bipush (v := 33) dX3_readsUnit_13 (by decide) rfl ?_
    refine g_icmp_eq (tgt := 24) dX3_readsUnit_15 (by decide) rfl (fun h_ => absurd h_ (fun q => hs (Or.inl ((hnn 33 (by decide)).mpr q)))) (fun _ => ?_)
    refine g_iload_n dX3_readsUnit_18 rfl rfl rfl ?_
    refine g_bipush (v := 40) dX3_readsUnit_19 (by decide) rfl ?_
    refine g_icmp_ne (tgt := 31) dX3_readsUnit_21 (by decide) rfl (fun _ => ?_) (fun h_ => absurd h_ (fun q => hs (Or.inr ((hnn 40 (by decide)).mpr q))))
    refine g_aload_n dX3_readsUnit_31 rfl rfl rfl ?_
    refine g_iconst (v := 3) dX3_readsUnit_32 (by decide) rfl ?_
    refine g_iload_n dX3_readsUnit_33 rfl rfl rfl ?_
    refine g_iconst (v := 0) dX3_readsUnit_34 (by decide) rfl ?_
    refine g_callVq (ci := 3) dX3_readsUnit_35 lm_X3_46 mv_X3_readsJoined (h1 hn.2 hd1 (by omega)) rfl rfl (k19 hn.2.1) rfl rfl (Nat.le_of_ble_eq_true rfl) (gFit_room (by omega)) rfl (fun v M2 hQ => ?_)
    obtain ⟨rfl, hf⟩ := hQ
    obtain ⟨hf1, hC1, hD1⟩ := hf
    have hnx : smP T L o (nxt T L i) = smP T L o i := smP_nxt
    rw [hnx] at hC1 hD1 ⊢
    have hsan := smP_san (T := T) ho i h.2.2.2
    generalize smP T L o i = r at *
    by_cases hr : r.1 = true
    · rw [if_pos hr, ib_t hr]
      have hD := hD1 hr
      have hs2 := hsan.2 hr
      refine g_if_ne (tgt := 43) dX3_readsUnit_38 (by decide) rfl (fun _ => ?_) (fun h_ => absurd h_ (by decide))
      refine g_go (c_unitB hx hZ ha ho h1 (b := 0) (lz := [(3, .int (sgn T L (nxt T L i)))]) (E := r.2.2.2) ((scrL1 hn.1).tr hf1) hC1 hD (by rw [List.length_append]; omega) (Or.inr ⟨_, rfl⟩) ?_ ?_ (fun _ => ?_)) ⟨rfl, rfl, rfl, rfl, trivial⟩ <;> rfl
    · rw [if_neg hr, ib_f hr]
      refine g_if_ne (tgt := 43) dX3_readsUnit_38 (by decide) rfl (fun h_ => absurd (by decide) h_) (fun _ => ?_)
      refine g_iconst (v := 0) dX3_readsUnit_41 (by decide) rfl ?_
      exact g_iret dX3_readsUnit_42 rfl (by first | rfl | exact b01) (PoL_fl ((scrL1 hn.1).tr hf1) hC1)
/-- all parts -/
theorem c_parts (hx : gXok X) (hZ : gSt X) {a : Nat} (ha : 200 ≤ a) {E : LE} : ∀ n, n ≤ 6 → ∀ d, JOK X (d + 9 * n + 11) a 3 (6 - n) 0 T L (smP T L (loP T L n)) ∧ JOK X (d + 9 * n + 15) a 0 (6 - n) 0 T L (cdB T L (loP T L n) none) ∧ UOK X (d + 9 * n + 12) a (6 - n) 0 T L (unP T L (loP T L n)) ∧ JOK X (d + 9 * n + 15) a 0 (6 - n) 1 T L (cdB T L (loP T L n) (some E)) := by
  have step : ∀ (e n w : Nat), (∀ k, IOK X (e + k + 7) a w T L (iqP T L (loP T L n))) → JOK X (e + 11) a 3 w 0 T L (smP T L (loP T L n)) ∧ JOK X (e + 15) a 0 w 0 T L (cdB T L (loP T L n) none) ∧ UOK X (e + 12) a w 0 T L (unP T L (loP T L n)) ∧ JOK X (e + 15) a 0 w 1 T L (cdB T L (loP T L n) (some E)) := by
    intro e n w hI
    have ho : SanO L (loP T L n) := loP_san n
    have hA : AOK X (e + 8) a w T L (atP T L (loP T L n)) := c_atom (d := e + 2) hx hZ ha (hI 0)
    have h5 : ∀ b, JOK X (e + 9) a 5 w b T L (atP T L (loP T L n)) := fun b => c_join5 (d := e + 8) hx hA
    have h4 : ∀ b, JOK X (e + 10) a 4 w b T L (tmP T L (loP T L n)) := fun b => c_join (d := e + 4) hx hZ ha (by decide) (by decide) (atP_san ho) (atP_san ho) (h5 b) (h5 0)
    have h3 : ∀ b, JOK X (e + 11) a 3 w b T L (smP T L (loP T L n)) := fun b => c_join (d := e + 5) hx hZ ha (by decide) (by decide) (tmP_san ho) (tmP_san ho) (h4 b) (h4 0)
    have hU0 : UOK X (e + 12) a w 0 T L (unP T L (loP T L n)) := c_unit0 (d := e + 6) hx hZ ha ho (h3 0) (hI 4)
    have hU1 : UOK X (e + 12) a w 1 T L (cmP T L (loP T L n) E) := c_unit1 (d := e + 6) hx hZ ha ho (h3 0)
    have h20 : JOK X (e + 13) a 2 w 0 T L (unP T L (loP T L n)) := c_join2 (d := e + 12) hx hU0
    have h21 : JOK X (e + 13) a 2 w 1 T L (cmP T L (loP T L n) E) := c_join2 (d := e + 12) hx hU1
    have h10 : JOK X (e + 14) a 1 w 0 T L (trB T L (loP T L n) none) := c_join (d := e + 8) hx hZ ha (by decide) (by decide) (unP_san ho) (unP_san ho) h20 h20
    have h11 : JOK X (e + 14) a 1 w 1 T L (trB T L (loP T L n) (some E)) := c_join (d := e + 8) hx hZ ha (by decide) (by decide) (unP_san ho) (cmP_san ho) h21 h20
    exact ⟨h3 0, c_join (d := e + 9) hx hZ ha (by decide) (by decide) (trB_san ho) (trB_san ho) h10 h10, hU0, c_join (d := e + 9) hx hZ ha (by decide) (by decide) (trB_san ho) (trB_san ho) h11 h10⟩
  intro n
  induction n with
  | zero =>
    intro hn d
    exact step (d + 9 * 0) 0 6 (fun k => c_inner0 (d := d + 9 * 0 + k + 7) hx)
  | succ n ih =>
    intro hn d
    have hlo : ∃ q, loP T L (n + 1) = some q ∧ q.1 = smP T L (loP T L n) ∧ q.2.1 = cdB T L (loP T L n) none ∧ q.2.2 = unP T L (loP T L n) := by
      cases n with
      | zero => exact ⟨_, rfl, rfl, rfl, rfl⟩
      | succ n => exact ⟨_, rfl, rfl, rfl, rfl⟩
    obtain ⟨q, hq, q1, q2, q3⟩ := hlo
    have hw : 6 - n = 6 - (n + 1) + 1 := by omega
    rw [hw] at ih
    have hI : ∀ k, IOK X (d + 9 * (n + 1) + k + 7) a (6 - (n + 1)) T L (iqP T L (loP T L (n + 1))) := by
      intro k
      rw [hq]
      obtain ⟨i1, -⟩ := ih (by omega) (d + k + 4)
      obtain ⟨-, i2, -⟩ := ih (by omega) (d + k)
      obtain ⟨-, -, i3, -⟩ := ih (by omega) (d + k + 3)
      rw [show d + k + 4 + 9 * n + 11 = d + 9 * (n + 1) + k + 5 + 1 by omega, ← q1] at i1
      rw [show d + k + 9 * n + 15 = d + 9 * (n + 1) + k + 5 + 1 by omega, ← q2] at i2
      rw [show d + k + 3 + 9 * n + 12 = d + 9 * (n + 1) + k + 5 + 1 by omega, ← q3] at i3
      exact c_inner (d := d + 9 * (n + 1) + k + 5) hx ha (by omega) (by rw [q3]; exact unP_san (loP_san n)) i1 i2 i3
    exact step (d + 9 * (n + 1)) (n + 1) (6 - (n + 1)) hI
end R3
