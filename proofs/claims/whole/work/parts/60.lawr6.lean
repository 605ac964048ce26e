section C3
variable {X : gX} {M : gM} {d : Nat} {T : Nat → Nat} {L i : Nat}
set_option maxRecDepth 20000 in
set_option maxHeartbeats 2000000 in
theorem c_faultL (hx : gXok X) (hZ : gSt X) (hL : gLay M) (hTC : TapeC M T L) {a : Nat} (ha : 200 ≤ a) (hla : LawAt M a) (r_19_1 : gmr M 19 1 = some a) : gPos X (d + 71) yX3_faultOfTape cX3_faultOfTape 4 (some .int) [.ref 19] M (fun v M2 => v = some (.int (lawV T L)) ∧ gFr (scrR a) M M2 ∧ TapeC M2 T L ∧ (lawOK T L = true → DrC M2 a (lwP T L 61 0).2.2)) := by
  refine gMet.of hx (by decide) (Nat.le_of_ble_eq_true rfl) ?_
  have h240 := hTC.2.1
  unfold lawV lawOK lawAt
  generalize hR : lwP T L 61 0 = R
  have fin0 : ∀ (M1 : gM) (x k : Int32), R.1 = false → gFr (scrR a) M M1 → TC M1 T L R.2.1 → gW X (gRoom (d + 71) 0 0) (gZ X gN0 0 0 (fun v M2 => v = some (.int (if (R.1 && decide (L ≤ nxt T L R.2.1)) = true then -1 else nI (if R.1 = true then nxt T L R.2.1 else R.2.1))) ∧ gFr (scrR a) M M2 ∧ TapeC M2 T L ∧ ((R.1 && decide (L ≤ nxt T L R.2.1)) = true → DrC M2 a R.2.2))) gN0 yX3_faultOfTape cX3_faultOfTape 4 (some .int) 100 [(0, .ref 19), (1, .int 0), (2, .int x), (3, .int k)] [] M1 0 0 := by
    intro M1 x k h0 hf1 hC1
    rw [h0, Bool.false_and, if_neg Bool.false_ne_true, if_neg Bool.false_ne_true]
    refine g_iload_n dX3_faultOfTape_100 rfl rfl rfl ?_
    refine g_if_eq (tgt := 119) dX3_faultOfTape_101 (by decide) rfl (fun _ => ?_) (fun h_ => absurd (by decide) h_)
    refine g_aload_n dX3_faultOfTape_119 rfl rfl rfl ?_
    refine g_getR dX3_faultOfTape_120 ff_X3_18 rfl (k19 hC1.1) (r19_0 hC1.1) rfl ?_
    refine g_getI dX3_faultOfTape_123 ff_X3_22 rfl (k1 hC1.1) rfl ?_
    rw [hC1.2.2.1]
    exact g_iret dX3_faultOfTape_126 rfl (by first | rfl | exact b01) (⟨rfl, hf1, hC1.2.1, fun q => absurd q Bool.false_ne_true⟩)
  have fin1 : ∀ (M1 : gM) (x k : Int32), R.1 = true → gFr (scrR a) M M1 → TC M1 T L R.2.1 → DrC M1 a R.2.2 → gW X (gRoom (d + 71) 0 0) (gZ X gN0 0 0 (fun v M2 => v = some (.int (if (R.1 && decide (L ≤ nxt T L R.2.1)) = true then -1 else nI (if R.1 = true then nxt T L R.2.1 else R.2.1))) ∧ gFr (scrR a) M M2 ∧ TapeC M2 T L ∧ ((R.1 && decide (L ≤ nxt T L R.2.1)) = true → DrC M2 a R.2.2))) gN0 yX3_faultOfTape cX3_faultOfTape 4 (some .int) 100 [(0, .ref 19), (1, .int 1), (2, .int x), (3, .int k)] [] M1 0 0 := by
    intro M1 x k h0 hf1 hC1 hD1
    rw [h0, Bool.true_and, if_pos rfl]
    have hnl := nxt_le (T := T) hC1.2.2.2
    refine g_iload_n dX3_faultOfTape_100 rfl rfl rfl ?_
    refine g_if_eq (tgt := 119) dX3_faultOfTape_101 (by decide) rfl (fun h_ => absurd h_ (by decide)) (fun _ => ?_)
    refine g_aload_n dX3_faultOfTape_104 rfl rfl rfl ?_
    refine g_getR dX3_faultOfTape_105 ff_X3_18 rfl (k19 hC1.1) (r19_0 hC1.1) rfl ?_
    refine g_callVq (ci := 7) dX3_faultOfTape_108 lm_X3_39 mv_X7_next (c_next (d := d + 70) hx hC1) rfl rfl (k1 hC1.1) rfl rfl (Nat.le_of_ble_eq_true rfl) (gFit_room (by omega)) rfl (fun v M2 hQ => ?_)
    obtain ⟨rfl, hf⟩ := hQ
    have hn := hf
    have hd2 : DrC M2 a R.2.2 := ⟨hD1.1.t hn.1 ha, hD1.2.1, fun j hj => by rw [hn.1.2.2.2 _ (show ¬ a + 2 = 1 by omega), hn.1.2.2.2 _ (show ¬ a + 3 = 1 by omega)]; exact hD1.2.2 j hj⟩
    by_cases hp : nxt T L R.2.1 < L
    · have htp := hTC.2.2 _ hp
      rw [show sgn T L (nxt T L R.2.1) = nI (T (nxt T L R.2.1)) from if_pos hp, decide_eq_false (show ¬ L ≤ nxt T L R.2.1 by omega), if_neg Bool.false_ne_true]
      refine g_iconst (v := -1) dX3_faultOfTape_111 (by decide) rfl ?_
      refine g_icmp_ne (tgt := 119) dX3_faultOfTape_112 (by decide) rfl (fun _ => ?_) (fun h_ => absurd h_ (fun q => absurd (show nI (T (nxt T L R.2.1)) < 0 by rw [q]; decide) (nI_pos (by omega))))
      refine g_aload_n dX3_faultOfTape_119 rfl rfl rfl ?_
      refine g_getR dX3_faultOfTape_120 ff_X3_18 rfl (k19 hn.2.1) (r19_0 hn.2.1) rfl ?_
      refine g_getI dX3_faultOfTape_123 ff_X3_22 rfl (k1 hn.2.1) rfl ?_
      rw [hn.2.2.2.1]
      exact g_iret dX3_faultOfTape_126 rfl (by first | rfl | exact b01) (⟨rfl, hf1.tr (scrR1 hn.1), hn.2.2.1, fun q => absurd q Bool.false_ne_true⟩)
    · rw [show sgn T L (nxt T L R.2.1) = -1 from if_neg hp, decide_eq_true (show L ≤ nxt T L R.2.1 by omega), if_pos rfl]
      refine g_iconst (v := -1) dX3_faultOfTape_111 (by decide) rfl ?_
      refine g_icmp_ne (tgt := 119) dX3_faultOfTape_112 (by decide) rfl (fun h_ => absurd (by decide) h_) (fun _ => ?_)
      refine g_iconst (v := -1) dX3_faultOfTape_115 (by decide) rfl ?_
      refine g_goto (tgt := 126) dX3_faultOfTape_116 (by decide) ?_
      exact g_iret dX3_faultOfTape_126 rfl (by first | rfl | exact b01) (⟨rfl, hf1.tr (scrR1 hn.1), hn.2.2.1, fun _ => hd2⟩)
  generalize hQ0 : (fun (v : Option Value) (M2 : gM) => v = some (.int (if (R.1 && decide (L ≤ nxt T L R.2.1)) = true then -1 else nI (if R.1 = true then nxt T L R.2.1 else R.2.1))) ∧ gFr (scrR a) M M2 ∧ TapeC M2 T L ∧ ((R.1 && decide (L ≤ nxt T L R.2.1)) = true → DrC M2 a R.2.2)) = Q at *
  have out : ∀ (M1 : gM) (wl mo k : Int32), (wl = 0 ∨ mo = 0) → gLay M1 → gW X (gRoom (d + 71) 0 0) (gZ X gN0 0 0 Q) gN0 yX3_faultOfTape cX3_faultOfTape 4 (some .int) 100 [(0, .ref 19), (1, .int wl), (2, .int mo), (3, .int k)] [] M1 0 0 → gW X (gRoom (d + 71) 0 0) (gZ X gN0 0 0 Q) gN0 yX3_faultOfTape cX3_faultOfTape 4 (some .int) 21 [(0, .ref 19), (1, .int wl), (2, .int mo), (3, .int k)] [] M1 0 0 := by
    intro M1 wl mo k hz hL1 hk
    refine g_iload_n dX3_faultOfTape_21 rfl rfl rfl ?_
    refine g_bipush (v := 61) dX3_faultOfTape_22 (by decide) rfl ?_
    refine g_icmp_ge (tgt := 100) dX3_faultOfTape_24 (by decide) rfl (fun h24 => ?_) (fun h24 => ?_)
    · exact g_go hk ⟨rfl, rfl, rfl, rfl, trivial⟩
    · refine g_iload_n dX3_faultOfTape_27 rfl rfl rfl ?_
      refine g_if_eq (tgt := 100) dX3_faultOfTape_28 (by decide) rfl (fun h28 => ?_) (fun h28 => ?_)
      · exact g_go hk ⟨rfl, rfl, rfl, rfl, trivial⟩
      · refine g_iload_n dX3_faultOfTape_31 rfl rfl rfl ?_
        refine g_if_eq (tgt := 100) dX3_faultOfTape_32 (by decide) rfl (fun _ => ?_) (fun h_ => absurd (by first | exact hz.elim (fun q => absurd q h28) id) h_)
        exact g_go hk ⟨rfl, rfl, rfl, rfl, trivial⟩
  have main : ∀ (n : Nat) (M1 : gM) (cs0 : List CL) (j : Nat), n + cs0.length = 61 → gFr (scrR a) M M1 → TC M1 T L j → DrC M1 a cs0 → (clG cs0).length ≤ j → R.1 = (lwP T L n j).1 → R.2.1 = (lwP T L n j).2.1 → (R.1 = true → R.2.2 = cs0 ++ (lwP T L n j).2.2) → gW X (gRoom (d + 71) 0 0) (gZ X gN0 0 0 Q) gN0 yX3_faultOfTape cX3_faultOfTape 4 (some .int) 21 [(0, .ref 19), (1, .int 1), (2, .int 1), (3, .int (nI (61 - n)))] [] M1 0 0 := by
    intro n
    induction n with
    | zero =>
      intro M1 cs0 j hn hf1 hC1 hD1 hG1 e1 e2 e3
      have f1 : R.1 = true := e1
      have f2 : R.2.1 = j := e2
      have f3 : R.2.2 = cs0 := by rw [e3 f1]; exact List.append_nil _
      refine g_iload_n dX3_faultOfTape_21 rfl rfl rfl ?_
      refine g_bipush (v := 61) dX3_faultOfTape_22 (by decide) rfl ?_
      refine g_icmp_ge (tgt := 100) dX3_faultOfTape_24 (by decide) rfl (fun _ => ?_) (fun h_ => absurd (by decide) h_)
      exact g_go (fin1 M1 1 _ f1 hf1 (by rw [f2]; exact hC1) (by rw [f3]; exact hD1)) ⟨rfl, rfl, rfl, rfl, trivial⟩
    | succ n ih =>
      intro M1 cs0 j hn hf1 hC1 hD1 hG1 e1 e2 e3
      unfold lwP at e1 e2 e3
      have hys := yP_san (T := T) (L := L) hC1.2.2.2
      -- a clause that does not stand there
      have bad : ∀ (M2 : gM) (p : Nat), (yP T L j).1 = false → (yP T L j).2.1 = p → gFr (scrR a) M M2 → TC M2 T L p → gW X (gRoom (d + 71) 0 0) (gZ X gN0 0 0 Q) gN0 yX3_faultOfTape cX3_faultOfTape 4 (some .int) 70 [(0, .ref 19), (1, .int 1), (2, .int 1), (3, .int (nI (61 - (n + 1))))] [] M2 0 0 := by
        intro M2 p y1 y2 hf2 hC2
        rw [y1, if_neg Bool.false_ne_true] at e1 e2
        have f1 : R.1 = false := e1
        have f2 : R.2.1 = p := e2.trans y2
        refine g_iconst (v := 0) dX3_faultOfTape_70 (by decide) rfl ?_
        refine g_istore_n dX3_faultOfTape_71 rfl (by decide) rfl ?_
        refine g_iload_n dX3_faultOfTape_72 rfl rfl rfl ?_
        refine g_if_eq (tgt := 92) dX3_faultOfTape_73 (by decide) rfl (fun _ => ?_) (fun h_ => absurd (by decide) h_)
        refine g_iconst (v := 0) dX3_faultOfTape_92 (by decide) rfl ?_
        refine g_istore_n dX3_faultOfTape_93 rfl (by decide) rfl ?_
        refine g_iincV (c := 1) dX3_faultOfTape_94 rfl (by decide) (by decide) rfl ?_
        refine g_goto (tgt := 21) dX3_faultOfTape_97 (by decide) ?_
        exact g_go (out M2 0 0 _ (Or.inl rfl) hC2.1 (fin0 M2 0 _ f1 hf2 (by rw [f2]; exact hC2))) ⟨rfl, rfl, rfl, rfl, trivial⟩
      have h24 : ¬ (61 : Int32) ≤ nI (61 - (n + 1)) := nI_ge (b := 61) (show 61 - (n + 1) < 61 by omega) (by decide)
      refine g_iload_n dX3_faultOfTape_21 rfl rfl rfl ?_
      refine g_bipush (v := 61) dX3_faultOfTape_22 (by decide) rfl ?_
      refine g_icmp_ge (tgt := 100) dX3_faultOfTape_24 (by decide) rfl (fun h_ => absurd h_ (h24)) (fun _ => ?_)
      refine g_iload_n dX3_faultOfTape_27 rfl rfl rfl ?_
      refine g_if_eq (tgt := 100) dX3_faultOfTape_28 (by decide) rfl (fun h_ => absurd h_ (by decide)) (fun _ => ?_)
      refine g_iload_n dX3_faultOfTape_31 rfl rfl rfl ?_
      refine g_if_eq (tgt := 100) dX3_faultOfTape_32 (by decide) rfl (fun h_ => absurd h_ (by decide)) (fun _ => ?_)
      refine g_aload_n dX3_faultOfTape_35 rfl rfl rfl ?_
      refine g_getR dX3_faultOfTape_36 ff_X3_18 rfl (k19 hC1.1) (r19_0 hC1.1) rfl ?_
      refine g_bipush (v := 121) dX3_faultOfTape_39 (by decide) rfl ?_
      refine g_callVq (ci := 7) dX3_faultOfTape_41 lm_X3_31 mv_X7_passed (c_passed (d := d + 69) hx hC1 (c := 121) (by decide)) rfl rfl (k1 hC1.1) rfl rfl (Nat.le_of_ble_eq_true rfl) (gFit_room (by omega)) rfl (fun v M2 hQ => ?_)
      obtain ⟨rfl, hf⟩ := hQ
      obtain ⟨hf2, hC2⟩ := hf
      by_cases hy : isS T L j 121 = true
      · rw [ib_t hy]
        rw [if_pos hy] at hC2
        refine g_if_eq (tgt := 70) dX3_faultOfTape_44 (by decide) rfl (fun h_ => absurd h_ (by decide)) (fun _ => ?_)
        refine g_aload_n dX3_faultOfTape_47 rfl rfl rfl ?_
        refine g_getR dX3_faultOfTape_48 ff_X3_18 rfl (k19 hC2.1) (r19_0 hC2.1) rfl ?_
        refine g_bipush (v := 58) dX3_faultOfTape_51 (by decide) rfl ?_
        refine g_callVq (ci := 7) dX3_faultOfTape_53 lm_X3_31 mv_X7_passed (c_passed (d := d + 69) hx hC2 (c := 58) (by decide)) rfl rfl (k1 hC2.1) rfl rfl (Nat.le_of_ble_eq_true rfl) (gFit_room (by omega)) rfl (fun v M2 hQ => ?_)
        obtain ⟨rfl, hf⟩ := hQ
        obtain ⟨hf3, hC3⟩ := hf
        by_cases hcn : isS T L (nxt T L j + 1) 58 = true
        · rw [ib_t hcn]
          rw [if_pos hcn] at hC3
          have hg1 := nxt_ge (T := T) (L := L) (i := j)
          have hg2 := nxt_ge (T := T) (L := L) (i := nxt T L j + 1)
          have hyc : yP T L j = ccP T L (nxt T L (nxt T L j + 1) + 1) := by unfold yP; rw [if_pos hy, if_pos hcn]
          have hD3 : DrC M2 a cs0 := ⟨(hD1.1.t hf2 ha).t hf3 ha, hD1.2.1, fun q hq => by rw [hf3.2.2.2 _ (show ¬ a + 2 = 1 by omega), hf3.2.2.2 _ (show ¬ a + 3 = 1 by omega), hf2.2.2.2 _ (show ¬ a + 2 = 1 by omega), hf2.2.2.2 _ (show ¬ a + 3 = 1 by omega)]; exact hD1.2.2 q hq⟩
          refine g_if_eq (tgt := 70) dX3_faultOfTape_56 (by decide) rfl (fun h_ => absurd h_ (by decide)) (fun _ => ?_)
          refine g_aload_n dX3_faultOfTape_59 rfl rfl rfl ?_
          refine g_callVq (ci := 3) dX3_faultOfTape_60 lm_X3_35 mv_X3_readsClause (c_readsClause (d := d) hx hZ ha hD3 (by omega) hC3 (by omega)) rfl rfl (k19 hC3.1) rfl rfl (Nat.le_of_ble_eq_true rfl) (gFit_room (by omega)) rfl (fun v M2 hQ => ?_)
          obtain ⟨rfl, hf⟩ := hQ
          obtain ⟨hf4, hC4, hD4⟩ := hf
          rw [← hyc] at hC4 hD4 ⊢
          generalize yP T L j = r at *
          by_cases hr : r.1 = true
          · rw [ib_t hr]
            rw [if_pos hr] at e1 e2 e3
            have hd4 := hD4 hr
            have hs4 := hys.2 hr
            have hlen : (clG (cs0 ++ [r.2.2])).length ≤ r.2.1 := by
              rw [clG_app, List.length_append, List.length_append]
              have := hs4.2
              unfold clN at this
              omega
            have hlen2 : (cs0 ++ [r.2.2]).length = cs0.length + 1 := by rw [List.length_append]; rfl
            refine g_if_eq (tgt := 70) dX3_faultOfTape_63 (by decide) rfl (fun h_ => absurd h_ (by decide)) (fun _ => ?_)
            refine g_iconst (v := 1) dX3_faultOfTape_66 (by decide) rfl ?_
            refine g_goto (tgt := 71) dX3_faultOfTape_67 (by decide) ?_
            refine g_istore_n dX3_faultOfTape_71 rfl (by decide) rfl ?_
            refine g_iload_n dX3_faultOfTape_72 rfl rfl rfl ?_
            refine g_if_eq (tgt := 92) dX3_faultOfTape_73 (by decide) rfl (fun h_ => absurd h_ (by decide)) (fun _ => ?_)
            refine g_aload_n dX3_faultOfTape_76 rfl rfl rfl ?_
            refine g_getR dX3_faultOfTape_77 ff_X3_18 rfl (k19 hC4.1) (r19_0 hC4.1) rfl ?_
            refine g_bipush (v := 59) dX3_faultOfTape_80 (by decide) rfl ?_
            refine g_callVq (ci := 7) dX3_faultOfTape_82 lm_X3_31 mv_X7_passed (c_passed (d := d + 69) hx hC4 (c := 59) (by decide)) rfl rfl (k1 hC4.1) rfl rfl (Nat.le_of_ble_eq_true rfl) (gFit_room (by omega)) rfl (fun v M2 hQ => ?_)
            obtain ⟨rfl, hf⟩ := hQ
            obtain ⟨hf5, hC5⟩ := hf
            have hfa := (((hf1.tr (scrR1 hf2)).tr (scrR1 hf3)).tr hf4).tr (scrR1 hf5)
            have hD5 : DrC M2 a (cs0 ++ [r.2.2]) := ⟨hd4.1.t hf5 ha, hd4.2.1, fun q hq => by rw [hf5.2.2.2 _ (show ¬ a + 2 = 1 by omega), hf5.2.2.2 _ (show ¬ a + 3 = 1 by omega)]; exact hd4.2.2 q hq⟩
            have hg5 := nxt_ge (T := T) (L := L) (i := r.2.1)
            by_cases hm : isS T L r.2.1 59 = true
            · rw [ib_t hm]
              rw [if_pos hm] at e1 e2 e3 hC5
              refine g_if_eq (tgt := 92) dX3_faultOfTape_85 (by decide) rfl (fun h_ => absurd h_ (by decide)) (fun _ => ?_)
              refine g_iconst (v := 1) dX3_faultOfTape_88 (by decide) rfl ?_
              refine g_goto (tgt := 93) dX3_faultOfTape_89 (by decide) ?_
              refine g_istore_n dX3_faultOfTape_93 rfl (by decide) rfl ?_
              refine g_iincV (c := 1) dX3_faultOfTape_94 rfl (by decide) (by decide) rfl ?_
              refine g_goto (tgt := 21) dX3_faultOfTape_97 (by decide) ?_
              exact g_go (ih _ (cs0 ++ [r.2.2]) _ (by omega) hfa hC5 hD5 (by omega) e1 e2 (fun q => by rw [e3 q, List.append_assoc]; rfl)) ⟨rfl, rfl, rfl, by rw [show 61 - n = 61 - (n + 1) + 1 by omega, ← nI_1]; rfl, trivial⟩
            · rw [ib_f hm]
              rw [if_neg hm] at e1 e2 e3 hC5
              have f1 : R.1 = true := e1
              have f2 : R.2.1 = nxt T L r.2.1 := e2
              have f3 : R.2.2 = cs0 ++ [r.2.2] := e3 f1
              refine g_if_eq (tgt := 92) dX3_faultOfTape_85 (by decide) rfl (fun _ => ?_) (fun h_ => absurd (by decide) h_)
              refine g_iconst (v := 0) dX3_faultOfTape_92 (by decide) rfl ?_
              refine g_istore_n dX3_faultOfTape_93 rfl (by decide) rfl ?_
              refine g_iincV (c := 1) dX3_faultOfTape_94 rfl (by decide) (by decide) rfl ?_
              refine g_goto (tgt := 21) dX3_faultOfTape_97 (by decide) ?_
              exact g_go (out _ 1 0 _ (Or.inr rfl) hC5.1 (fin1 _ 0 _ f1 hfa (by rw [f2]; exact hC5) (by rw [f3]; exact hD5))) ⟨rfl, rfl, rfl, rfl, trivial⟩
          · rw [ib_f hr]
            refine g_if_eq (tgt := 70) dX3_faultOfTape_63 (by decide) rfl (fun _ => ?_) (fun h_ => absurd (by decide) h_)
            exact g_go (bad _ _ (Bool.eq_false_iff.mpr hr) rfl (((hf1.tr (scrR1 hf2)).tr (scrR1 hf3)).tr hf4) hC4) ⟨rfl, rfl, rfl, rfl, trivial⟩
        · rw [ib_f hcn]
          rw [if_neg hcn] at hC3
          have hyc : yP T L j = flC (nxt T L (nxt T L j + 1)) := by unfold yP; rw [if_pos hy, if_neg hcn]
          refine g_if_eq (tgt := 70) dX3_faultOfTape_56 (by decide) rfl (fun _ => ?_) (fun h_ => absurd (by decide) h_)
          exact g_go (bad _ _ (by rw [hyc]; rfl) (by rw [hyc]; rfl) ((hf1.tr (scrR1 hf2)).tr (scrR1 hf3)) hC3) ⟨rfl, rfl, rfl, rfl, trivial⟩
      · rw [ib_f hy]
        rw [if_neg hy] at hC2
        have hyc : yP T L j = flC (nxt T L j) := by unfold yP; rw [if_neg hy]
        refine g_if_eq (tgt := 70) dX3_faultOfTape_44 (by decide) rfl (fun _ => ?_) (fun h_ => absurd (by decide) h_)
        exact g_go (bad _ _ (by rw [hyc]; rfl) (by rw [hyc]; rfl) (hf1.tr (scrR1 hf2)) hC2) ⟨rfl, rfl, rfl, rfl, trivial⟩
  have k_a := hla.1
  refine g_aload_n dX3_faultOfTape_0 rfl rfl rfl ?_
  refine g_getR dX3_faultOfTape_1 ff_X3_18 rfl (k19 hL) (r19_0 hL) rfl ?_
  refine g_iconst (v := 0) dX3_faultOfTape_4 (by decide) rfl ?_
  refine g_putI dX3_faultOfTape_5 fp_X3_22 rfl rfl rfl (k1 hL) rfl ?_
  refine g_aload_n dX3_faultOfTape_8 rfl rfl rfl ?_
  refine g_getR dX3_faultOfTape_9 ff_X3_12 rfl (k19 (gLay_I hL)) (r_19_1) rfl ?_
  have hla2 : LawAt (gwI M 1 2 0) a := LawAt_I hla
  refine g_callVdv (ci := 2) dX3_faultOfTape_12 lm_X3_28 mv_X2_clear (c_clear (d := d + 70) hx hla2) rfl rfl hla2.1 rfl rfl (Nat.le_of_ble_eq_true rfl) (gFit_room (by omega)) rfl ?_
  refine g_iconst (v := 1) dX3_faultOfTape_15 (by decide) rfl ?_
  refine g_istore_n dX3_faultOfTape_16 rfl (by decide) rfl ?_
  refine g_iconst (v := 1) dX3_faultOfTape_17 (by decide) rfl ?_
  refine g_istore_n dX3_faultOfTape_18 rfl (by decide) rfl ?_
  refine g_iconst (v := 0) dX3_faultOfTape_19 (by decide) rfl ?_
  refine g_istore_n dX3_faultOfTape_20 rfl (by decide) rfl ?_
  have hfr : gFr (scrR a) M (gwI (gwI (gwI (gwI M 1 2 0) a 4 0) a 5 0) a 6 0) := (((gFr.wI (Or.inl rfl)).tr (gFr.wI (Or.inr (Or.inl rfl)))).tr (gFr.wI (Or.inr (Or.inl rfl)))).tr (gFr.wI (Or.inr (Or.inl rfl)))
  have e1 : gmi (gwI (gwI (gwI (gwI M 1 2 0) a 4 0) a 5 0) a 6 0) 1 = va_up (gmi M 1) 2 0 := by rw [gmi_In _ _ _ (show 1 ≠ a by omega), gmi_In _ _ _ (show 1 ≠ a by omega), gmi_In _ _ _ (show 1 ≠ a by omega), gmi_I]
  have e2 : gmi (gwI (gwI (gwI (gwI M 1 2 0) a 4 0) a 5 0) a 6 0) 2 = gmi M 2 := by rw [gmi_In _ _ _ (show 2 ≠ a by omega), gmi_In _ _ _ (show 2 ≠ a by omega), gmi_In _ _ _ (show 2 ≠ a by omega), gmi_In _ _ _ (by decide)]
  have hC : TC (gwI (gwI (gwI (gwI M 1 2 0) a 4 0) a 5 0) a 6 0) T L 0 := ⟨hfr.lay hL, ⟨by rw [e1, va_up_ne _ _ (by decide)]; exact hTC.1, hTC.2.1, fun k hk => by rw [e2]; exact hTC.2.2 k hk⟩, by rw [e1, va_up_self]; rfl, Nat.zero_le _⟩
  have hD : DrC (gwI (gwI (gwI (gwI M 1 2 0) a 4 0) a 5 0) a 6 0) a [] := by
    refine ⟨⟨LawAt_fr hfr hla, by rw [hfr.2.1]; exact r_19_1, ?_, fun j hj => absurd hj (by show ¬ j < 0; omega), ?_, ?_⟩, by decide, fun j hj => absurd hj (by show ¬ j < 0; omega)⟩
    · rw [gmi_I, va_up_ne _ _ (by decide), gmi_I, va_up_ne _ _ (by decide), gmi_I, va_up_self]; rfl
    · rw [gmi_I, va_up_ne _ _ (by decide), gmi_I, va_up_self]; rfl
    · rw [gmi_I, va_up_self]; rfl
  exact g_go (main 61 _ [] 0 rfl hfr hC hD (Nat.le_refl _) (by rw [hR]) (by rw [hR]) (fun _ => by rw [hR]; rfl)) ⟨rfl, rfl, rfl, rfl, trivial⟩
end C3
