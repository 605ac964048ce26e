section H9
variable {X : gX} {Mc M : gM} {d n A c : Nat} {E : Nat → LE} {EV : EVt} {F : Nat → Int32}
/-- reading about sights: only what reading changes -/
def QV (Mc M M1 : gM) (n : Nat) (E : Nat → LE) (EV : EVt) (c : Nat) : Prop := xFr (fun q => q = 1000) M M1 ∧ R0 Mc M1 n E EV ∧ RSi Mc M1 c
theorem QV.q {M1 M2 : gM} (h : QV Mc M M1 n E EV c) (h1 : qFr M1 M2) (h2 : RQ M2 n E EV) : QV Mc M M2 n E EV c := ⟨h.1.tr h1.x, h.2.1.fr h1 h2, h.2.2.x (S := fun _ => False) h1.x id id⟩
theorem QV.th (h0 : R0 Mc M n E EV) (hS : RSi Mc M c) : QV Mc M (gwI M 100 0 0) n E EV c := ⟨xFr.wf rfl, h0.th, hS.x (S := fun q => q = 1000) (xFr.wf rfl) (by decide) (by decide)⟩
set_option maxRecDepth 20000 in
theorem r_isSet (hx : gXok X) (hZ : gSt X) {M0 : gM} (hQ : QV Mc M0 M n E EV c) {p s : Nat} (hp : p < tv Mc 3 7) (hs : s < 256) : gPos X (d + 35) yX11_isSet cX11_isSet 4 (some .boolean) [.ref 100, .int (nI p), .int (nI s)] M (fun v M2 => v = some (.int (ib (setB Mc EV p c s = true))) ∧ QV Mc M0 M2 n E EV c) := by
  have hc10 := hQ.2.2.2.2.1
  refine gMet.of hx (by decide) (Nat.le_of_ble_eq_true rfl) ?_
  unfold setB
  have hL := hQ.2.1.1.1
  refine g_iconst (v := 0) dX11_isSet_0 (by decide) rfl ?_
  refine g_istore_n dX11_isSet_1 rfl (by decide) rfl ?_
  refine g_loopM (fun i => [(0, .ref 100), (1, .int (nI p)), (2, .int (nI s)), (3, .int (nI i))]) (fun i M1 => QV Mc M0 M1 n E EV c ∧ fitB Mc EV p (nI (heft Mc s)) (ibc (nI s)) i = true) c 0 (by omega) ⟨rfl, rfl, rfl, rfl, trivial⟩ ⟨hQ, rfl⟩ (fun M1 hI => ?_) (fun i M1 _ hi hI ih => ?_)
  · refine g_iload_n dX11_isSet_2 rfl rfl rfl ?_
    refine g_aload_n dX11_isSet_3 rfl rfl rfl ?_
    refine g_getI dX11_isSet_4 ff_X11_291 rfl (k100 hI.1.2.1.1.1) rfl ?_
    rw [hI.1.2.2.1]
    refine g_icmp_ge (tgt := 68) dX11_isSet_7 (by decide) rfl (fun _ => ?_) (fun h_ => absurd (nI_le (Nat.le_refl _) (by omega)) h_)
    refine g_iconst (v := 1) dX11_isSet_68 (by decide) rfl ?_
    exact g_iret dX11_isSet_69 rfl (by first | rfl | exact b01 | exact nb01 hv01) (⟨by rw [ib_t hI.2], hI.1⟩)
  · obtain ⟨s1, s2, s3, ⟨m, hm, em⟩, s5⟩ := hI.1.2.2.2.2.2 i hi
    have efit : fitB Mc EV p (nI (heft Mc s)) (ibc (nI s)) (i + 1) = (fitB Mc EV p (nI (heft Mc s)) (ibc (nI s)) i && (!decide (gmi Mc 76 i = nI p) || decide (ib (rdS Mc EV p (nI (heft Mc s)) (ibc (nI s)) (gmi Mc 77 i) = true) = gmi Mc 78 i))) := rfl
    have next : ∀ M2, QV Mc M0 M2 n E EV c → (!decide (gmi Mc 76 i = nI p) || decide (ib (rdS Mc EV p (nI (heft Mc s)) (ibc (nI s)) (gmi Mc 77 i) = true) = gmi Mc 78 i)) = true → gW X (gRoom (d + 35) 0 0) (gZ X gN0 0 0 (fun v M2 => v = some (.int (ib (fitB Mc EV p (nI (heft Mc s)) (ibc (nI s)) c = true))) ∧ QV Mc M0 M2 n E EV c)) gN0 yX11_isSet cX11_isSet 4 (some .boolean) 62 [(0, .ref 100), (1, .int (nI p)), (2, .int (nI s)), (3, .int (nI i))] [] M2 0 0 := by
      intro M2 hq2 hz
      refine g_iincV (c := 1) dX11_isSet_62 rfl (by decide) (by decide) rfl ?_
      refine g_goto (tgt := 2) dX11_isSet_65 (by decide) ?_
      exact g_go (ih M2 ⟨hq2, by rw [efit, hI.2, hz]; rfl⟩) ⟨rfl, rfl, rfl, by rw [← nI_1 i]; rfl, trivial⟩
    have hgf : ∀ b : Bool, (gmi Mc 78 i = 0 ∨ gmi Mc 78 i = 1) → ((ib (b = true) = (if gmi Mc 78 i = 1 then 1 else 0)) ↔ ib (b = true) = gmi Mc 78 i) := by
      intro b hb
      rcases hb with z | z <;> rw [z] <;> cases b <;> decide
    by_cases hpi : gmi Mc 76 i = nI p
    · have ewb := r_wouldBe (d := d) hx hZ hI.1.2.1 hp hs hm
      rw [← em] at ewb
      refine g_iload_n dX11_isSet_2 rfl rfl rfl ?_
      refine g_aload_n dX11_isSet_3 rfl rfl rfl ?_
      refine g_getI dX11_isSet_4 ff_X11_291 rfl (k100 hI.1.2.1.1.1) rfl ?_
      rw [hI.1.2.2.1]
      refine g_icmp_ge (tgt := 68) dX11_isSet_7 (by decide) rfl (fun h_ => absurd h_ (nI_ge hi (by omega))) (fun _ => ?_)
      refine g_aload_n dX11_isSet_10 rfl rfl rfl ?_
      refine g_getR dX11_isSet_11 ff_X11_84 rfl (k100 hI.1.2.1.1.1) (r100_43 hI.1.2.1.1.1) rfl ?_
      refine g_iconst (v := 3) dX11_isSet_14 (by decide) rfl ?_
      refine g_iload_n dX11_isSet_15 rfl rfl rfl ?_
      refine g_imul dX11_isSet_16 rfl ?_
      rw [show (3 : Int32) = nI 3 from rfl, pk_mul]
      refine g_iald (i := (3 * i)) dX11_isSet_17 (k118 hI.1.2.1.1.1) (l118 hI.1.2.1.1.1) (nI_toInt (by omega)) (by omega) rfl ?_
      rw [s1]
      refine g_iload_n dX11_isSet_18 rfl rfl rfl ?_
      refine g_icmp_ne (tgt := 62) dX11_isSet_19 (by decide) rfl (fun h_ => absurd (hpi) h_) (fun _ => ?_)
      refine g_aload_n dX11_isSet_22 rfl rfl rfl ?_
      refine g_iload_n dX11_isSet_23 rfl rfl rfl ?_
      refine g_iload_n dX11_isSet_24 rfl rfl rfl ?_
      refine g_aload_n dX11_isSet_25 rfl rfl rfl ?_
      refine g_getR dX11_isSet_26 ff_X11_84 rfl (k100 hI.1.2.1.1.1) (r100_43 hI.1.2.1.1.1) rfl ?_
      refine g_iconst (v := 3) dX11_isSet_29 (by decide) rfl ?_
      refine g_iload_n dX11_isSet_30 rfl rfl rfl ?_
      refine g_imul dX11_isSet_31 rfl ?_
      refine g_iconst (v := 1) dX11_isSet_32 (by decide) rfl ?_
      refine g_iadd dX11_isSet_33 rfl ?_
      rw [show (3 : Int32) = nI 3 from rfl, show (1 : Int32) = nI 1 from rfl, pk_mul, nI_add]
      refine g_iald (i := (3 * i + 1)) dX11_isSet_34 (k118 hI.1.2.1.1.1) (l118 hI.1.2.1.1.1) (nI_toInt (by omega)) (by omega) rfl ?_
      rw [s2]
      refine g_callVq (ci := 11) dX11_isSet_35 lm_X11_439 mv_X11_wouldBe (ewb) rfl rfl (k100 hI.1.2.1.1.1) rfl rfl (Nat.le_of_ble_eq_true rfl) (gFit_room (by omega)) rfl (fun v M2 hQ => ?_)
      obtain ⟨rfl, hf⟩ := hQ
      have hQ1 := hI.1.q hf.1 hf.2
      have s3' := (hQ1.2.2.2.2.2 i hi).2.2.1
      have hgf2 := hgf (rdS Mc EV p (nI (heft Mc s)) (ibc (nI s)) (gmi Mc 77 i)) s5
      have done : ∀ (v : Int32), v = (if gmi Mc 78 i = 1 then 1 else 0) → gW X (gRoom (d + 35) 0 0) (gZ X gN0 0 0 (fun v M2 => v = some (.int (ib (fitB Mc EV p (nI (heft Mc s)) (ibc (nI s)) c = true))) ∧ QV Mc M0 M2 n E EV c)) gN0 yX11_isSet cX11_isSet 4 (some .boolean) 57 [(0, .ref 100), (1, .int (nI p)), (2, .int (nI s)), (3, .int (nI i))] [.int v, .int (ib (rdS Mc EV p (nI (heft Mc s)) (ibc (nI s)) (gmi Mc 77 i) = true))] M2 0 0 := by
        intro v hv
        rw [hv]
        by_cases hr : ib (rdS Mc EV p (nI (heft Mc s)) (ibc (nI s)) (gmi Mc 77 i) = true) = gmi Mc 78 i
        · refine g_icmp_eq (tgt := 62) dX11_isSet_57 (by decide) rfl (fun _ => ?_) (fun h_ => absurd (hgf2.mpr hr) h_)
          exact g_go (next _ hQ1 (by rw [decide_eq_true hr, Bool.or_true])) ⟨rfl, rfl, rfl, rfl, trivial⟩
        · refine g_icmp_eq (tgt := 62) dX11_isSet_57 (by decide) rfl (fun h_ => absurd h_ (fun z => hr (hgf2.mp z))) (fun _ => ?_)
          refine g_iconst (v := 0) dX11_isSet_60 (by decide) rfl ?_
          exact g_iret dX11_isSet_61 rfl (by first | rfl | exact b01 | exact nb01 hv01) (⟨by rw [fitB_false (i := i) (by rw [decide_eq_true hpi, decide_eq_false hr]; rfl) c hi]; rfl, hQ1⟩)
      by_cases h1 : gmi Mc 78 i = 1
      · refine g_aload_n dX11_isSet_38 rfl rfl rfl ?_
        refine g_getR dX11_isSet_39 ff_X11_84 rfl (k100 hQ1.2.1.1.1) (r100_43 hQ1.2.1.1.1) rfl ?_
        refine g_iconst (v := 3) dX11_isSet_42 (by decide) rfl ?_
        refine g_iload_n dX11_isSet_43 rfl rfl rfl ?_
        refine g_imul dX11_isSet_44 rfl ?_
        refine g_iconst (v := 2) dX11_isSet_45 (by decide) rfl ?_
        refine g_iadd dX11_isSet_46 rfl ?_
        rw [show (3 : Int32) = nI 3 from rfl, show (2 : Int32) = nI 2 from rfl, pk_mul, nI_add]
        refine g_iald (i := (3 * i + 2)) dX11_isSet_47 (k118 hQ1.2.1.1.1) (l118 hQ1.2.1.1.1) (nI_toInt (by omega)) (by omega) rfl ?_
        rw [s3']
        refine g_iconst (v := 1) dX11_isSet_48 (by decide) rfl ?_
        refine g_icmp_ne (tgt := 56) dX11_isSet_49 (by decide) rfl (fun h_ => absurd (h1) h_) (fun _ => ?_)
        refine g_iconst (v := 1) dX11_isSet_52 (by decide) rfl ?_
        refine g_goto (tgt := 57) dX11_isSet_53 (by decide) ?_
        exact g_go (done 1 (by rw [if_pos h1])) ⟨rfl, rfl, rfl, rfl, trivial⟩
      · refine g_aload_n dX11_isSet_38 rfl rfl rfl ?_
        refine g_getR dX11_isSet_39 ff_X11_84 rfl (k100 hQ1.2.1.1.1) (r100_43 hQ1.2.1.1.1) rfl ?_
        refine g_iconst (v := 3) dX11_isSet_42 (by decide) rfl ?_
        refine g_iload_n dX11_isSet_43 rfl rfl rfl ?_
        refine g_imul dX11_isSet_44 rfl ?_
        refine g_iconst (v := 2) dX11_isSet_45 (by decide) rfl ?_
        refine g_iadd dX11_isSet_46 rfl ?_
        rw [show (3 : Int32) = nI 3 from rfl, show (2 : Int32) = nI 2 from rfl, pk_mul, nI_add]
        refine g_iald (i := (3 * i + 2)) dX11_isSet_47 (k118 hQ1.2.1.1.1) (l118 hQ1.2.1.1.1) (nI_toInt (by omega)) (by omega) rfl ?_
        rw [s3']
        refine g_iconst (v := 1) dX11_isSet_48 (by decide) rfl ?_
        refine g_icmp_ne (tgt := 56) dX11_isSet_49 (by decide) rfl (fun _ => ?_) (fun h_ => absurd h_ (h1))
        refine g_iconst (v := 0) dX11_isSet_56 (by decide) rfl ?_
        exact g_go (done 0 (by rw [if_neg h1])) ⟨rfl, rfl, rfl, rfl, trivial⟩
    · refine g_iload_n dX11_isSet_2 rfl rfl rfl ?_
      refine g_aload_n dX11_isSet_3 rfl rfl rfl ?_
      refine g_getI dX11_isSet_4 ff_X11_291 rfl (k100 hI.1.2.1.1.1) rfl ?_
      rw [hI.1.2.2.1]
      refine g_icmp_ge (tgt := 68) dX11_isSet_7 (by decide) rfl (fun h_ => absurd h_ (nI_ge hi (by omega))) (fun _ => ?_)
      refine g_aload_n dX11_isSet_10 rfl rfl rfl ?_
      refine g_getR dX11_isSet_11 ff_X11_84 rfl (k100 hI.1.2.1.1.1) (r100_43 hI.1.2.1.1.1) rfl ?_
      refine g_iconst (v := 3) dX11_isSet_14 (by decide) rfl ?_
      refine g_iload_n dX11_isSet_15 rfl rfl rfl ?_
      refine g_imul dX11_isSet_16 rfl ?_
      rw [show (3 : Int32) = nI 3 from rfl, pk_mul]
      refine g_iald (i := (3 * i)) dX11_isSet_17 (k118 hI.1.2.1.1.1) (l118 hI.1.2.1.1.1) (nI_toInt (by omega)) (by omega) rfl ?_
      rw [s1]
      refine g_iload_n dX11_isSet_18 rfl rfl rfl ?_
      refine g_icmp_ne (tgt := 62) dX11_isSet_19 (by decide) rfl (fun _ => ?_) (fun h_ => absurd h_ (hpi))
      exact g_go (next _ hI.1 (by rw [decide_eq_false hpi]; rfl)) ⟨rfl, rfl, rfl, rfl, trivial⟩
set_option maxRecDepth 20000 in
theorem r_sets (hx : gXok X) (hZ : gSt X) (h0 : R0 Mc M n E EV) (hS : RSi Mc M c) {x z : Int32} : gPos X (d + 36) yX11_sets cX11_sets 5 (some .int) [.ref 100, .int x, .int z] M (fun v M2 => v = some (.int (if inP Mc x ∧ -1 ≤ z then fsFrom (setB Mc EV (tn x) c) z (2 ^ tv Mc 3 8) 0 0 else -1)) ∧ xFr (fun q => q = 1000) M M2 ∧ RQ M2 n E EV) := by
  have hL := h0.1.1
  have hT := h0.2.1
  have hQ0 : QV Mc M (gwI M 100 0 0) n E EV c := QV.th h0 hS
  have h1 := hQ0.2.1
  have h8 := hT.2.1.2
  have h256 : 2 ^ tv Mc 3 8 ≤ 256 := Nat.le_trans (bt_pow h8) (by decide)
  refine gMet.of hx (by decide) (Nat.le_of_ble_eq_true rfl) ?_
  by_cases hc : inP Mc x ∧ -1 ≤ z
  · rw [if_pos hc]
    obtain ⟨hp, hz⟩ := hc
    obtain ⟨ex, lx⟩ := in_row hT.1.1 (by have := hT.1.2; omega) hp
    generalize tn x = p at *
    subst ex
    have main : ∀ (k b f : Nat) (M1 : gM), b + k = 2 ^ tv Mc 3 8 → f ≤ b → QV Mc M M1 n E EV c → gW X (gRoom (d + 36) 0 0) (gZ X gN0 0 0 (fun v M2 => v = some (.int (fsFrom (setB Mc EV p c) z k b f)) ∧ xFr (fun q => q = 1000) M M2 ∧ RQ M2 n E EV)) gN0 yX11_sets cX11_sets 5 (some .int) 25 [(0, .ref 100), (1, .int (nI p)), (2, .int z), (3, .int (nI f)), (4, .int (nI b))] [] M1 0 0 := by
      intro k
      induction k with
      | zero =>
        intro b f M1 hb hf hQ
        have e27 := hQ.2.1.e26.2.1
        unfold fsFrom
        by_cases hz1 : z = -1
        · rw [if_pos hz1]
          refine g_iload dX11_sets_25 rfl rfl ?_
          refine g_iconst (v := 1) dX11_sets_27 (by decide) rfl ?_
          refine g_aload_n dX11_sets_28 rfl rfl rfl ?_
          refine g_getI dX11_sets_29 ff_X11_288 rfl (k100 hQ.2.1.1.1) rfl ?_
          refine g_ishl dX11_sets_32 rfl ?_
          rw [e27, bt_one _ (by omega)]
          refine g_icmp_ge (tgt := 66) dX11_sets_33 (by decide) rfl (fun _ => ?_) (fun h_ => absurd (nI_le (by omega) (by omega)) h_)
          refine g_iload_n dX11_sets_66 rfl rfl rfl ?_
          refine g_iconst (v := -1) dX11_sets_67 (by decide) rfl ?_
          refine g_icmp_ne (tgt := 75) dX11_sets_68 (by decide) rfl (fun h_ => absurd (hz1) h_) (fun _ => ?_)
          refine g_iload_n dX11_sets_71 rfl rfl rfl ?_
          refine g_goto (tgt := 76) dX11_sets_72 (by decide) ?_
          exact g_iret dX11_sets_76 rfl (by first | rfl | exact b01 | exact nb01 hv01) (⟨rfl, hQ.1, hQ.2.1.1⟩)
        · rw [if_neg hz1]
          refine g_iload dX11_sets_25 rfl rfl ?_
          refine g_iconst (v := 1) dX11_sets_27 (by decide) rfl ?_
          refine g_aload_n dX11_sets_28 rfl rfl rfl ?_
          refine g_getI dX11_sets_29 ff_X11_288 rfl (k100 hQ.2.1.1.1) rfl ?_
          refine g_ishl dX11_sets_32 rfl ?_
          rw [e27, bt_one _ (by omega)]
          refine g_icmp_ge (tgt := 66) dX11_sets_33 (by decide) rfl (fun _ => ?_) (fun h_ => absurd (nI_le (by omega) (by omega)) h_)
          refine g_iload_n dX11_sets_66 rfl rfl rfl ?_
          refine g_iconst (v := -1) dX11_sets_67 (by decide) rfl ?_
          refine g_icmp_ne (tgt := 75) dX11_sets_68 (by decide) rfl (fun _ => ?_) (fun h_ => absurd h_ (hz1))
          refine g_iconst (v := -1) dX11_sets_75 (by decide) rfl ?_
          exact g_iret dX11_sets_76 rfl (by first | rfl | exact b01 | exact nb01 hv01) (⟨rfl, hQ.1, hQ.2.1.1⟩)
      | succ k ih =>
        intro b f M1 hb hf hQ
        have e27 := hQ.2.1.e26.2.1
        unfold fsFrom
        refine g_iload dX11_sets_25 rfl rfl ?_
        refine g_iconst (v := 1) dX11_sets_27 (by decide) rfl ?_
        refine g_aload_n dX11_sets_28 rfl rfl rfl ?_
        refine g_getI dX11_sets_29 ff_X11_288 rfl (k100 hQ.2.1.1.1) rfl ?_
        refine g_ishl dX11_sets_32 rfl ?_
        rw [e27, bt_one _ (by omega)]
        refine g_icmp_ge (tgt := 66) dX11_sets_33 (by decide) rfl (fun h_ => absurd h_ (nI_ge (by omega) (by omega))) (fun _ => ?_)
        refine g_aload_n dX11_sets_36 rfl rfl rfl ?_
        refine g_iload_n dX11_sets_37 rfl rfl rfl ?_
        refine g_iload dX11_sets_38 rfl rfl ?_
        refine g_callVq (ci := 11) dX11_sets_40 lm_X11_443 mv_X11_isSet (r_isSet (d := d) hx hZ hQ lx (show b < 256 by omega)) rfl rfl (k100 hQ.2.1.1.1) rfl rfl (Nat.le_of_ble_eq_true rfl) (gFit_room (by omega)) rfl (fun v M2 hQ => ?_)
        obtain ⟨rfl, hf⟩ := hQ
        have hQ1 := hf
        by_cases hset : setB Mc EV p c b = true
        · rw [if_pos hset, ib_t hset]
          by_cases hfx : nI f = z
          · rw [if_pos hfx]
            refine g_if_ne (tgt := 49) dX11_sets_43 (by decide) rfl (fun _ => ?_) (fun h_ => absurd h_ (by decide))
            refine g_iload_n dX11_sets_49 rfl rfl rfl ?_
            refine g_iload_n dX11_sets_50 rfl rfl rfl ?_
            refine g_icmp_ne (tgt := 57) dX11_sets_51 (by decide) rfl (fun h_ => absurd (hfx) h_) (fun _ => ?_)
            refine g_iload dX11_sets_54 rfl rfl ?_
            exact g_iret dX11_sets_56 rfl (by first | rfl | exact b01 | exact nb01 hv01) (⟨rfl, hQ1.1, hQ1.2.1.1⟩)
          · rw [if_neg hfx]
            refine g_if_ne (tgt := 49) dX11_sets_43 (by decide) rfl (fun _ => ?_) (fun h_ => absurd h_ (by decide))
            refine g_iload_n dX11_sets_49 rfl rfl rfl ?_
            refine g_iload_n dX11_sets_50 rfl rfl rfl ?_
            refine g_icmp_ne (tgt := 57) dX11_sets_51 (by decide) rfl (fun _ => ?_) (fun h_ => absurd h_ (hfx))
            refine g_iincV (c := 1) dX11_sets_57 rfl (by decide) (by decide) rfl ?_
            refine g_iincV (c := 1) dX11_sets_60 rfl (by decide) (by decide) rfl ?_
            refine g_goto (tgt := 25) dX11_sets_63 (by decide) ?_
            exact g_go (ih (b + 1) (f + 1) _ (by omega) (by omega) hQ1) ⟨rfl, rfl, rfl, by rw [← nI_1 f]; rfl, by rw [← nI_1 b]; rfl, trivial⟩
        · rw [if_neg hset, ib_f hset]
          refine g_if_ne (tgt := 49) dX11_sets_43 (by decide) rfl (fun h_ => absurd (by decide) h_) (fun _ => ?_)
          refine g_goto (tgt := 60) dX11_sets_46 (by decide) ?_
          refine g_iincV (c := 1) dX11_sets_60 rfl (by decide) (by decide) rfl ?_
          refine g_goto (tgt := 25) dX11_sets_63 (by decide) ?_
          exact g_go (ih (b + 1) f _ (by omega) (by omega) hQ1) ⟨rfl, rfl, rfl, rfl, by rw [← nI_1 b]; rfl, trivial⟩
    refine g_aload_n dX11_sets_0 rfl rfl rfl ?_
    refine g_iconst (v := 0) dX11_sets_1 (by decide) rfl ?_
    refine g_putI dX11_sets_2 fp_X11_90 rfl rfl rfl (k100 hL) rfl ?_
    refine g_aload_n dX11_sets_5 rfl rfl rfl ?_
    refine g_iload_n dX11_sets_6 rfl rfl rfl ?_
    refine g_callVdi (ci := 11) dX11_sets_7 lm_X11_342 mv_X11_isPerson (h1.isP (d := d + 35) hx) rfl rfl (k100 (gLay_I hL)) rfl rfl (Nat.le_of_ble_eq_true rfl) (gFit_room (by omega)) rfl ?_
    rw [ib_t hp]
    refine g_if_eq (tgt := 18) dX11_sets_10 (by decide) rfl (fun h_ => absurd h_ (by decide)) (fun _ => ?_)
    refine g_iload_n dX11_sets_13 rfl rfl rfl ?_
    refine g_iconst (v := -1) dX11_sets_14 (by decide) rfl ?_
    refine g_icmp_ge (tgt := 20) dX11_sets_15 (by decide) rfl (fun _ => ?_) (fun h_ => absurd (hz) h_)
    refine g_iconst (v := 0) dX11_sets_20 (by decide) rfl ?_
    refine g_istore_n dX11_sets_21 rfl (by decide) rfl ?_
    refine g_iconst (v := 0) dX11_sets_22 (by decide) rfl ?_
    refine g_istore dX11_sets_23 (by decide) rfl ?_
    exact g_go (main _ 0 0 _ (by omega) (by omega) hQ0) ⟨rfl, rfl, rfl, rfl, rfl, trivial⟩
  · rw [if_neg hc]
    refine g_aload_n dX11_sets_0 rfl rfl rfl ?_
    refine g_iconst (v := 0) dX11_sets_1 (by decide) rfl ?_
    refine g_putI dX11_sets_2 fp_X11_90 rfl rfl rfl (k100 hL) rfl ?_
    refine g_aload_n dX11_sets_5 rfl rfl rfl ?_
    refine g_iload_n dX11_sets_6 rfl rfl rfl ?_
    refine g_callVdi (ci := 11) dX11_sets_7 lm_X11_342 mv_X11_isPerson (h1.isP (d := d + 35) hx) rfl rfl (k100 (gLay_I hL)) rfl rfl (Nat.le_of_ble_eq_true rfl) (gFit_room (by omega)) rfl ?_
    refine g_ieq (tgt := 18) dX11_sets_10 (by decide) rfl (fun h10 => ?_) (fun h10 => ?_)
    · refine g_iconst (v := -1) dX11_sets_18 (by decide) rfl ?_
      exact g_iret dX11_sets_19 rfl (by first | rfl | exact b01 | exact nb01 hv01) (⟨rfl, hQ0.1, h1.1⟩)
    · refine g_iload_n dX11_sets_13 rfl rfl rfl ?_
      refine g_iconst (v := -1) dX11_sets_14 (by decide) rfl ?_
      refine g_icmp_ge (tgt := 20) dX11_sets_15 (by decide) rfl (fun h_ => absurd h_ (fun q => hc ⟨h10, q⟩)) (fun _ => ?_)
      refine g_iconst (v := -1) dX11_sets_18 (by decide) rfl ?_
      exact g_iret dX11_sets_19 rfl (by first | rfl | exact b01 | exact nb01 hv01) (⟨rfl, hQ0.1, h1.1⟩)
end H9
