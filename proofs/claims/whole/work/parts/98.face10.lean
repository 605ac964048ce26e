section H10
variable {X : gX} {Mc M : gM} {d n A c : Nat} {E : Nat → LE} {EV : EVt} {F : Nat → Int32}
theorem ct_split (P Q : Nat → Bool) : ∀ k, fb_ct P k = fb_ct (fun s => P s && Q s) k + fb_ct (fun s => P s && !Q s) k
  | 0 => rfl
  | k + 1 => by
    rw [fb_ct_succ, fb_ct_succ, fb_ct_succ, ct_split P Q k]
    cases P k <;> cases Q k <;> simp <;> omega
theorem sub1 (x y : Int32) : x - y + (-1) = x - (y + 1) := by
  have e1 : x - y + (-1) = x + (-y + -1) := by rw [Int32.sub_eq_add_neg, Int32.add_assoc]
  have e2 : x - (y + 1) = x + -(y + 1) := Int32.sub_eq_add_neg _ _
  have e3 : -(y + 1) = -y + -1 := by rw [Int32.neg_add, Int32.sub_eq_add_neg]
  rw [e1, e2, e3]
theorem am_s (f : Nat → Nat) (k : Nat) : am f (k + 1) = if f (k + 1) < f (am f k) then k + 1 else am f k := rfl
def bst (f : Nat → Nat) (b : Nat) : Int32 × Int32 := if b = 0 then (-1, 0) else (nI (am f (b - 1)), nI (f (am f (b - 1))))
theorem am_lt (f : Nat → Nat) : ∀ k, am f k ≤ k
  | 0 => Nat.le_refl _
  | k + 1 => by
    have := am_lt f k
    unfold am
    split <;> omega
set_option maxRecDepth 20000 in
set_option maxHeartbeats 2000000 in
theorem r_ask (hx : gXok X) (hZ : gSt X) (h0 : R0 Mc M n E EV) (hS : RSi Mc M c) {x : Int32} : gPos X (d + 36) yX11_ask cX11_ask 8 (some .int) [.ref 100, .int x] M (fun v M2 => v = some (.int (if inP Mc x then askV Mc EV (tn x) c else -1)) ∧ xFr (fun q => q = 1000) M M2 ∧ RQ M2 n E EV) := by
  have hL := h0.1.1
  have hT := h0.2.1
  have hQ0 : QV Mc M (gwI M 100 0 0) n E EV c := QV.th h0 hS
  have h1 := hQ0.2.1
  have h8 := hT.2.1.2
  have h256 : 2 ^ tv Mc 3 8 ≤ 256 := Nat.le_trans (bt_pow h8) (by decide)
  refine gMet.of hx (by decide) (Nat.le_of_ble_eq_true rfl) ?_
  by_cases hp : inP Mc x
  · rw [if_pos hp]
    obtain ⟨ex, lx⟩ := in_row hT.1.1 (by have := hT.1.2; omega) hp
    generalize tn x = p at *
    subst ex
    refine g_aload_n dX11_ask_0 rfl rfl rfl ?_
    refine g_iconst (v := 0) dX11_ask_1 (by decide) rfl ?_
    refine g_putI dX11_ask_2 fp_X11_90 rfl rfl rfl (k100 hL) rfl ?_
    refine g_aload_n dX11_ask_5 rfl rfl rfl ?_
    refine g_iload_n dX11_ask_6 rfl rfl rfl ?_
    refine g_callVdi (ci := 11) dX11_ask_7 lm_X11_342 mv_X11_isPerson (h1.isP (d := d + 35) hx) rfl rfl (k100 (gLay_I hL)) rfl rfl (Nat.le_of_ble_eq_true rfl) (gFit_room (by omega)) rfl ?_
    rw [ib_t hp]
    refine g_if_ne (tgt := 15) dX11_ask_10 (by decide) rfl (fun _ => ?_) (fun h_ => absurd h_ (by decide))
    refine g_iconst (v := -1) dX11_ask_15 (by decide) rfl ?_
    refine g_istore_n dX11_ask_16 rfl (by decide) rfl ?_
    refine g_iconst (v := 0) dX11_ask_17 (by decide) rfl ?_
    refine g_istore_n dX11_ask_18 rfl (by decide) rfl ?_
    refine g_iconst (v := 0) dX11_ask_19 (by decide) rfl ?_
    refine g_istore dX11_ask_20 (by decide) rfl ?_
    refine g_loopM (fun b => [(0, .ref 100), (1, .int (nI p)), (2, .int (bst (leanN Mc EV p c) b).1), (3, .int (bst (leanN Mc EV p c) b).2), (4, .int (nI b))]) (fun b M1 => QV Mc M M1 n E EV c ∧ (b = 0 ∨ ¬ fb_ct (setB Mc EV p c) (2 ^ tv Mc 3 8) = 0)) 100 0 (by decide) ⟨rfl, rfl, rfl, rfl, rfl, trivial⟩ ⟨hQ0, Or.inl rfl⟩ (fun M1 hI => ?_) (fun b M1 _ hb hI ih => ?_)
    · have hne := hI.2.resolve_left (by decide)
      refine g_iload dX11_ask_22 rfl rfl ?_
      refine g_bipush (v := 99) dX11_ask_24 (by decide) rfl ?_
      refine g_icmp_gt (tgt := 133) dX11_ask_26 (by decide) rfl (fun _ => ?_) (fun h_ => absurd (by decide) h_)
      refine g_iload_n dX11_ask_133 rfl rfl rfl ?_
      exact g_iret dX11_ask_134 rfl (by first | rfl | exact b01 | exact nb01 hv01) (⟨by unfold askV; rw [if_neg hne]; rfl, hI.1.1, hI.1.2.1.1⟩)
    · have hsp := ct_split (setB Mc EV p c) (fun s => rdS Mc EV p (nI (heft Mc s)) (ibc (nI s)) (nI b))
      have hcl := fun k => fb_ct_le (setB Mc EV p c) k
      generalize hAf : (fun k => fb_ct (fun s => setB Mc EV p c s && rdS Mc EV p (nI (heft Mc s)) (ibc (nI s)) (nI b)) k) = Af
      generalize hBf : (fun k => fb_ct (fun s => setB Mc EV p c s && !rdS Mc EV p (nI (heft Mc s)) (ibc (nI s)) (nI b)) k) = Bf
      have hA : ∀ k, fb_ct (fun s => setB Mc EV p c s && rdS Mc EV p (nI (heft Mc s)) (ibc (nI s)) (nI b)) k = Af k := fun k => by rw [← hAf]
      have hB : ∀ k, fb_ct (fun s => setB Mc EV p c s && !rdS Mc EV p (nI (heft Mc s)) (ibc (nI s)) (nI b)) k = Bf k := fun k => by rw [← hBf]
      have hC : ∀ k, fb_ct (setB Mc EV p c) k = Af k + Bf k := fun k => by rw [hsp k, hA, hB]
      have hAs : ∀ k, Af (k + 1) = Af k + (if (setB Mc EV p c k && rdS Mc EV p (nI (heft Mc k)) (ibc (nI k)) (nI b)) then 1 else 0) := fun k => by rw [← hA, ← hA, fb_ct_succ]
      have hBs : ∀ k, Bf (k + 1) = Bf k + (if (setB Mc EV p c k && !rdS Mc EV p (nI (heft Mc k)) (ibc (nI k)) (nI b)) then 1 else 0) := fun k => by rw [← hB, ← hB, fb_ct_succ]
      have hA0 : Af 0 = 0 := by rw [← hA]; rfl
      have hB0 : Bf 0 = 0 := by rw [← hB]; rfl
      have hln : leanN Mc EV p c b = max (Af (2 ^ tv Mc 3 8) - Bf (2 ^ tv Mc 3 8)) (Bf (2 ^ tv Mc 3 8) - Af (2 ^ tv Mc 3 8)) := by
        unfold leanN gltN
        rw [hA, hC]
        omega
      refine g_iload dX11_ask_22 rfl rfl ?_
      refine g_bipush (v := 99) dX11_ask_24 (by decide) rfl ?_
      refine g_icmp_gt (tgt := 133) dX11_ask_26 (by decide) rfl (fun h_ => absurd h_ (fun q => absurd ((qlt 99 b rfl rfl (by decide) (by omega)).mp q) (by omega))) (fun _ => ?_)
      refine g_iconst (v := 0) dX11_ask_29 (by decide) rfl ?_
      refine g_istore dX11_ask_30 (by decide) rfl ?_
      refine g_iconst (v := 0) dX11_ask_32 (by decide) rfl ?_
      refine g_istore dX11_ask_33 (by decide) rfl ?_
      refine g_iconst (v := 0) dX11_ask_35 (by decide) rfl ?_
      refine g_istore dX11_ask_36 (by decide) rfl ?_
      refine g_loopM (fun s => [(0, .ref 100), (1, .int (nI p)), (2, .int (bst (leanN Mc EV p c) b).1), (3, .int (bst (leanN Mc EV p c) b).2), (4, .int (nI b)), (5, .int (nI (Af s) - nI (Bf s))), (6, .int (ib (0 < Af s + Bf s))), (7, .int (nI s))]) (fun s M2 => QV Mc M M2 n E EV c) (2 ^ tv Mc 3 8) 0 (Nat.zero_le _) ⟨rfl, rfl, rfl, rfl, rfl, by rw [hA0, hB0]; rfl, by rw [hA0, hB0]; rfl, rfl, trivial⟩ hI.1 (fun M2 hJ => ?_) (fun s M2 _ hs hJ ih2 => ?_)
      · have e27 := hJ.2.1.e26.2.1
        have hcn := hC (2 ^ tv Mc 3 8)
        have hcle := hcl (2 ^ tv Mc 3 8)
        by_cases hz : fb_ct (setB Mc EV p c) (2 ^ tv Mc 3 8) = 0
        · unfold askV
          rw [if_pos hz]
          refine g_iload dX11_ask_38 rfl rfl ?_
          refine g_iconst (v := 1) dX11_ask_40 (by decide) rfl ?_
          refine g_aload_n dX11_ask_41 rfl rfl rfl ?_
          refine g_getI dX11_ask_42 ff_X11_288 rfl (k100 hJ.2.1.1.1) rfl ?_
          refine g_ishl dX11_ask_45 rfl ?_
          rw [e27, bt_one _ (by omega)]
          refine g_icmp_ge (tgt := 93) dX11_ask_46 (by decide) rfl (fun _ => ?_) (fun h_ => absurd (nI_le (Nat.le_refl _) (by omega)) h_)
          refine g_iload dX11_ask_93 rfl rfl ?_
          rw [ib_f (by omega)]
          refine g_if_ne (tgt := 100) dX11_ask_95 (by decide) rfl (fun h_ => absurd (by decide) h_) (fun _ => ?_)
          refine g_iconst (v := -1) dX11_ask_98 (by decide) rfl ?_
          exact g_iret dX11_ask_99 rfl (by first | rfl | exact b01 | exact nb01 hv01) (⟨rfl, hJ.1, hJ.2.1.1⟩)
        · have hlb : leanN Mc EV p c b < 2 ^ 30 := by omega
          have nextB : (bst (leanN Mc EV p c) (b + 1) = if b = 0 ∨ leanN Mc EV p c b < leanN Mc EV p c (am (leanN Mc EV p c) (b - 1)) then (nI b, nI (leanN Mc EV p c b)) else bst (leanN Mc EV p c) b) := by
            unfold bst
            rw [if_neg (by omega), Nat.add_sub_cancel]
            cases b with
            | zero => rw [if_pos (Or.inl rfl)]; rfl
            | succ k =>
              rw [if_neg (show ¬ k + 1 = 0 by omega), Nat.add_sub_cancel]
              rw [am_s]
              by_cases q : leanN Mc EV p c (k + 1) < leanN Mc EV p c (am (leanN Mc EV p c) k)
              · rw [if_pos q, if_pos (Or.inr q)]
              · rw [if_neg q, if_neg (fun z => z.elim (by omega) q)]
          have hab : iabs (nI (Af (2 ^ tv Mc 3 8)) - nI (Bf (2 ^ tv Mc 3 8))) = nI (leanN Mc EV p c b) := by rw [iabs_sub (by omega) (by omega), hln]
          have take : (b = 0 ∨ leanN Mc EV p c b < leanN Mc EV p c (am (leanN Mc EV p c) (b - 1))) → gW X (gRoom (d + 36) 0 0) (gZ X gN0 0 0 (fun v M2 => v = some (.int (askV Mc EV p c)) ∧ xFr (fun q => q = 1000) M M2 ∧ RQ M2 n E EV)) gN0 yX11_ask cX11_ask 8 (some .int) 121 [(0, .ref 100), (1, .int (nI p)), (4, .int (nI b)), (5, .int (nI (leanN Mc EV p c b)))] [] M2 0 0 := by
            intro hq
            rw [if_pos hq] at nextB
            refine g_iload dX11_ask_121 rfl rfl ?_
            refine g_istore_n dX11_ask_123 rfl (by decide) rfl ?_
            refine g_iload dX11_ask_124 rfl rfl ?_
            refine g_istore_n dX11_ask_126 rfl (by decide) rfl ?_
            refine g_iincV (c := 1) dX11_ask_127 rfl (by decide) (by decide) rfl ?_
            refine g_goto (tgt := 22) dX11_ask_130 (by decide) ?_
            exact g_go (ih M2 ⟨hJ, Or.inr hz⟩) ⟨rfl, rfl, by rw [nextB]; rfl, by rw [nextB]; rfl, by rw [← nI_1 b]; rfl, trivial⟩
          refine g_iload dX11_ask_38 rfl rfl ?_
          refine g_iconst (v := 1) dX11_ask_40 (by decide) rfl ?_
          refine g_aload_n dX11_ask_41 rfl rfl rfl ?_
          refine g_getI dX11_ask_42 ff_X11_288 rfl (k100 hJ.2.1.1.1) rfl ?_
          refine g_ishl dX11_ask_45 rfl ?_
          rw [e27, bt_one _ (by omega)]
          refine g_icmp_ge (tgt := 93) dX11_ask_46 (by decide) rfl (fun _ => ?_) (fun h_ => absurd (nI_le (Nat.le_refl _) (by omega)) h_)
          refine g_iload dX11_ask_93 rfl rfl ?_
          rw [ib_t (by omega)]
          refine g_if_ne (tgt := 100) dX11_ask_95 (by decide) rfl (fun _ => ?_) (fun h_ => absurd h_ (by decide))
          refine g_iload dX11_ask_100 rfl rfl ?_
          refine g_callSdi dX11_ask_102 lm_X11_446 mv_J9_abs_0f7a4 (c_abs (d := d + 35) hx) rfl rfl (Nat.le_of_ble_eq_true rfl) (gFit_room (by omega)) rfl ?_
          rw [hab]
          refine g_istore dX11_ask_105 (by decide) rfl ?_
          by_cases hb0 : b = 0
          · subst hb0
            refine g_iload_n dX11_ask_107 rfl rfl rfl ?_
            refine g_iconst (v := -1) dX11_ask_108 (by decide) rfl ?_
            refine g_icmp_eq (tgt := 121) dX11_ask_109 (by decide) rfl (fun _ => ?_) (fun h_ => absurd (rfl) h_)
            exact g_go (take (Or.inl rfl)) ⟨rfl, rfl, rfl, rfl, trivial⟩
          · have e1 : bst (leanN Mc EV p c) b = (nI (am (leanN Mc EV p c) (b - 1)), nI (leanN Mc EV p c (am (leanN Mc EV p c) (b - 1)))) := if_neg hb0
            have hal := am_lt (leanN Mc EV p c) (b - 1)
            have hfb : leanN Mc EV p c (am (leanN Mc EV p c) (b - 1)) < 2 ^ 30 := by
              unfold leanN gltN
              have := fb_ct_le (fun s => setB Mc EV p c s && rdS Mc EV p (nI (heft Mc s)) (ibc (nI s)) (nI (am (leanN Mc EV p c) (b - 1)))) (2 ^ tv Mc 3 8)
              unfold leanN gltN at this
              omega
            rw [e1]
            by_cases hlt : leanN Mc EV p c b < leanN Mc EV p c (am (leanN Mc EV p c) (b - 1))
            · refine g_iload_n dX11_ask_107 rfl rfl rfl ?_
              refine g_iconst (v := -1) dX11_ask_108 (by decide) rfl ?_
              refine g_icmp_eq (tgt := 121) dX11_ask_109 (by decide) rfl (fun h_ => absurd h_ (neg1 (by omega))) (fun _ => ?_)
              refine g_iload dX11_ask_112 rfl rfl ?_
              refine g_iload_n dX11_ask_114 rfl rfl rfl ?_
              refine g_icmp_lt (tgt := 121) dX11_ask_115 (by decide) rfl (fun _ => ?_) (fun h_ => absurd ((nI_ltI (by omega) (by omega)).mpr hlt) h_)
              exact g_go (take (Or.inr hlt)) ⟨rfl, rfl, rfl, rfl, trivial⟩
            · rw [if_neg (fun z => z.elim hb0 hlt)] at nextB
              refine g_iload_n dX11_ask_107 rfl rfl rfl ?_
              refine g_iconst (v := -1) dX11_ask_108 (by decide) rfl ?_
              refine g_icmp_eq (tgt := 121) dX11_ask_109 (by decide) rfl (fun h_ => absurd h_ (neg1 (by omega))) (fun _ => ?_)
              refine g_iload dX11_ask_112 rfl rfl ?_
              refine g_iload_n dX11_ask_114 rfl rfl rfl ?_
              refine g_icmp_lt (tgt := 121) dX11_ask_115 (by decide) rfl (fun h_ => absurd h_ (fun q => hlt ((nI_ltI (by omega) (by omega)).mp q))) (fun _ => ?_)
              refine g_goto (tgt := 127) dX11_ask_118 (by decide) ?_
              refine g_iincV (c := 1) dX11_ask_127 rfl (by decide) (by decide) rfl ?_
              refine g_goto (tgt := 22) dX11_ask_130 (by decide) ?_
              exact g_go (ih M2 ⟨hJ, Or.inr hz⟩) ⟨rfl, rfl, by rw [nextB, e1]; rfl, by rw [nextB, e1]; rfl, by rw [← nI_1 b]; rfl, trivial⟩
      · have e27 := hJ.2.1.e26.2.1
        have hcs := hC s
        have hcle := hcl s
        have as := hAs s
        have bs := hBs s
        have hw := fun (M3 : gM) (h3 : QV Mc M M3 n E EV c) => r_wouldBe (d := d + 1) hx hZ h3.2.1 lx (show s < 256 by omega) (show b < 100 by omega)
        refine g_iload dX11_ask_38 rfl rfl ?_
        refine g_iconst (v := 1) dX11_ask_40 (by decide) rfl ?_
        refine g_aload_n dX11_ask_41 rfl rfl rfl ?_
        refine g_getI dX11_ask_42 ff_X11_288 rfl (k100 hJ.2.1.1.1) rfl ?_
        refine g_ishl dX11_ask_45 rfl ?_
        rw [e27, bt_one _ (by omega)]
        refine g_icmp_ge (tgt := 93) dX11_ask_46 (by decide) rfl (fun h_ => absurd h_ (nI_ge hs (by omega))) (fun _ => ?_)
        refine g_aload_n dX11_ask_49 rfl rfl rfl ?_
        refine g_iload_n dX11_ask_50 rfl rfl rfl ?_
        refine g_iload dX11_ask_51 rfl rfl ?_
        refine g_callVq (ci := 11) dX11_ask_53 lm_X11_443 mv_X11_isSet (r_isSet (d := d) hx hZ hJ lx (show s < 256 by omega)) rfl rfl (k100 hJ.2.1.1.1) rfl rfl (Nat.le_of_ble_eq_true rfl) (gFit_room (by omega)) rfl (fun v M2 hQ => ?_)
        obtain ⟨rfl, hf⟩ := hQ
        have hJ1 := hf
        by_cases hset : setB Mc EV p c s = true
        · rw [ib_t hset]
          rw [hset, Bool.true_and] at as bs
          refine g_if_ne (tgt := 62) dX11_ask_56 (by decide) rfl (fun _ => ?_) (fun h_ => absurd h_ (by decide))
          refine g_iconst (v := 1) dX11_ask_62 (by decide) rfl ?_
          refine g_istore dX11_ask_63 (by decide) rfl ?_
          refine g_iload dX11_ask_65 rfl rfl ?_
          refine g_aload_n dX11_ask_67 rfl rfl rfl ?_
          refine g_iload_n dX11_ask_68 rfl rfl rfl ?_
          refine g_iload dX11_ask_69 rfl rfl ?_
          refine g_iload dX11_ask_71 rfl rfl ?_
          refine g_callVq (ci := 11) dX11_ask_73 lm_X11_439 mv_X11_wouldBe (hw _ hJ1) rfl rfl (k100 hJ1.2.1.1.1) rfl rfl (Nat.le_of_ble_eq_true rfl) (gFit_room (by omega)) rfl (fun v M2 hQ => ?_)
          obtain ⟨rfl, hf⟩ := hQ
          have hJ2 := hJ1.q hf.1 hf.2
          by_cases hr : rdS Mc EV p (nI (heft Mc s)) (ibc (nI s)) (nI b) = true
          · rw [ib_t hr]
            rw [hr, if_pos rfl] at as
            rw [hr, if_neg (by decide), Nat.add_zero] at bs
            refine g_if_eq (tgt := 83) dX11_ask_76 (by decide) rfl (fun h_ => absurd h_ (by decide)) (fun _ => ?_)
            refine g_iconst (v := 1) dX11_ask_79 (by decide) rfl ?_
            refine g_goto (tgt := 84) dX11_ask_80 (by decide) ?_
            refine g_iadd dX11_ask_84 rfl ?_
            refine g_istore dX11_ask_85 (by decide) rfl ?_
            refine g_iincV (c := 1) dX11_ask_87 rfl (by decide) (by decide) rfl ?_
            refine g_goto (tgt := 38) dX11_ask_90 (by decide) ?_
            exact g_go (ih2 _ hJ2) ⟨rfl, rfl, rfl, rfl, rfl, by rw [as, bs, ← nI_1]; show some (Value.int (nI (Af s) - nI (Bf s) + 1)) = some (Value.int (nI (Af s) + 1 - nI (Bf s))); simp only [Int32.sub_eq_add_neg]; congr 2; ac_rfl, by rw [ib_t (show 0 < Af (s + 1) + Bf (s + 1) by omega)]; rfl, by rw [← nI_1 s]; rfl, trivial⟩
          · rw [ib_f hr]
            rw [Bool.eq_false_iff.mpr hr, if_neg (by decide), Nat.add_zero] at as
            rw [Bool.eq_false_iff.mpr hr, Bool.not_false, if_pos rfl] at bs
            refine g_if_eq (tgt := 83) dX11_ask_76 (by decide) rfl (fun _ => ?_) (fun h_ => absurd (by decide) h_)
            refine g_iconst (v := -1) dX11_ask_83 (by decide) rfl ?_
            refine g_iadd dX11_ask_84 rfl ?_
            refine g_istore dX11_ask_85 (by decide) rfl ?_
            refine g_iincV (c := 1) dX11_ask_87 rfl (by decide) (by decide) rfl ?_
            refine g_goto (tgt := 38) dX11_ask_90 (by decide) ?_
            exact g_go (ih2 _ hJ2) ⟨rfl, rfl, rfl, rfl, rfl, by rw [as, bs, ← nI_1]; show some (Value.int (nI (Af s) - nI (Bf s) + (-1))) = some (Value.int (nI (Af s) - (nI (Bf s) + 1))); rw [sub1], by rw [ib_t (show 0 < Af (s + 1) + Bf (s + 1) by omega)]; rfl, by rw [← nI_1 s]; rfl, trivial⟩
        · rw [ib_f hset]
          rw [Bool.eq_false_iff.mpr hset, Bool.false_and, if_neg (by decide), Nat.add_zero] at as bs
          refine g_if_ne (tgt := 62) dX11_ask_56 (by decide) rfl (fun h_ => absurd (by decide) h_) (fun _ => ?_)
          refine g_goto (tgt := 87) dX11_ask_59 (by decide) ?_
          refine g_iincV (c := 1) dX11_ask_87 rfl (by decide) (by decide) rfl ?_
          refine g_goto (tgt := 38) dX11_ask_90 (by decide) ?_
          exact g_go (ih2 _ hJ1) ⟨rfl, rfl, rfl, rfl, rfl, by rw [as, bs]; rfl, by rw [as, bs]; rfl, by rw [← nI_1 s]; rfl, trivial⟩
  · rw [if_neg hp]
    refine g_aload_n dX11_ask_0 rfl rfl rfl ?_
    refine g_iconst (v := 0) dX11_ask_1 (by decide) rfl ?_
    refine g_putI dX11_ask_2 fp_X11_90 rfl rfl rfl (k100 hL) rfl ?_
    refine g_aload_n dX11_ask_5 rfl rfl rfl ?_
    refine g_iload_n dX11_ask_6 rfl rfl rfl ?_
    refine g_callVdi (ci := 11) dX11_ask_7 lm_X11_342 mv_X11_isPerson (h1.isP (d := d + 35) hx) rfl rfl (k100 (gLay_I hL)) rfl rfl (Nat.le_of_ble_eq_true rfl) (gFit_room (by omega)) rfl ?_
    rw [ib_f hp]
    refine g_if_ne (tgt := 15) dX11_ask_10 (by decide) rfl (fun h_ => absurd (by decide) h_) (fun _ => ?_)
    refine g_iconst (v := -1) dX11_ask_13 (by decide) rfl ?_
    exact g_iret dX11_ask_14 rfl (by first | rfl | exact b01 | exact nb01 hv01) (⟨rfl, hQ0.1, h1.1⟩)
end H10
