section R0
variable {X : gX} {M : gM} {d : Nat} {T : Nat → Nat} {L i : Nat}
theorem lk_off {x : Int32} (h1 : ¬ x = 100) (h2 : ¬ x = 112) (h3 : ¬ x = 115) : Op.lookupswitch.offset [(100, 63), (112, 48), (115, 35)] 78 x.toInt = 78 := by
  have e : ∀ n : Int32, ¬ x = n → ¬ n.toInt = x.toInt := fun n h q => h (Int32.toInt_inj.mp q.symm)
  have e1 := e 100 h1
  have e2 := e 112 h2
  have e3 := e 115 h3
  rw [show (100 : Int32).toInt = 100 from rfl] at e1
  rw [show (112 : Int32).toInt = 112 from rfl] at e2
  rw [show (115 : Int32).toInt = 115 from rfl] at e3
  simp [Op.lookupswitch.offset, e1, e2, e3, Ne.symm e1, Ne.symm e2, Ne.symm e3]
def kdV (M : gM) (x : Int32) : Int32 := if x = 115 then (if gmi M 11 11 = 0 then 0 else -1) else if x = 112 then (if 6 ≤ gmi M 11 7 then -1 else 1) else if x = 100 then (if 8 ≤ gmi M 11 8 then -1 else 2) else -1
set_option maxRecDepth 20000 in
theorem c_kindOf (hx : gXok X) (hL : gLay M) {x : Int32} : gDet X (d + 0) yX8_kindOf cX8_kindOf 2 (some .int) [.ref 11, .int x] M (some (.int (kdV M x))) M := by
  refine gMet.of hx (by decide) (Nat.le_of_ble_eq_true rfl) ?_
  unfold kdV
  by_cases h1 : x = 100
  · subst h1
    refine g_iload_n dX8_kindOf_0 rfl rfl rfl ?_
    refine g_lookup (tgt := 64) dX8_kindOf_1 (by decide) (by decide) (off := 63) (by decide) ?_
    rw [if_neg (by decide), if_neg (by decide), if_pos rfl]
    refine g_aload_n dX8_kindOf_64 rfl rfl rfl ?_
    refine g_getI dX8_kindOf_65 ff_X8_37 rfl (k11 hL) rfl ?_
    refine g_bipush (v := 8) dX8_kindOf_68 (by decide) rfl ?_
    refine g_icmp_ge (tgt := 77) dX8_kindOf_70 (by decide) rfl (fun h70 => ?_) (fun h70 => ?_)
    · refine g_iconst (v := -1) dX8_kindOf_77 (by decide) rfl ?_
      exact g_iret dX8_kindOf_78 rfl (by first | rfl | exact b01) (⟨by first | rfl | assumption | exact gFr.rf | grind [ib], by first | rfl | assumption | exact gFr.rf | grind [ib]⟩)
    · refine g_iconst (v := 2) dX8_kindOf_73 (by decide) rfl ?_
      refine g_goto (tgt := 78) dX8_kindOf_74 (by decide) ?_
      exact g_iret dX8_kindOf_78 rfl (by first | rfl | exact b01) (⟨by first | rfl | assumption | exact gFr.rf | grind [ib], by first | rfl | assumption | exact gFr.rf | grind [ib]⟩)
  · by_cases h2 : x = 112
    · subst h2
      refine g_iload_n dX8_kindOf_0 rfl rfl rfl ?_
      refine g_lookup (tgt := 49) dX8_kindOf_1 (by decide) (by decide) (off := 48) (by decide) ?_
      rw [if_neg (by decide), if_pos rfl]
      refine g_aload_n dX8_kindOf_49 rfl rfl rfl ?_
      refine g_getI dX8_kindOf_50 ff_X8_33 rfl (k11 hL) rfl ?_
      refine g_bipush (v := 6) dX8_kindOf_53 (by decide) rfl ?_
      refine g_icmp_ge (tgt := 62) dX8_kindOf_55 (by decide) rfl (fun h55 => ?_) (fun h55 => ?_)
      · refine g_iconst (v := -1) dX8_kindOf_62 (by decide) rfl ?_
        exact g_iret dX8_kindOf_63 rfl (by first | rfl | exact b01) (⟨by first | rfl | assumption | exact gFr.rf | grind [ib], by first | rfl | assumption | exact gFr.rf | grind [ib]⟩)
      · refine g_iconst (v := 1) dX8_kindOf_58 (by decide) rfl ?_
        refine g_goto (tgt := 63) dX8_kindOf_59 (by decide) ?_
        exact g_iret dX8_kindOf_63 rfl (by first | rfl | exact b01) (⟨by first | rfl | assumption | exact gFr.rf | grind [ib], by first | rfl | assumption | exact gFr.rf | grind [ib]⟩)
    · by_cases h3 : x = 115
      · subst h3
        refine g_iload_n dX8_kindOf_0 rfl rfl rfl ?_
        refine g_lookup (tgt := 36) dX8_kindOf_1 (by decide) (by decide) (off := 35) (by decide) ?_
        rw [if_pos rfl]
        refine g_aload_n dX8_kindOf_36 rfl rfl rfl ?_
        refine g_getI dX8_kindOf_37 ff_X8_64 rfl (k11 hL) rfl ?_
        refine g_if_eq (tgt := 47) dX8_kindOf_40 (by decide) rfl (fun h40 => ?_) (fun h40 => ?_)
        · refine g_iconst (v := 0) dX8_kindOf_47 (by decide) rfl ?_
          exact g_iret dX8_kindOf_48 rfl (by first | rfl | exact b01) (⟨by first | rfl | assumption | exact gFr.rf | grind [ib], by first | rfl | assumption | exact gFr.rf | grind [ib]⟩)
        · refine g_iconst (v := -1) dX8_kindOf_43 (by decide) rfl ?_
          refine g_goto (tgt := 48) dX8_kindOf_44 (by decide) ?_
          exact g_iret dX8_kindOf_48 rfl (by first | rfl | exact b01) (⟨by first | rfl | assumption | exact gFr.rf | grind [ib], by first | rfl | assumption | exact gFr.rf | grind [ib]⟩)
      · refine g_iload_n dX8_kindOf_0 rfl rfl rfl ?_
        refine g_lookup (tgt := 79) dX8_kindOf_1 (by decide) (lk_off h1 h2 h3) (off := 78) (by decide) ?_
        rw [if_neg h3, if_neg h2, if_neg h1]
        refine g_iconst (v := -1) dX8_kindOf_79 (by decide) rfl ?_
        exact g_iret dX8_kindOf_80 rfl (by first | rfl | exact b01) (⟨by first | rfl | assumption | exact gFr.rf | grind [ib], by first | rfl | assumption | exact gFr.rf | grind [ib]⟩)
/-- which item a sign is; 3 for none -/
def itJ (k t : Nat) : Nat := if sC 0 (3 * k + 0) = t then 0 else if sC 0 (3 * k + 1) = t then 1 else if sC 0 (3 * k + 2) = t then 2 else 3
def itV (j : Nat) : Int32 := if j < 3 then nI j else -1
set_option maxRecDepth 20000 in
theorem c_itemOf (hx : gXok X) (hZ : gSt X) {k t : Nat} (hk : k < 3) (ht : t < 256) : gDet X (d + 4) yX8_itemOf cX8_itemOf 3 (some .int) [.int (nI k), .int (nI t)] M (some (.int (itV (itJ k t)))) M := by
  refine gMet.of hx (by decide) (Nat.le_of_ble_eq_true rfl) ?_
  have hcmp : ∀ j, j < 3 → ((sB 0 (k * 3 + j) = nI t) ↔ sC 0 (3 * k + j) = t) := fun j hj => by
    obtain ⟨e, h⟩ := sC_ok 0 (by decide) (k * 3 + j) (by omega)
    rw [e, nI_eq (by omega) (by omega), Nat.mul_comm]
  refine g_iconst (v := 0) dX8_itemOf_0 (by decide) rfl ?_
  refine g_istore_n dX8_itemOf_1 rfl (by decide) rfl ?_
  refine g_loopM (fun j => [(0, .int (nI k)), (1, .int (nI t)), (2, .int (nI j))]) (fun j M1 => M1 = M ∧ ∀ e, e < j → sC 0 (3 * k + e) ≠ t) 3 0 (Nat.zero_le _) ⟨rfl, rfl, rfl, trivial⟩ ⟨rfl, fun e he => absurd he (by omega)⟩ (fun M1 hI => ?_) (fun j M1 _ hj hI ih => ?_)
  · obtain ⟨rfl, hA⟩ := hI
    refine g_iload_n dX8_itemOf_2 rfl rfl rfl ?_
    refine g_iconst (v := 3) dX8_itemOf_3 (by decide) rfl ?_
    refine g_icmp_ge (tgt := 29) dX8_itemOf_4 (by decide) rfl (fun _ => ?_) (fun h_ => absurd (nI_le (Nat.le_refl 3) (by decide)) h_)
    refine g_iconst (v := -1) dX8_itemOf_29 (by decide) rfl ?_
    exact g_iret dX8_itemOf_30 rfl (by first | rfl | exact b01) (⟨by unfold itJ; rw [if_neg (hA 0 (by omega)), if_neg (hA 1 (by omega)), if_neg (hA 2 (by omega))]; rfl, rfl⟩)
  · obtain ⟨rfl, hA⟩ := hI
    refine g_iload_n dX8_itemOf_2 rfl rfl rfl ?_
    refine g_iconst (v := 3) dX8_itemOf_3 (by decide) rfl ?_
    refine g_icmp_ge (tgt := 29) dX8_itemOf_4 (by decide) rfl (fun h_ => absurd h_ (nI_ge (b := 3) hj (by decide))) (fun _ => ?_)
    refine g_ldcS (i := 0) dX8_itemOf_7 hZ (List.mem_of_getElem? (i := 0) rfl) rfl ?_
    refine g_iload_n dX8_itemOf_9 rfl rfl rfl ?_
    refine g_iconst (v := 3) dX8_itemOf_10 (by decide) rfl ?_
    refine g_imul dX8_itemOf_11 rfl ?_
    refine g_iload_n dX8_itemOf_12 rfl rfl rfl ?_
    refine g_iadd dX8_itemOf_13 rfl ?_
    rw [show (3 : Int32) = nI 3 from rfl, pk_mul, nI_add]
    refine g_callU (i := 0) dX8_itemOf_14 lm_X8_117 mv_J0_charAt_5068e (c_charAt (d := d) hx hZ (by decide) (show k * 3 + j < 9 by omega)) hZ (by decide) rfl rfl rfl (Nat.le_of_ble_eq_true rfl) (gFit_room (by omega)) rfl ?_
    refine g_iload_n dX8_itemOf_17 rfl rfl rfl ?_
    refine g_icmp_ne (tgt := 23) dX8_itemOf_18 (by decide) rfl (fun h18 => ?_) (fun h18 => ?_)
    · refine g_iincV (c := 1) dX8_itemOf_23 rfl (by decide) (by decide) rfl ?_
      refine g_goto (tgt := 2) dX8_itemOf_26 (by decide) ?_
      refine g_go (ih M1 ⟨rfl, fun e he => ?_⟩) ⟨rfl, rfl, by rw [← nI_1 j]; rfl, trivial⟩
      by_cases e2 : e = j
      · rw [e2]; exact fun q => h18 ((hcmp j hj).mpr q)
      · exact hA e (by omega)
    · have hres : itV (itJ k t) = nI j := by
        have q := (hcmp j hj).mp h18
        rcases (show j = 0 ∨ j = 1 ∨ j = 2 by omega) with rfl | rfl | rfl
        · unfold itJ; rw [if_pos q]; rfl
        · unfold itJ; rw [if_neg (hA 0 (by omega)), if_pos q]; rfl
        · unfold itJ; rw [if_neg (hA 0 (by omega)), if_neg (hA 1 (by omega)), if_pos q]; rfl
      refine g_iload_n dX8_itemOf_21 rfl rfl rfl ?_
      exact g_iret dX8_itemOf_22 rfl (by first | rfl | exact b01) (⟨by rw [hres], rfl⟩)
def lowN (q : Nat) : Nat := (tLow.getD q 0).toNatClampNeg
def highN (q : Nat) : Nat := (tHigh.getD q 0).toNatClampNeg
def untN (q : Nat) : Nat := (tUnt.getD q 0).toNatClampNeg
theorem tab_ok : ∀ q, q < 9 → tLow.getD q 0 = nI (lowN q) ∧ tHigh.getD q 0 = nI (highN q) ∧ tUnt.getD q 0 = nI (untN q) ∧ lowN q ≤ 1 ∧ highN q ≤ 99 ∧ untN q ≤ 20 := by decide
/-- the items of a clause of the kind k: whether they stand there, the place behind or of the fault, what they are -/
def itemsP (T : Nat → Nat) (L k : Nat) : Nat → Nat → Nat → (Nat → Nat) → Bool × Nat × (Nat → Nat)
  | 0, i, _, vs => (false, i, vs)
  | n + 1, i, told, vs =>
    if L ≤ nxt T L i ∨ T (nxt T L i) = 59 then (true, nxt T L i, vs)
    else if itJ k (T (nxt T L i)) = 3 ∨ told.testBit (itJ k (T (nxt T L i))) = true then (false, nxt T L i, vs)
    else if (numP T L 2 (lowN (3 * k + itJ k (T (nxt T L i)))) (highN (3 * k + itJ k (T (nxt T L i)))) (nxt T L i + 1)).1 = true then
      itemsP T L k n (numP T L 2 (lowN (3 * k + itJ k (T (nxt T L i)))) (highN (3 * k + itJ k (T (nxt T L i)))) (nxt T L i + 1)).2.1 (told + 2 ^ itJ k (T (nxt T L i))) (va_up vs (itJ k (T (nxt T L i))) (numP T L 2 (lowN (3 * k + itJ k (T (nxt T L i)))) (highN (3 * k + itJ k (T (nxt T L i)))) (nxt T L i + 1)).2.2)
    else (false, (numP T L 2 (lowN (3 * k + itJ k (T (nxt T L i)))) (highN (3 * k + itJ k (T (nxt T L i)))) (nxt T L i + 1)).2.1, vs)
theorem itJ_le (k t : Nat) : itJ k t ≤ 3 := by
  unfold itJ
  repeat' split
  all_goals omega
theorem numP_le {mx lo hi : Nat} (h : i ≤ L) : (numP T L mx lo hi i).2.1 ≤ L := by
  have h1 := nxt_le (T := T) h
  have h2 := (dgs_le (T := T) (L := L) (n := mx) (p := nxt T L i) (v := 0)).2 h1
  unfold numP
  repeat' split
  all_goals (dsimp only; omega)
theorem numP_in {mx lo hi : Nat} (h : (numP T L mx lo hi i).1 = true) : lo ≤ (numP T L mx lo hi i).2.2 ∧ (numP T L mx lo hi i).2.2 ≤ hi := by
  unfold numP at h ⊢
  by_cases h1 : dig T L (nxt T L i) = true
  · rw [if_pos h1] at h ⊢
    by_cases h2 : dig T L (dgs T L mx (nxt T L i) 0).1 = true
    · rw [if_pos h2] at h; exact absurd h Bool.false_ne_true
    · rw [if_neg h2] at h ⊢
      by_cases h3 : (dgs T L mx (nxt T L i) 0).2 < lo ∨ hi < (dgs T L mx (nxt T L i) 0).2
      · rw [if_pos h3] at h; exact absurd h Bool.false_ne_true
      · rw [if_neg h3]
        dsimp only
        omega
  · rw [if_neg h1] at h; exact absurd h Bool.false_ne_true
def scrI : Nat → Prop := fun c => c = 1 ∨ c = 18
theorem Tp.fr {M2 : gM} {j : Nat} {S : Nat → Prop} (h : Tp M M2 T L j) (hs : S 1) : gFr S M M2 := h.1.mono (fun c q => by rw [q]; exact hs)
theorem TC.w {j : Nat} {c k : Nat} {v : Int32} (h : TC M T L j) (hc : c ≠ 1 ∧ c ≠ 2) : TC (gwI M c k v) T L j :=
  ⟨gLay_I h.1, ⟨by rw [gmi_In _ _ _ (Ne.symm hc.1)]; exact h.2.1.1, h.2.1.2.1, fun q hq => by rw [gmi_In _ _ _ (Ne.symm hc.2)]; exact h.2.1.2.2 q hq⟩, by rw [gmi_In _ _ _ (Ne.symm hc.1)]; exact h.2.2.1, h.2.2.2⟩
set_option maxRecDepth 20000 in
set_option maxHeartbeats 2000000 in
theorem c_readsItems (hx : gXok X) (hZ : gSt X) (h : TC M T L i) {k : Nat} (hk : k < 3) : gPos X (d + 5) yX8_readsItems cX8_readsItems 8 (some .boolean) [.ref 11, .ref 1, .int (nI k)] M (fun v M2 => v = some (.int (ib ((itemsP T L k 4 i 0 (fun j => untN (3 * k + j))).1 = true))) ∧ gFr scrI M M2 ∧ TC M2 T L (itemsP T L k 4 i 0 (fun j => untN (3 * k + j))).2.1 ∧ ((itemsP T L k 4 i 0 (fun j => untN (3 * k + j))).1 = true → ∀ j, j < 3 → gmi M2 18 j = nI ((itemsP T L k 4 i 0 (fun j => untN (3 * k + j))).2.2 j))) := by
  have h240 := h.2.1.2.1
  generalize hRes : itemsP T L k 4 i 0 (fun j => untN (3 * k + j)) = Res
  have main : ∀ (n i told : Nat) (vs : Nat → Nat) (M1 : gM), n ≤ 4 → gFr scrI M M1 → TC M1 T L i → told < 8 → (∀ j, j < 3 → gmi M1 18 j = nI (vs j)) → itemsP T L k n i told vs = Res → gW X (gRoom (d + 5) 0 0) (gZ X gN0 0 0 (fun v M2 => v = some (.int (ib (Res.1 = true))) ∧ gFr scrI M M2 ∧ TC M2 T L Res.2.1 ∧ (Res.1 = true → ∀ j, j < 3 → gmi M2 18 j = nI (Res.2.2 j)))) gN0 yX8_readsItems cX8_readsItems 8 (some .boolean) 33 [(0, .ref 11), (1, .ref 1), (2, .int (nI k)), (3, .int (nI told)), (4, .int (nI (4 - n)))] [] M1 0 0 := by
    intro n
    induction n with
    | zero =>
      intro i told vs M1 hn hf hC ht hv hr
      have hr2 : (false, i, vs) = Res := hr
      subst hr2
      refine g_iload dX8_readsItems_33 rfl rfl ?_
      refine g_iconst (v := 3) dX8_readsItems_35 (by decide) rfl ?_
      refine g_icmp_gt (tgt := 144) dX8_readsItems_36 (by decide) rfl (fun _ => ?_) (fun h_ => absurd (by decide) h_)
      refine g_iconst (v := 0) dX8_readsItems_144 (by decide) rfl ?_
      exact g_iret dX8_readsItems_145 rfl (by first | rfl | exact b01) (⟨rfl, hf, hC, fun q => absurd q Bool.false_ne_true⟩)
    | succ n ih =>
      intro i told vs M1 hn hf hC ht hv hr
      have hnl := nxt_le (T := T) hC.2.2.2
      unfold itemsP at hr
      refine g_iload dX8_readsItems_33 rfl rfl ?_
      refine g_iconst (v := 3) dX8_readsItems_35 (by decide) rfl ?_
      refine g_icmp_gt (tgt := 144) dX8_readsItems_36 (by decide) rfl (fun h_ => absurd h_ (fun q => absurd ((qlt 3 (4 - (n + 1)) rfl rfl (by decide) (by omega)).mp q) (by omega))) (fun _ => ?_)
      refine g_aload_n dX8_readsItems_39 rfl rfl rfl ?_
      refine g_callVq (ci := 7) dX8_readsItems_40 lm_X8_75 mv_X7_next (c_next (d := d) hx hC) rfl rfl (k1 hC.1) rfl rfl (Nat.le_of_ble_eq_true rfl) (gFit_room (by omega)) rfl (fun v M2 hQ => ?_)
      obtain ⟨rfl, hf⟩ := hQ
      have hn1 := hf
      have hf := ‹gFr scrI M M1›
      have hff : gFr scrI M M2 := hf.tr (hn1.fr (Or.inl rfl))
      have hv2 : ∀ j, j < 3 → gmi M2 18 j = nI (vs j) := fun j hj => by rw [hn1.1.2.2.2 18 (by decide)]; exact hv j hj
      generalize hp : nxt T L i = p at *
      by_cases hend : L ≤ p ∨ T p = 59
      · rw [if_pos hend] at hr
        subst hr
        refine g_istore dX8_readsItems_43 (by decide) rfl ?_
        refine g_iload dX8_readsItems_45 rfl rfl ?_
        refine g_bipush (v := 59) dX8_readsItems_47 (by decide) rfl ?_
        refine g_icmp_eq (tgt := 58) dX8_readsItems_49 (by decide) rfl (fun h49 => ?_) (fun h49 => ?_)
        · refine g_iconst (v := 1) dX8_readsItems_58 (by decide) rfl ?_
          exact g_iret dX8_readsItems_59 rfl (by first | rfl | exact b01) (⟨rfl, hff, hn1.2, fun _ => hv2⟩)
        · refine g_iload dX8_readsItems_52 rfl rfl ?_
          refine g_iconst (v := -1) dX8_readsItems_54 (by decide) rfl ?_
          refine g_icmp_ne (tgt := 60) dX8_readsItems_55 (by decide) rfl (fun h55 => ?_) (fun h55 => ?_)
          · exfalso
            rcases hend with q | q
            · exact h55 (if_neg (by omega))
            · by_cases q2 : p < L
              · exact h49 ((sgn_eq hC (c := 59) (by decide)).mpr ⟨q2, q⟩)
              · exact h55 (if_neg q2)
          · refine g_iconst (v := 1) dX8_readsItems_58 (by decide) rfl ?_
            exact g_iret dX8_readsItems_59 rfl (by first | rfl | exact b01) (⟨rfl, hff, hn1.2, fun _ => hv2⟩)
      · rw [if_neg hend] at hr
        have hpL : p < L := by omega
        have hT59 : T p ≠ 59 := fun q => hend (Or.inr q)
        have htp := hC.2.1.2.2 p hpL
        have hsg : sgn T L p = nI (T p) := if_pos hpL
        rw [hsg]
        have hJ := itJ_le k (T p)
        generalize hj : itJ k (T p) = j at *
        refine g_istore dX8_readsItems_43 (by decide) rfl ?_
        refine g_iload dX8_readsItems_45 rfl rfl ?_
        refine g_bipush (v := 59) dX8_readsItems_47 (by decide) rfl ?_
        refine g_icmp_eq (tgt := 58) dX8_readsItems_49 (by decide) rfl (fun h_ => absurd h_ (fun q => hT59 ((qeq (T p) 59 rfl rfl (by omega) (by decide)).mp q))) (fun _ => ?_)
        refine g_iload dX8_readsItems_52 rfl rfl ?_
        refine g_iconst (v := -1) dX8_readsItems_54 (by decide) rfl ?_
        refine g_icmp_ne (tgt := 60) dX8_readsItems_55 (by decide) rfl (fun _ => ?_) (fun h_ => absurd h_ (fun q => absurd (show nI (T p) < 0 by rw [q]; decide) (nI_pos (by omega))))
        refine g_iload_n dX8_readsItems_60 rfl rfl rfl ?_
        refine g_iload dX8_readsItems_61 rfl rfl ?_
        refine g_callSdi dX8_readsItems_63 lm_X8_98 mv_X8_itemOf (c_itemOf (d := d) hx hZ hk htp.2.2) rfl rfl (Nat.le_of_ble_eq_true rfl) (gFit_room (by omega)) rfl ?_
        rw [hj]
        refine g_istore dX8_readsItems_66 (by decide) rfl ?_
        refine g_iload dX8_readsItems_68 rfl rfl ?_
        refine g_iconst (v := -1) dX8_readsItems_70 (by decide) rfl ?_
        refine g_icmp_eq (tgt := 84) dX8_readsItems_71 (by decide) rfl (fun h71 => ?_) (fun h71 => ?_)
        · have hbad : j = 3 ∨ told.testBit j = true := by
            by_cases q : j < 3
            · right
              rw [show itV j = nI j from if_pos q] at h71
              first
              | exact absurd (show nI j < 0 by rw [h71]; decide) (nI_pos (by omega))
              | (rw [show itV j = nI j from if_pos q] at h81; exact (bt_is1 (by omega) (by omega)).mp h81)
            · left; omega
          rw [if_pos hbad] at hr
          subst hr
          refine g_iconst (v := 0) dX8_readsItems_84 (by decide) rfl ?_
          exact g_iret dX8_readsItems_85 rfl (by first | rfl | exact b01) (⟨rfl, hff, hn1.2, fun q => absurd q Bool.false_ne_true⟩)
        · refine g_iload_n dX8_readsItems_74 rfl rfl rfl ?_
          refine g_iload dX8_readsItems_75 rfl rfl ?_
          refine g_ishr dX8_readsItems_77 rfl ?_
          refine g_iconst (v := 1) dX8_readsItems_78 (by decide) rfl ?_
          refine g_iand dX8_readsItems_79 rfl ?_
          refine g_iconst (v := 1) dX8_readsItems_80 (by decide) rfl ?_
          refine g_icmp_ne (tgt := 86) dX8_readsItems_81 (by decide) rfl (fun h81 => ?_) (fun h81 => ?_)
          · have hj3 : j < 3 := Classical.byContradiction (fun q => h71 (if_neg q))
            rw [show itV j = nI j from if_pos hj3] at h81 ⊢
            have hgood : ¬ (j = 3 ∨ told.testBit j = true) := fun q => q.elim (fun q => by omega) (fun q => h81 ((bt_is1 (by omega) (by omega)).mpr q))
            rw [if_neg hgood] at hr
            have htab := tab_ok (3 * k + j) (by omega)
            refine g_aload_n dX8_readsItems_86 rfl rfl rfl ?_
            refine g_callVq (ci := 7) dX8_readsItems_87 lm_X8_87 mv_X7_pass (c_pass (d := d) hx hn1.2 hpL) rfl rfl (k1 hn1.2.1) rfl rfl (Nat.le_of_ble_eq_true rfl) (gFit_room (by omega)) rfl (fun v M2 hQ => ?_)
            obtain ⟨rfl, hf⟩ := hQ
            have hp1 := hf
            have hf := ‹gFr scrI M M1›
            refine g_iload_n dX8_readsItems_90 rfl rfl rfl ?_
            refine g_iconst (v := 3) dX8_readsItems_91 (by decide) rfl ?_
            refine g_imul dX8_readsItems_92 rfl ?_
            refine g_iload dX8_readsItems_93 rfl rfl ?_
            refine g_iadd dX8_readsItems_95 rfl ?_
            rw [show (3 : Int32) = nI 3 from rfl, pk_mul, nI_add, Nat.mul_comm k 3]
            generalize hq9 : 3 * k + j = q9 at *
            refine g_istore dX8_readsItems_96 (by decide) rfl ?_
            refine g_aload_n dX8_readsItems_98 rfl rfl rfl ?_
            refine g_iconst (v := 2) dX8_readsItems_99 (by decide) rfl ?_
            refine g_gets (b := 5001) dX8_readsItems_100 lo_X8_102 (fun U hU => (hZ U hU).2.1.1) (by decide) rfl ?_
            refine g_iload dX8_readsItems_103 rfl rfl ?_
            refine g_tald (i := q9) (v := nI (lowN q9)) dX8_readsItems_105 (fun U hU => (hZ U hU).2.1.2) (by decide) (nI_toInt (by omega)) (by omega) (by rw [htab.1]) rfl ?_
            refine g_gets (b := 5002) dX8_readsItems_106 lo_X8_105 (fun U hU => (hZ U hU).2.2.1.1) (by decide) rfl ?_
            refine g_iload dX8_readsItems_109 rfl rfl ?_
            refine g_tald (i := q9) (v := nI (highN q9)) dX8_readsItems_111 (fun U hU => (hZ U hU).2.2.1.2) (by decide) (nI_toInt (by omega)) (by omega) (by rw [htab.2.1]) rfl ?_
            refine g_callVq (ci := 7) dX8_readsItems_112 lm_X8_108 mv_X7_readsNumber (c_readsNumber (d := d) (mx := 2) hx hp1.2 (by decide) (by decide) (show lowN q9 < 2 ^ 30 by omega) (show highN q9 < 2 ^ 30 by omega)) rfl rfl (k1 hp1.2.1) rfl rfl (Nat.le_of_ble_eq_true rfl) (gFit_room (by omega)) rfl (fun v M2 hQ => ?_)
            obtain ⟨rfl, hf⟩ := hQ
            generalize hN : numP T L 2 (lowN q9) (highN q9) (p + 1) = Np at *
            have hpn := hf.1
            have hnv := hf.2
            have hf := ‹gFr scrI M M1›
            have hff3 := hff.tr ((hp1.fr (Or.inl rfl)).tr (hpn.fr (Or.inl rfl)))
            refine g_ine (tgt := 120) dX8_readsItems_115 (by decide) rfl (fun h115 => ?_) (fun h115 => ?_)
            · rw [if_pos h115] at hr
              refine g_aload_n dX8_readsItems_120 rfl rfl rfl ?_
              refine g_getR dX8_readsItems_121 ff_X8_30 rfl (k11 hpn.2.1) (r11_6 hpn.2.1) rfl ?_
              refine g_iload dX8_readsItems_124 rfl rfl ?_
              refine g_aload_n dX8_readsItems_126 rfl rfl rfl ?_
              refine g_getI dX8_readsItems_127 ff_X8_112 rfl (k1 hpn.2.1) rfl ?_
              rw [hnv h115]
              refine g_iast (i := j) dX8_readsItems_130 (k18 hpn.2.1) (l18 hpn.2.1) (by (try simp only [nI_lit, pk_mul, nI_add, Nat.zero_add]); exact nI_toInt (by omega)) (by omega) rfl ?_
              refine g_iload_n dX8_readsItems_131 rfl rfl rfl ?_
              refine g_iconst (v := 1) dX8_readsItems_132 (by decide) rfl ?_
              refine g_iload dX8_readsItems_133 rfl rfl ?_
              refine g_ishl dX8_readsItems_135 rfl ?_
              refine g_ior dX8_readsItems_136 rfl ?_
              refine g_istore_n dX8_readsItems_137 rfl (by decide) rfl ?_
              have hor : nI told ||| ((1 : Int32) <<< (nI j &&& 31)) = nI (told + 2 ^ j) := by
                have ht3 : ∀ t, t < 8 → ∀ e, e < 3 → t.testBit e = false → nI t ||| ((1 : Int32) <<< (nI e &&& 31)) = nI (t + 2 ^ e) ∧ t + 2 ^ e < 8 := by decide +kernel
                exact (ht3 told ht j hj3 (Bool.eq_false_iff.mpr (fun q => hgood (Or.inr q)))).1
              have hlt8 : told + 2 ^ j < 8 := by
                have ht3 : ∀ t, t < 8 → ∀ e, e < 3 → t.testBit e = false → t + 2 ^ e < 8 := by decide +kernel
                exact ht3 told ht j hj3 (Bool.eq_false_iff.mpr (fun q => hgood (Or.inr q)))
              rw [hor]
              refine g_iincV (c := 1) dX8_readsItems_138 rfl (by decide) (by decide) rfl ?_
              refine g_goto (tgt := 33) dX8_readsItems_141 (by decide) ?_
              refine g_go (ih Np.2.1 (told + 2 ^ j) (va_up vs j Np.2.2) _ (by omega) (hff3.tr (gFr.wI (Or.inr rfl))) (hpn.2.w ⟨by decide, by decide⟩) hlt8 (fun e he => ?_) hr) ⟨rfl, rfl, rfl, rfl, by rw [show 4 - n = (4 - (n + 1)) + 1 by omega, ← nI_1]; rfl, trivial⟩
              rw [gmi_I]
              by_cases e2 : e = j
              · rw [e2, va_up_self, va_up_self]
              · rw [va_up_ne _ _ e2, va_up_ne _ _ e2, hpn.1.2.2.2 18 (by decide), hp1.1.2.2.2 18 (by decide)]
                exact hv2 e he
            · refine g_iconst (v := 0) dX8_readsItems_118 (by decide) rfl ?_
              rw [if_neg h115] at hr
              subst hr
              exact g_iret dX8_readsItems_119 rfl (by first | rfl | exact b01) ⟨rfl, hff3, hpn.2, fun q => absurd q Bool.false_ne_true⟩
          · have hbad : j = 3 ∨ told.testBit j = true := by
              by_cases q : j < 3
              · right
                rw [show itV j = nI j from if_pos q] at h71
                first
                | exact absurd (show nI j < 0 by rw [h71]; decide) (nI_pos (by omega))
                | (rw [show itV j = nI j from if_pos q] at h81; exact (bt_is1 (by omega) (by omega)).mp h81)
              · left; omega
            rw [if_pos hbad] at hr
            subst hr
            refine g_iconst (v := 0) dX8_readsItems_84 (by decide) rfl ?_
            exact g_iret dX8_readsItems_85 rfl (by first | rfl | exact b01) (⟨rfl, hff, hn1.2, fun q => absurd q Bool.false_ne_true⟩)
  have hL := h.1
  refine gMet.of hx (by decide) (Nat.le_of_ble_eq_true rfl) ?_
  refine g_iconst (v := 0) dX8_readsItems_0 (by decide) rfl ?_
  refine g_istore_n dX8_readsItems_1 rfl (by decide) rfl ?_
  refine g_loopM (fun j => [(0, .ref 11), (1, .ref 1), (2, .int (nI k)), (3, .int (nI j))]) (fun j M1 => gFr scrI M M1 ∧ TC M1 T L i ∧ ∀ e, e < j → gmi M1 18 e = nI (untN (3 * k + e))) 3 0 (Nat.zero_le _) ⟨rfl, rfl, rfl, rfl, trivial⟩ ⟨gFr.rf, h, fun e he => absurd he (by omega)⟩ (fun M1 hI => ?_) (fun j M1 _ hj hI ih => ?_)
  · refine g_iload_n dX8_readsItems_2 rfl rfl rfl ?_
    refine g_iconst (v := 3) dX8_readsItems_3 (by decide) rfl ?_
    refine g_icmp_ge (tgt := 28) dX8_readsItems_4 (by decide) rfl (fun _ => ?_) (fun h_ => absurd (nI_le (Nat.le_refl 3) (by decide)) h_)
    refine g_iconst (v := 0) dX8_readsItems_28 (by decide) rfl ?_
    refine g_istore_n dX8_readsItems_29 rfl (by decide) rfl ?_
    refine g_iconst (v := 0) dX8_readsItems_30 (by decide) rfl ?_
    refine g_istore dX8_readsItems_31 (by decide) rfl ?_
    exact g_go (main 4 i 0 (fun j => untN (3 * k + j)) M1 (by decide) hI.1 hI.2.1 (by decide) hI.2.2 hRes) ⟨rfl, rfl, rfl, rfl, rfl, trivial⟩
  · have htab := tab_ok (k * 3 + j) (by omega)
    refine g_iload_n dX8_readsItems_2 rfl rfl rfl ?_
    refine g_iconst (v := 3) dX8_readsItems_3 (by decide) rfl ?_
    refine g_icmp_ge (tgt := 28) dX8_readsItems_4 (by decide) rfl (fun h_ => absurd h_ (nI_ge (b := 3) hj (by decide))) (fun _ => ?_)
    refine g_aload_n dX8_readsItems_7 rfl rfl rfl ?_
    refine g_getR dX8_readsItems_8 ff_X8_30 rfl (k11 hI.2.1.1) (r11_6 hI.2.1.1) rfl ?_
    refine g_iload_n dX8_readsItems_11 rfl rfl rfl ?_
    refine g_gets (b := 5000) dX8_readsItems_12 lo_X8_68 (fun U hU => (hZ U hU).1.1) (by decide) rfl ?_
    refine g_iload_n dX8_readsItems_15 rfl rfl rfl ?_
    refine g_iconst (v := 3) dX8_readsItems_16 (by decide) rfl ?_
    refine g_imul dX8_readsItems_17 rfl ?_
    refine g_iload_n dX8_readsItems_18 rfl rfl rfl ?_
    refine g_iadd dX8_readsItems_19 rfl ?_
    rw [show (3 : Int32) = nI 3 from rfl, pk_mul, nI_add]
    refine g_tald (i := k * 3 + j) (v := nI (untN (k * 3 + j))) dX8_readsItems_20 (fun U hU => (hZ U hU).1.2) (by decide) (nI_toInt (by omega)) (by omega) (by rw [htab.2.2.1]) rfl ?_
    refine g_iast (i := j) dX8_readsItems_21 (k18 hI.2.1.1) (l18 hI.2.1.1) (by (try simp only [nI_lit, pk_mul, nI_add, Nat.zero_add]); exact nI_toInt (by omega)) (by omega) rfl ?_
    refine g_iincV (c := 1) dX8_readsItems_22 rfl (by decide) (by decide) rfl ?_
    refine g_goto (tgt := 2) dX8_readsItems_25 (by decide) ?_
    refine g_go (ih _ ⟨hI.1.tr (gFr.wI (Or.inr rfl)), hI.2.1.w ⟨by decide, by decide⟩, fun e he => ?_⟩) ⟨rfl, rfl, rfl, by rw [← nI_1 j]; rfl, trivial⟩
    rw [gmi_I]
    by_cases e2 : e = j
    · rw [e2, va_up_self, Nat.mul_comm 3]
    · rw [va_up_ne _ _ e2]
      exact hI.2.2 e (by omega)
end R0
