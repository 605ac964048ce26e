/-! the law's reader in the class: what one part does -/
def PoL (M : gM) (a : Nat) (T : Nat → Nat) (L : Nat) (G : List Nat) (cl : Nat) (r : PR) : Option Value → gM → Prop := fun v M2 => v = some (.int (ib (r.1 = true))) ∧ gFr (scrL a) M M2 ∧ TC M2 T L r.2.1 ∧ (r.1 = true → DrL M2 a (G ++ r.2.2.1) cl)
def JOK (X : gX) (e a lv w : Nat) (b : Int32) (T : Nat → Nat) (L : Nat) (f : Nat → PR) : Prop := ∀ {M : gM} {G : List Nat} {cl i : Nat}, TC M T L i → DrL M a G cl → G.length ≤ i → gPos X e yX3_readsJoined cX3_readsJoined 6 (some .boolean) [.ref 19, .int (nI lv), .int (nI w), .int b] M (PoL M a T L G cl (f i))
def UOK (X : gX) (e a w : Nat) (b : Int32) (T : Nat → Nat) (L : Nat) (f : Nat → PR) : Prop := ∀ {M : gM} {G : List Nat} {cl i : Nat}, TC M T L i → DrL M a G cl → G.length ≤ i → gPos X e yX3_readsUnit cX3_readsUnit 4 (some .boolean) [.ref 19, .int (nI w), .int b] M (PoL M a T L G cl (f i))
def AOK (X : gX) (e a w : Nat) (T : Nat → Nat) (L : Nat) (f : Nat → PR) : Prop := ∀ {M : gM} {G : List Nat} {cl i : Nat}, TC M T L i → DrL M a G cl → G.length ≤ i → gPos X e yX3_readsAtom cX3_readsAtom 3 (some .boolean) [.ref 19, .int (nI w)] M (PoL M a T L G cl (f i))
def IOK (X : gX) (e a w : Nat) (T : Nat → Nat) (L : Nat) (f : Nat → Nat → PR) : Prop := ∀ {M : gM} {G : List Nat} {cl c p : Nat}, TC M T L p → p < L → (c = 33 ∨ c = 40 ∨ c = 91) → DrL M a G cl → G.length ≤ p → gPos X e yX3_readsInner cX3_readsInner 3 (some .boolean) [.ref 19, .int (nI c), .int (nI w)] M (PoL M a T L G cl (f c p))
section R2
variable {X : gX} {M : gM} {d : Nat} {T : Nat → Nat} {L i : Nat}
theorem ib_ff : ib (false = true) = 0 := by decide
theorem ib_tt : ib (true = true) = 1 := by decide
theorem PoL_fl {a cl p : Nat} {G : List Nat} {M2 : gM} (h : gFr (scrL a) M M2) (hT : TC M2 T L p) : PoL M a T L G cl (flP p) (some (.int 0)) M2 := ⟨rfl, h, hT, fun q => absurd q Bool.false_ne_true⟩
set_option maxRecDepth 20000 in
set_option maxHeartbeats 1000000 in
theorem c_inner0 (hx : gXok X) {a : Nat} : IOK X (d + 0) a 6 T L (iqP T L none) := by
  intro M G cl c p h hp hc hd hG
  have hL := h.1
  refine gMet.of hx (by decide) (Nat.le_of_ble_eq_true rfl) ?_
  refine g_iload_n dX3_readsInner_0 rfl rfl rfl ?_
  refine g_bipush (v := 6) dX3_readsInner_1 (by decide) rfl ?_
  refine g_icmp_lt (tgt := 8) dX3_readsInner_3 (by decide) rfl (fun h_ => absurd h_ (by decide)) (fun _ => ?_)
  refine g_iconst (v := 0) dX3_readsInner_6 (by decide) rfl ?_
  exact g_iret dX3_readsInner_7 rfl (by first | rfl | exact b01) (PoL_fl gFr.rf h)
set_option maxRecDepth 20000 in
set_option maxHeartbeats 2000000 in
theorem c_inner (hx : gXok X) {a w : Nat} (ha : 200 ≤ a) (hw : w < 6) {q : (Nat → PR) × (Nat → PR) × (Nat → PR)} (hsq : SanF L q.2.2) (h1 : JOK X (d + 1) a 3 (w + 1) 0 T L q.1) (h2 : JOK X (d + 1) a 0 (w + 1) 0 T L q.2.1) (h3 : UOK X (d + 1) a (w + 1) 0 T L q.2.2) : IOK X (d + 2) a w T L (iqP T L (some q)) := by
  intro M G cl c p h hp hc hd hG
  have hL := h.1
  have h240 := h.2.1.2.1
  refine gMet.of hx (by decide) (Nat.le_of_ble_eq_true rfl) ?_
  show gW _ _ (gZ X gN0 0 0 (PoL M a T L G cl (if c = 40 then clP T L 41 (q.2.1 (p + 1)) else if c = 91 then clP T L 93 (q.1 (p + 1)) else ntP (q.2.2 (p + 1))))) _ _ _ _ _ _ _ _ _ _ _
  refine g_iload_n dX3_readsInner_0 rfl rfl rfl ?_
  refine g_bipush (v := 6) dX3_readsInner_1 (by decide) rfl ?_
  refine g_icmp_lt (tgt := 8) dX3_readsInner_3 (by decide) rfl (fun _ => ?_) (fun h_ => absurd ((qlt w 6 rfl rfl (by omega) (by decide)).mpr hw) h_)
  refine g_aload_n dX3_readsInner_8 rfl rfl rfl ?_
  refine g_getR dX3_readsInner_9 ff_X3_18 rfl (k19 hL) (r19_0 hL) rfl ?_
  refine g_callVq (ci := 7) dX3_readsInner_12 lm_X3_66 mv_X7_pass (c_pass (d := d + 1) hx h hp) rfl rfl (k1 hL) rfl rfl (Nat.le_of_ble_eq_true rfl) (gFit_room (by omega)) rfl (fun v M2 hQ => ?_)
  obtain ⟨rfl, hf⟩ := hQ
  have hp1 := hf
  have hd1 := hd.t hp1.1 ha
  rcases hc with rfl | rfl | rfl
  · rw [if_neg (by decide), if_neg (by decide)]
    refine g_iload_n dX3_readsInner_15 rfl rfl rfl ?_
    refine g_bipush (v := 40) dX3_readsInner_16 (by decide) rfl ?_
    refine g_icmp_ne (tgt := 51) dX3_readsInner_18 (by decide) rfl (fun _ => ?_) (fun h_ => absurd h_ (by decide))
    refine g_iload_n dX3_readsInner_51 rfl rfl rfl ?_
    refine g_bipush (v := 91) dX3_readsInner_52 (by decide) rfl ?_
    refine g_icmp_ne (tgt := 87) dX3_readsInner_54 (by decide) rfl (fun _ => ?_) (fun h_ => absurd h_ (by decide))
    refine g_aload_n dX3_readsInner_87 rfl rfl rfl ?_
    refine g_iload_n dX3_readsInner_88 rfl rfl rfl ?_
    refine g_iconst (v := 1) dX3_readsInner_89 (by decide) rfl ?_
    refine g_iadd dX3_readsInner_90 rfl ?_
    refine g_iconst (v := 0) dX3_readsInner_91 (by decide) rfl ?_
    rw [nI_1]
    refine g_callVq (ci := 3) dX3_readsInner_92 lm_X3_58 mv_X3_readsUnit (h3 hp1.2 hd1 (by omega)) rfl rfl (k19 hp1.2.1) rfl rfl (Nat.le_of_ble_eq_true rfl) (gFit_room (by omega)) rfl (fun v M2 hQ => ?_)
    obtain ⟨rfl, hf⟩ := hQ
    obtain ⟨hf1, hC1, hD1⟩ := hf
    have hs := hsq (p + 1) (by omega)
    by_cases hr : (q.2.2 (p + 1)).1 = true
    · rw [ib_t hr]
      have hs2 := hs.2 hr
      have hD := hD1 hr
      have r_19_1 := hD.2.1
      unfold ntP
      rw [if_pos hr]
      have hlen : (G ++ (q.2.2 (p + 1)).2.2.1).length < 240 := by rw [List.length_append]; have := hs.1; omega
      refine g_if_ne (tgt := 100) dX3_readsInner_95 (by decide) rfl (fun _ => ?_) (fun h_ => absurd h_ (by decide))
      refine g_aload_n dX3_readsInner_100 rfl rfl rfl ?_
      refine g_getR dX3_readsInner_101 ff_X3_12 rfl (k19 hC1.1) (r_19_1) rfl ?_
      refine g_bipush (v := 8) dX3_readsInner_104 (by decide) rfl ?_
      refine g_callVq (ci := 2) dX3_readsInner_106 lm_X3_69 mv_X2_add (c_lawAdd (d := d + 1) hx hD hlen (s := 8) (by decide)) rfl rfl hD.1.1 rfl rfl (Nat.le_of_ble_eq_true rfl) (gFit_room (by omega)) rfl (fun v M2 hQ => ?_)
      obtain ⟨rfl, hA, hB⟩ := hQ
      refine g_iconst (v := 1) dX3_readsInner_109 (by decide) rfl ?_
      exact g_iret dX3_readsInner_110 rfl (by first | rfl | exact b01) (⟨rfl, ((scrL1 hp1.1).tr hf1).tr (scrLA hA), hC1.fra hA ha, fun _ => by rw [← List.append_assoc]; exact hB⟩)
    · rw [ib_f hr]
      unfold ntP
      rw [if_neg hr]
      refine g_if_ne (tgt := 100) dX3_readsInner_95 (by decide) rfl (fun h_ => absurd (by decide) h_) (fun _ => ?_)
      refine g_iconst (v := 0) dX3_readsInner_98 (by decide) rfl ?_
      exact g_iret dX3_readsInner_99 rfl (by first | rfl | exact b01) (PoL_fl ((scrL1 hp1.1).tr hf1) hC1)
  · rw [if_pos rfl]
    refine g_iload_n dX3_readsInner_15 rfl rfl rfl ?_
    refine g_bipush (v := 40) dX3_readsInner_16 (by decide) rfl ?_
    refine g_icmp_ne (tgt := 51) dX3_readsInner_18 (by decide) rfl (fun h_ => absurd (by decide) h_) (fun _ => ?_)
    refine g_aload_n dX3_readsInner_21 rfl rfl rfl ?_
    refine g_iconst (v := 0) dX3_readsInner_22 (by decide) rfl ?_
    refine g_iload_n dX3_readsInner_23 rfl rfl rfl ?_
    refine g_iconst (v := 1) dX3_readsInner_24 (by decide) rfl ?_
    refine g_iadd dX3_readsInner_25 rfl ?_
    refine g_iconst (v := 0) dX3_readsInner_26 (by decide) rfl ?_
    rw [nI_1]
    refine g_callVq (ci := 3) dX3_readsInner_27 lm_X3_46 mv_X3_readsJoined (h2 hp1.2 hd1 (by omega)) rfl rfl (k19 hp1.2.1) rfl rfl (Nat.le_of_ble_eq_true rfl) (gFit_room (by omega)) rfl (fun v M2 hQ => ?_)
    obtain ⟨rfl, hf⟩ := hQ
    obtain ⟨hf1, hC1, hD1⟩ := hf
    by_cases hr : (q.2.1 (p + 1)).1 = true
    · rw [ib_t hr]
      have hD := hD1 hr
      unfold clP
      rw [if_pos hr]
      refine g_if_eq (tgt := 49) dX3_readsInner_30 (by decide) rfl (fun h_ => absurd h_ (by decide)) (fun _ => ?_)
      refine g_aload_n dX3_readsInner_33 rfl rfl rfl ?_
      refine g_getR dX3_readsInner_34 ff_X3_18 rfl (k19 hC1.1) (r19_0 hC1.1) rfl ?_
      refine g_bipush (v := 41) dX3_readsInner_37 (by decide) rfl ?_
      refine g_callVq (ci := 7) dX3_readsInner_39 lm_X3_31 mv_X7_passed (c_passed (d := d) hx hC1 (c := 41) (by decide)) rfl rfl (k1 hC1.1) rfl rfl (Nat.le_of_ble_eq_true rfl) (gFit_room (by omega)) rfl (fun v M2 hQ => ?_)
      obtain ⟨rfl, hf⟩ := hQ
      obtain ⟨hf2, hC2⟩ := hf
      by_cases hz : isS T L (q.2.1 (p + 1)).2.1 41 = true
      · rw [ib_t hz, if_pos hz]
        rw [if_pos hz] at hC2
        refine g_if_eq (tgt := 49) dX3_readsInner_42 (by decide) rfl (fun h_ => absurd h_ (by decide)) (fun _ => ?_)
        refine g_iconst (v := 1) dX3_readsInner_45 (by decide) rfl ?_
        refine g_goto (tgt := 50) dX3_readsInner_46 (by decide) ?_
        exact g_iret dX3_readsInner_50 rfl (by first | rfl | exact b01) (⟨rfl, ((scrL1 hp1.1).tr hf1).tr (scrL1 hf2), hC2, fun _ => hD.t hf2 ha⟩)
      · rw [ib_f hz, if_neg hz]
        rw [if_neg hz] at hC2
        refine g_if_eq (tgt := 49) dX3_readsInner_42 (by decide) rfl (fun _ => ?_) (fun h_ => absurd (by decide) h_)
        refine g_iconst (v := 0) dX3_readsInner_49 (by decide) rfl ?_
        exact g_iret dX3_readsInner_50 rfl (by first | rfl | exact b01) (PoL_fl (((scrL1 hp1.1).tr hf1).tr (scrL1 hf2)) hC2)
    · rw [ib_f hr]
      unfold clP
      rw [if_neg hr]
      refine g_if_eq (tgt := 49) dX3_readsInner_30 (by decide) rfl (fun _ => ?_) (fun h_ => absurd (by decide) h_)
      refine g_iconst (v := 0) dX3_readsInner_49 (by decide) rfl ?_
      exact g_iret dX3_readsInner_50 rfl (by first | rfl | exact b01) (PoL_fl ((scrL1 hp1.1).tr hf1) hC1)
  · rw [if_neg (by decide), if_pos rfl]
    refine g_iload_n dX3_readsInner_15 rfl rfl rfl ?_
    refine g_bipush (v := 40) dX3_readsInner_16 (by decide) rfl ?_
    refine g_icmp_ne (tgt := 51) dX3_readsInner_18 (by decide) rfl (fun _ => ?_) (fun h_ => absurd h_ (by decide))
    refine g_iload_n dX3_readsInner_51 rfl rfl rfl ?_
    refine g_bipush (v := 91) dX3_readsInner_52 (by decide) rfl ?_
    refine g_icmp_ne (tgt := 87) dX3_readsInner_54 (by decide) rfl (fun h_ => absurd (by decide) h_) (fun _ => ?_)
    refine g_aload_n dX3_readsInner_57 rfl rfl rfl ?_
    refine g_iconst (v := 3) dX3_readsInner_58 (by decide) rfl ?_
    refine g_iload_n dX3_readsInner_59 rfl rfl rfl ?_
    refine g_iconst (v := 1) dX3_readsInner_60 (by decide) rfl ?_
    refine g_iadd dX3_readsInner_61 rfl ?_
    refine g_iconst (v := 0) dX3_readsInner_62 (by decide) rfl ?_
    rw [nI_1]
    refine g_callVq (ci := 3) dX3_readsInner_63 lm_X3_46 mv_X3_readsJoined (h1 hp1.2 hd1 (by omega)) rfl rfl (k19 hp1.2.1) rfl rfl (Nat.le_of_ble_eq_true rfl) (gFit_room (by omega)) rfl (fun v M2 hQ => ?_)
    obtain ⟨rfl, hf⟩ := hQ
    obtain ⟨hf1, hC1, hD1⟩ := hf
    by_cases hr : (q.1 (p + 1)).1 = true
    · rw [ib_t hr]
      have hD := hD1 hr
      unfold clP
      rw [if_pos hr]
      refine g_if_eq (tgt := 85) dX3_readsInner_66 (by decide) rfl (fun h_ => absurd h_ (by decide)) (fun _ => ?_)
      refine g_aload_n dX3_readsInner_69 rfl rfl rfl ?_
      refine g_getR dX3_readsInner_70 ff_X3_18 rfl (k19 hC1.1) (r19_0 hC1.1) rfl ?_
      refine g_bipush (v := 93) dX3_readsInner_73 (by decide) rfl ?_
      refine g_callVq (ci := 7) dX3_readsInner_75 lm_X3_31 mv_X7_passed (c_passed (d := d) hx hC1 (c := 93) (by decide)) rfl rfl (k1 hC1.1) rfl rfl (Nat.le_of_ble_eq_true rfl) (gFit_room (by omega)) rfl (fun v M2 hQ => ?_)
      obtain ⟨rfl, hf⟩ := hQ
      obtain ⟨hf2, hC2⟩ := hf
      by_cases hz : isS T L (q.1 (p + 1)).2.1 93 = true
      · rw [ib_t hz, if_pos hz]
        rw [if_pos hz] at hC2
        refine g_if_eq (tgt := 85) dX3_readsInner_78 (by decide) rfl (fun h_ => absurd h_ (by decide)) (fun _ => ?_)
        refine g_iconst (v := 1) dX3_readsInner_81 (by decide) rfl ?_
        refine g_goto (tgt := 86) dX3_readsInner_82 (by decide) ?_
        exact g_iret dX3_readsInner_86 rfl (by first | rfl | exact b01) (⟨rfl, ((scrL1 hp1.1).tr hf1).tr (scrL1 hf2), hC2, fun _ => hD.t hf2 ha⟩)
      · rw [ib_f hz, if_neg hz]
        rw [if_neg hz] at hC2
        refine g_if_eq (tgt := 85) dX3_readsInner_78 (by decide) rfl (fun _ => ?_) (fun h_ => absurd (by decide) h_)
        refine g_iconst (v := 0) dX3_readsInner_85 (by decide) rfl ?_
        exact g_iret dX3_readsInner_86 rfl (by first | rfl | exact b01) (PoL_fl (((scrL1 hp1.1).tr hf1).tr (scrL1 hf2)) hC2)
    · rw [ib_f hr]
      unfold clP
      rw [if_neg hr]
      refine g_if_eq (tgt := 85) dX3_readsInner_66 (by decide) rfl (fun _ => ?_) (fun h_ => absurd (by decide) h_)
      refine g_iconst (v := 0) dX3_readsInner_85 (by decide) rfl ?_
      exact g_iret dX3_readsInner_86 rfl (by first | rfl | exact b01) (PoL_fl ((scrL1 hp1.1).tr hf1) hC1)
set_option maxRecDepth 20000 in
set_option maxHeartbeats 2000000 in
theorem c_atom (hx : gXok X) (hZ : gSt X) {a w : Nat} (ha : 200 ≤ a) {o : LO} (hI : IOK X (d + 5) a w T L (iqP T L o)) : AOK X (d + 6) a w T L (atP T L o) := by
  intro M G cl i h hd hG
  have hL := h.1
  have h240 := h.2.1.2.1
  refine gMet.of hx (by decide) (Nat.le_of_ble_eq_true rfl) ?_
  unfold atP
  refine g_aload_n dX3_readsAtom_0 rfl rfl rfl ?_
  refine g_ldcS (i := 2) dX3_readsAtom_1 hZ (List.mem_of_getElem? (i := 2) rfl) rfl ?_
  refine g_callVq (ci := 3) dX3_readsAtom_3 lm_X3_75 mv_X3_indexIn (c_indexIn (d := d + 1) hx hZ h (k := 2) (by decide)) rfl rfl (k19 hL) rfl rfl (Nat.le_of_ble_eq_true rfl) (gFit_room (by omega)) rfl (fun v M2 hQ => ?_)
  obtain ⟨rfl, hf⟩ := hQ
  have hn := hf
  have hg := nxt_ge (T := T) (L := L) (i := i)
  have hnl := nxt_le (T := T) h.2.2.2
  have hd1 := hd.t hn.1 ha
  by_cases hle : leP T L (nxt T L i) < 6
  · rw [if_pos hle]
    have hp := leP_in hle
    have htp := h.2.1.2.2 _ hp
    have hlo : leP T L (nxt T L i) = lof (T (nxt T L i)) := if_pos hp
    rw [if_pos hp, (sIx2 _ htp.2.2).1 (by rw [← hlo]; exact hle), ← hlo]
    generalize leP T L (nxt T L i) = s at hle
    clear hlo
    have r_19_1 := hd1.2.1
    refine g_istore_n dX3_readsAtom_6 rfl (by decide) rfl ?_
    refine g_iload_n dX3_readsAtom_7 rfl rfl rfl ?_
    refine g_if_lt (tgt := 28) dX3_readsAtom_8 (by decide) rfl (fun h_ => absurd h_ (nI_pos (by omega))) (fun _ => ?_)
    refine g_aload_n dX3_readsAtom_11 rfl rfl rfl ?_
    refine g_getR dX3_readsAtom_12 ff_X3_18 rfl (k19 hn.2.1) (r19_0 hn.2.1) rfl ?_
    refine g_callVq (ci := 7) dX3_readsAtom_15 lm_X3_66 mv_X7_pass (c_pass (d := d + 5) hx hn.2 hp) rfl rfl (k1 hn.2.1) rfl rfl (Nat.le_of_ble_eq_true rfl) (gFit_room (by omega)) rfl (fun v M2 hQ => ?_)
    obtain ⟨rfl, hf⟩ := hQ
    obtain ⟨hf1, hC1⟩ := hf
    have hd2 := hd1.t hf1 ha
    have r_19_1 := hd2.2.1
    refine g_aload_n dX3_readsAtom_18 rfl rfl rfl ?_
    refine g_getR dX3_readsAtom_19 ff_X3_12 rfl (k19 hC1.1) (r_19_1) rfl ?_
    refine g_iload_n dX3_readsAtom_22 rfl rfl rfl ?_
    refine g_callVq (ci := 2) dX3_readsAtom_23 lm_X3_69 mv_X2_add (c_lawAdd (d := d + 5) hx hd2 (by omega) (s := s) (by omega)) rfl rfl hd2.1.1 rfl rfl (Nat.le_of_ble_eq_true rfl) (gFit_room (by omega)) rfl (fun v M2 hQ => ?_)
    obtain ⟨rfl, hA, hB⟩ := hQ
    refine g_iconst (v := 1) dX3_readsAtom_26 (by decide) rfl ?_
    exact g_iret dX3_readsAtom_27 rfl (by first | rfl | exact b01) (⟨rfl, ((scrL1 hn.1).tr (scrL1 hf1)).tr (scrLA hA), hC1.fra hA ha, fun _ => hB⟩)
  · rw [if_neg hle]
    have hng : (if nxt T L i < L then sIx 2 (T (nxt T L i)) else -1) = -1 := by
      by_cases hp : nxt T L i < L
      · rw [if_pos hp]
        refine (sIx2 _ (h.2.1.2.2 _ hp).2.2).2 (fun z => hle ?_)
        unfold leP
        rw [if_pos hp]
        exact z
      · rw [if_neg hp]
    rw [hng]
    refine g_istore_n dX3_readsAtom_6 rfl (by decide) rfl ?_
    refine g_iload_n dX3_readsAtom_7 rfl rfl rfl ?_
    refine g_if_lt (tgt := 28) dX3_readsAtom_8 (by decide) rfl (fun _ => ?_) (fun h_ => absurd (by decide) h_)
    refine g_aload_n dX3_readsAtom_28 rfl rfl rfl ?_
    refine g_getR dX3_readsAtom_29 ff_X3_18 rfl (k19 hn.2.1) (r19_0 hn.2.1) rfl ?_
    refine g_callVq (ci := 7) dX3_readsAtom_32 lm_X3_39 mv_X7_next (c_next (d := d + 5) hx hn.2) rfl rfl (k1 hn.2.1) rfl rfl (Nat.le_of_ble_eq_true rfl) (gFit_room (by omega)) rfl (fun v M2 hQ => ?_)
    obtain ⟨rfl, hf⟩ := hQ
    rw [nxt_nxt] at hf
    rw [nxt_nxt]
    obtain ⟨hf1, hC1⟩ := hf
    have hd2 := hd1.t hf1 ha
    by_cases hs : isS T L i 91 = true
    · rw [if_pos hs, (isS_iff h (by decide)).mp hs]
      refine g_bipush (v := 91) dX3_readsAtom_35 (by decide) rfl ?_
      refine g_icmp_ne (tgt := 48) dX3_readsAtom_37 (by decide) rfl (fun h_ => absurd (by decide) h_) (fun _ => ?_)
      refine g_aload_n dX3_readsAtom_40 rfl rfl rfl ?_
      refine g_bipush (v := 91) dX3_readsAtom_41 (by decide) rfl ?_
      refine g_iload_n dX3_readsAtom_43 rfl rfl rfl ?_
      refine g_callVq (ci := 3) dX3_readsAtom_44 lm_X3_88 mv_X3_readsInner (hI (c := 91) hC1 (isS_in hs).1 (Or.inr (Or.inr rfl)) hd2 (by omega)) rfl rfl (k19 hC1.1) rfl rfl (Nat.le_of_ble_eq_true rfl) (gFit_room (by omega)) rfl (fun v M2 hQ => ?_)
      obtain ⟨rfl, hA, hB⟩ := hQ
      exact g_iret dX3_readsAtom_47 rfl (by first | rfl | exact b01) (⟨rfl, ((scrL1 hn.1).tr (scrL1 hf1)).tr hA, hB⟩)
    · rw [if_neg hs]
      refine g_bipush (v := 91) dX3_readsAtom_35 (by decide) rfl ?_
      refine g_icmp_ne (tgt := 48) dX3_readsAtom_37 (by decide) rfl (fun _ => ?_) (fun h_ => absurd h_ (fun z => hs ((isS_iff h (by decide)).mpr z)))
      refine g_aload_n dX3_readsAtom_48 rfl rfl rfl ?_
      refine g_getR dX3_readsAtom_49 ff_X3_18 rfl (k19 hC1.1) (r19_0 hC1.1) rfl ?_
      refine g_iconst (v := 4) dX3_readsAtom_52 (by decide) rfl ?_
      refine g_iconst (v := 0) dX3_readsAtom_53 (by decide) rfl ?_
      refine g_sipush (v := 9999) dX3_readsAtom_54 (by decide) rfl ?_
      refine g_callVq (ci := 7) dX3_readsAtom_57 lm_X3_94 mv_X7_readsNumber (c_readsNumber (d := d + 4) hx hC1 (mx := 4) (lo := 0) (hi := 9999) (by decide) (by decide) (by decide) (by decide)) rfl rfl (k1 hC1.1) rfl rfl (Nat.le_of_ble_eq_true rfl) (gFit_room (by omega)) rfl (fun v M2 hQ => ?_)
      obtain ⟨rfl, hf⟩ := hQ
      have hnn : numP T L 4 0 9999 (nxt T L i) = numP T L 4 0 9999 i := by unfold numP; rw [nxt_nxt]
      rw [hnn] at hf
      rw [hnn]
      obtain ⟨⟨hf2, hC2⟩, hv⟩ := hf
      have hsan := numP_san (T := T) (lo := 0) (hi := 9999) h.2.2.2 (show 1 ≤ 4 by decide)
      have hd3 := hd2.t hf2 ha
      generalize numP T L 4 0 9999 i = r at *
      by_cases hr : r.1 = true
      · rw [if_pos hr, ib_t hr]
        have hs2 := hsan.2 hr
        have hv2 := hv hr
        have r_19_1 := hd3.2.1
        refine g_if_ne (tgt := 65) dX3_readsAtom_60 (by decide) rfl (fun _ => ?_) (fun h_ => absurd h_ (by decide))
        refine g_aload_n dX3_readsAtom_65 rfl rfl rfl ?_
        refine g_getR dX3_readsAtom_66 ff_X3_12 rfl (k19 hC2.1) (r_19_1) rfl ?_
        refine g_bipush (v := 16) dX3_readsAtom_69 (by decide) rfl ?_
        refine g_aload_n dX3_readsAtom_71 rfl rfl rfl ?_
        refine g_getR dX3_readsAtom_72 ff_X3_18 rfl (k19 hC2.1) (r19_0 hC2.1) rfl ?_
        refine g_getI dX3_readsAtom_75 ff_X3_98 rfl (k1 hC2.1) rfl ?_
        rw [hv2]
        refine g_iadd dX3_readsAtom_78 rfl ?_
        rw [show (16 : Int32) = nI 16 from rfl, nI_add]
        refine g_callVq (ci := 2) dX3_readsAtom_79 lm_X3_69 mv_X2_add (c_lawAdd (d := d + 5) hx hd3 (by omega) (s := 16 + r.2.2) (by omega)) rfl rfl hd3.1.1 rfl rfl (Nat.le_of_ble_eq_true rfl) (gFit_room (by omega)) rfl (fun v M2 hQ => ?_)
        obtain ⟨rfl, hA, hB⟩ := hQ
        refine g_iconst (v := 1) dX3_readsAtom_82 (by decide) rfl ?_
        exact g_iret dX3_readsAtom_83 rfl (by first | rfl | exact b01) (⟨rfl, (((scrL1 hn.1).tr (scrL1 hf1)).tr (scrL1 hf2)).tr (scrLA hA), hC2.fra hA ha, fun _ => hB⟩)
      · rw [if_neg hr, ib_f hr]
        refine g_if_ne (tgt := 65) dX3_readsAtom_60 (by decide) rfl (fun h_ => absurd (by decide) h_) (fun _ => ?_)
        refine g_iconst (v := 0) dX3_readsAtom_63 (by decide) rfl ?_
        exact g_iret dX3_readsAtom_64 rfl (by first | rfl | exact b01) (PoL_fl (((scrL1 hn.1).tr (scrL1 hf1)).tr (scrL1 hf2)) hC2)
end R2
