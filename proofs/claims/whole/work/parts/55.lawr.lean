/-! the law's reader in the class -/
def DrL (M : gM) (a : Nat) (G : List Nat) (cl : Nat) : Prop := LawAt M a ∧ gmr M 19 1 = some a ∧ gmi M a 4 = nI G.length ∧ (∀ i, i < G.length → gmi M (a + 1) i = nI (G.getD i 0)) ∧ gmi M a 5 = nI cl ∧ gmi M a 6 = ib (2 ∈ G)
def scrA (a : Nat) : Nat → Prop := fun c => c = a ∨ c = a + 1
def scrL (a : Nat) : Nat → Prop := fun c => c = 1 ∨ c = a ∨ c = a + 1
section R1
variable {X : gX} {M : gM} {d : Nat} {T : Nat → Nat} {L i : Nat}
theorem LawAt_fr {M2 : gM} {S : Nat → Prop} {a : Nat} (h : gFr S M M2) (ha : LawAt M a) : LawAt M2 a := by
  obtain ⟨h1, h2, h3, h4, h5, h6, h7, h8, h9⟩ := ha
  exact ⟨by rw [(h.1 _).1]; exact h1, by rw [(h.1 _).1, (h.1 _).2]; exact h2, by rw [(h.1 _).1, (h.1 _).2]; exact h3, by rw [(h.1 _).1, (h.1 _).2]; exact h4, by rw [(h.1 _).1, (h.1 _).2]; exact h5, by rw [h.2.1]; exact h6, by rw [h.2.1]; exact h7, by rw [h.2.1]; exact h8, by rw [h.2.1]; exact h9⟩
theorem DrL.fr {M2 : gM} {S : Nat → Prop} {a cl : Nat} {G : List Nat} (hd : DrL M a G cl) (h : gFr S M M2) (h1 : ¬ S a) (h2 : ¬ S (a + 1)) : DrL M2 a G cl := by
  obtain ⟨h3, h4, h5, h6, h7, h8⟩ := hd
  exact ⟨LawAt_fr h h3, by rw [h.2.1]; exact h4, by rw [h.2.2.2 _ h1]; exact h5, by rw [h.2.2.2 _ h2]; exact h6, by rw [h.2.2.2 _ h1]; exact h7, by rw [h.2.2.2 _ h1]; exact h8⟩
theorem TC.fra {M2 : gM} {a : Nat} (h : TC M T L i) (hf : gFr (scrA a) M M2) (ha : 200 ≤ a) : TC M2 T L i := by
  have e1 : gmi M2 1 = gmi M 1 := hf.2.2.2 1 (fun q => by rcases q with q | q <;> omega)
  have e2 : gmi M2 2 = gmi M 2 := hf.2.2.2 2 (fun q => by rcases q with q | q <;> omega)
  exact ⟨hf.lay h.1, ⟨by rw [e1]; exact h.2.1.1, h.2.1.2.1, fun k hk => by rw [e2]; exact h.2.1.2.2 k hk⟩, by rw [e1]; exact h.2.2.1, h.2.2.2⟩
theorem scrL1 {a : Nat} {M2 : gM} (h : gFr (fun c => c = 1) M M2) : gFr (scrL a) M M2 := h.mono (fun _ q => Or.inl q)
theorem scrLA {a : Nat} {M2 : gM} (h : gFr (scrA a) M M2) : gFr (scrL a) M M2 := h.mono (fun _ q => Or.inr q)
theorem DrL.t {M2 : gM} {a cl : Nat} {G : List Nat} (hd : DrL M a G cl) (h : gFr (fun c => c = 1) M M2) (ha : 200 ≤ a) : DrL M2 a G cl := hd.fr h (by omega) (by omega)
theorem ib_or {p q : Prop} [Decidable p] [Decidable q] [Decidable (p ∨ q)] (h : q) : ib (p ∨ q) = 1 := ib_t (Or.inr h)
theorem getD_app1 {G : List Nat} {s j : Nat} (h : j < G.length) : (G ++ [s]).getD j 0 = G.getD j 0 := by
  rw [List.getD_eq_getElem?_getD, List.getD_eq_getElem?_getD, List.getElem?_append_left h]
theorem getD_app2 {G : List Nat} {s : Nat} : (G ++ [s]).getD G.length 0 = s := by
  rw [List.getD_eq_getElem?_getD, List.getElem?_append_right (Nat.le_refl _), Nat.sub_self]; rfl
set_option maxRecDepth 20000 in
theorem c_lawAdd (hx : gXok X) {a cl s : Nat} {G : List Nat} (hd : DrL M a G cl) (hl : G.length < 240) (hs : s < 20000) : gPos X (d + 0) yX2_add cX2_add 2 none [.ref a, .int (nI s)] M (fun v M2 => v = none ∧ gFr (scrA a) M M2 ∧ DrL M2 a (G ++ [s]) cl) := by
  obtain ⟨h3, h4, h5, h6, h7, h8⟩ := hd
  obtain ⟨k_a, ⟨k_a1, l_a1⟩, -, -, -, r_a_0, -⟩ := id h3
  refine gMet.of hx (by decide) (Nat.le_of_ble_eq_true rfl) ?_
  have hib : ¬ nI s = 2 → ib (2 ∈ G) = ib (2 ∈ G ++ [s]) := fun h32 => by
    by_cases z : 2 ∈ G
    · rw [ib_t z, ib_t (List.mem_append.mpr (Or.inl z))]
    · rw [ib_f z, ib_f (fun y => (List.mem_append.mp y).elim z (fun x => h32 (by rw [← List.mem_singleton.mp x]; rfl)))]
  have hM : ∀ M1, M1 = gwI (gwI M (a + 1) G.length (nI s)) a 4 (nI (G.length + 1)) → gFr (scrA a) M M1 ∧ LawAt M1 a ∧ gmr M1 19 1 = some a ∧ gmi M1 a 4 = nI (G ++ [s]).length ∧ (∀ i, i < (G ++ [s]).length → gmi M1 (a + 1) i = nI ((G ++ [s]).getD i 0)) ∧ gmi M1 a 5 = nI cl ∧ gmi M1 a 6 = ib (2 ∈ G) := by
    intro M1 hM1
    rw [hM1]
    refine ⟨(gFr.wI (Or.inr rfl)).tr (gFr.wI (Or.inl rfl)), LawAt_I (LawAt_I h3), h4, ?_, ?_, ?_, ?_⟩
    · rw [gmi_I, va_up_self, List.length_append]; rfl
    · intro j hj
      rw [List.length_append, List.length_singleton] at hj
      rw [gmi_In _ _ _ (show a + 1 ≠ a by omega), gmi_I]
      by_cases e : j = G.length
      · rw [e, va_up_self, getD_app2]
      · rw [va_up_ne _ _ e, getD_app1 (by omega)]
        exact h6 j (by omega)
    · rw [gmi_I, va_up_ne _ _ (by decide), gmi_In _ _ _ (show a ≠ a + 1 by omega)]; exact h7
    · rw [gmi_I, va_up_ne _ _ (by decide), gmi_In _ _ _ (show a ≠ a + 1 by omega)]; exact h8
  refine g_aload_n dX2_add_0 rfl rfl rfl ?_
  refine g_getI dX2_add_1 ff_X2_24 rfl (k_a) rfl ?_
  refine g_sipush (v := 240) dX2_add_4 (by decide) rfl ?_
  rw [h5]
  refine g_icmp_ge (tgt := 30) dX2_add_7 (by decide) rfl (fun h_ => absurd h_ (nI_ge hl (by decide))) (fun _ => ?_)
  refine g_aload_n dX2_add_10 rfl rfl rfl ?_
  refine g_getR dX2_add_11 ff_X2_9 rfl (k_a) (r_a_0) rfl ?_
  refine g_aload_n dX2_add_14 rfl rfl rfl ?_
  refine g_getI dX2_add_15 ff_X2_24 rfl (k_a) rfl ?_
  rw [h5]
  refine g_iload_n dX2_add_18 rfl rfl rfl ?_
  refine g_iast (i := G.length) dX2_add_19 (k_a1) (l_a1) (by (try simp only [nI_lit, pk_mul, nI_add, Nat.zero_add]); exact nI_toInt (by omega)) (by omega) rfl ?_
  refine g_aload_n dX2_add_20 rfl rfl rfl ?_
  refine g_dup dX2_add_21 rfl rfl ?_
  refine g_getI dX2_add_22 ff_X2_24 rfl (k_a) rfl ?_
  rw [gmi_In _ _ _ (show a ≠ a + 1 by omega), h5]
  refine g_iconst (v := 1) dX2_add_25 (by decide) rfl ?_
  refine g_iadd dX2_add_26 rfl ?_
  rw [nI_1]
  refine g_putI dX2_add_27 fp_X2_24 rfl rfl rfl (k_a) rfl ?_
  obtain ⟨q1, q2, q3, q4, q5, q6, q7⟩ := hM _ rfl
  generalize gwI (gwI M (a + 1) G.length (nI s)) a 4 (nI (G.length + 1)) = M1 at q1 q2 q3 q4 q5 q6 q7 ⊢
  refine g_iload_n dX2_add_30 rfl rfl rfl ?_
  refine g_iconst (v := 2) dX2_add_31 (by decide) rfl ?_
  refine g_icmp_ne (tgt := 40) dX2_add_32 (by decide) rfl (fun h32 => ?_) (fun h32 => ?_)
  · first | skip
    exact g_vret dX2_add_40 rfl (⟨rfl, by first | exact q1 | exact q1.tr (gFr.wI (Or.inl rfl)), by first | exact ⟨q2, q3, q4, q5, q6, q7.trans (hib h32)⟩ | exact ⟨LawAt_I q2, q3, by rw [gmi_I, va_up_ne _ _ (by decide)]; exact q4, fun j hj => by rw [gmi_In _ _ _ (show a + 1 ≠ a by omega)]; exact q5 j hj, by rw [gmi_I, va_up_ne _ _ (by decide)]; exact q6, by rw [gmi_I, va_up_self, hs2]; exact (ib_t (List.mem_append.mpr (Or.inr List.mem_cons_self))).symm⟩⟩)
  · have hs2 : s = 2 := (qeq s 2 rfl rfl (by omega) (by decide)).mp h32
    obtain ⟨k_a, -⟩ := id q2
    refine g_aload_n dX2_add_35 rfl rfl rfl ?_
    refine g_iconst (v := 1) dX2_add_36 (by decide) rfl ?_
    refine g_putI dX2_add_37 fp_X2_31 rfl rfl rfl (k_a) rfl ?_
    first | skip
    exact g_vret dX2_add_40 rfl (⟨rfl, by first | exact q1 | exact q1.tr (gFr.wI (Or.inl rfl)), by first | exact ⟨q2, q3, q4, q5, q6, q7.trans (hib h32)⟩ | exact ⟨LawAt_I q2, q3, by rw [gmi_I, va_up_ne _ _ (by decide)]; exact q4, fun j hj => by rw [gmi_In _ _ _ (show a + 1 ≠ a by omega)]; exact q5 j hj, by rw [gmi_I, va_up_ne _ _ (by decide)]; exact q6, by rw [gmi_I, va_up_self, hs2]; exact (ib_t (List.mem_append.mpr (Or.inr List.mem_cons_self))).symm⟩⟩)
/-- which place a sign has among those of a String -/
theorem c_indexIn (hx : gXok X) (hZ : gSt X) (h : TC M T L i) {k : Nat} (hk : k < 8) : gPos X (d + 4) yX3_indexIn cX3_indexIn 3 (some .int) [.ref 19, .ref (5010 + k)] M (fun v M2 => v = some (.int (if nxt T L i < L then sIx k (T (nxt T L i)) else -1)) ∧ Tp M M2 T L (nxt T L i)) := by
  have hL := h.1
  refine gMet.of hx (by decide) (Nat.le_of_ble_eq_true rfl) ?_
  refine g_aload_n dX3_indexIn_0 rfl rfl rfl ?_
  refine g_getR dX3_indexIn_1 ff_X3_18 rfl (k19 hL) (r19_0 hL) rfl ?_
  refine g_callVq (ci := 7) dX3_indexIn_4 lm_X3_39 mv_X7_next (c_next (d := d + 3) hx h) rfl rfl (k1 hL) rfl rfl (Nat.le_of_ble_eq_true rfl) (gFit_room (by omega)) rfl (fun v M2 hQ => ?_)
  obtain ⟨rfl, hf⟩ := hQ
  have hn := hf
  by_cases hp : nxt T L i < L
  · have htp := h.2.1.2.2 _ hp
    rw [if_pos hp, show sgn T L (nxt T L i) = nI (T (nxt T L i)) from if_pos hp]
    refine g_istore_n dX3_indexIn_7 rfl (by decide) rfl ?_
    refine g_iload_n dX3_indexIn_8 rfl rfl rfl ?_
    refine g_iconst (v := -1) dX3_indexIn_9 (by decide) rfl ?_
    refine g_icmp_ne (tgt := 17) dX3_indexIn_10 (by decide) rfl (fun _ => ?_) (fun h_ => absurd h_ (fun q => absurd (show nI (T (nxt T L i)) < 0 by rw [q]; decide) (nI_pos (by omega))))
    refine g_aload_n dX3_indexIn_17 rfl rfl rfl ?_
    refine g_iload_n dX3_indexIn_18 rfl rfl rfl ?_
    refine g_i2c dX3_indexIn_19 rfl ?_
    rw [ch_ok _ htp.2.2]
    refine g_callU (i := k) dX3_indexIn_20 lm_X3_83 mv_J0_indexOf_0f7a4 (c_indexOf (d := d) hx hZ hk htp.2.2) hZ hk rfl rfl rfl (Nat.le_of_ble_eq_true rfl) (gFit_room (by omega)) rfl ?_
    exact g_iret dX3_indexIn_23 rfl (by first | rfl | exact b01) (⟨rfl, hn⟩)
  · rw [if_neg hp, show sgn T L (nxt T L i) = -1 from if_neg hp]
    refine g_istore_n dX3_indexIn_7 rfl (by decide) rfl ?_
    refine g_iload_n dX3_indexIn_8 rfl rfl rfl ?_
    refine g_iconst (v := -1) dX3_indexIn_9 (by decide) rfl ?_
    refine g_icmp_ne (tgt := 17) dX3_indexIn_10 (by decide) rfl (fun h_ => absurd (by decide) h_) (fun _ => ?_)
    refine g_iconst (v := -1) dX3_indexIn_13 (by decide) rfl ?_
    refine g_goto (tgt := 23) dX3_indexIn_14 (by decide) ?_
    exact g_iret dX3_indexIn_23 rfl (by first | rfl | exact b01) (⟨rfl, hn⟩)
def ix1 (t : Nat) : Nat := if t = 124 then 0 else if t = 38 then 1 else if t = 33 then 2 else if t = 61 then 3 else if t = 60 then 4 else if t = 62 then 5 else if t = 43 then 6 else if t = 45 then 7 else if t = 42 then 8 else if t = 47 then 9 else 10
theorem sIx1a : ∀ t, t < 256 → sIx 1 t = if ix1 t < 10 then nI (ix1 t) else -1 := by decide +kernel
theorem sIx1b : ∀ t, t < 256 → ∀ lv, lv < 6 → jof lv t = if ix1 t < 10 ∧ tJoin.getD (ix1 t) 0 = nI lv then 6 + ix1 t else 0 := by decide +kernel
theorem sIx1 (t : Nat) (ht : t < 256) (lv : Nat) (hl : lv < 6) : ((jof lv t = 0 → sIx 1 t < 0 ∨ (∃ j, j < 10 ∧ sIx 1 t = nI j ∧ tJoin.getD j 0 ≠ nI lv)) ∧ (jof lv t ≠ 0 → ∃ j, j < 10 ∧ sIx 1 t = nI j ∧ tJoin.getD j 0 = nI lv ∧ jof lv t = 6 + j)) := by
  rw [sIx1a t ht, sIx1b t ht lv hl]
  by_cases h1 : ix1 t < 10
  · rw [if_pos h1]
    by_cases h2 : tJoin.getD (ix1 t) 0 = nI lv
    · rw [if_pos ⟨h1, h2⟩]
      exact ⟨fun q => by omega, fun _ => ⟨_, h1, rfl, h2, rfl⟩⟩
    · rw [if_neg (fun q => h2 q.2)]
      exact ⟨fun _ => Or.inr ⟨_, h1, rfl, h2⟩, fun q => absurd rfl q⟩
  · rw [if_neg h1, if_neg (fun q => h1 q.1)]
    exact ⟨fun _ => Or.inl (by decide), fun q => absurd rfl q⟩
theorem sIx2 : ∀ t, t < 256 → (lof t < 6 → sIx 2 t = nI (lof t)) ∧ (¬ lof t < 6 → sIx 2 t = -1) := by decide +kernel
set_option maxRecDepth 20000 in
theorem c_jointIn (hx : gXok X) (hZ : gSt X) (h : TC M T L i) {lv : Nat} (hlv : lv < 6) : gPos X (d + 5) yX3_jointIn cX3_jointIn 3 (some .int) [.ref 19, .int (nI lv)] M (fun v M2 => v = some (.int (if jnP T L lv (nxt T L i) = 0 then -1 else nI (jnP T L lv (nxt T L i)))) ∧ Tp M M2 T L (nxt T L i)) := by
  have hL := h.1
  refine gMet.of hx (by decide) (Nat.le_of_ble_eq_true rfl) ?_
  refine g_aload_n dX3_jointIn_0 rfl rfl rfl ?_
  refine g_ldcS (i := 1) dX3_jointIn_1 hZ (List.mem_of_getElem? (i := 1) rfl) rfl ?_
  refine g_callVq (ci := 3) dX3_jointIn_3 lm_X3_75 mv_X3_indexIn (c_indexIn (d := d) hx hZ h (k := 1) (by decide)) rfl rfl (k19 hL) rfl rfl (Nat.le_of_ble_eq_true rfl) (gFit_room (by omega)) rfl (fun v M2 hQ => ?_)
  obtain ⟨rfl, hf⟩ := hQ
  have hn := hf
  have none_ : ∀ (x : Int32), (x < 0 ∨ ∃ j, j < 10 ∧ x = nI j ∧ tJoin.getD j 0 ≠ nI lv) → jnP T L lv (nxt T L i) = 0 → gW X (gRoom (d + 5) 0 0) (gZ X gN0 0 0 (fun v M2 => v = some (.int (if jnP T L lv (nxt T L i) = 0 then -1 else nI (jnP T L lv (nxt T L i)))) ∧ Tp M M2 T L (nxt T L i))) gN0 yX3_jointIn cX3_jointIn 3 (some .int) 6 [(0, .ref 19), (1, .int (nI lv))] [.int x] M2 0 0 := by
    intro x hx2 h0
    rw [if_pos h0]
    rcases hx2 with hx2 | ⟨j, hj, rfl, hne⟩
    · refine g_istore_n dX3_jointIn_6 rfl (by decide) rfl ?_
      refine g_iload_n dX3_jointIn_7 rfl rfl rfl ?_
      refine g_if_lt (tgt := 27) dX3_jointIn_8 (by decide) rfl (fun _ => ?_) (fun h_ => absurd (hx2) h_)
      refine g_iconst (v := -1) dX3_jointIn_27 (by decide) rfl ?_
      exact g_iret dX3_jointIn_28 rfl (by first | rfl | exact b01) (⟨rfl, hn⟩)
    · refine g_istore_n dX3_jointIn_6 rfl (by decide) rfl ?_
      refine g_iload_n dX3_jointIn_7 rfl rfl rfl ?_
      refine g_if_lt (tgt := 27) dX3_jointIn_8 (by decide) rfl (fun h_ => absurd h_ (nI_pos (by omega))) (fun _ => ?_)
      refine g_gets (b := 5003) dX3_jointIn_11 lo_X3_79 (fun U hU => (hZ U hU).2.2.2.1.1) (by decide) rfl ?_
      refine g_iload_n dX3_jointIn_14 rfl rfl rfl ?_
      refine g_tald (i := j) (v := tJoin.getD j 0) dX3_jointIn_15 (fun U hU => (hZ U hU).2.2.2.1.2) (by decide) (nI_toInt (by omega)) hj rfl rfl ?_
      refine g_iload_n dX3_jointIn_16 rfl rfl rfl ?_
      refine g_icmp_ne (tgt := 27) dX3_jointIn_17 (by decide) rfl (fun _ => ?_) (fun h_ => absurd h_ (hne))
      refine g_iconst (v := -1) dX3_jointIn_27 (by decide) rfl ?_
      exact g_iret dX3_jointIn_28 rfl (by first | rfl | exact b01) (⟨rfl, hn⟩)
  by_cases hp : nxt T L i < L
  · have htp := h.2.1.2.2 _ hp
    have hs := sIx1 (T (nxt T L i)) htp.2.2 lv hlv
    have hj : jnP T L lv (nxt T L i) = jof lv (T (nxt T L i)) := if_pos hp
    rw [if_pos hp]
    by_cases h0 : jof lv (T (nxt T L i)) = 0
    · exact none_ _ (hs.1 h0) (by rw [hj]; exact h0)
    · obtain ⟨j, hj10, hj1, hj2, hj3⟩ := hs.2 h0
      rw [hj, hj1, hj3, if_neg (by omega)]
      clear none_
      refine g_istore_n dX3_jointIn_6 rfl (by decide) rfl ?_
      refine g_iload_n dX3_jointIn_7 rfl rfl rfl ?_
      refine g_if_lt (tgt := 27) dX3_jointIn_8 (by decide) rfl (fun h_ => absurd h_ (nI_pos (by omega))) (fun _ => ?_)
      refine g_gets (b := 5003) dX3_jointIn_11 lo_X3_79 (fun U hU => (hZ U hU).2.2.2.1.1) (by decide) rfl ?_
      refine g_iload_n dX3_jointIn_14 rfl rfl rfl ?_
      refine g_tald (i := j) (v := tJoin.getD j 0) dX3_jointIn_15 (fun U hU => (hZ U hU).2.2.2.1.2) (by decide) (nI_toInt (by omega)) hj10 rfl rfl ?_
      refine g_iload_n dX3_jointIn_16 rfl rfl rfl ?_
      refine g_icmp_ne (tgt := 27) dX3_jointIn_17 (by decide) rfl (fun h_ => absurd (hj2) h_) (fun _ => ?_)
      refine g_bipush (v := 6) dX3_jointIn_20 (by decide) rfl ?_
      refine g_iload_n dX3_jointIn_22 rfl rfl rfl ?_
      refine g_iadd dX3_jointIn_23 rfl ?_
      rw [show (6 : Int32) = nI 6 from rfl, nI_add]
      refine g_goto (tgt := 28) dX3_jointIn_24 (by decide) ?_
      exact g_iret dX3_jointIn_28 rfl (by first | rfl | exact b01) (⟨rfl, hn⟩)
  · rw [if_neg hp]
    exact none_ _ (Or.inl (by decide)) (if_neg hp)
end R1
