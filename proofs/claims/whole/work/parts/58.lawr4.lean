/-! clauses -/
abbrev CL := List Nat × List Nat × LE × LE
abbrev CR := Bool × Nat × CL
def flC (p : Nat) : CR := (false, p, [], [], fun _ => 0, fun _ => 0)
section C0
variable (T : Nat → Nat) (L : Nat)
/-- a CONDITION r, some of whose signs stand already, its ? and SUM -/
def cnP (pre : List Nat) (r : PR) : CR :=
  if r.1 then (if isS T L r.2.1 63 then (if (smP T L (loP T L 6) (nxt T L r.2.1 + 1)).1 then (true, (smP T L (loP T L 6) (nxt T L r.2.1 + 1)).2.1, pre ++ r.2.2.1, (smP T L (loP T L 6) (nxt T L r.2.1 + 1)).2.2.1, r.2.2.2, (smP T L (loP T L 6) (nxt T L r.2.1 + 1)).2.2.2) else flC (smP T L (loP T L 6) (nxt T L r.2.1 + 1)).2.1) else flC (nxt T L r.2.1)) else flC r.2.1
def ccP (i : Nat) : CR :=
  if isS T L i 33 ∨ isS T L i 40 then cnP T L [] (cdB T L (loP T L 6) none i)
  else if (smP T L (loP T L 6) i).1 then
    (if jnP T L 2 (nxt T L (smP T L (loP T L 6) i).2.1) = 0 then (true, nxt T L (smP T L (loP T L 6) i).2.1, [], (smP T L (loP T L 6) i).2.2.1, fun _ => 1, (smP T L (loP T L 6) i).2.2.2)
     else cnP T L (smP T L (loP T L 6) i).2.2.1 (cdB T L (loP T L 6) (some (smP T L (loP T L 6) i).2.2.2) (smP T L (loP T L 6) i).2.1))
  else flC (smP T L (loP T L 6) i).2.1
def yP (i : Nat) : CR := if isS T L i 121 then (if isS T L (nxt T L i + 1) 58 then ccP T L (nxt T L (nxt T L i + 1) + 1) else flC (nxt T L (nxt T L i + 1))) else flC (nxt T L i)
def lwP : Nat → Nat → Bool × Nat × List CL
  | 0, i => (true, i, [])
  | n + 1, i => if (yP T L i).1 then (if isS T L (yP T L i).2.1 59 then ((lwP n (nxt T L (yP T L i).2.1 + 1)).1, (lwP n (nxt T L (yP T L i).2.1 + 1)).2.1, (yP T L i).2.2 :: (lwP n (nxt T L (yP T L i).2.1 + 1)).2.2) else (true, nxt T L (yP T L i).2.1, [(yP T L i).2.2])) else (false, (yP T L i).2.1, [])
def lawOK : Bool := (lwP T L 61 0).1 && decide (L ≤ nxt T L (lwP T L 61 0).2.1)
def lawAt : Nat := if (lwP T L 61 0).1 then nxt T L (lwP T L 61 0).2.1 else (lwP T L 61 0).2.1
def lawV : Int32 := if lawOK T L then -1 else nI (lawAt T L)
end C0
def clE : List CL → LE
  | [] => fun _ => 0
  | c :: r => fun lt => if c.2.2.1 lt ≠ 0 then c.2.2.2 lt else clE r lt
def clN (c : CL) : Nat := c.1.length + c.2.1.length
def coF : List CL → Nat → Nat
  | [], _ => 0
  | _ :: _, 0 => 0
  | c :: r, j + 1 => clN c + coF r j
def suF (cs : List CL) (j : Nat) : Nat := coF cs j + (cs.getD j ([], [], fun _ => 0, fun _ => 0)).1.length
def clG (cs : List CL) : List Nat := cs.flatMap (fun c => c.1 ++ c.2.1)
theorem coF_all : ∀ (cs : List CL), coF cs cs.length = (clG cs).length
  | [] => rfl
  | c :: r => by
    show clN c + coF r r.length = _
    rw [coF_all r]
    show _ = ((c.1 ++ c.2.1) ++ clG r).length
    rw [List.length_append, List.length_append]; rfl
theorem coF_app {c : CL} : ∀ {cs : List CL} {j : Nat}, j ≤ cs.length → coF (cs ++ [c]) j = coF cs j
  | [], 0, _ => rfl
  | [], j + 1, h => absurd h (by show ¬ j + 1 ≤ 0; omega)
  | _ :: _, 0, _ => rfl
  | b :: r, j + 1, h => by
    show clN b + coF (r ++ [c]) j = clN b + coF r j
    rw [coF_app (cs := r) (Nat.le_of_succ_le_succ h)]
theorem getD_appL {c : CL} {cs : List CL} {j : Nat} {z : CL} (h : j < cs.length) : (cs ++ [c]).getD j z = cs.getD j z := by
  rw [List.getD_eq_getElem?_getD, List.getD_eq_getElem?_getD, List.getElem?_append_left h]
theorem getD_appR {c : CL} {cs : List CL} {z : CL} : (cs ++ [c]).getD cs.length z = c := by
  rw [List.getD_eq_getElem?_getD, List.getElem?_append_right (Nat.le_refl _), Nat.sub_self]; rfl
/-- the draft's clauses -/
def DrC (M : gM) (a : Nat) (cs : List CL) : Prop := DrL M a (clG cs) cs.length ∧ cs.length ≤ 61 ∧ ∀ j, j < cs.length → gmi M (a + 2) j = nI (coF cs j) ∧ gmi M (a + 3) j = nI (suF cs j)
def scrC (a : Nat) : Nat → Prop := fun c => c = a ∨ c = a + 2 ∨ c = a + 3
def scrR (a : Nat) : Nat → Prop := fun c => c = 1 ∨ c = a ∨ c = a + 1 ∨ c = a + 2 ∨ c = a + 3
section C1
variable {X : gX} {M : gM} {d : Nat} {T : Nat → Nat} {L i : Nat}
theorem scrRL {a : Nat} {M2 : gM} (h : gFr (scrL a) M M2) : gFr (scrR a) M M2 := h.mono (fun _ q => q.elim Or.inl (fun q => Or.inr (q.elim Or.inl (fun q => Or.inr (Or.inl q)))))
theorem scrRC {a : Nat} {M2 : gM} (h : gFr (scrC a) M M2) : gFr (scrR a) M M2 := h.mono (fun _ q => Or.inr (q.elim Or.inl (fun q => Or.inr (Or.inr q))))
theorem scrR1 {a : Nat} {M2 : gM} (h : gFr (fun c => c = 1) M M2) : gFr (scrR a) M M2 := h.mono (fun _ q => Or.inl q)
theorem TC.frc {M2 : gM} {a : Nat} (h : TC M T L i) (hf : gFr (scrC a) M M2) (ha : 200 ≤ a) : TC M2 T L i := by
  have e1 : gmi M2 1 = gmi M 1 := hf.2.2.2 1 (fun q => by rcases q with q | q | q <;> omega)
  have e2 : gmi M2 2 = gmi M 2 := hf.2.2.2 2 (fun q => by rcases q with q | q | q <;> omega)
  exact ⟨hf.lay h.1, ⟨by rw [e1]; exact h.2.1.1, h.2.1.2.1, fun k hk => by rw [e2]; exact h.2.1.2.2 k hk⟩, by rw [e1]; exact h.2.2.1, h.2.2.2⟩
set_option maxRecDepth 20000 in
theorem c_addClause (hx : gXok X) {a cl b s : Nat} {G : List Nat} (hd : DrL M a G cl) (hl : cl < 61) : gPos X (d + 0) yX2_addClause cX2_addClause 3 none [.ref a, .int (nI b), .int (nI s)] M (fun v M2 => v = none ∧ gFr (scrC a) M M2 ∧ DrL M2 a G (cl + 1) ∧ gmi M2 (a + 2) = va_up (gmi M (a + 2)) cl (nI b) ∧ gmi M2 (a + 3) = va_up (gmi M (a + 3)) cl (nI s)) := by
  obtain ⟨h3, h4, h5, h6, h7, h8⟩ := hd
  obtain ⟨k_a, -, ⟨k_a2, l_a2⟩, ⟨k_a3, l_a3⟩, -, -, r_a_1, r_a_2, -⟩ := id h3
  refine gMet.of hx (by decide) (Nat.le_of_ble_eq_true rfl) ?_
  have e1 : a ≠ a + 2 := by omega
  have e2 : a ≠ a + 3 := by omega
  refine g_aload_n dX2_addClause_0 rfl rfl rfl ?_
  refine g_getI dX2_addClause_1 ff_X2_28 rfl (k_a) rfl ?_
  refine g_bipush (v := 61) dX2_addClause_4 (by decide) rfl ?_
  rw [h7]
  refine g_icmp_ge (tgt := 39) dX2_addClause_6 (by decide) rfl (fun h_ => absurd h_ (nI_ge hl (by decide))) (fun _ => ?_)
  refine g_aload_n dX2_addClause_9 rfl rfl rfl ?_
  refine g_getR dX2_addClause_10 ff_X2_15 rfl (k_a) (r_a_1) rfl ?_
  refine g_aload_n dX2_addClause_13 rfl rfl rfl ?_
  refine g_getI dX2_addClause_14 ff_X2_28 rfl (k_a) rfl ?_
  rw [h7]
  refine g_iload_n dX2_addClause_17 rfl rfl rfl ?_
  refine g_iast (i := cl) dX2_addClause_18 (k_a2) (l_a2) (by (try simp only [nI_lit, pk_mul, nI_add, Nat.zero_add]); exact nI_toInt (by omega)) (by omega) rfl ?_
  refine g_aload_n dX2_addClause_19 rfl rfl rfl ?_
  refine g_getR dX2_addClause_20 ff_X2_18 rfl (k_a) (r_a_2) rfl ?_
  refine g_aload_n dX2_addClause_23 rfl rfl rfl ?_
  refine g_getI dX2_addClause_24 ff_X2_28 rfl (k_a) rfl ?_
  rw [gmi_In _ _ _ e1, h7]
  refine g_iload_n dX2_addClause_27 rfl rfl rfl ?_
  refine g_iast (i := cl) dX2_addClause_28 (k_a3) (l_a3) (by (try simp only [nI_lit, pk_mul, nI_add, Nat.zero_add]); exact nI_toInt (by omega)) (by omega) rfl ?_
  refine g_aload_n dX2_addClause_29 rfl rfl rfl ?_
  refine g_dup dX2_addClause_30 rfl rfl ?_
  refine g_getI dX2_addClause_31 ff_X2_28 rfl (k_a) rfl ?_
  rw [gmi_In _ _ _ e2, gmi_In _ _ _ e1, h7]
  refine g_iconst (v := 1) dX2_addClause_34 (by decide) rfl ?_
  refine g_iadd dX2_addClause_35 rfl ?_
  rw [nI_1]
  refine g_putI dX2_addClause_36 fp_X2_28 rfl rfl rfl (k_a) rfl ?_
  exact g_vret dX2_addClause_39 rfl (⟨rfl, ((gFr.wI (Or.inr (Or.inl rfl))).tr (gFr.wI (Or.inr (Or.inr rfl)))).tr (gFr.wI (Or.inl rfl)), ⟨LawAt_I (LawAt_I (LawAt_I h3)), h4, by rw [gmi_I, va_up_ne _ _ (by decide), gmi_In _ _ _ e2, gmi_In _ _ _ e1]; exact h5, fun j hj => by rw [gmi_In _ _ _ (show a + 1 ≠ a by omega), gmi_In _ _ _ (show a + 1 ≠ a + 3 by omega), gmi_In _ _ _ (show a + 1 ≠ a + 2 by omega)]; exact h6 j hj, by rw [gmi_I, va_up_self], by rw [gmi_I, va_up_ne _ _ (by decide), gmi_In _ _ _ e2, gmi_In _ _ _ e1]; exact h8⟩, by rw [gmi_In _ _ _ (show a + 2 ≠ a by omega), gmi_In _ _ _ (show a + 2 ≠ a + 3 by omega), gmi_I], by rw [gmi_In _ _ _ (show a + 3 ≠ a by omega), gmi_I, gmi_In _ _ _ (show a + 3 ≠ a + 2 by omega)]⟩)
/-- what reading a clause leaves -/
def PoC (M : gM) (a : Nat) (T : Nat → Nat) (L : Nat) (cs : List CL) (r : CR) : Option Value → gM → Prop := fun v M2 => v = some (.int (ib (r.1 = true))) ∧ gFr (scrR a) M M2 ∧ TC M2 T L r.2.1 ∧ (r.1 = true → DrC M2 a (cs ++ [r.2.2]))
theorem clG_app {cs : List CL} {c : CL} : clG (cs ++ [c]) = clG cs ++ (c.1 ++ c.2.1) := by
  unfold clG
  rw [List.flatMap_append]
  show _ ++ ((c.1 ++ c.2.1) ++ []) = _
  rw [List.append_nil]
theorem DrC_snoc {M2 : gM} {a : Nat} {cs : List CL} {c : CL} (h : DrC M a cs) (hl : cs.length < 61) (h1 : gmi M2 (a + 2) = va_up (gmi M (a + 2)) cs.length (nI (clG cs).length)) (h2 : gmi M2 (a + 3) = va_up (gmi M (a + 3)) cs.length (nI ((clG cs).length + c.1.length))) (hd : DrL M2 a (clG cs ++ (c.1 ++ c.2.1)) (cs.length + 1)) : DrC M2 a (cs ++ [c]) := by
  refine ⟨by rw [clG_app, List.length_append]; exact hd, by rw [List.length_append]; exact hl, fun j hj => ?_⟩
  rw [List.length_append] at hj
  have hj : j < cs.length + 1 := hj
  rw [h1, h2]
  by_cases e : j = cs.length
  · rw [e, va_up_self, va_up_self]
    unfold suF
    rw [coF_app (Nat.le_refl _), coF_all, getD_appR]
    exact ⟨rfl, rfl⟩
  · rw [va_up_ne _ _ e, va_up_ne _ _ e]
    unfold suF
    rw [coF_app (by omega), getD_appL (by omega)]
    exact h.2.2 j (by omega)
theorem PoC_fl {a p : Nat} {cs : List CL} {M2 : gM} (h : gFr (scrR a) M M2) (hT : TC M2 T L p) : PoC M a T L cs (flC p) (some (.int 0)) M2 := ⟨rfl, h, hT, fun q => absurd q Bool.false_ne_true⟩
/-- a CONDITION, and on: from the row 70 -/
theorem c_cond (hx : gXok X) (hZ : gSt X) {a : Nat} (ha : 200 ≤ a) {b : Int32} {e : Option LE} (hbe : b = 0 ∧ e = none ∨ b = 1 ∧ ∃ E, e = some E) {M0 : gM} {cs : List CL} {pre : List Nat} {x : Int32} (hc0 : DrC M0 a cs) (h61 : cs.length < 61) (hf1 : gFr (scrL a) M0 M) (h : TC M T L i) (hd : DrL M a (clG cs ++ pre) cs.length) (hG : (clG cs ++ pre).length ≤ i) :
    gW X (gRoom (d + 70) 0 0) (gZ X gN0 0 0 (PoC M0 a T L cs (cnP T L pre (cdB T L (loP T L 6) e i)))) gN0 yX3_readsClause cX3_readsClause 4 (some .boolean) 70 [(0, .ref 19), (1, .int (nI (clG cs).length)), (2, .int x), (3, .int b)] [] M 0 0 := by
  have hL := h.1
  have h240 := h.2.1.2.1
  have hJ : JOK X (d + 69) a 0 0 b T L (cdB T L (loP T L 6) e) := by
    rcases hbe with ⟨rfl, rfl⟩ | ⟨rfl, E, rfl⟩
    · obtain ⟨-, q, -, -⟩ := c_parts (E := fun _ => 0) (T := T) (L := L) hx hZ ha 6 (by decide) d
      exact q
    · obtain ⟨-, -, -, q⟩ := c_parts (E := E) (T := T) (L := L) hx hZ ha 6 (by decide) d
      exact q
  obtain ⟨hS, -, -, -⟩ := c_parts (E := fun _ => 0) (T := T) (L := L) hx hZ ha 6 (by decide) (d + 4)
  have hs1 := cdB_san (T := T) (b := e) (loP_san (T := T) (L := L) 6) i h.2.2.2
  unfold cnP
  refine g_aload_n dX3_readsClause_70 rfl rfl rfl ?_
  refine g_iconst (v := 0) dX3_readsClause_71 (by decide) rfl ?_
  refine g_iconst (v := 0) dX3_readsClause_72 (by decide) rfl ?_
  refine g_iload_n dX3_readsClause_73 rfl rfl rfl ?_
  refine g_callVq (ci := 3) dX3_readsClause_74 lm_X3_46 mv_X3_readsJoined (hJ h hd hG) rfl rfl (k19 hL) rfl rfl (Nat.le_of_ble_eq_true rfl) (gFit_room (by omega)) rfl (fun v M2 hQ => ?_)
  obtain ⟨rfl, hf⟩ := hQ
  obtain ⟨hf2, hC2, hD2⟩ := hf
  generalize cdB T L (loP T L 6) e i = r at *
  by_cases hr : r.1 = true
  · rw [if_pos hr, ib_t hr]
    have hd2 := hD2 hr
    have hs2 := hs1.2 hr
    refine g_if_eq (tgt := 92) dX3_readsClause_77 (by decide) rfl (fun h_ => absurd h_ (by decide)) (fun _ => ?_)
    refine g_aload_n dX3_readsClause_80 rfl rfl rfl ?_
    refine g_getR dX3_readsClause_81 ff_X3_18 rfl (k19 hC2.1) (r19_0 hC2.1) rfl ?_
    refine g_bipush (v := 63) dX3_readsClause_84 (by decide) rfl ?_
    refine g_callVq (ci := 7) dX3_readsClause_86 lm_X3_31 mv_X7_passed (c_passed (d := d + 68) hx hC2 (c := 63) (by decide)) rfl rfl (k1 hC2.1) rfl rfl (Nat.le_of_ble_eq_true rfl) (gFit_room (by omega)) rfl (fun v M2 hQ => ?_)
    obtain ⟨rfl, hf⟩ := hQ
    obtain ⟨hf3, hC3⟩ := hf
    have hd3 := hd2.t hf3 ha
    by_cases hz : isS T L r.2.1 63 = true
    · rw [ib_t hz, if_pos hz]
      rw [if_pos hz] at hC3
      have hzl := (isS_in hz).1
      have hgj := nxt_ge (T := T) (L := L) (i := r.2.1)
      have r_19_1 := hd3.2.1
      have k_a := hd3.1.1
      have hsm := smP_san (T := T) (loP_san (T := T) (L := L) 6) (nxt T L r.2.1 + 1) hzl
      refine g_if_ne (tgt := 94) dX3_readsClause_89 (by decide) rfl (fun _ => ?_) (fun h_ => absurd h_ (by decide))
      refine g_aload_n dX3_readsClause_94 rfl rfl rfl ?_
      refine g_getR dX3_readsClause_95 ff_X3_12 rfl (k19 hC3.1) (r_19_1) rfl ?_
      refine g_iload_n dX3_readsClause_98 rfl rfl rfl ?_
      refine g_aload_n dX3_readsClause_99 rfl rfl rfl ?_
      refine g_getR dX3_readsClause_100 ff_X3_12 rfl (k19 hC3.1) (r_19_1) rfl ?_
      refine g_getI dX3_readsClause_103 ff_X3_43 rfl (k_a) rfl ?_
      rw [hd3.2.2.1]
      refine g_callVq (ci := 2) dX3_readsClause_106 lm_X3_54 mv_X2_addClause (c_addClause (d := d + 69) hx hd3 h61) rfl rfl hd3.1.1 rfl rfl (Nat.le_of_ble_eq_true rfl) (gFit_room (by omega)) rfl (fun v M2 hQ => ?_)
      obtain ⟨rfl, hA, hB, hB1, hB2⟩ := hQ
      have hC4 := hC3.frc hA ha
      refine g_aload_n dX3_readsClause_109 rfl rfl rfl ?_
      refine g_iconst (v := 3) dX3_readsClause_110 (by decide) rfl ?_
      refine g_iconst (v := 0) dX3_readsClause_111 (by decide) rfl ?_
      refine g_iconst (v := 0) dX3_readsClause_112 (by decide) rfl ?_
      refine g_callVq (ci := 3) dX3_readsClause_113 lm_X3_46 mv_X3_readsJoined (hS hC4 hB (by rw [List.length_append, List.length_append] at *; omega)) rfl rfl (k19 hC4.1) rfl rfl (Nat.le_of_ble_eq_true rfl) (gFit_room (by omega)) rfl (fun v M2 hQ => ?_)
      obtain ⟨rfl, hf⟩ := hQ
      obtain ⟨hf5, hC5, hD5⟩ := hf
      generalize smP T L (loP T L 6) (nxt T L r.2.1 + 1) = v at *
      have hfr := (((scrRL hf1).tr (scrRL hf2)).tr (scrR1 hf3)).tr ((scrRC hA).tr (scrRL hf5))
      by_cases hv : v.1 = true
      · rw [if_pos hv, ib_t hv]
        have hd5 := hD5 hv
        have c2 : ∀ c, c = a + 2 ∨ c = a + 3 → ¬ scrL a c := fun c q z => by rcases q with q | q <;> rcases z with z | z | z <;> omega
        have c3 : ∀ c, c = a + 2 ∨ c = a + 3 → ¬ c = 1 := fun c q z => by rcases q with q | q <;> omega
        have m2 : ∀ c, (hc : c = a + 2 ∨ c = a + 3) → gmi M2 c = gmi M0 c → True := fun _ _ _ => trivial
        exact g_iret dX3_readsClause_116 rfl (by first | rfl | exact b01) ⟨rfl, hfr, hC5, fun _ => DrC_snoc hc0 h61 (by rw [hf5.2.2.2 _ (c2 _ (Or.inl rfl)), hB1, hf3.2.2.2 _ (c3 _ (Or.inl rfl)), hf2.2.2.2 _ (c2 _ (Or.inl rfl)), hf1.2.2.2 _ (c2 _ (Or.inl rfl))]) (by rw [hf5.2.2.2 _ (c2 _ (Or.inr rfl)), hB2, hf3.2.2.2 _ (c3 _ (Or.inr rfl)), hf2.2.2.2 _ (c2 _ (Or.inr rfl)), hf1.2.2.2 _ (c2 _ (Or.inr rfl)), List.append_assoc, List.length_append]) (by rw [← List.append_assoc, ← List.append_assoc]; exact hd5)⟩
      · rw [if_neg hv, ib_f hv]
        exact g_iret dX3_readsClause_116 rfl (by first | rfl | exact b01) (PoC_fl hfr hC5)
    · rw [ib_f hz, if_neg hz]
      rw [if_neg hz] at hC3
      refine g_if_ne (tgt := 94) dX3_readsClause_89 (by decide) rfl (fun h_ => absurd (by decide) h_) (fun _ => ?_)
      refine g_iconst (v := 0) dX3_readsClause_92 (by decide) rfl ?_
      exact g_iret dX3_readsClause_93 rfl (by first | rfl | exact b01) (PoC_fl (((scrRL hf1).tr (scrRL hf2)).tr (scrR1 hf3)) hC3)
  · rw [if_neg hr, ib_f hr]
    refine g_if_eq (tgt := 92) dX3_readsClause_77 (by decide) rfl (fun _ => ?_) (fun h_ => absurd (by decide) h_)
    refine g_iconst (v := 0) dX3_readsClause_92 (by decide) rfl ?_
    exact g_iret dX3_readsClause_93 rfl (by first | rfl | exact b01) (PoC_fl ((scrRL hf1).tr (scrRL hf2)) hC2)
end C1
