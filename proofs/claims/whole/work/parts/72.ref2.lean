def lch (s : Nat) : Nat := if s = 0 then 103 else if s = 1 then 115 else if s = 2 then 98 else if s = 3 then 110 else if s = 4 then 119 else 116
theorem lch_lof : ∀ t, t < 256 → lof t < 6 → lch (lof t) = t := by decide +kernel
/-- the letters -/
def LtR (M : gM) (lt : Nat → Int32) : Prop := ∀ s, s < 6 → gmi M 104 (lch s) = lt s
section F2
variable {X : gX} {M : gM} {d : Nat} {b nb off : Nat} {T : Nat → Nat} {L i : Nat} {lt : Nat → Int32}
theorem LtR.fr {M2 : gM} (h : LtR M lt) (hf : iFr M M2) : LtR M2 lt := fun s hs => by rw [hf.1.2.2.2 104 (by decide)]; exact h s hs
/-- what a part leaves: where it stands, all as it was but the place; else the fault's place -/
def RO (M : gM) (lt : Nat → Int32) (b nb off : Nat) (T : Nat → Nat) (L w : Nat) (r : PR) : Option Value → gM → Prop := fun v M2 => ∃ x, v = some (.int x) ∧ iFr M M2 ∧ (r.1 = true → PS M2 b nb off T L r.2.1 (-1) w ∧ x = r.2.2.2 lt) ∧ (¬ r.1 = true → gmi M2 100 11 = nI r.2.1 ∧ ¬ gmi M2 100 11 = -1)
def RB (M : gM) (lt : Nat → Int32) (b nb off : Nat) (T : Nat → Nat) (L w : Nat) (r : PR) : Option Value → gM → Prop := fun v M2 => ∃ x, v = some (.int x) ∧ iFr M M2 ∧ (r.1 = true → PS M2 b nb off T L r.2.1 (-1) w ∧ x = r.2.2.2 lt) ∧ (¬ r.1 = true → gmi M2 100 11 = nI r.2.1 ∧ ¬ gmi M2 100 11 = -1) ∧ (x = 0 ∨ x = 1)
theorem RO_fl {w p : Nat} {x : Int32} {M2 : gM} (hf : iFr M M2) (h : PS M2 b nb off T L i (nI p) w) (hp : p < 2 ^ 31) : RO M lt b nb off T L w (flP p) (some (.int x)) M2 := ⟨x, rfl, hf, fun q => absurd q Bool.false_ne_true, fun _ => ⟨h.2.2.2.1, by rw [h.2.2.2.1]; exact neg1 hp⟩⟩
theorem RO_f2 {w p : Nat} {x : Int32} {M2 : gM} (hf : iFr M M2) (h : gmi M2 100 11 = nI p ∧ ¬ gmi M2 100 11 = -1) : RO M lt b nb off T L w (flP p) (some (.int x)) M2 := ⟨x, rfl, hf, fun q => absurd q Bool.false_ne_true, fun _ => h⟩
theorem RB_f2 {w p : Nat} {x : Int32} {M2 : gM} (hf : iFr M M2) (h : gmi M2 100 11 = nI p ∧ ¬ gmi M2 100 11 = -1) (hx : x = 0 ∨ x = 1) : RB M lt b nb off T L w (flP p) (some (.int x)) M2 := ⟨x, rfl, hf, fun q => absurd q Bool.false_ne_true, fun _ => h, hx⟩
theorem PS.ft {w p : Nat} {M2 : gM} (h : PS M2 b nb off T L i (nI p) w) (hp : p < 2 ^ 31) : gmi M2 100 11 = nI p ∧ ¬ gmi M2 100 11 = -1 := ⟨h.2.2.2.1, by rw [h.2.2.2.1]; exact neg1 hp⟩
def SmOK (X : gX) (e b nb off : Nat) (T : Nat → Nat) (L w : Nat) (lt : Nat → Int32) (f : Nat → PR) : Prop := ∀ {M : gM} {i : Nat}, PS M b nb off T L i (-1) w → LtR M lt → gPos X e yX11_sum cX11_sum 5 (some .int) [.ref 100] M (RO M lt b nb off T L w (f i))
def AtOK (X : gX) (e b nb off : Nat) (T : Nat → Nat) (L w : Nat) (lt : Nat → Int32) (f : Nat → PR) : Prop := ∀ {M : gM} {i : Nat}, PS M b nb off T L i (-1) w → LtR M lt → gPos X e yX11_atom cX11_atom 4 (some .int) [.ref 100] M (RO M lt b nb off T L w (f i))
set_option maxRecDepth 20000 in
set_option maxHeartbeats 2000000 in
theorem r_atomN (hx : gXok X) {p w : Nat} {t : Int32} {M0 : gM} (h : PS M b nb off T L p (-1) w) (hf0 : iFr M0 M) (hp : nxt T L i = p) {R : PR} (hR : R = if (numP T L 4 0 9999 i).1 then (true, (numP T L 4 0 9999 i).2.1, [16 + (numP T L 4 0 9999 i).2.2], fun _ => nI (numP T L 4 0 9999 i).2.2) else flP (numP T L 4 0 9999 i).2.1) : gW X (gRoom (d + 1) 0 0) (gZ X gN0 0 0 (RO M0 lt b nb off T L w R)) gN0 yX11_atom cX11_atom 4 (some .int) 74 [(0, .ref 100), (1, .int t)] [] M 0 0 := by
  have hL := h.1.1
  have h240 := h.1.2.2.2.2.2.1.2.2.1
  have hpL := h.2.2.1
  unfold numP at hR
  rw [hp] at hR
  by_cases hd : dig T L p = true
  · rw [if_pos hd] at hR
    have hvb : (dgs T L 4 p 0).2 < 10000 := Nat.lt_of_lt_of_le dgs_v (by decide)
    have hdl := (dgs_le (T := T) (L := L) (n := 4) (p := p) (v := 0)).2 hpL
    rw [if_neg (show ¬ ((dgs T L 4 p 0).2 < 0 ∨ 9999 < (dgs T L 4 p 0).2) by omega)] at hR
    generalize hD : dgs T L 4 p 0 = D at hR hvb hdl
    have main : ∀ (n k q v : Nat) (M1 : gM), k + n = 4 → iFr M0 M1 → PS M1 b nb off T L q (-1) w → dgs T L n q v = D → gW X (gRoom (d + 1) 0 0) (gZ X gN0 0 0 (RO M0 lt b nb off T L w R)) gN0 yX11_atom cX11_atom 4 (some .int) 90 [(0, .ref 100), (1, .int t), (2, .int (nI v)), (3, .int (nI k))] [] M1 0 0 := by
      intro n
      induction n with
      | zero =>
        intro k q v M1 hk hf1 h1 hq
        have hq2 : D = (q, v) := hq.symm
        rw [hq2] at hR
        dsimp only at hR
        have hk4 : k = 4 := by omega
        subst hk4
        by_cases hdq : dig T L q = true
        · rw [if_pos hdq, if_neg Bool.false_ne_true] at hR
          have hqL := h1.2.2.1
          refine g_aload_n dX11_atom_90 rfl rfl rfl ?_
          refine g_callVdi (ci := 11) dX11_atom_91 lm_X11_162 mv_X11_isDigit (r_isDigit (d := d) hx h1) rfl rfl (k100 h1.1.1) rfl rfl (Nat.le_of_ble_eq_true rfl) (gFit_room (by omega)) rfl ?_
          rw [ib_t hdq]
          refine g_if_eq (tgt := 156) dX11_atom_94 (by decide) rfl (fun h_ => absurd h_ (by decide)) (fun _ => ?_)
          refine g_aload_n dX11_atom_97 rfl rfl rfl ?_
          refine g_getI dX11_atom_98 ff_X11_122 rfl (k100 h1.1.1) rfl ?_
          refine g_iconst (v := -1) dX11_atom_101 (by decide) rfl ?_
          rw [h1.2.2.2.1]
          refine g_icmp_ne (tgt := 156) dX11_atom_102 (by decide) rfl (fun h_ => absurd (rfl) h_) (fun _ => ?_)
          refine g_iload_n dX11_atom_105 rfl rfl rfl ?_
          refine g_iconst (v := 4) dX11_atom_106 (by decide) rfl ?_
          refine g_icmp_ne (tgt := 117) dX11_atom_107 (by decide) rfl (fun h_ => absurd (rfl) h_) (fun _ => ?_)
          refine g_aload_n dX11_atom_110 rfl rfl rfl ?_
          refine g_callVq (ci := 11) dX11_atom_111 lm_X11_128 mv_X11_fails (r_fails0 (d := d) hx h1) rfl rfl (k100 h1.1.1) rfl rfl (Nat.le_of_ble_eq_true rfl) (gFit_room (by omega)) rfl (fun v M2 hQ => ?_)
          obtain ⟨rfl, hf⟩ := hQ
          refine g_pop dX11_atom_114 rfl rfl ?_
          refine g_iconst (v := 0) dX11_atom_115 (by decide) rfl ?_
          exact g_iret dX11_atom_116 rfl (by first | rfl | exact b01) (hR ▸ RO_fl (hf1.tr hf.1) hf.2 (show q < 2 ^ 31 by omega))
        · rw [if_neg hdq, if_pos rfl] at hR
          refine g_aload_n dX11_atom_90 rfl rfl rfl ?_
          refine g_callVdi (ci := 11) dX11_atom_91 lm_X11_162 mv_X11_isDigit (r_isDigit (d := d) hx h1) rfl rfl (k100 h1.1.1) rfl rfl (Nat.le_of_ble_eq_true rfl) (gFit_room (by omega)) rfl ?_
          rw [ib_f hdq]
          refine g_if_eq (tgt := 156) dX11_atom_94 (by decide) rfl (fun _ => ?_) (fun h_ => absurd (by decide) h_)
          refine g_iload_n dX11_atom_156 rfl rfl rfl ?_
          exact g_iret dX11_atom_157 rfl (by first | rfl | exact b01) (hR ▸ ⟨_, rfl, hf1, fun _ => ⟨h1, rfl⟩, fun z => absurd rfl z⟩)
      | succ n ih =>
        intro k q v M1 hk hf1 h1 hq
        unfold dgs at hq
        by_cases hdq : dig T L q = true
        · rw [if_pos hdq] at hq
          have hql := dig_lt hdq
          obtain ⟨hL1, r_100_5, ⟨k_b, l_b⟩, e8, e9, hb, hT⟩ := id h1.1
          have hby := (by_32 (T q) (hT q hql.1).2.2).2.2 hql.2.1 (by omega)
          refine g_aload_n dX11_atom_90 rfl rfl rfl ?_
          refine g_callVdi (ci := 11) dX11_atom_91 lm_X11_162 mv_X11_isDigit (r_isDigit (d := d) hx h1) rfl rfl (k100 h1.1.1) rfl rfl (Nat.le_of_ble_eq_true rfl) (gFit_room (by omega)) rfl ?_
          rw [ib_t hdq]
          refine g_if_eq (tgt := 156) dX11_atom_94 (by decide) rfl (fun h_ => absurd h_ (by decide)) (fun _ => ?_)
          refine g_aload_n dX11_atom_97 rfl rfl rfl ?_
          refine g_getI dX11_atom_98 ff_X11_122 rfl (k100 h1.1.1) rfl ?_
          refine g_iconst (v := -1) dX11_atom_101 (by decide) rfl ?_
          rw [h1.2.2.2.1]
          refine g_icmp_ne (tgt := 156) dX11_atom_102 (by decide) rfl (fun h_ => absurd (rfl) h_) (fun _ => ?_)
          refine g_iload_n dX11_atom_105 rfl rfl rfl ?_
          refine g_iconst (v := 4) dX11_atom_106 (by decide) rfl ?_
          refine g_icmp_ne (tgt := 117) dX11_atom_107 (by decide) rfl (fun _ => ?_) (fun h_ => absurd h_ (fun z => absurd ((qeq k 4 rfl rfl (by omega) (by decide)).mp z) (by omega)))
          refine g_bipush (v := 10) dX11_atom_117 (by decide) rfl ?_
          refine g_iload_n dX11_atom_119 rfl rfl rfl ?_
          refine g_imul dX11_atom_120 rfl ?_
          refine g_aload_n dX11_atom_121 rfl rfl rfl ?_
          refine g_getR dX11_atom_122 ff_X11_23 rfl (k100 h1.1.1) (r_100_5) rfl ?_
          refine g_aload_n dX11_atom_125 rfl rfl rfl ?_
          refine g_getI dX11_atom_126 ff_X11_119 rfl (k100 h1.1.1) rfl ?_
          refine g_aload_n dX11_atom_129 rfl rfl rfl ?_
          refine g_getI dX11_atom_130 ff_X11_113 rfl (k100 h1.1.1) rfl ?_
          rw [e8, h1.2.1]
          refine g_iadd dX11_atom_133 rfl ?_
          refine g_bald (i := (off + q)) dX11_atom_134 (k_b) (l_b) ((h1.1.byte hql.1 rfl).1) ((h1.1.byte hql.1 rfl).2) rfl ?_
          rw [(hT q hql.1).1, hby.2]
          refine g_iadd dX11_atom_135 rfl ?_
          refine g_bipush (v := 48) dX11_atom_136 (by decide) rfl ?_
          refine g_isub dX11_atom_138 rfl ?_
          rw [show (10 : Int32) = nI 10 from rfl, show (48 : Int32) = nI 48 from rfl, pk_mul, nI_add, pk_sub (by omega)]
          refine g_istore_n dX11_atom_139 rfl (by decide) rfl ?_
          refine g_aload_n dX11_atom_140 rfl rfl rfl ?_
          refine g_dup dX11_atom_141 rfl rfl ?_
          refine g_getI dX11_atom_142 ff_X11_113 rfl (k100 h1.1.1) rfl ?_
          refine g_iconst (v := 1) dX11_atom_145 (by decide) rfl ?_
          refine g_iadd dX11_atom_146 rfl ?_
          rw [h1.2.1, nI_1]
          refine g_putI dX11_atom_147 fp_X11_113 rfl rfl rfl (k100 h1.1.1) rfl ?_
          refine g_iincV (c := 1) dX11_atom_150 rfl (by decide) (by decide) rfl ?_
          refine g_goto (tgt := 90) dX11_atom_153 (by decide) ?_
          exact g_go (ih (k + 1) (q + 1) (v * 10 + T q - 48) _ (by omega) (hf1.tr (iFr.put (Or.inl rfl))) (h1.at (by omega)) hq) ⟨rfl, rfl, by rw [Nat.mul_comm v 10]; rfl, by rw [← nI_1 k]; rfl, trivial⟩
        · rw [if_neg hdq] at hq
          rw [← hq] at hR
          dsimp only at hR
          rw [if_neg hdq, if_pos rfl] at hR
          refine g_aload_n dX11_atom_90 rfl rfl rfl ?_
          refine g_callVdi (ci := 11) dX11_atom_91 lm_X11_162 mv_X11_isDigit (r_isDigit (d := d) hx h1) rfl rfl (k100 h1.1.1) rfl rfl (Nat.le_of_ble_eq_true rfl) (gFit_room (by omega)) rfl ?_
          rw [ib_f hdq]
          refine g_if_eq (tgt := 156) dX11_atom_94 (by decide) rfl (fun _ => ?_) (fun h_ => absurd (by decide) h_)
          refine g_iload_n dX11_atom_156 rfl rfl rfl ?_
          exact g_iret dX11_atom_157 rfl (by first | rfl | exact b01) (hR ▸ ⟨_, rfl, hf1, fun _ => ⟨h1, rfl⟩, fun z => absurd rfl z⟩)
    refine g_aload_n dX11_atom_74 rfl rfl rfl ?_
    refine g_callVdi (ci := 11) dX11_atom_75 lm_X11_162 mv_X11_isDigit (r_isDigit (d := d) hx h) rfl rfl (k100 hL) rfl rfl (Nat.le_of_ble_eq_true rfl) (gFit_room (by omega)) rfl ?_
    rw [ib_t hd]
    refine g_if_ne (tgt := 86) dX11_atom_78 (by decide) rfl (fun _ => ?_) (fun h_ => absurd h_ (by decide))
    refine g_iconst (v := 0) dX11_atom_86 (by decide) rfl ?_
    refine g_istore_n dX11_atom_87 rfl (by decide) rfl ?_
    refine g_iconst (v := 0) dX11_atom_88 (by decide) rfl ?_
    refine g_istore_n dX11_atom_89 rfl (by decide) rfl ?_
    exact g_go (main 4 0 p 0 M rfl hf0 h hD) ⟨rfl, rfl, rfl, rfl, trivial⟩
  · rw [if_neg hd, if_neg Bool.false_ne_true] at hR
    refine g_aload_n dX11_atom_74 rfl rfl rfl ?_
    refine g_callVdi (ci := 11) dX11_atom_75 lm_X11_162 mv_X11_isDigit (r_isDigit (d := d) hx h) rfl rfl (k100 hL) rfl rfl (Nat.le_of_ble_eq_true rfl) (gFit_room (by omega)) rfl ?_
    rw [ib_f hd]
    refine g_if_ne (tgt := 86) dX11_atom_78 (by decide) rfl (fun h_ => absurd (by decide) h_) (fun _ => ?_)
    refine g_aload_n dX11_atom_81 rfl rfl rfl ?_
    refine g_callVq (ci := 11) dX11_atom_82 lm_X11_128 mv_X11_fails (r_fails0 (d := d) hx h) rfl rfl (k100 hL) rfl rfl (Nat.le_of_ble_eq_true rfl) (gFit_room (by omega)) rfl (fun v M2 hQ => ?_)
    obtain ⟨rfl, hf⟩ := hQ
    refine g_pop dX11_atom_85 rfl rfl ?_
    obtain ⟨hf1, h1⟩ := hf
    refine g_iconst (v := 0) dX11_atom_86 (by decide) rfl ?_
    refine g_istore_n dX11_atom_87 rfl (by decide) rfl ?_
    refine g_iconst (v := 0) dX11_atom_88 (by decide) rfl ?_
    refine g_istore_n dX11_atom_89 rfl (by decide) rfl ?_
    refine g_aload_n dX11_atom_90 rfl rfl rfl ?_
    refine g_callVdi (ci := 11) dX11_atom_91 lm_X11_162 mv_X11_isDigit (r_isDigit (d := d) hx h1) rfl rfl (k100 h1.1.1) rfl rfl (Nat.le_of_ble_eq_true rfl) (gFit_room (by omega)) rfl ?_
    rw [ib_f hd]
    refine g_if_eq (tgt := 156) dX11_atom_94 (by decide) rfl (fun _ => ?_) (fun h_ => absurd (by decide) h_)
    refine g_iload_n dX11_atom_156 rfl rfl rfl ?_
    exact g_iret dX11_atom_157 rfl (by first | rfl | exact b01) (hR ▸ RO_fl (hf0.tr hf1) h1 (show p < 2 ^ 31 by omega))
set_option maxRecDepth 20000 in
set_option maxHeartbeats 2000000 in
theorem r_atom (hx : gXok X) (hZ : gSt X) {w : Nat} {o : LO} (ho : SanO L o) (h6 : o = none → w = 6) (hS : ∀ q, o = some q → w < 6 ∧ SmOK X (d + 4) b nb off T L (w + 1) lt q.1) : AtOK X (d + 5) b nb off T L w lt (atP T L o) := by
  intro M i h hlt
  have hL := h.1.1
  have h240 := h.1.2.2.2.2.2.1.2.2.1
  refine gMet.of hx (by decide) (Nat.le_of_ble_eq_true rfl) ?_
  unfold atP
  refine g_aload_n dX11_atom_0 rfl rfl rfl ?_
  refine g_callVq (ci := 11) dX11_atom_1 lm_X11_132 mv_X11_look (r_look (d := d + 4) hx h) rfl rfl (k100 hL) rfl rfl (Nat.le_of_ble_eq_true rfl) (gFit_room (by omega)) rfl (fun v M2 hQ => ?_)
  obtain ⟨rfl, hf⟩ := hQ
  obtain ⟨hf1, h1⟩ := hf
  have hnL := nxt_le (T := T) h.2.2.1
  have ham := amg_le (p := nxt T L i) h
  have h91 := h.is (j := i) (c := 91) (by decide)
  generalize hp : nxt T L i = p at *
  refine g_istore_n dX11_atom_4 rfl (by decide) rfl ?_
  refine g_ldcS (i := 2) dX11_atom_5 hZ (List.mem_of_getElem? (i := 5) rfl) rfl ?_
  refine g_iload_n dX11_atom_7 rfl rfl rfl ?_
  refine g_callSdi dX11_atom_8 lm_X11_148 mv_X11_isAmong (r_isAmong (d := d) hx hZ (k := 2) (by decide)) rfl rfl (Nat.le_of_ble_eq_true rfl) (gFit_room (by omega)) rfl ?_
  rw [ham]
  by_cases hle : leP T L p < 6
  · rw [if_pos hle, decide_eq_true hle, ib_tt]
    have hpL := leP_in hle
    have hT := (h1.1.2.2.2.2.2.2 p hpL).2
    have hlo : leP T L p = lof (T p) := if_pos hpL
    rw [show sgn T L p = nI (T p) from if_pos hpL]
    have hlc : gmi M2 104 (T p) = lt (leP T L p) := by
      have := hlt.fr hf1 (leP T L p) hle
      rw [hlo, lch_lof _ hT.2 (by rw [← hlo]; exact hle)] at this
      rw [hlo]; exact this
    have h128 : T p < 128 := by
      have := lch_lof _ hT.2 (by rw [← hlo]; exact hle)
      have h2 : lch (lof (T p)) < 128 := by unfold lch; (repeat' split) <;> decide
      omega
    refine g_if_eq (tgt := 31) dX11_atom_11 (by decide) rfl (fun h_ => absurd h_ (by decide)) (fun _ => ?_)
    refine g_aload_n dX11_atom_14 rfl rfl rfl ?_
    refine g_dup dX11_atom_15 rfl rfl ?_
    refine g_getI dX11_atom_16 ff_X11_113 rfl (k100 h1.1.1) rfl ?_
    refine g_iconst (v := 1) dX11_atom_19 (by decide) rfl ?_
    refine g_iadd dX11_atom_20 rfl ?_
    rw [h1.2.1, nI_1]
    refine g_putI dX11_atom_21 fp_X11_113 rfl rfl rfl (k100 h1.1.1) rfl ?_
    refine g_aload_n dX11_atom_24 rfl rfl rfl ?_
    refine g_getR dX11_atom_25 ff_X11_20 rfl (k100 (gLay_I h1.1.1)) (r100_4 (gLay_I h1.1.1)) rfl ?_
    refine g_iload_n dX11_atom_28 rfl rfl rfl ?_
    refine g_iald (i := (T p)) dX11_atom_29 (k104 (gLay_I h1.1.1)) (l104 (gLay_I h1.1.1)) (nI_toInt (by omega)) h128 rfl ?_
    rw [gmi_In _ _ _ (show 104 ≠ 100 by decide), hlc]
    exact g_iret dX11_atom_30 rfl (by first | rfl | exact b01) (⟨_, rfl, hf1.tr (iFr.put (Or.inl rfl)), fun _ => ⟨h1.at (by omega), rfl⟩, fun z => absurd rfl z⟩)
  · rw [if_neg hle, decide_eq_false hle, ib_ff]
    by_cases hs : isS T L i 91 = true
    · rw [if_pos hs, h91.mp hs]
      have hpL : p < L := by rw [← hp]; exact (isS_in hs).1
      cases o with
      | none =>
        have hw := h6 rfl
        subst hw
        refine g_if_eq (tgt := 31) dX11_atom_11 (by decide) rfl (fun _ => ?_) (fun h_ => absurd (by decide) h_)
        refine g_iload_n dX11_atom_31 rfl rfl rfl ?_
        refine g_bipush (v := 91) dX11_atom_32 (by decide) rfl ?_
        refine g_icmp_ne (tgt := 74) dX11_atom_34 (by decide) rfl (fun h_ => absurd (by decide) h_) (fun _ => ?_)
        refine g_aload_n dX11_atom_37 rfl rfl rfl ?_
        refine g_callVq (ci := 11) dX11_atom_38 lm_X11_152 mv_X11_goesIn (r_goesIn6 (d := d + 3) hx h1) rfl rfl (k100 h1.1.1) rfl rfl (Nat.le_of_ble_eq_true rfl) (gFit_room (by omega)) rfl (fun v M2 hQ => ?_)
        obtain ⟨rfl, hf⟩ := hQ
        refine g_if_ne (tgt := 46) dX11_atom_41 (by decide) rfl (fun h_ => absurd (by decide) h_) (fun _ => ?_)
        refine g_iconst (v := 0) dX11_atom_44 (by decide) rfl ?_
        exact g_iret dX11_atom_45 rfl (by first | rfl | exact b01) (RO_fl (hf1.tr hf.1) hf.2 (by omega))
      | some q =>
        obtain ⟨hw, hS1⟩ := hS q rfl
        show gW _ _ (gZ X gN0 0 0 (RO M lt b nb off T L w (clP T L 93 (q.1 (p + 1))))) _ _ _ _ _ _ _ _ _ _ _
        have hsan := (ho q rfl).1 (p + 1) hpL
        refine g_if_eq (tgt := 31) dX11_atom_11 (by decide) rfl (fun _ => ?_) (fun h_ => absurd (by decide) h_)
        refine g_iload_n dX11_atom_31 rfl rfl rfl ?_
        refine g_bipush (v := 91) dX11_atom_32 (by decide) rfl ?_
        refine g_icmp_ne (tgt := 74) dX11_atom_34 (by decide) rfl (fun h_ => absurd (by decide) h_) (fun _ => ?_)
        refine g_aload_n dX11_atom_37 rfl rfl rfl ?_
        refine g_callVq (ci := 11) dX11_atom_38 lm_X11_152 mv_X11_goesIn (r_goesIn (d := d + 3) hx h1 hpL hw) rfl rfl (k100 h1.1.1) rfl rfl (Nat.le_of_ble_eq_true rfl) (gFit_room (by omega)) rfl (fun v M2 hQ => ?_)
        obtain ⟨rfl, hf⟩ := hQ
        refine g_if_ne (tgt := 46) dX11_atom_41 (by decide) rfl (fun _ => ?_) (fun h_ => absurd h_ (by decide))
        obtain ⟨hf2, h2⟩ := hf
        refine g_aload_n dX11_atom_46 rfl rfl rfl ?_
        refine g_callVq (ci := 11) dX11_atom_47 lm_X11_155 mv_X11_sum (hS1 h2 (hlt.fr (hf1.tr hf2))) rfl rfl (k100 h2.1.1) rfl rfl (Nat.le_of_ble_eq_true rfl) (gFit_room (by omega)) rfl (fun v M2 hQ => ?_)
        obtain ⟨xr, rfl, hf⟩ := hQ
        obtain ⟨hf3, hok, hbad⟩ := hf
        unfold clP
        generalize q.1 (p + 1) = r at *
        by_cases hr : r.1 = true
        · rw [if_pos hr]
          obtain ⟨h3, rfl⟩ := hok hr
          have his := h3.is (j := r.2.1) (c := 93) (by decide)
          have hnr := nxt_le (T := T) h3.2.2.1
          refine g_istore_n dX11_atom_50 rfl (by decide) rfl ?_
          refine g_aload_n dX11_atom_51 rfl rfl rfl ?_
          refine g_bipush (v := 93) dX11_atom_52 (by decide) rfl ?_
          refine g_callVq (ci := 11) dX11_atom_54 lm_X11_158 mv_X11_takes (r_takes0 (d := d + 3) hx h3 (c := 93) (by decide)) rfl rfl (k100 h3.1.1) rfl rfl (Nat.le_of_ble_eq_true rfl) (gFit_room (by omega)) rfl (fun v M2 hQ => ?_)
          obtain ⟨rfl, hf⟩ := hQ
          obtain ⟨hf4, hy, hn⟩ := hf
          by_cases hc : isS T L r.2.1 93 = true
          · rw [if_pos hc, ib_t hc]
            have h4 := hy hc
            refine g_if_ne (tgt := 62) dX11_atom_57 (by decide) rfl (fun _ => ?_) (fun h_ => absurd h_ (by decide))
            refine g_aload_n dX11_atom_62 rfl rfl rfl ?_
            refine g_dup dX11_atom_63 rfl rfl ?_
            refine g_getI dX11_atom_64 ff_X11_125 rfl (k100 h4.1.1) rfl ?_
            refine g_iconst (v := 1) dX11_atom_67 (by decide) rfl ?_
            refine g_isub dX11_atom_68 rfl ?_
            rw [h4.2.2.2.2, nI_pred]
            refine g_putI dX11_atom_69 fp_X11_125 rfl rfl rfl (k100 h4.1.1) rfl ?_
            refine g_iload_n dX11_atom_72 rfl rfl rfl ?_
            exact g_iret dX11_atom_73 rfl (by first | rfl | exact b01) (⟨_, rfl, (((hf1.tr hf2).tr hf3).tr hf4).tr (iFr.put (Or.inr (Or.inr rfl))), fun _ => ⟨h4.dp, rfl⟩, fun z => absurd rfl z⟩)
          · rw [if_neg hc, ib_f hc]
            have h4 := hn hc
            refine g_if_ne (tgt := 62) dX11_atom_57 (by decide) rfl (fun h_ => absurd (by decide) h_) (fun _ => ?_)
            refine g_iconst (v := 0) dX11_atom_60 (by decide) rfl ?_
            exact g_iret dX11_atom_61 rfl (by first | rfl | exact b01) (RO_f2 (((hf1.tr hf2).tr hf3).tr hf4) (h4.ft (by omega)))
        · rw [if_neg hr]
          have h3 := hbad hr
          refine g_istore_n dX11_atom_50 rfl (by decide) rfl ?_
          refine g_aload_n dX11_atom_51 rfl rfl rfl ?_
          refine g_bipush (v := 93) dX11_atom_52 (by decide) rfl ?_
          refine g_callVdi (ci := 11) dX11_atom_54 lm_X11_158 mv_X11_takes (r_takes1 (d := d + 3) hx (hf3.1.lay h2.1.1) h3.2) rfl rfl (k100 (hf3.1.lay h2.1.1)) rfl rfl (Nat.le_of_ble_eq_true rfl) (gFit_room (by omega)) rfl ?_
          refine g_if_ne (tgt := 62) dX11_atom_57 (by decide) rfl (fun h_ => absurd (by decide) h_) (fun _ => ?_)
          refine g_iconst (v := 0) dX11_atom_60 (by decide) rfl ?_
          exact g_iret dX11_atom_61 rfl (by first | rfl | exact b01) (RO_f2 ((hf1.tr hf2).tr hf3) h3)
    · rw [if_neg hs]
      refine g_if_eq (tgt := 31) dX11_atom_11 (by decide) rfl (fun _ => ?_) (fun h_ => absurd (by decide) h_)
      refine g_iload_n dX11_atom_31 rfl rfl rfl ?_
      refine g_bipush (v := 91) dX11_atom_32 (by decide) rfl ?_
      refine g_icmp_ne (tgt := 74) dX11_atom_34 (by decide) rfl (fun _ => ?_) (fun h_ => absurd h_ (fun z => hs (h91.mpr z)))
      exact g_go (r_atomN (d := d + 4) (i := i) hx h1 hf1 hp rfl) ⟨rfl, rfl, trivial⟩
end F2
