section F7
variable {X : gX} {M : gM} {d : Nat} {b nb off : Nat} {T : Nat → Nat} {L i : Nat} {lt : Nat → Int32}
def cFr (M M2 : gM) : Prop := gFr (fun c => c = 100) M M2 ∧ ∀ j, j ≠ 10 → j ≠ 11 → j ≠ 12 → j ≠ 14 → j ≠ 17 → gmi M2 100 j = gmi M 100 j
theorem iFr.c {M2 : gM} (h : iFr M M2) : cFr M M2 := ⟨h.1, fun j a b c _ _ => h.2 j a b c⟩
theorem cFr.tr {M1 M2 M3 : gM} (h : cFr M1 M2) (h2 : cFr M2 M3) : cFr M1 M3 := ⟨h.1.tr h2.1, fun j a b c e f => (h2.2 j a b c e f).trans (h.2 j a b c e f)⟩
theorem cFr.put {j : Nat} {v : Int32} (h : j = 14 ∨ j = 17) : cFr M (gwI M 100 j v) := ⟨gFr.wI rfl, fun q a b c e f => by rw [gmi_I, va_up_ne _ _ (by omega)]⟩
theorem RS.cfr {M2 : gM} (h : RS M b nb off T L) (hf : cFr M M2) : RS M2 b nb off T L := by
  obtain ⟨h1, h2, h3, h4, h5, h6, h7⟩ := h
  exact ⟨hf.1.lay h1, by rw [hf.1.2.1]; exact h2, by rw [(hf.1.1 b).1, (hf.1.1 b).2]; exact h3, by rw [hf.2 8 (by decide) (by decide) (by decide) (by decide) (by decide)]; exact h4, by rw [hf.2 9 (by decide) (by decide) (by decide) (by decide) (by decide)]; exact h5, h6, fun k hk => by rw [hf.1.2.2.2 b h6.2.2.2]; exact h7 k hk⟩
theorem PS.pf {f : Int32} {w j : Nat} {v : Int32} (h : PS M b nb off T L i f w) (hj : j = 14 ∨ j = 17) : PS (gwI M 100 j v) b nb off T L i f w := ⟨h.1.cfr (cFr.put hj), by rw [gmi_I, va_up_ne _ _ (by omega)]; exact h.2.1, h.2.2.1, by rw [gmi_I, va_up_ne _ _ (by omega)]; exact h.2.2.2.1, by rw [gmi_I, va_up_ne _ _ (by omega)]; exact h.2.2.2.2⟩
theorem LtR.cfr {M2 : gM} (h : LtR M lt) (hf : cFr M M2) : LtR M2 lt := fun s hs => by rw [hf.1.2.2.2 104 (by decide)]; exact h s hs
/-- what a clause leaves -/
def CO (M : gM) (lt : Nat → Int32) (b nb off : Nat) (T : Nat → Nat) (L : Nat) (r : CR) : Option Value → gM → Prop := fun v M2 => v = none ∧ cFr M M2 ∧ (r.1 = true → PS M2 b nb off T L r.2.1 (-1) 0 ∧ gmi M2 100 17 = (if gmi M 100 17 = 0 ∧ r.2.2.2.2.1 lt ≠ 0 then 1 else gmi M 100 17) ∧ gmi M2 100 14 = (if gmi M 100 17 = 0 ∧ r.2.2.2.2.1 lt ≠ 0 then r.2.2.2.2.2 lt else gmi M 100 14)) ∧ (¬ r.1 = true → gmi M2 100 11 = nI r.2.1 ∧ ¬ gmi M2 100 11 = -1)
theorem CO_fl {p : Nat} {M2 : gM} (hf : cFr M M2) (h : gmi M2 100 11 = nI p ∧ ¬ gmi M2 100 11 = -1) : CO M lt b nb off T L (flC p) none M2 := ⟨rfl, hf, fun q => absurd q Bool.false_ne_true, fun _ => h⟩
/-- the end of a clause that stands there -/
theorem r_cl134 (hx : gXok X) {M0 : gM} {p : Nat} {cc cs : List Nat} {B V : LE} {is : Int32} (hF : iFr M0 M) (h : PS M b nb off T L p (-1) 0) (hlab : gmi M0 100 13 = 121) (his : is = B lt) : gW X (gRoom d 0 0) (gZ X gN0 0 0 (CO M0 lt b nb off T L (true, p, cc, cs, B, V))) gN0 yX11_clause cX11_clause 5 none 134 [(0, .ref 100), (1, .int 121), (2, .int is), (3, .int (V lt))] [] M 0 0 := by
  subst his
  have e17 : gmi M 100 17 = gmi M0 100 17 := hF.2 17 (by decide) (by decide) (by decide)
  have e14 : gmi M 100 14 = gmi M0 100 14 := hF.2 14 (by decide) (by decide) (by decide)
  have e13 : gmi M 100 13 = 121 := by rw [hF.2 13 (by decide) (by decide) (by decide)]; exact hlab
  have hL := h.1.1
  refine g_aload_n dX11_clause_134 rfl rfl rfl ?_
  refine g_getI dX11_clause_135 ff_X11_122 rfl (k100 hL) rfl ?_
  refine g_iconst (v := -1) dX11_clause_138 (by decide) rfl ?_
  rw [h.2.2.2.1]
  refine g_icmp_ne (tgt := 161) dX11_clause_139 (by decide) rfl (fun h_ => absurd (rfl) h_) (fun _ => ?_)
  refine g_aload_n dX11_clause_142 rfl rfl rfl ?_
  refine g_getI dX11_clause_143 ff_X11_191 rfl (k100 hL) rfl ?_
  rw [e17]
  refine g_if_ne (tgt := 161) dX11_clause_146 (by decide) rfl (fun h146 => ?_) (fun h146 => ?_)
  · exact g_vret dX11_clause_161 rfl (⟨rfl, hF.c, fun _ => ⟨h, by dsimp only; rw [if_neg (fun z => by first | exact h146 z.1 | exact z.2 h158), e17], by dsimp only; rw [if_neg (fun z => by first | exact h146 z.1 | exact z.2 h158), e14]⟩, fun z => absurd rfl z⟩)
  · refine g_iload_n dX11_clause_149 rfl rfl rfl ?_
    refine g_aload_n dX11_clause_150 rfl rfl rfl ?_
    refine g_getI dX11_clause_151 ff_X11_195 rfl (k100 hL) rfl ?_
    rw [e13]
    refine g_icmp_ne (tgt := 161) dX11_clause_154 (by decide) rfl (fun h_ => absurd (rfl) h_) (fun _ => ?_)
    refine g_iload_n dX11_clause_157 rfl rfl rfl ?_
    refine g_if_ne (tgt := 162) dX11_clause_158 (by decide) rfl (fun h158 => ?_) (fun h158 => ?_)
    · refine g_aload_n dX11_clause_162 rfl rfl rfl ?_
      refine g_iconst (v := 1) dX11_clause_163 (by decide) rfl ?_
      refine g_putI dX11_clause_164 fp_X11_191 rfl rfl rfl (k100 hL) rfl ?_
      refine g_aload_n dX11_clause_167 rfl rfl rfl ?_
      refine g_iload_n dX11_clause_168 rfl rfl rfl ?_
      refine g_putI dX11_clause_169 fp_X11_198 rfl rfl rfl (k100 (gLay_I hL)) rfl ?_
      exact g_vret dX11_clause_172 rfl (⟨rfl, (hF.c.tr (cFr.put (Or.inr rfl))).tr (cFr.put (Or.inl rfl)), fun _ => ⟨(h.pf (Or.inr rfl)).pf (Or.inl rfl), by dsimp only; rw [if_pos ⟨h146, h158⟩, gmi_I, va_up_ne _ _ (by decide), gmi_I, va_up_self], by dsimp only; rw [if_pos ⟨h146, h158⟩, gmi_I, va_up_self]⟩, fun z => absurd rfl z⟩)
    · exact g_vret dX11_clause_161 rfl (⟨rfl, hF.c, fun _ => ⟨h, by dsimp only; rw [if_neg (fun z => by first | exact h146 z.1 | exact z.2 h158), e17], by dsimp only; rw [if_neg (fun z => by first | exact h146 z.1 | exact z.2 h158), e14]⟩, fun z => absurd rfl z⟩)
/-- behind a fault -/
theorem r_cl134f (hx : gXok X) {M0 : gM} {p : Nat} {is v o : Int32} (hF : iFr M0 M) (hL : gLay M) (h : gmi M 100 11 = nI p ∧ ¬ gmi M 100 11 = -1) : gW X (gRoom d 0 0) (gZ X gN0 0 0 (CO M0 lt b nb off T L (flC p))) gN0 yX11_clause cX11_clause 5 none 134 [(0, .ref 100), (1, .int o), (2, .int is), (3, .int v)] [] M 0 0 := by
  refine g_aload_n dX11_clause_134 rfl rfl rfl ?_
  refine g_getI dX11_clause_135 ff_X11_122 rfl (k100 hL) rfl ?_
  refine g_iconst (v := -1) dX11_clause_138 (by decide) rfl ?_
  refine g_icmp_ne (tgt := 161) dX11_clause_139 (by decide) rfl (fun _ => ?_) (fun h_ => absurd h_ (h.2))
  exact g_vret dX11_clause_161 rfl (CO_fl hF.c h)
set_option maxRecDepth 20000 in
set_option maxHeartbeats 2000000 in
theorem r_clause (hx : gXok X) (hZ : gSt X) (h : PS M b nb off T L i (-1) 0) (hlt : LtR M lt) (hlab : gmi M 100 13 = 121) : gPos X (d + 30) yX11_clause cX11_clause 5 none [.ref 100] M (CO M lt b nb off T L (yP T L i)) := by
  have hL := h.1.1
  have h240 := h.1.2.2.2.2.2.1.2.2.1
  refine gMet.of hx (by decide) (Nat.le_of_ble_eq_true rfl) ?_
  obtain ⟨hS0, hC0, -, -⟩ := r_parts (b := b) (nb := nb) (off := off) (T := T) (L := L) (lt := lt) (E := fun _ => 0) hx hZ 6 (by decide) d
  have hS : SmOK X (d + 29) b nb off T L 0 lt (smP T L (loP T L 6)) := by
    obtain ⟨q, -⟩ := r_parts (b := b) (nb := nb) (off := off) (T := T) (L := L) (lt := lt) (E := fun _ => 0) hx hZ 6 (by decide) (d + 4)
    exact @q
  have hC : CdOK X (d + 29) b nb off T L 0 lt 0 0 (cdB T L (loP T L 6) none) := @hC0
  have hC1 : ∀ E : LE, CdOK X (d + 29) b nb off T L 0 lt 1 (E lt) (cdB T L (loP T L 6) (some E)) := by
    intro E
    obtain ⟨-, -, -, q⟩ := r_parts (b := b) (nb := nb) (off := off) (T := T) (L := L) (lt := lt) (E := E) hx hZ 6 (by decide) d
    exact @q
  clear hS0 hC0
  -- a condition r has been read (pre its first signs): what comes behind it, at the row 71 or 119
  unfold yP
  refine g_aload_n dX11_clause_0 rfl rfl rfl ?_
  refine g_callVq (ci := 11) dX11_clause_1 lm_X11_132 mv_X11_look (r_look (d := d + 29) hx h) rfl rfl (k100 hL) rfl rfl (Nat.le_of_ble_eq_true rfl) (gFit_room (by omega)) rfl (fun v M2 hQ => ?_)
  obtain ⟨rfl, hf1, h1⟩ := hQ
  have hnL := nxt_le (T := T) h.2.2.1
  have ham := amg_y h
  refine g_istore_n dX11_clause_4 rfl (by decide) rfl ?_
  refine g_ldcS (i := 4) dX11_clause_5 hZ (List.mem_of_getElem? (i := 4) rfl) rfl ?_
  refine g_iload_n dX11_clause_7 rfl rfl rfl ?_
  refine g_callSdi dX11_clause_8 lm_X11_148 mv_X11_isAmong (r_isAmong (d := d + 25) hx hZ (k := 4) (by decide)) rfl rfl (Nat.le_of_ble_eq_true rfl) (gFit_room (by omega)) rfl ?_
  rw [ham]
  by_cases hy : isS T L i 121 = true
  · rw [if_pos hy, ib_t hy, (h.is (by decide)).mp hy]
    have hpL := (isS_in hy).1
    refine g_if_ne (tgt := 20) dX11_clause_11 (by decide) rfl (fun _ => ?_) (fun h_ => absurd h_ (by decide))
    refine g_aload_n dX11_clause_20 rfl rfl rfl ?_
    refine g_dup dX11_clause_21 rfl rfl ?_
    refine g_getI dX11_clause_22 ff_X11_113 rfl (k100 h1.1.1) rfl ?_
    refine g_iconst (v := 1) dX11_clause_25 (by decide) rfl ?_
    refine g_iadd dX11_clause_26 rfl ?_
    rw [h1.2.1, nI_1]
    refine g_putI dX11_clause_27 fp_X11_113 rfl rfl rfl (k100 h1.1.1) rfl ?_
    have h2 := h1.at (j := nxt T L i + 1) hpL
    have hF2 := hf1.tr (iFr.put (M := M2) (v := nI (nxt T L i + 1)) (Or.inl rfl))
    generalize gwI M2 100 10 (nI (nxt T L i + 1)) = M3 at h2 hF2 ⊢
    have hn2 := nxt_le (T := T) h2.2.2.1
    refine g_aload_n dX11_clause_30 rfl rfl rfl ?_
    refine g_bipush (v := 58) dX11_clause_31 (by decide) rfl ?_
    refine g_callVq (ci := 11) dX11_clause_33 lm_X11_158 mv_X11_takes (r_takes0 (d := d + 28) hx h2 (c := 58) (by decide)) rfl rfl (k100 h2.1.1) rfl rfl (Nat.le_of_ble_eq_true rfl) (gFit_room (by omega)) rfl (fun v M2 hQ => ?_)
    obtain ⟨rfl, hf⟩ := hQ
    obtain ⟨hf3, hok3, hbad3⟩ := hf
    by_cases hc : isS T L (nxt T L i + 1) 58 = true
    · rw [if_pos hc, ib_t hc]
      have h4 := hok3 hc
      have hF4 := hF2.tr hf3
      clear hok3 hbad3
      generalize nxt T L (nxt T L i + 1) + 1 = k at h4 ⊢
      have i33 := h4.is (j := k) (c := 33) (by decide)
      have i40 := h4.is (j := k) (c := 40) (by decide)
      have hlt4 := hlt.fr hF4
      unfold ccP
      -- behind a condition
      have aft : ∀ (M5 : gM) (r : PR) (pre : List Nat), iFr M M5 → PS M5 b nb off T L r.2.1 (-1) 0 → r.1 = true → ∀ (pc : Nat), pc = 71 ∨ pc = 119 → gW X (gRoom (d + 30) 0 0) (gZ X gN0 0 0 (CO M lt b nb off T L (cnP T L pre r))) gN0 yX11_clause cX11_clause 5 none pc [(0, .ref 100), (1, .int 121), (2, .int (r.2.2.2 lt))] [] M5 0 0 := by
        intro M5 r pre hF5 h5 hr pc hpc
        unfold cnP
        rw [if_pos hr]
        have hnr := nxt_le (T := T) h5.2.2.1
        have hlt5 := hlt.fr hF5
        rcases hpc with rfl | rfl
        · refine g_aload_n dX11_clause_71 rfl rfl rfl ?_
          refine g_bipush (v := 63) dX11_clause_72 (by decide) rfl ?_
          refine g_callVq (ci := 11) dX11_clause_74 lm_X11_158 mv_X11_takes (r_takes0 (d := d + 28) hx h5 (c := 63) (by decide)) rfl rfl (k100 h5.1.1) rfl rfl (Nat.le_of_ble_eq_true rfl) (gFit_room (by omega)) rfl (fun v M2 hQ => ?_)
          obtain ⟨rfl, hf⟩ := hQ
          obtain ⟨hf6, hok6, hbad6⟩ := hf
          by_cases hq : isS T L r.2.1 63 = true
          · rw [if_pos hq, ib_t hq]
            have h6 := hok6 hq
            refine g_if_ne (tgt := 81) dX11_clause_77 (by decide) rfl (fun _ => ?_) (fun h_ => absurd h_ (by decide))
            refine g_aload_n dX11_clause_81 rfl rfl rfl ?_
            refine g_callVq (ci := 11) dX11_clause_82 lm_X11_155 mv_X11_sum (hS h6 (hlt5.fr hf6)) rfl rfl (k100 h6.1.1) rfl rfl (Nat.le_of_ble_eq_true rfl) (gFit_room (by omega)) rfl (fun v M2 hQ => ?_)
            obtain ⟨xr, rfl, hf⟩ := hQ
            obtain ⟨hf7, hok7, hbad7⟩ := hf
            generalize smP T L (loP T L 6) (nxt T L r.2.1 + 1) = v at *
            by_cases hv : v.1 = true
            · rw [if_pos hv]
              obtain ⟨h7, rfl⟩ := hok7 hv
              refine g_istore_n dX11_clause_85 rfl (by decide) rfl ?_
              refine g_goto (tgt := 134) dX11_clause_86 (by decide) ?_
              exact g_go (r_cl134 hx ((hF5.tr hf6).tr hf7) h7 hlab rfl) ⟨rfl, rfl, rfl, rfl, trivial⟩
            · rw [if_neg hv]
              refine g_istore_n dX11_clause_85 rfl (by decide) rfl ?_
              refine g_goto (tgt := 134) dX11_clause_86 (by decide) ?_
              exact g_go (r_cl134f hx ((hF5.tr hf6).tr hf7) (hf7.1.lay h6.1.1) (hbad7 hv)) ⟨rfl, rfl, rfl, rfl, trivial⟩
          · rw [if_neg hq, ib_f hq]
            have h6 := hbad6 hq
            refine g_if_ne (tgt := 81) dX11_clause_77 (by decide) rfl (fun h_ => absurd (by decide) h_) (fun _ => ?_)
            exact g_vret dX11_clause_80 rfl (CO_fl (hF5.tr hf6).c (h6.ft (by omega)))
        · refine g_aload_n dX11_clause_119 rfl rfl rfl ?_
          refine g_bipush (v := 63) dX11_clause_120 (by decide) rfl ?_
          refine g_callVq (ci := 11) dX11_clause_122 lm_X11_158 mv_X11_takes (r_takes0 (d := d + 28) hx h5 (c := 63) (by decide)) rfl rfl (k100 h5.1.1) rfl rfl (Nat.le_of_ble_eq_true rfl) (gFit_room (by omega)) rfl (fun v M2 hQ => ?_)
          obtain ⟨rfl, hf⟩ := hQ
          obtain ⟨hf6, hok6, hbad6⟩ := hf
          by_cases hq : isS T L r.2.1 63 = true
          · rw [if_pos hq, ib_t hq]
            have h6 := hok6 hq
            refine g_if_ne (tgt := 129) dX11_clause_125 (by decide) rfl (fun _ => ?_) (fun h_ => absurd h_ (by decide))
            refine g_aload_n dX11_clause_129 rfl rfl rfl ?_
            refine g_callVq (ci := 11) dX11_clause_130 lm_X11_155 mv_X11_sum (hS h6 (hlt5.fr hf6)) rfl rfl (k100 h6.1.1) rfl rfl (Nat.le_of_ble_eq_true rfl) (gFit_room (by omega)) rfl (fun v M2 hQ => ?_)
            obtain ⟨xr, rfl, hf⟩ := hQ
            obtain ⟨hf7, hok7, hbad7⟩ := hf
            generalize smP T L (loP T L 6) (nxt T L r.2.1 + 1) = v at *
            by_cases hv : v.1 = true
            · rw [if_pos hv]
              obtain ⟨h7, rfl⟩ := hok7 hv
              refine g_istore_n dX11_clause_133 rfl (by decide) rfl ?_
              exact g_go (r_cl134 hx ((hF5.tr hf6).tr hf7) h7 hlab rfl) ⟨rfl, rfl, rfl, rfl, trivial⟩
            · rw [if_neg hv]
              refine g_istore_n dX11_clause_133 rfl (by decide) rfl ?_
              exact g_go (r_cl134f hx ((hF5.tr hf6).tr hf7) (hf7.1.lay h6.1.1) (hbad7 hv)) ⟨rfl, rfl, rfl, rfl, trivial⟩
          · rw [if_neg hq, ib_f hq]
            have h6 := hbad6 hq
            refine g_if_ne (tgt := 129) dX11_clause_125 (by decide) rfl (fun h_ => absurd (by decide) h_) (fun _ => ?_)
            exact g_vret dX11_clause_128 rfl (CO_fl (hF5.tr hf6).c (h6.ft (by omega)))
      -- a condition that does not stand there
      have aftB : ∀ (M5 : gM) (r : PR) (pre : List Nat) (x : Int32), iFr M M5 → gLay M5 → (gmi M5 100 11 = nI r.2.1 ∧ ¬ gmi M5 100 11 = -1) → ¬ r.1 = true → ∀ (pc : Nat), pc = 71 ∨ pc = 119 → gW X (gRoom (d + 30) 0 0) (gZ X gN0 0 0 (CO M lt b nb off T L (cnP T L pre r))) gN0 yX11_clause cX11_clause 5 none pc [(0, .ref 100), (1, .int 121), (2, .int x)] [] M5 0 0 := by
        intro M5 r pre x hF5 hL5 hb hr pc hpc
        unfold cnP
        rw [if_neg hr]
        rcases hpc with rfl | rfl
        · refine g_aload_n dX11_clause_71 rfl rfl rfl ?_
          refine g_bipush (v := 63) dX11_clause_72 (by decide) rfl ?_
          refine g_callVdi (ci := 11) dX11_clause_74 lm_X11_158 mv_X11_takes (r_takes1 (d := d + 28) hx hL5 hb.2) rfl rfl (k100 hL5) rfl rfl (Nat.le_of_ble_eq_true rfl) (gFit_room (by omega)) rfl ?_
          refine g_if_ne (tgt := 81) dX11_clause_77 (by decide) rfl (fun h_ => absurd (by decide) h_) (fun _ => ?_)
          exact g_vret dX11_clause_80 rfl (CO_fl hF5.c hb)
        · refine g_aload_n dX11_clause_119 rfl rfl rfl ?_
          refine g_bipush (v := 63) dX11_clause_120 (by decide) rfl ?_
          refine g_callVdi (ci := 11) dX11_clause_122 lm_X11_158 mv_X11_takes (r_takes1 (d := d + 28) hx hL5 hb.2) rfl rfl (k100 hL5) rfl rfl (Nat.le_of_ble_eq_true rfl) (gFit_room (by omega)) rfl ?_
          refine g_if_ne (tgt := 129) dX11_clause_125 (by decide) rfl (fun h_ => absurd (by decide) h_) (fun _ => ?_)
          exact g_vret dX11_clause_128 rfl (CO_fl hF5.c hb)
      refine g_if_ne (tgt := 40) dX11_clause_36 (by decide) rfl (fun _ => ?_) (fun h_ => absurd h_ (by decide))
      refine g_iconst (v := 1) dX11_clause_40 (by decide) rfl ?_
      refine g_istore_n dX11_clause_41 rfl (by decide) rfl ?_
      refine g_iconst (v := 0) dX11_clause_42 (by decide) rfl ?_
      refine g_istore_n dX11_clause_43 rfl (by decide) rfl ?_
      refine g_aload_n dX11_clause_44 rfl rfl rfl ?_
      refine g_callVq (ci := 11) dX11_clause_45 lm_X11_132 mv_X11_look (r_look (d := d + 29) hx h4) rfl rfl (k100 h4.1.1) rfl rfl (Nat.le_of_ble_eq_true rfl) (gFit_room (by omega)) rfl (fun v M2 hQ => ?_)
      obtain ⟨rfl, hf⟩ := hQ
      obtain ⟨hf5, h5⟩ := hf
      by_cases hs : isS T L k 33 = true ∨ isS T L k 40 = true
      · rw [if_pos hs]
        have hcn : cdB T L (loP T L 6) none (nxt T L k) = cdB T L (loP T L 6) none k := by
          unfold cdB trB unB unP
          rw [nxt_nxt, isS_nxt, isS_nxt, smP_nxt]
        have hsg : sgn T L (nxt T L k) = 33 ∨ sgn T L (nxt T L k) = 40 := hs.elim (fun q => Or.inl (i33.mp q)) (fun q => Or.inr (i40.mp q))
        have go : ∀ x, gW X (gRoom (d + 30) 0 0) (gZ X gN0 0 0 (CO M lt b nb off T L (cnP T L [] (cdB T L (loP T L 6) none k)))) gN0 yX11_clause cX11_clause 5 none 64 [(0, .ref 100), (1, .int 121), (2, .int x)] [] M2 0 0 := by
          intro x
          refine g_aload_n dX11_clause_64 rfl rfl rfl ?_
          refine g_iconst (v := 0) dX11_clause_65 (by decide) rfl ?_
          refine g_iconst (v := 0) dX11_clause_66 (by decide) rfl ?_
          refine g_callVq (ci := 11) dX11_clause_67 lm_X11_181 mv_X11_condition (hC h5 (hlt4.fr hf5)) rfl rfl (k100 h5.1.1) rfl rfl (Nat.le_of_ble_eq_true rfl) (gFit_room (by omega)) rfl (fun v M2 hQ => ?_)
          obtain ⟨xr, rfl, hf⟩ := hQ
          obtain ⟨hf6, hok6, hbad6, -⟩ := hf
          rw [hcn] at hok6 hbad6
          by_cases hr : (cdB T L (loP T L 6) none k).1 = true
          · obtain ⟨h6, rfl⟩ := hok6 hr
            refine g_istore_n dX11_clause_70 rfl (by decide) rfl ?_
            exact g_go (aft _ _ [] ((hF4.tr hf5).tr hf6) h6 hr 71 (Or.inl rfl)) ⟨rfl, rfl, rfl, trivial⟩
          · refine g_istore_n dX11_clause_70 rfl (by decide) rfl ?_
            exact g_go (aftB _ _ [] _ ((hF4.tr hf5).tr hf6) (hf6.1.lay h5.1.1) (hbad6 hr) hr 71 (Or.inl rfl)) ⟨rfl, rfl, rfl, trivial⟩
        refine g_istore dX11_clause_48 (by decide) rfl ?_
        refine g_iload dX11_clause_50 rfl rfl ?_
        refine g_bipush (v := 33) dX11_clause_52 (by decide) rfl ?_
        refine g_icmp_eq (tgt := 64) dX11_clause_54 (by decide) rfl (fun h54 => ?_) (fun h54 => ?_)
        · exact g_go (go _) ⟨rfl, rfl, rfl, trivial⟩
        · refine g_iload dX11_clause_57 rfl rfl ?_
          refine g_bipush (v := 40) dX11_clause_59 (by decide) rfl ?_
          refine g_icmp_ne (tgt := 89) dX11_clause_61 (by decide) rfl (fun h_ => absurd (by first | exact hsg.elim (fun q => absurd q h54) id) h_) (fun _ => ?_)
          exact g_go (go _) ⟨rfl, rfl, rfl, trivial⟩
      · rw [if_neg hs]
        refine g_istore dX11_clause_48 (by decide) rfl ?_
        refine g_iload dX11_clause_50 rfl rfl ?_
        refine g_bipush (v := 33) dX11_clause_52 (by decide) rfl ?_
        refine g_icmp_eq (tgt := 64) dX11_clause_54 (by decide) rfl (fun h_ => absurd h_ (fun z => hs (Or.inl (i33.mpr z)))) (fun _ => ?_)
        refine g_iload dX11_clause_57 rfl rfl ?_
        refine g_bipush (v := 40) dX11_clause_59 (by decide) rfl ?_
        refine g_icmp_ne (tgt := 89) dX11_clause_61 (by decide) rfl (fun _ => ?_) (fun h_ => absurd h_ (fun z => hs (Or.inr (i40.mpr z))))
        refine g_aload_n dX11_clause_89 rfl rfl rfl ?_
        refine g_callVq (ci := 11) dX11_clause_90 lm_X11_155 mv_X11_sum (hS h5 (hlt4.fr hf5)) rfl rfl (k100 h5.1.1) rfl rfl (Nat.le_of_ble_eq_true rfl) (gFit_room (by omega)) rfl (fun v M2 hQ => ?_)
        obtain ⟨xr, rfl, hf⟩ := hQ
        obtain ⟨hf6, hok6, hbad6⟩ := hf
        rw [smP_nxt] at hok6 hbad6
        have hsan := smP_san (T := T) (loP_san (T := T) (L := L) 6) k h4.2.2.1
        generalize smP T L (loP T L 6) k = r at *
        by_cases hr : r.1 = true
        · rw [if_pos hr]
          obtain ⟨h6, rfl⟩ := hok6 hr
          have hj := jn2 (p := nxt T L r.2.1) h6
          have hcn : cdB T L (loP T L 6) (some r.2.2.2) (nxt T L r.2.1) = cdB T L (loP T L 6) (some r.2.2.2) r.2.1 := by
            unfold cdB trB unB cmP
            dsimp only
            rw [nxt_nxt]
          refine g_istore_n dX11_clause_93 rfl (by decide) rfl ?_
          refine g_aload_n dX11_clause_94 rfl rfl rfl ?_
          refine g_getI dX11_clause_95 ff_X11_122 rfl (k100 h6.1.1) rfl ?_
          refine g_iconst (v := -1) dX11_clause_98 (by decide) rfl ?_
          rw [h6.2.2.2.1]
          refine g_icmp_ne (tgt := 134) dX11_clause_99 (by decide) rfl (fun h_ => absurd (rfl) h_) (fun _ => ?_)
          refine g_aload_n dX11_clause_102 rfl rfl rfl ?_
          refine g_callVq (ci := 11) dX11_clause_103 lm_X11_132 mv_X11_look (r_look (d := d + 29) hx h6) rfl rfl (k100 h6.1.1) rfl rfl (Nat.le_of_ble_eq_true rfl) (gFit_room (by omega)) rfl (fun v M2 hQ => ?_)
          obtain ⟨rfl, hf⟩ := hQ
          refine g_callSdi dX11_clause_106 lm_X11_175 mv_X11_isSign (r_isSign (d := d + 29) hx) rfl rfl (Nat.le_of_ble_eq_true rfl) (gFit_room (by omega)) rfl ?_
          obtain ⟨hf7, h7⟩ := hf
          by_cases h0 : jnP T L 2 (nxt T L r.2.1) = 0
          · rw [if_pos h0, ib_f (hj.2.2.2.mp h0)]
            refine g_if_eq (tgt := 134) dX11_clause_109 (by decide) rfl (fun _ => ?_) (fun h_ => absurd (by decide) h_)
            exact g_go (r_cl134 hx (((hF4.tr hf5).tr hf6).tr hf7) h7 hlab rfl) ⟨rfl, rfl, rfl, rfl, trivial⟩
          · rw [if_neg h0, ib_t (Decidable.by_contra (fun z => h0 (hj.2.2.2.mpr z)))]
            refine g_if_eq (tgt := 134) dX11_clause_109 (by decide) rfl (fun h_ => absurd h_ (by decide)) (fun _ => ?_)
            refine g_aload_n dX11_clause_112 rfl rfl rfl ?_
            refine g_iconst (v := 1) dX11_clause_113 (by decide) rfl ?_
            refine g_iload_n dX11_clause_114 rfl rfl rfl ?_
            refine g_callVq (ci := 11) dX11_clause_115 lm_X11_181 mv_X11_condition (hC1 r.2.2.2 h7 (((hlt4.fr hf5).fr hf6).fr hf7)) rfl rfl (k100 h7.1.1) rfl rfl (Nat.le_of_ble_eq_true rfl) (gFit_room (by omega)) rfl (fun v M2 hQ => ?_)
            obtain ⟨xr, rfl, hf⟩ := hQ
            obtain ⟨hf8, hok8, hbad8, -⟩ := hf
            rw [hcn] at hok8 hbad8
            by_cases hr8 : (cdB T L (loP T L 6) (some r.2.2.2) r.2.1).1 = true
            · obtain ⟨h8, rfl⟩ := hok8 hr8
              refine g_istore_n dX11_clause_118 rfl (by decide) rfl ?_
              exact g_go (aft _ _ r.2.2.1 ((((hF4.tr hf5).tr hf6).tr hf7).tr hf8) h8 hr8 119 (Or.inr rfl)) ⟨rfl, rfl, rfl, trivial⟩
            · refine g_istore_n dX11_clause_118 rfl (by decide) rfl ?_
              exact g_go (aftB _ _ r.2.2.1 _ ((((hF4.tr hf5).tr hf6).tr hf7).tr hf8) (hf8.1.lay h7.1.1) (hbad8 hr8) hr8 119 (Or.inr rfl)) ⟨rfl, rfl, rfl, trivial⟩
        · rw [if_neg hr]
          have hb6 := hbad6 hr
          refine g_istore_n dX11_clause_93 rfl (by decide) rfl ?_
          refine g_aload_n dX11_clause_94 rfl rfl rfl ?_
          refine g_getI dX11_clause_95 ff_X11_122 rfl (k100 (hf6.1.lay h5.1.1)) rfl ?_
          refine g_iconst (v := -1) dX11_clause_98 (by decide) rfl ?_
          refine g_icmp_ne (tgt := 134) dX11_clause_99 (by decide) rfl (fun _ => ?_) (fun h_ => absurd h_ (hb6.2))
          exact g_go (r_cl134f hx ((hF4.tr hf5).tr hf6) (hf6.1.lay h5.1.1) hb6) ⟨rfl, rfl, rfl, rfl, trivial⟩
    · rw [if_neg hc, ib_f hc]
      have h4 := hbad3 hc
      refine g_if_ne (tgt := 40) dX11_clause_36 (by decide) rfl (fun h_ => absurd (by decide) h_) (fun _ => ?_)
      exact g_vret dX11_clause_39 rfl (CO_fl (hF2.tr hf3).c (h4.ft (by omega)))
  · rw [if_neg hy, ib_f hy]
    refine g_if_ne (tgt := 20) dX11_clause_11 (by decide) rfl (fun h_ => absurd (by decide) h_) (fun _ => ?_)
    refine g_aload_n dX11_clause_14 rfl rfl rfl ?_
    refine g_callVq (ci := 11) dX11_clause_15 lm_X11_128 mv_X11_fails (r_fails0 (d := d + 29) hx h1) rfl rfl (k100 h1.1.1) rfl rfl (Nat.le_of_ble_eq_true rfl) (gFit_room (by omega)) rfl (fun v M2 hQ => ?_)
    obtain ⟨rfl, hf⟩ := hQ
    refine g_pop dX11_clause_18 rfl rfl ?_
    exact g_vret dX11_clause_19 rfl (CO_fl (hf1.tr hf.1).c (hf.2.ft (by omega)))
end F7
