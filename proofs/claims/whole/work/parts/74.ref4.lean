theorem nb01 {v : Int32} (h : v = 0 ∨ v = 1) : narrow .boolean (.int v) = .int v := by rcases h with rfl | rfl <;> rfl
section F4
variable {X : gX} {M : gM} {d : Nat} {b nb off : Nat} {T : Nat → Nat} {L i : Nat} {lt : Nat → Int32}
def CmOK (X : gX) (e b nb off : Nat) (T : Nat → Nat) (L w : Nat) (lt : Nat → Int32) (hb y : Int32) (f : Nat → PR) : Prop := ∀ {M : gM} {i : Nat}, PS M b nb off T L i (-1) w → LtR M lt → gPos X e yX11_compares cX11_compares 6 (some .boolean) [.ref 100, .int hb, .int y] M (RB M lt b nb off T L w (f i))
def UnOK (X : gX) (e b nb off : Nat) (T : Nat → Nat) (L w : Nat) (lt : Nat → Int32) (f : Nat → PR) : Prop := ∀ {M : gM} {i : Nat}, PS M b nb off T L i (-1) w → LtR M lt → gPos X e yX11_unit cX11_unit 3 (some .boolean) [.ref 100] M (RB M lt b nb off T L w (f i))
def PaOK (X : gX) (e b nb off : Nat) (T : Nat → Nat) (L w : Nat) (lt : Nat → Int32) (hb y : Int32) (f : Nat → PR) : Prop := ∀ {M : gM} {i : Nat}, PS M b nb off T L i (-1) w → LtR M lt → gPos X e yX11_part cX11_part 5 (some .boolean) [.ref 100, .int hb, .int y] M (RB M lt b nb off T L w (f i))
def CdOK (X : gX) (e b nb off : Nat) (T : Nat → Nat) (L w : Nat) (lt : Nat → Int32) (hb y : Int32) (f : Nat → PR) : Prop := ∀ {M : gM} {i : Nat}, PS M b nb off T L i (-1) w → LtR M lt → gPos X e yX11_condition cX11_condition 5 (some .boolean) [.ref 100, .int hb, .int y] M (RB M lt b nb off T L w (f i))
theorem jn2 {f : Int32} {w p : Nat} (h : PS M b nb off T L i f w) : (sgn T L p = 61 ↔ jnP T L 2 p = 9) ∧ (sgn T L p = 60 ↔ jnP T L 2 p = 10) ∧ (sgn T L p = 62 ↔ jnP T L 2 p = 11) ∧ (jnP T L 2 p = 0 ↔ ¬ (sgn T L p = 61 ∨ sgn T L p = 60 ∨ sgn T L p = 62)) := by
  have e1 := h.sg (j := p) (c := 61) (by decide)
  have e2 := h.sg (j := p) (c := 60) (by decide)
  have e3 := h.sg (j := p) (c := 62) (by decide)
  rw [show (nI 61 : Int32) = 61 from rfl] at e1
  rw [show (nI 60 : Int32) = 60 from rfl] at e2
  rw [show (nI 62 : Int32) = 62 from rfl] at e3
  rw [e1, e2, e3]
  unfold jnP jof
  by_cases hp : p < L
  · rw [if_pos hp]
    by_cases h1 : T p = 61
    · simp [h1, hp]
    · by_cases h2 : T p = 60
      · simp [h2, hp]
      · by_cases h3 : T p = 62
        · simp [h3, hp]
        · simp [h1, h2, h3]
  · simp [hp]
theorem i64_lt (a c : Int32) : a.toInt64 < c.toInt64 ↔ a < c := by
  rw [Int64.lt_iff_toInt_lt, Int32.lt_iff_toInt_lt, Int32.toInt_toInt64, Int32.toInt_toInt64]
theorem i64_eq (a c : Int32) : a.toInt64 = c.toInt64 ↔ a = c := by
  rw [← Int64.toInt_inj, ← Int32.toInt_inj, Int32.toInt_toInt64, Int32.toInt_toInt64]
theorem cmp9 (a c : Int32) : clampL (jv 9 a.toInt64 c.toInt64) = ib (a = c) := by
  show clampL (if a.toInt64 = c.toInt64 then 1 else 0) = _
  by_cases h : a = c
  · rw [if_pos ((i64_eq a c).mpr h), ib_t h]; rfl
  · rw [if_neg (fun z => h ((i64_eq a c).mp z)), ib_f h]; rfl
theorem cmp10 (a c : Int32) : clampL (jv 10 a.toInt64 c.toInt64) = ib (a < c) := by
  show clampL (if a.toInt64 < c.toInt64 then 1 else 0) = _
  by_cases h : a < c
  · rw [if_pos ((i64_lt a c).mpr h), ib_t h]; rfl
  · rw [if_neg (fun z => h ((i64_lt a c).mp z)), ib_f h]; rfl
theorem cmp11 (a c : Int32) : clampL (jv 11 a.toInt64 c.toInt64) = ib (c < a) := by
  show clampL (if c.toInt64 < a.toInt64 then 1 else 0) = _
  by_cases h : c < a
  · rw [if_pos ((i64_lt c a).mpr h), ib_t h]; rfl
  · rw [if_neg (fun z => h ((i64_lt c a).mp z)), ib_f h]; rfl
set_option maxRecDepth 20000 in
set_option maxHeartbeats 2000000 in
/-- comparing with a first SUM: from the row 13 -/
theorem r_cmp13 (hx : gXok X) {w : Nat} {o : LO} (ho : SanO L o) (hS : SmOK X (d + 2) b nb off T L w lt (smP T L o)) {M0 : gM} {hb y : Int32} {E : LE} {j : Nat} (hf0 : iFr M0 M) (h : PS M b nb off T L j (-1) w) (hlt : LtR M lt) {R : PR} (e1 : R.1 = (cmP T L o E j).1) (e2 : R.2.1 = (cmP T L o E j).2.1) (e3 : R.1 = true → R.2.2.2 = (cmP T L o E j).2.2.2) : gW X (gRoom (d + 3) 0 0) (gZ X gN0 0 0 (RB M0 lt b nb off T L w R)) gN0 yX11_compares cX11_compares 6 (some .boolean) 13 [(0, .ref 100), (1, .int hb), (2, .int y), (3, .int (E lt))] [] M 0 0 := by
  have hL := h.1.1
  have h240 := h.1.2.2.2.2.2.1.2.2.1
  have hnL := nxt_le (T := T) h.2.2.1
  have hj := jn2 (p := nxt T L j) h
  unfold cmP at e1 e2 e3
  refine g_aload_n dX11_compares_13 rfl rfl rfl ?_
  refine g_getI dX11_compares_14 ff_X11_122 rfl (k100 hL) rfl ?_
  refine g_iconst (v := -1) dX11_compares_17 (by decide) rfl ?_
  rw [h.2.2.2.1]
  refine g_icmp_eq (tgt := 23) dX11_compares_18 (by decide) rfl (fun _ => ?_) (fun h_ => absurd (rfl) h_)
  refine g_aload_n dX11_compares_23 rfl rfl rfl ?_
  refine g_callVq (ci := 11) dX11_compares_24 lm_X11_132 mv_X11_look (r_look (d := d + 2) hx h) rfl rfl (k100 hL) rfl rfl (Nat.le_of_ble_eq_true rfl) (gFit_room (by omega)) rfl (fun v M2 hQ => ?_)
  obtain ⟨rfl, hf⟩ := hQ
  obtain ⟨hf1, h1⟩ := hf
  generalize hsg : sgn T L (nxt T L j) = sg at *
  by_cases h0 : jnP T L 2 (nxt T L j) = 0
  · rw [if_pos h0] at e1 e2 e3
    have f1 : R.1 = false := e1
    have f2 : R.2.1 = nxt T L j := e2
    refine g_istore dX11_compares_27 (by decide) rfl ?_
    refine g_iload dX11_compares_29 rfl rfl ?_
    refine g_callSdi dX11_compares_31 lm_X11_175 mv_X11_isSign (r_isSign (d := d + 2) hx) rfl rfl (Nat.le_of_ble_eq_true rfl) (gFit_room (by omega)) rfl ?_
    rw [ib_f (hj.2.2.2.mp h0)]
    refine g_if_ne (tgt := 42) dX11_compares_34 (by decide) rfl (fun h_ => absurd (by decide) h_) (fun _ => ?_)
    refine g_aload_n dX11_compares_37 rfl rfl rfl ?_
    refine g_callVq (ci := 11) dX11_compares_38 lm_X11_128 mv_X11_fails (r_fails0 (d := d + 2) hx h1) rfl rfl (k100 h1.1.1) rfl rfl (Nat.le_of_ble_eq_true rfl) (gFit_room (by omega)) rfl (fun v M2 hQ => ?_)
    obtain ⟨rfl, hf⟩ := hQ
    exact g_iret dX11_compares_41 rfl (by first | rfl | exact b01 | exact nb01 hv01) (⟨_, rfl, (hf0.tr hf1).tr hf.1, fun z => absurd (f1.symm.trans z) Bool.false_ne_true, fun _ => by rw [f2]; exact hf.2.ft (by omega), Or.inl rfl⟩)
  · rw [if_neg h0] at e1 e2 e3
    have hp := jnP_in h0
    have hsn : sg = 61 ∨ sg = 60 ∨ sg = 62 := Decidable.by_contra (fun z => h0 (hj.2.2.2.mpr z))
    have hsan := smP_san (T := T) ho (nxt T L j + 1) hp
    -- the comparison itself
    have fin : ∀ (M2 : gM) (x : Int32) (lv : List (Nat × Value)), gLk lv 3 = some (.int (E lt)) → gLk lv 4 = some (.int sg) → gLk lv 5 = some (.int x) → (∀ v, (v = 0 ∨ v = 1) → v = clampL (jv (jnP T L 2 (nxt T L j)) (E lt).toInt64 x.toInt64) → RB M0 lt b nb off T L w R (some (.int v)) M2) → gW X (gRoom (d + 3) 0 0) (gZ X gN0 0 0 (RB M0 lt b nb off T L w R)) gN0 yX11_compares cX11_compares 6 (some .boolean) 58 [(3, .int (E lt)), (4, .int sg), (5, .int x)] [] M2 0 0 := by
      intro M2 x lv _ _ _ hQ
      rcases hsn with rfl | rfl | rfl
      · rw [hj.1.mp rfl, cmp9] at hQ
        refine g_iload dX11_compares_58 rfl rfl ?_
        refine g_bipush (v := 61) dX11_compares_60 (by decide) rfl ?_
        refine g_icmp_ne (tgt := 79) dX11_compares_62 (by decide) rfl (fun h_ => absurd (rfl) h_) (fun _ => ?_)
        refine g_iload_n dX11_compares_65 rfl rfl rfl ?_
        refine g_iload dX11_compares_66 rfl rfl ?_
        refine g_icmp_ne (tgt := 75) dX11_compares_68 (by decide) rfl (fun h68 => ?_) (fun h68 => ?_)
        · refine g_iconst (v := 0) dX11_compares_75 (by decide) rfl ?_
          refine g_goto (tgt := 111) dX11_compares_76 (by decide) ?_
          exact g_iret dX11_compares_111 rfl (by first | rfl | exact b01 | exact nb01 hv01) (hQ _ (by first | exact Or.inl rfl | exact Or.inr rfl) (by first | rw [ib_t h68] | rw [ib_f h68]))
        · refine g_iconst (v := 1) dX11_compares_71 (by decide) rfl ?_
          refine g_goto (tgt := 111) dX11_compares_72 (by decide) ?_
          exact g_iret dX11_compares_111 rfl (by first | rfl | exact b01 | exact nb01 hv01) (hQ _ (by first | exact Or.inl rfl | exact Or.inr rfl) (by first | rw [ib_t h68] | rw [ib_f h68]))
      · rw [hj.2.1.mp rfl, cmp10] at hQ
        refine g_iload dX11_compares_58 rfl rfl ?_
        refine g_bipush (v := 61) dX11_compares_60 (by decide) rfl ?_
        refine g_icmp_ne (tgt := 79) dX11_compares_62 (by decide) rfl (fun _ => ?_) (fun h_ => absurd h_ (by decide))
        refine g_iload dX11_compares_79 rfl rfl ?_
        refine g_bipush (v := 60) dX11_compares_81 (by decide) rfl ?_
        refine g_icmp_ne (tgt := 100) dX11_compares_83 (by decide) rfl (fun h_ => absurd (rfl) h_) (fun _ => ?_)
        refine g_iload_n dX11_compares_86 rfl rfl rfl ?_
        refine g_iload dX11_compares_87 rfl rfl ?_
        refine g_icmp_ge (tgt := 96) dX11_compares_89 (by decide) rfl (fun h89 => ?_) (fun h89 => ?_)
        · refine g_iconst (v := 0) dX11_compares_96 (by decide) rfl ?_
          refine g_goto (tgt := 111) dX11_compares_97 (by decide) ?_
          exact g_iret dX11_compares_111 rfl (by first | rfl | exact b01 | exact nb01 hv01) (hQ _ (by first | exact Or.inl rfl | exact Or.inr rfl) (by first | rw [ib_t (Int32.not_le.mp h89)] | rw [ib_f (Int32.not_lt.mpr h89)]))
        · refine g_iconst (v := 1) dX11_compares_92 (by decide) rfl ?_
          refine g_goto (tgt := 111) dX11_compares_93 (by decide) ?_
          exact g_iret dX11_compares_111 rfl (by first | rfl | exact b01 | exact nb01 hv01) (hQ _ (by first | exact Or.inl rfl | exact Or.inr rfl) (by first | rw [ib_t (Int32.not_le.mp h89)] | rw [ib_f (Int32.not_lt.mpr h89)]))
      · rw [hj.2.2.1.mp rfl, cmp11] at hQ
        refine g_iload dX11_compares_58 rfl rfl ?_
        refine g_bipush (v := 61) dX11_compares_60 (by decide) rfl ?_
        refine g_icmp_ne (tgt := 79) dX11_compares_62 (by decide) rfl (fun _ => ?_) (fun h_ => absurd h_ (by decide))
        refine g_iload dX11_compares_79 rfl rfl ?_
        refine g_bipush (v := 60) dX11_compares_81 (by decide) rfl ?_
        refine g_icmp_ne (tgt := 100) dX11_compares_83 (by decide) rfl (fun _ => ?_) (fun h_ => absurd h_ (by decide))
        refine g_iload_n dX11_compares_100 rfl rfl rfl ?_
        refine g_iload dX11_compares_101 rfl rfl ?_
        refine g_icmp_le (tgt := 110) dX11_compares_103 (by decide) rfl (fun h103 => ?_) (fun h103 => ?_)
        · refine g_iconst (v := 0) dX11_compares_110 (by decide) rfl ?_
          exact g_iret dX11_compares_111 rfl (by first | rfl | exact b01 | exact nb01 hv01) (hQ _ (by first | exact Or.inl rfl | exact Or.inr rfl) (by first | rw [ib_t (Int32.not_le.mp h103)] | rw [ib_f (Int32.not_lt.mpr h103)]))
        · refine g_iconst (v := 1) dX11_compares_106 (by decide) rfl ?_
          refine g_goto (tgt := 111) dX11_compares_107 (by decide) ?_
          exact g_iret dX11_compares_111 rfl (by first | rfl | exact b01 | exact nb01 hv01) (hQ _ (by first | exact Or.inl rfl | exact Or.inr rfl) (by first | rw [ib_t (Int32.not_le.mp h103)] | rw [ib_f (Int32.not_lt.mpr h103)]))
    refine g_istore dX11_compares_27 (by decide) rfl ?_
    refine g_iload dX11_compares_29 rfl rfl ?_
    refine g_callSdi dX11_compares_31 lm_X11_175 mv_X11_isSign (r_isSign (d := d + 2) hx) rfl rfl (Nat.le_of_ble_eq_true rfl) (gFit_room (by omega)) rfl ?_
    rw [ib_t hsn]
    refine g_if_ne (tgt := 42) dX11_compares_34 (by decide) rfl (fun _ => ?_) (fun h_ => absurd h_ (by decide))
    refine g_aload_n dX11_compares_42 rfl rfl rfl ?_
    refine g_dup dX11_compares_43 rfl rfl ?_
    refine g_getI dX11_compares_44 ff_X11_113 rfl (k100 h1.1.1) rfl ?_
    refine g_iconst (v := 1) dX11_compares_47 (by decide) rfl ?_
    refine g_iadd dX11_compares_48 rfl ?_
    rw [h1.2.1, nI_1]
    refine g_putI dX11_compares_49 fp_X11_113 rfl rfl rfl (k100 h1.1.1) rfl ?_
    refine g_aload_n dX11_compares_52 rfl rfl rfl ?_
    have h2 := h1.at (j := nxt T L j + 1) hp
    have hf2 := (hf0.tr hf1).tr (iFr.put (M := M2) (v := nI (nxt T L j + 1)) (Or.inl rfl))
    refine g_callVq (ci := 11) dX11_compares_53 lm_X11_155 mv_X11_sum (hS h2 ((hlt.fr hf1).fr (iFr.put (Or.inl rfl)))) rfl rfl (k100 (gLay_I h1.1.1)) rfl rfl (Nat.le_of_ble_eq_true rfl) (gFit_room (by omega)) rfl (fun v M2 hQ => ?_)
    obtain ⟨xr, rfl, hf⟩ := hQ
    obtain ⟨hf3, hok3, hbad3⟩ := hf
    generalize smP T L o (nxt T L j + 1) = r2 at *
    by_cases hr2 : r2.1 = true
    · rw [if_pos hr2] at e1 e2 e3
      obtain ⟨h3, rfl⟩ := hok3 hr2
      have f1 : R.1 = true := e1
      have f2 : R.2.1 = r2.2.1 := e2
      have f3 := e3 f1
      refine g_istore dX11_compares_56 (by decide) rfl ?_
      exact g_go (fin _ _ [(3, .int (E lt)), (4, .int sg), (5, .int (r2.2.2.2 lt))] rfl rfl rfl (fun v hv1 hv2 => ⟨v, rfl, hf2.tr hf3, fun _ => ⟨by rw [f2]; exact h3, by rw [f3]; exact hv2⟩, fun z => absurd f1 z, hv1⟩)) ⟨rfl, rfl, rfl, trivial⟩
    · rw [if_neg hr2] at e1 e2 e3
      have f1 : R.1 = false := e1
      have f2 : R.2.1 = r2.2.1 := e2
      refine g_istore dX11_compares_56 (by decide) rfl ?_
      exact g_go (fin _ _ [(3, .int (E lt)), (4, .int sg), (5, .int xr)] rfl rfl rfl (fun v hv1 hv2 => ⟨v, rfl, hf2.tr hf3, fun z => absurd (f1.symm.trans z) Bool.false_ne_true, fun _ => by rw [f2]; exact hbad3 hr2, hv1⟩)) ⟨rfl, rfl, rfl, trivial⟩
theorem r_cmp1 (hx : gXok X) {w : Nat} {o : LO} (ho : SanO L o) (hS : SmOK X (d + 2) b nb off T L w lt (smP T L o)) {E : LE} : CmOK X (d + 3) b nb off T L w lt 1 (E lt) (cmP T L o E) := by
  intro M i h hlt
  have hL := h.1.1
  refine gMet.of hx (by decide) (Nat.le_of_ble_eq_true rfl) ?_
  refine g_iload_n dX11_compares_0 rfl rfl rfl ?_
  refine g_if_eq (tgt := 8) dX11_compares_1 (by decide) rfl (fun h_ => absurd h_ (by decide)) (fun _ => ?_)
  refine g_iload_n dX11_compares_4 rfl rfl rfl ?_
  refine g_goto (tgt := 12) dX11_compares_5 (by decide) ?_
  refine g_istore_n dX11_compares_12 rfl (by decide) rfl ?_
  exact g_go (r_cmp13 hx ho hS (hb := 1) (y := E lt) iFr.rf h hlt rfl rfl (fun _ => rfl)) ⟨rfl, rfl, rfl, rfl, trivial⟩
theorem r_cmp0 (hx : gXok X) {w : Nat} {o : LO} (ho : SanO L o) (hS : SmOK X (d + 2) b nb off T L w lt (smP T L o)) : CmOK X (d + 3) b nb off T L w lt 0 0 (fun i => thP (smP T L o i) (cmP T L o (smP T L o i).2.2.2 (smP T L o i).2.1)) := by
  intro M i h hlt
  have hL := h.1.1
  refine gMet.of hx (by decide) (Nat.le_of_ble_eq_true rfl) ?_
  dsimp only
  unfold thP
  refine g_iload_n dX11_compares_0 rfl rfl rfl ?_
  refine g_if_eq (tgt := 8) dX11_compares_1 (by decide) rfl (fun _ => ?_) (fun h_ => absurd (by decide) h_)
  refine g_aload_n dX11_compares_8 rfl rfl rfl ?_
  refine g_callVq (ci := 11) dX11_compares_9 lm_X11_155 mv_X11_sum (hS h hlt) rfl rfl (k100 hL) rfl rfl (Nat.le_of_ble_eq_true rfl) (gFit_room (by omega)) rfl (fun v M2 hQ => ?_)
  obtain ⟨xr, rfl, hf⟩ := hQ
  obtain ⟨hf3, hok3, hbad3⟩ := hf
  generalize smP T L o i = r at *
  by_cases hr : r.1 = true
  · rw [if_pos hr]
    obtain ⟨h3, rfl⟩ := hok3 hr
    refine g_istore_n dX11_compares_12 rfl (by decide) rfl ?_
    refine g_go (r_cmp13 hx ho hS (hb := 0) (y := 0) (E := r.2.2.2) hf3 h3 (hlt.fr hf3) ?_ ?_ (fun _ => ?_)) ⟨rfl, rfl, rfl, rfl, trivial⟩ <;> rfl
  · rw [if_neg hr]
    have h4 := hbad3 hr
    refine g_istore_n dX11_compares_12 rfl (by decide) rfl ?_
    refine g_aload_n dX11_compares_13 rfl rfl rfl ?_
    refine g_getI dX11_compares_14 ff_X11_122 rfl (k100 (hf3.1.lay hL)) rfl ?_
    refine g_iconst (v := -1) dX11_compares_17 (by decide) rfl ?_
    refine g_icmp_eq (tgt := 23) dX11_compares_18 (by decide) rfl (fun h_ => absurd h_ (h4.2)) (fun _ => ?_)
    refine g_iconst (v := 0) dX11_compares_21 (by decide) rfl ?_
    exact g_iret dX11_compares_22 rfl (by first | rfl | exact b01 | exact nb01 hv01) (RB_f2 hf3 h4 (Or.inl rfl))
end F4
