section F3
variable {X : gX} {M : gM} {d : Nat} {b nb off : Nat} {T : Nat → Nat} {L i : Nat} {lt : Nat → Int32}
def TmOK (X : gX) (e b nb off : Nat) (T : Nat → Nat) (L w : Nat) (lt : Nat → Int32) (f : Nat → PR) : Prop := ∀ {M : gM} {i : Nat}, PS M b nb off T L i (-1) w → LtR M lt → gPos X e yX11_term cX11_term 5 (some .int) [.ref 100] M (RO M lt b nb off T L w (f i))
theorem jn4 {f : Int32} {w p : Nat} (h : PS M b nb off T L i f w) : (sgn T L p = 42 ↔ jnP T L 4 p = 14) ∧ (sgn T L p = 47 ↔ jnP T L 4 p = 15) ∧ (jnP T L 4 p = 0 ↔ ¬ sgn T L p = 42 ∧ ¬ sgn T L p = 47) := by
  have e1 := h.sg (j := p) (c := 42) (by decide)
  have e2 := h.sg (j := p) (c := 47) (by decide)
  rw [show (nI 42 : Int32) = 42 from rfl] at e1
  rw [show (nI 47 : Int32) = 47 from rfl] at e2
  rw [e1, e2]
  unfold jnP jof
  by_cases hp : p < L
  · rw [if_pos hp]
    by_cases h1 : T p = 42
    · simp [h1, hp]
    · by_cases h2 : T p = 47
      · simp [h2, hp]
      · simp [h1, h2]
  · simp [hp]
theorem jn3 {f : Int32} {w p : Nat} (h : PS M b nb off T L i f w) : (sgn T L p = 43 ↔ jnP T L 3 p = 12) ∧ (sgn T L p = 45 ↔ jnP T L 3 p = 13) ∧ (jnP T L 3 p = 0 ↔ ¬ sgn T L p = 43 ∧ ¬ sgn T L p = 45) := by
  have e1 := h.sg (j := p) (c := 43) (by decide)
  have e2 := h.sg (j := p) (c := 45) (by decide)
  rw [show (nI 43 : Int32) = 43 from rfl] at e1
  rw [show (nI 45 : Int32) = 45 from rfl] at e2
  rw [e1, e2]
  unfold jnP jof
  by_cases hp : p < L
  · rw [if_pos hp]
    by_cases h1 : T p = 43
    · simp [h1, hp]
    · by_cases h2 : T p = 45
      · simp [h2, hp]
      · simp [h1, h2]
  · simp [hp]
theorem lpP_end {f : Nat → PR} {lv n j : Nat} {E : LE} (h : jnP T L lv (nxt T L j) = 0) : lpP T L f lv n j E = (true, nxt T L j, [], E) := by
  cases n with
  | zero => rfl
  | succ n => unfold lpP; rw [if_pos h]
theorem jnP_end {lv j : Nat} (h : L ≤ j) : jnP T L lv (nxt T L j) = 0 := by
  unfold jnP
  rw [if_neg (by have := nxt_ge (T := T) (L := L) (i := j); omega)]
set_option maxRecDepth 20000 in
set_option maxHeartbeats 2000000 in
theorem r_term (hx : gXok X) {w : Nat} {f : Nat → PR} (hs : SanF L f) (hA : AtOK X (d + 2) b nb off T L w lt f) : TmOK X (d + 3) b nb off T L w lt (fun i => sqP T L f 4 (f i)) := by
  intro M i h hlt
  have hL := h.1.1
  have h240 := h.1.2.2.2.2.2.1.2.2.1
  refine gMet.of hx (by decide) (Nat.le_of_ble_eq_true rfl) ?_
  dsimp only
  unfold sqP
  refine g_aload_n dX11_term_0 rfl rfl rfl ?_
  refine g_callVq (ci := 11) dX11_term_1 lm_X11_165 mv_X11_atom (hA h hlt) rfl rfl (k100 hL) rfl rfl (Nat.le_of_ble_eq_true rfl) (gFit_room (by omega)) rfl (fun v M2 hQ => ?_)
  obtain ⟨xr, rfl, hf⟩ := hQ
  obtain ⟨hf1, hok, hbad⟩ := hf
  have hsi := hs i h.2.2.1
  generalize f i = r at *
  by_cases hr : r.1 = true
  · rw [if_pos hr]
    obtain ⟨h1, rfl⟩ := hok hr
    generalize hR : (((lpP T L f 4 240 r.2.1 r.2.2.2).1, (lpP T L f 4 240 r.2.1 r.2.2.2).2.1, r.2.2.1 ++ (lpP T L f 4 240 r.2.1 r.2.2.2).2.2.1, (lpP T L f 4 240 r.2.1 r.2.2.2).2.2.2) : PR) = R
    have tail : ∀ (M1 : gM) (a x : Int32) (s : Nat), (s = 14 ∨ s = 15) → gLay M1 → gW X (gRoom (d + 3) 0 0) (gZ X gN0 0 0 (RO M lt b nb off T L w R)) gN0 yX11_term cX11_term 5 (some .int) 5 [(0, .ref 100), (1, .int (clampL (jv s a.toInt64 x.toInt64)))] [] M1 0 0 → gW X (gRoom (d + 3) 0 0) (gZ X gN0 0 0 (RO M lt b nb off T L w R)) gN0 yX11_term cX11_term 5 (some .int) 60 [(0, .ref 100), (1, .int a), (2, .int (ib (s = 14)))] [.int x] M1 0 0 := by
      intro M1 a x s hs2 hL1 hk
      rcases hs2 with rfl | rfl
      · have ej : jv 14 a.toInt64 x.toInt64 = a.toInt64 * x.toInt64 := rfl
        rw [ej] at hk
        rw [show ib (14 = 14) = 1 from rfl]
        refine g_i2l dX11_term_60 rfl ?_
        refine g_lstore_n dX11_term_61 rfl (by decide) rfl ?_
        refine g_iload_n dX11_term_62 rfl rfl rfl ?_
        refine g_if_eq (tgt := 73) dX11_term_63 (by decide) rfl (fun h_ => absurd h_ (by decide)) (fun _ => ?_)
        refine g_iload_n dX11_term_66 rfl rfl rfl ?_
        refine g_i2l dX11_term_67 rfl ?_
        refine g_lload_n dX11_term_68 rfl rfl rfl ?_
        refine g_lmul dX11_term_69 rfl ?_
        refine g_goto (tgt := 87) dX11_term_70 (by decide) ?_
        refine g_callSdi dX11_term_87 lm_X11_168 mv_X11_within (r_within (d := d + 1) hx) rfl rfl (Nat.le_of_ble_eq_true rfl) (gFit_room (by omega)) rfl ?_
        refine g_istore_n dX11_term_90 rfl (by decide) rfl ?_
        refine g_goto (tgt := 5) dX11_term_91 (by decide) ?_
        exact g_go hk ⟨rfl, rfl, trivial⟩
      · rw [show ib (15 = 14) = 0 from rfl]
        refine g_i2l dX11_term_60 rfl ?_
        refine g_lstore_n dX11_term_61 rfl (by decide) rfl ?_
        refine g_iload_n dX11_term_62 rfl rfl rfl ?_
        refine g_if_eq (tgt := 73) dX11_term_63 (by decide) rfl (fun _ => ?_) (fun h_ => absurd (by decide) h_)
        refine g_lload_n dX11_term_73 rfl rfl rfl ?_
        refine g_lconst (v := 0) dX11_term_74 (by decide) rfl ?_
        refine g_lcmp dX11_term_75 rfl ?_
        have ej : jv 15 a.toInt64 x.toInt64 = if x.toInt64 = 0 then 0 else a.toInt64 / x.toInt64 := rfl
        refine g_if_ne (tgt := 83) dX11_term_76 (by decide) rfl (fun h76 => ?_) (fun h76 => ?_)
        · rw [ej, if_neg (fun z => h76 ((lg_eq0 _ _).mpr z))] at hk
          refine g_iload_n dX11_term_83 rfl rfl rfl ?_
          refine g_i2l dX11_term_84 rfl ?_
          refine g_lload_n dX11_term_85 rfl rfl rfl ?_
          refine g_ldiv dX11_term_86 (fun z => h76 ((lg_eq0 _ _).mpr z)) rfl ?_
          refine g_callSdi dX11_term_87 lm_X11_168 mv_X11_within (r_within (d := d + 1) hx) rfl rfl (Nat.le_of_ble_eq_true rfl) (gFit_room (by omega)) rfl ?_
          refine g_istore_n dX11_term_90 rfl (by decide) rfl ?_
          refine g_goto (tgt := 5) dX11_term_91 (by decide) ?_
          exact g_go hk ⟨rfl, rfl, trivial⟩
        · rw [ej, if_pos ((lg_eq0 _ _).mp h76)] at hk
          refine g_lconst (v := 0) dX11_term_79 (by decide) rfl ?_
          refine g_goto (tgt := 87) dX11_term_80 (by decide) ?_
          refine g_callSdi dX11_term_87 lm_X11_168 mv_X11_within (r_within (d := d + 1) hx) rfl rfl (Nat.le_of_ble_eq_true rfl) (gFit_room (by omega)) rfl ?_
          refine g_istore_n dX11_term_90 rfl (by decide) rfl ?_
          refine g_goto (tgt := 5) dX11_term_91 (by decide) ?_
          exact g_go hk ⟨rfl, rfl, trivial⟩
    have exitB : ∀ (M1 : gM) (a : Int32) (p : Nat), iFr M M1 → gmi M1 100 11 = nI p ∧ ¬ gmi M1 100 11 = -1 → R.1 = false → R.2.1 = p → gW X (gRoom (d + 3) 0 0) (gZ X gN0 0 0 (RO M lt b nb off T L w R)) gN0 yX11_term cX11_term 5 (some .int) 5 [(0, .ref 100), (1, .int a)] [] M1 0 0 := by
      intro M1 a p hF hb e1 e2
      refine g_aload_n dX11_term_5 rfl rfl rfl ?_
      refine g_getI dX11_term_6 ff_X11_122 rfl (k100 (hF.1.lay h.1.1)) rfl ?_
      refine g_iconst (v := -1) dX11_term_9 (by decide) rfl ?_
      refine g_icmp_ne (tgt := 94) dX11_term_10 (by decide) rfl (fun _ => ?_) (fun h_ => absurd h_ (hb.2))
      refine g_iload_n dX11_term_94 rfl rfl rfl ?_
      exact g_iret dX11_term_95 rfl (by first | rfl | exact b01) (⟨_, rfl, hF, fun z => absurd (e1.symm.trans z) Bool.false_ne_true, fun _ => by rw [e2]; exact hb⟩)
    have main : ∀ (n : Nat) (M1 : gM) (j : Nat) (E : LE), L ≤ j + n → iFr M M1 → PS M1 b nb off T L j (-1) w → R.1 = (lpP T L f 4 n j E).1 → R.2.1 = (lpP T L f 4 n j E).2.1 → (R.1 = true → R.2.2.2 = (lpP T L f 4 n j E).2.2.2) → gW X (gRoom (d + 3) 0 0) (gZ X gN0 0 0 (RO M lt b nb off T L w R)) gN0 yX11_term cX11_term 5 (some .int) 5 [(0, .ref 100), (1, .int (E lt))] [] M1 0 0 := by
      have exitG : ∀ (M1 : gM) (j n : Nat) (E : LE), jnP T L 4 (nxt T L j) = 0 → iFr M M1 → PS M1 b nb off T L j (-1) w → R.1 = (lpP T L f 4 n j E).1 → R.2.1 = (lpP T L f 4 n j E).2.1 → (R.1 = true → R.2.2.2 = (lpP T L f 4 n j E).2.2.2) → gW X (gRoom (d + 3) 0 0) (gZ X gN0 0 0 (RO M lt b nb off T L w R)) gN0 yX11_term cX11_term 5 (some .int) 5 [(0, .ref 100), (1, .int (E lt))] [] M1 0 0 := by
        intro M1 j n E h0 hF h1 e1 e2 e3
        rw [lpP_end h0] at e1 e2 e3
        have f1 : R.1 = true := e1
        have f2 : R.2.1 = nxt T L j := e2
        have f3 := e3 f1
        have hne := (jn4 h1).2.2.mp h0
        refine g_aload_n dX11_term_5 rfl rfl rfl ?_
        refine g_getI dX11_term_6 ff_X11_122 rfl (k100 h1.1.1) rfl ?_
        refine g_iconst (v := -1) dX11_term_9 (by decide) rfl ?_
        rw [h1.2.2.2.1]
        refine g_icmp_ne (tgt := 94) dX11_term_10 (by decide) rfl (fun h_ => absurd (rfl) h_) (fun _ => ?_)
        refine g_aload_n dX11_term_13 rfl rfl rfl ?_
        refine g_callVq (ci := 11) dX11_term_14 lm_X11_132 mv_X11_look (r_look (d := d + 2) hx h1) rfl rfl (k100 h1.1.1) rfl rfl (Nat.le_of_ble_eq_true rfl) (gFit_room (by omega)) rfl (fun v M2 hQ => ?_)
        obtain ⟨rfl, hf⟩ := hQ
        obtain ⟨hf2, h2⟩ := hf
        refine g_bipush (v := 42) dX11_term_17 (by decide) rfl ?_
        refine g_icmp_eq (tgt := 31) dX11_term_19 (by decide) rfl (fun h_ => absurd h_ (hne.1)) (fun _ => ?_)
        refine g_aload_n dX11_term_22 rfl rfl rfl ?_
        refine g_callVq (ci := 11) dX11_term_23 lm_X11_132 mv_X11_look (r_look (d := d + 2) hx h2) rfl rfl (k100 h2.1.1) rfl rfl (Nat.le_of_ble_eq_true rfl) (gFit_room (by omega)) rfl (fun v M2 hQ => ?_)
        obtain ⟨rfl, hf⟩ := hQ
        rw [nxt_nxt] at hf
        rw [nxt_nxt]
        obtain ⟨hf3, h3⟩ := hf
        refine g_bipush (v := 47) dX11_term_26 (by decide) rfl ?_
        refine g_icmp_ne (tgt := 94) dX11_term_28 (by decide) rfl (fun _ => ?_) (fun h_ => absurd h_ (hne.2))
        refine g_iload_n dX11_term_94 rfl rfl rfl ?_
        exact g_iret dX11_term_95 rfl (by first | rfl | exact b01) (⟨_, rfl, (hF.tr hf2).tr hf3, fun _ => ⟨by rw [f2]; exact h3, by rw [f3]⟩, fun z => absurd f1 z⟩)
      intro n
      induction n with
      | zero =>
        intro M1 j E hj hF h1 e1 e2 e3
        exact exitG M1 j 0 E (jnP_end (by omega)) hF h1 e1 e2 e3
      | succ n ih =>
        intro M1 j E hj hF h1 e1 e2 e3
        by_cases h0 : jnP T L 4 (nxt T L j) = 0
        · exact exitG M1 j (n + 1) E h0 hF h1 e1 e2 e3
        · unfold lpP at e1 e2 e3
          rw [if_neg h0] at e1 e2 e3
          have hp := jnP_in h0
          have hgj := nxt_ge (T := T) (L := L) (i := j)
          have hjj := jn4 h1 (p := nxt T L j)
          have hsf := hs (nxt T L j + 1) hp
          -- from the second part on
          have go : ∀ (M2 : gM) (s : Nat), (s = 14 ∨ s = 15) → jnP T L 4 (nxt T L j) = s → iFr M M2 → PS M2 b nb off T L (nxt T L j + 1) (-1) w → gW X (gRoom (d + 3) 0 0) (gZ X gN0 0 0 (RO M lt b nb off T L w R)) gN0 yX11_term cX11_term 5 (some .int) 56 [(0, .ref 100), (1, .int (E lt)), (2, .int (ib (s = 14)))] [] M2 0 0 := by
            intro M2 s hs2 hjs hF2 h2
            rw [hjs] at e1 e2 e3
            refine g_aload_n dX11_term_56 rfl rfl rfl ?_
            refine g_callVq (ci := 11) dX11_term_57 lm_X11_165 mv_X11_atom (hA h2 (hlt.fr hF2)) rfl rfl (k100 h2.1.1) rfl rfl (Nat.le_of_ble_eq_true rfl) (gFit_room (by omega)) rfl (fun v M2 hQ => ?_)
            obtain ⟨xr, rfl, hf⟩ := hQ
            obtain ⟨hf3, hok3, hbad3⟩ := hf
            generalize f (nxt T L j + 1) = r2 at *
            by_cases hr2 : r2.1 = true
            · rw [if_pos hr2] at e1 e2 e3
              obtain ⟨h3, rfl⟩ := hok3 hr2
              exact g_go (tail _ _ _ s hs2 h3.1.1 (ih _ r2.2.1 (jnE s E r2.2.2.2) (by have := (hsf.2 hr2).1; omega) (hF2.tr hf3) h3 e1 e2 e3)) ⟨rfl, rfl, rfl, trivial⟩
            · rw [if_neg hr2] at e1 e2 e3
              exact g_go (tail _ _ _ s hs2 (hf3.1.lay h2.1.1) (exitB _ _ _ (hF2.tr hf3) (hbad3 hr2) e1 e2)) ⟨rfl, rfl, rfl, trivial⟩
          refine g_aload_n dX11_term_5 rfl rfl rfl ?_
          refine g_getI dX11_term_6 ff_X11_122 rfl (k100 h1.1.1) rfl ?_
          refine g_iconst (v := -1) dX11_term_9 (by decide) rfl ?_
          rw [h1.2.2.2.1]
          refine g_icmp_ne (tgt := 94) dX11_term_10 (by decide) rfl (fun h_ => absurd (rfl) h_) (fun _ => ?_)
          refine g_aload_n dX11_term_13 rfl rfl rfl ?_
          refine g_callVq (ci := 11) dX11_term_14 lm_X11_132 mv_X11_look (r_look (d := d + 2) hx h1) rfl rfl (k100 h1.1.1) rfl rfl (Nat.le_of_ble_eq_true rfl) (gFit_room (by omega)) rfl (fun v M2 hQ => ?_)
          obtain ⟨rfl, hf⟩ := hQ
          obtain ⟨hf2, h2⟩ := hf
          by_cases hc : sgn T L (nxt T L j) = 42
          · refine g_bipush (v := 42) dX11_term_17 (by decide) rfl ?_
            refine g_icmp_eq (tgt := 31) dX11_term_19 (by decide) rfl (fun _ => ?_) (fun h_ => absurd (hc) h_)
            refine g_aload_n dX11_term_31 rfl rfl rfl ?_
            refine g_callVq (ci := 11) dX11_term_32 lm_X11_132 mv_X11_look (r_look (d := d + 2) hx h2) rfl rfl (k100 h2.1.1) rfl rfl (Nat.le_of_ble_eq_true rfl) (gFit_room (by omega)) rfl (fun v M2 hQ => ?_)
            obtain ⟨rfl, hf⟩ := hQ
            rw [nxt_nxt] at hf
            rw [nxt_nxt]
            obtain ⟨hf3, h3⟩ := hf
            refine g_bipush (v := 42) dX11_term_35 (by decide) rfl ?_
            refine g_icmp_ne (tgt := 44) dX11_term_37 (by decide) rfl (fun h_ => absurd (hc) h_) (fun _ => ?_)
            refine g_iconst (v := 1) dX11_term_40 (by decide) rfl ?_
            refine g_goto (tgt := 45) dX11_term_41 (by decide) ?_
            refine g_istore_n dX11_term_45 rfl (by decide) rfl ?_
            refine g_aload_n dX11_term_46 rfl rfl rfl ?_
            refine g_dup dX11_term_47 rfl rfl ?_
            refine g_getI dX11_term_48 ff_X11_113 rfl (k100 h3.1.1) rfl ?_
            refine g_iconst (v := 1) dX11_term_51 (by decide) rfl ?_
            refine g_iadd dX11_term_52 rfl ?_
            rw [h3.2.1, nI_1]
            refine g_putI dX11_term_53 fp_X11_113 rfl rfl rfl (k100 h3.1.1) rfl ?_
            exact g_go (go _ 14 (Or.inl rfl) (hjj.1.mp hc) (((hF.tr hf2).tr hf3).tr (iFr.put (Or.inl rfl))) (h3.at (by omega))) ⟨rfl, rfl, rfl, trivial⟩
          · have hc2 : sgn T L (nxt T L j) = 47 := Decidable.by_contra (fun z => h0 (hjj.2.2.mpr ⟨hc, z⟩))
            refine g_bipush (v := 42) dX11_term_17 (by decide) rfl ?_
            refine g_icmp_eq (tgt := 31) dX11_term_19 (by decide) rfl (fun h_ => absurd h_ (hc)) (fun _ => ?_)
            refine g_aload_n dX11_term_22 rfl rfl rfl ?_
            refine g_callVq (ci := 11) dX11_term_23 lm_X11_132 mv_X11_look (r_look (d := d + 2) hx h2) rfl rfl (k100 h2.1.1) rfl rfl (Nat.le_of_ble_eq_true rfl) (gFit_room (by omega)) rfl (fun v M2 hQ => ?_)
            obtain ⟨rfl, hf⟩ := hQ
            rw [nxt_nxt] at hf
            rw [nxt_nxt]
            obtain ⟨hf3, h3⟩ := hf
            refine g_bipush (v := 47) dX11_term_26 (by decide) rfl ?_
            refine g_icmp_ne (tgt := 94) dX11_term_28 (by decide) rfl (fun h_ => absurd (hc2) h_) (fun _ => ?_)
            refine g_aload_n dX11_term_31 rfl rfl rfl ?_
            refine g_callVq (ci := 11) dX11_term_32 lm_X11_132 mv_X11_look (r_look (d := d + 2) hx h3) rfl rfl (k100 h3.1.1) rfl rfl (Nat.le_of_ble_eq_true rfl) (gFit_room (by omega)) rfl (fun v M2 hQ => ?_)
            obtain ⟨rfl, hf⟩ := hQ
            rw [nxt_nxt] at hf
            rw [nxt_nxt]
            obtain ⟨hf4, h4⟩ := hf
            refine g_bipush (v := 42) dX11_term_35 (by decide) rfl ?_
            refine g_icmp_ne (tgt := 44) dX11_term_37 (by decide) rfl (fun _ => ?_) (fun h_ => absurd h_ (hc))
            refine g_iconst (v := 0) dX11_term_44 (by decide) rfl ?_
            refine g_istore_n dX11_term_45 rfl (by decide) rfl ?_
            refine g_aload_n dX11_term_46 rfl rfl rfl ?_
            refine g_dup dX11_term_47 rfl rfl ?_
            refine g_getI dX11_term_48 ff_X11_113 rfl (k100 h4.1.1) rfl ?_
            refine g_iconst (v := 1) dX11_term_51 (by decide) rfl ?_
            refine g_iadd dX11_term_52 rfl ?_
            rw [h4.2.1, nI_1]
            refine g_putI dX11_term_53 fp_X11_113 rfl rfl rfl (k100 h4.1.1) rfl ?_
            exact g_go (go _ 15 (Or.inr rfl) (hjj.2.1.mp hc2) ((((hF.tr hf2).tr hf3).tr hf4).tr (iFr.put (Or.inl rfl))) (h4.at (by omega))) ⟨rfl, rfl, rfl, trivial⟩
    refine g_istore_n dX11_term_4 rfl (by decide) rfl ?_
    exact g_go (main 240 _ r.2.1 r.2.2.2 (by omega) hf1 h1 (by rw [← hR]) (by rw [← hR]) (fun _ => by rw [← hR])) ⟨rfl, rfl, trivial⟩
  · rw [if_neg hr]
    have h3 := hbad hr
    refine g_istore_n dX11_term_4 rfl (by decide) rfl ?_
    refine g_aload_n dX11_term_5 rfl rfl rfl ?_
    refine g_getI dX11_term_6 ff_X11_122 rfl (k100 (hf1.1.lay h.1.1)) rfl ?_
    refine g_iconst (v := -1) dX11_term_9 (by decide) rfl ?_
    refine g_icmp_ne (tgt := 94) dX11_term_10 (by decide) rfl (fun _ => ?_) (fun h_ => absurd h_ (h3.2))
    refine g_iload_n dX11_term_94 rfl rfl rfl ?_
    exact g_iret dX11_term_95 rfl (by first | rfl | exact b01) (RO_f2 hf1 h3)
set_option maxRecDepth 20000 in
set_option maxHeartbeats 2000000 in
theorem r_sum (hx : gXok X) {w : Nat} {f : Nat → PR} (hs : SanF L f) (hA : TmOK X (d + 2) b nb off T L w lt f) : SmOK X (d + 3) b nb off T L w lt (fun i => sqP T L f 3 (f i)) := by
  intro M i h hlt
  have hL := h.1.1
  have h240 := h.1.2.2.2.2.2.1.2.2.1
  refine gMet.of hx (by decide) (Nat.le_of_ble_eq_true rfl) ?_
  dsimp only
  unfold sqP
  refine g_aload_n dX11_sum_0 rfl rfl rfl ?_
  refine g_callVq (ci := 11) dX11_sum_1 lm_X11_172 mv_X11_term (hA h hlt) rfl rfl (k100 hL) rfl rfl (Nat.le_of_ble_eq_true rfl) (gFit_room (by omega)) rfl (fun v M2 hQ => ?_)
  obtain ⟨xr, rfl, hf⟩ := hQ
  obtain ⟨hf1, hok, hbad⟩ := hf
  have hsi := hs i h.2.2.1
  generalize f i = r at *
  by_cases hr : r.1 = true
  · rw [if_pos hr]
    obtain ⟨h1, rfl⟩ := hok hr
    generalize hR : (((lpP T L f 3 240 r.2.1 r.2.2.2).1, (lpP T L f 3 240 r.2.1 r.2.2.2).2.1, r.2.2.1 ++ (lpP T L f 3 240 r.2.1 r.2.2.2).2.2.1, (lpP T L f 3 240 r.2.1 r.2.2.2).2.2.2) : PR) = R
    have tail : ∀ (M1 : gM) (a x : Int32) (s : Nat), (s = 12 ∨ s = 13) → gLay M1 → gW X (gRoom (d + 3) 0 0) (gZ X gN0 0 0 (RO M lt b nb off T L w R)) gN0 yX11_sum cX11_sum 5 (some .int) 5 [(0, .ref 100), (1, .int (clampL (jv s a.toInt64 x.toInt64)))] [] M1 0 0 → gW X (gRoom (d + 3) 0 0) (gZ X gN0 0 0 (RO M lt b nb off T L w R)) gN0 yX11_sum cX11_sum 5 (some .int) 60 [(0, .ref 100), (1, .int a), (2, .int (ib (s = 12)))] [.int x] M1 0 0 := by
      intro M1 a x s hs2 hL1 hk
      rcases hs2 with rfl | rfl
      · have ej : jv 12 a.toInt64 x.toInt64 = a.toInt64 + x.toInt64 := rfl
        rw [ej] at hk
        rw [show ib (12 = 12) = 1 from rfl]
        refine g_i2l dX11_sum_60 rfl ?_
        refine g_lstore_n dX11_sum_61 rfl (by decide) rfl ?_
        refine g_iload_n dX11_sum_62 rfl rfl rfl ?_
        refine g_if_eq (tgt := 73) dX11_sum_63 (by decide) rfl (fun h_ => absurd h_ (by decide)) (fun _ => ?_)
        refine g_iload_n dX11_sum_66 rfl rfl rfl ?_
        refine g_i2l dX11_sum_67 rfl ?_
        refine g_lload_n dX11_sum_68 rfl rfl rfl ?_
        refine g_ladd dX11_sum_69 rfl ?_
        refine g_goto (tgt := 77) dX11_sum_70 (by decide) ?_
        refine g_callSdi dX11_sum_77 lm_X11_168 mv_X11_within (r_within (d := d + 1) hx) rfl rfl (Nat.le_of_ble_eq_true rfl) (gFit_room (by omega)) rfl ?_
        refine g_istore_n dX11_sum_80 rfl (by decide) rfl ?_
        refine g_goto (tgt := 5) dX11_sum_81 (by decide) ?_
        exact g_go hk ⟨rfl, rfl, trivial⟩
      · rw [show ib (13 = 12) = 0 from rfl]
        refine g_i2l dX11_sum_60 rfl ?_
        refine g_lstore_n dX11_sum_61 rfl (by decide) rfl ?_
        refine g_iload_n dX11_sum_62 rfl rfl rfl ?_
        refine g_if_eq (tgt := 73) dX11_sum_63 (by decide) rfl (fun _ => ?_) (fun h_ => absurd (by decide) h_)
        refine g_iload_n dX11_sum_73 rfl rfl rfl ?_
        refine g_i2l dX11_sum_74 rfl ?_
        refine g_lload_n dX11_sum_75 rfl rfl rfl ?_
        refine g_lsub dX11_sum_76 rfl ?_
        have ej : jv 13 a.toInt64 x.toInt64 = a.toInt64 - x.toInt64 := rfl
        rw [ej] at hk
        refine g_callSdi dX11_sum_77 lm_X11_168 mv_X11_within (r_within (d := d + 1) hx) rfl rfl (Nat.le_of_ble_eq_true rfl) (gFit_room (by omega)) rfl ?_
        refine g_istore_n dX11_sum_80 rfl (by decide) rfl ?_
        refine g_goto (tgt := 5) dX11_sum_81 (by decide) ?_
        exact g_go hk ⟨rfl, rfl, trivial⟩
    have exitB : ∀ (M1 : gM) (a : Int32) (p : Nat), iFr M M1 → gmi M1 100 11 = nI p ∧ ¬ gmi M1 100 11 = -1 → R.1 = false → R.2.1 = p → gW X (gRoom (d + 3) 0 0) (gZ X gN0 0 0 (RO M lt b nb off T L w R)) gN0 yX11_sum cX11_sum 5 (some .int) 5 [(0, .ref 100), (1, .int a)] [] M1 0 0 := by
      intro M1 a p hF hb e1 e2
      refine g_aload_n dX11_sum_5 rfl rfl rfl ?_
      refine g_getI dX11_sum_6 ff_X11_122 rfl (k100 (hF.1.lay h.1.1)) rfl ?_
      refine g_iconst (v := -1) dX11_sum_9 (by decide) rfl ?_
      refine g_icmp_ne (tgt := 84) dX11_sum_10 (by decide) rfl (fun _ => ?_) (fun h_ => absurd h_ (hb.2))
      refine g_iload_n dX11_sum_84 rfl rfl rfl ?_
      exact g_iret dX11_sum_85 rfl (by first | rfl | exact b01) (⟨_, rfl, hF, fun z => absurd (e1.symm.trans z) Bool.false_ne_true, fun _ => by rw [e2]; exact hb⟩)
    have main : ∀ (n : Nat) (M1 : gM) (j : Nat) (E : LE), L ≤ j + n → iFr M M1 → PS M1 b nb off T L j (-1) w → R.1 = (lpP T L f 3 n j E).1 → R.2.1 = (lpP T L f 3 n j E).2.1 → (R.1 = true → R.2.2.2 = (lpP T L f 3 n j E).2.2.2) → gW X (gRoom (d + 3) 0 0) (gZ X gN0 0 0 (RO M lt b nb off T L w R)) gN0 yX11_sum cX11_sum 5 (some .int) 5 [(0, .ref 100), (1, .int (E lt))] [] M1 0 0 := by
      have exitG : ∀ (M1 : gM) (j n : Nat) (E : LE), jnP T L 3 (nxt T L j) = 0 → iFr M M1 → PS M1 b nb off T L j (-1) w → R.1 = (lpP T L f 3 n j E).1 → R.2.1 = (lpP T L f 3 n j E).2.1 → (R.1 = true → R.2.2.2 = (lpP T L f 3 n j E).2.2.2) → gW X (gRoom (d + 3) 0 0) (gZ X gN0 0 0 (RO M lt b nb off T L w R)) gN0 yX11_sum cX11_sum 5 (some .int) 5 [(0, .ref 100), (1, .int (E lt))] [] M1 0 0 := by
        intro M1 j n E h0 hF h1 e1 e2 e3
        rw [lpP_end h0] at e1 e2 e3
        have f1 : R.1 = true := e1
        have f2 : R.2.1 = nxt T L j := e2
        have f3 := e3 f1
        have hne := (jn3 h1).2.2.mp h0
        refine g_aload_n dX11_sum_5 rfl rfl rfl ?_
        refine g_getI dX11_sum_6 ff_X11_122 rfl (k100 h1.1.1) rfl ?_
        refine g_iconst (v := -1) dX11_sum_9 (by decide) rfl ?_
        rw [h1.2.2.2.1]
        refine g_icmp_ne (tgt := 84) dX11_sum_10 (by decide) rfl (fun h_ => absurd (rfl) h_) (fun _ => ?_)
        refine g_aload_n dX11_sum_13 rfl rfl rfl ?_
        refine g_callVq (ci := 11) dX11_sum_14 lm_X11_132 mv_X11_look (r_look (d := d + 2) hx h1) rfl rfl (k100 h1.1.1) rfl rfl (Nat.le_of_ble_eq_true rfl) (gFit_room (by omega)) rfl (fun v M2 hQ => ?_)
        obtain ⟨rfl, hf⟩ := hQ
        obtain ⟨hf2, h2⟩ := hf
        refine g_bipush (v := 43) dX11_sum_17 (by decide) rfl ?_
        refine g_icmp_eq (tgt := 31) dX11_sum_19 (by decide) rfl (fun h_ => absurd h_ (hne.1)) (fun _ => ?_)
        refine g_aload_n dX11_sum_22 rfl rfl rfl ?_
        refine g_callVq (ci := 11) dX11_sum_23 lm_X11_132 mv_X11_look (r_look (d := d + 2) hx h2) rfl rfl (k100 h2.1.1) rfl rfl (Nat.le_of_ble_eq_true rfl) (gFit_room (by omega)) rfl (fun v M2 hQ => ?_)
        obtain ⟨rfl, hf⟩ := hQ
        rw [nxt_nxt] at hf
        rw [nxt_nxt]
        obtain ⟨hf3, h3⟩ := hf
        refine g_bipush (v := 45) dX11_sum_26 (by decide) rfl ?_
        refine g_icmp_ne (tgt := 84) dX11_sum_28 (by decide) rfl (fun _ => ?_) (fun h_ => absurd h_ (hne.2))
        refine g_iload_n dX11_sum_84 rfl rfl rfl ?_
        exact g_iret dX11_sum_85 rfl (by first | rfl | exact b01) (⟨_, rfl, (hF.tr hf2).tr hf3, fun _ => ⟨by rw [f2]; exact h3, by rw [f3]⟩, fun z => absurd f1 z⟩)
      intro n
      induction n with
      | zero =>
        intro M1 j E hj hF h1 e1 e2 e3
        exact exitG M1 j 0 E (jnP_end (by omega)) hF h1 e1 e2 e3
      | succ n ih =>
        intro M1 j E hj hF h1 e1 e2 e3
        by_cases h0 : jnP T L 3 (nxt T L j) = 0
        · exact exitG M1 j (n + 1) E h0 hF h1 e1 e2 e3
        · unfold lpP at e1 e2 e3
          rw [if_neg h0] at e1 e2 e3
          have hp := jnP_in h0
          have hgj := nxt_ge (T := T) (L := L) (i := j)
          have hjj := jn3 h1 (p := nxt T L j)
          have hsf := hs (nxt T L j + 1) hp
          -- from the second part on
          have go : ∀ (M2 : gM) (s : Nat), (s = 12 ∨ s = 13) → jnP T L 3 (nxt T L j) = s → iFr M M2 → PS M2 b nb off T L (nxt T L j + 1) (-1) w → gW X (gRoom (d + 3) 0 0) (gZ X gN0 0 0 (RO M lt b nb off T L w R)) gN0 yX11_sum cX11_sum 5 (some .int) 56 [(0, .ref 100), (1, .int (E lt)), (2, .int (ib (s = 12)))] [] M2 0 0 := by
            intro M2 s hs2 hjs hF2 h2
            rw [hjs] at e1 e2 e3
            refine g_aload_n dX11_sum_56 rfl rfl rfl ?_
            refine g_callVq (ci := 11) dX11_sum_57 lm_X11_172 mv_X11_term (hA h2 (hlt.fr hF2)) rfl rfl (k100 h2.1.1) rfl rfl (Nat.le_of_ble_eq_true rfl) (gFit_room (by omega)) rfl (fun v M2 hQ => ?_)
            obtain ⟨xr, rfl, hf⟩ := hQ
            obtain ⟨hf3, hok3, hbad3⟩ := hf
            generalize f (nxt T L j + 1) = r2 at *
            by_cases hr2 : r2.1 = true
            · rw [if_pos hr2] at e1 e2 e3
              obtain ⟨h3, rfl⟩ := hok3 hr2
              exact g_go (tail _ _ _ s hs2 h3.1.1 (ih _ r2.2.1 (jnE s E r2.2.2.2) (by have := (hsf.2 hr2).1; omega) (hF2.tr hf3) h3 e1 e2 e3)) ⟨rfl, rfl, rfl, trivial⟩
            · rw [if_neg hr2] at e1 e2 e3
              exact g_go (tail _ _ _ s hs2 (hf3.1.lay h2.1.1) (exitB _ _ _ (hF2.tr hf3) (hbad3 hr2) e1 e2)) ⟨rfl, rfl, rfl, trivial⟩
          refine g_aload_n dX11_sum_5 rfl rfl rfl ?_
          refine g_getI dX11_sum_6 ff_X11_122 rfl (k100 h1.1.1) rfl ?_
          refine g_iconst (v := -1) dX11_sum_9 (by decide) rfl ?_
          rw [h1.2.2.2.1]
          refine g_icmp_ne (tgt := 84) dX11_sum_10 (by decide) rfl (fun h_ => absurd (rfl) h_) (fun _ => ?_)
          refine g_aload_n dX11_sum_13 rfl rfl rfl ?_
          refine g_callVq (ci := 11) dX11_sum_14 lm_X11_132 mv_X11_look (r_look (d := d + 2) hx h1) rfl rfl (k100 h1.1.1) rfl rfl (Nat.le_of_ble_eq_true rfl) (gFit_room (by omega)) rfl (fun v M2 hQ => ?_)
          obtain ⟨rfl, hf⟩ := hQ
          obtain ⟨hf2, h2⟩ := hf
          by_cases hc : sgn T L (nxt T L j) = 43
          · refine g_bipush (v := 43) dX11_sum_17 (by decide) rfl ?_
            refine g_icmp_eq (tgt := 31) dX11_sum_19 (by decide) rfl (fun _ => ?_) (fun h_ => absurd (hc) h_)
            refine g_aload_n dX11_sum_31 rfl rfl rfl ?_
            refine g_callVq (ci := 11) dX11_sum_32 lm_X11_132 mv_X11_look (r_look (d := d + 2) hx h2) rfl rfl (k100 h2.1.1) rfl rfl (Nat.le_of_ble_eq_true rfl) (gFit_room (by omega)) rfl (fun v M2 hQ => ?_)
            obtain ⟨rfl, hf⟩ := hQ
            rw [nxt_nxt] at hf
            rw [nxt_nxt]
            obtain ⟨hf3, h3⟩ := hf
            refine g_bipush (v := 43) dX11_sum_35 (by decide) rfl ?_
            refine g_icmp_ne (tgt := 44) dX11_sum_37 (by decide) rfl (fun h_ => absurd (hc) h_) (fun _ => ?_)
            refine g_iconst (v := 1) dX11_sum_40 (by decide) rfl ?_
            refine g_goto (tgt := 45) dX11_sum_41 (by decide) ?_
            refine g_istore_n dX11_sum_45 rfl (by decide) rfl ?_
            refine g_aload_n dX11_sum_46 rfl rfl rfl ?_
            refine g_dup dX11_sum_47 rfl rfl ?_
            refine g_getI dX11_sum_48 ff_X11_113 rfl (k100 h3.1.1) rfl ?_
            refine g_iconst (v := 1) dX11_sum_51 (by decide) rfl ?_
            refine g_iadd dX11_sum_52 rfl ?_
            rw [h3.2.1, nI_1]
            refine g_putI dX11_sum_53 fp_X11_113 rfl rfl rfl (k100 h3.1.1) rfl ?_
            exact g_go (go _ 12 (Or.inl rfl) (hjj.1.mp hc) (((hF.tr hf2).tr hf3).tr (iFr.put (Or.inl rfl))) (h3.at (by omega))) ⟨rfl, rfl, rfl, trivial⟩
          · have hc2 : sgn T L (nxt T L j) = 45 := Decidable.by_contra (fun z => h0 (hjj.2.2.mpr ⟨hc, z⟩))
            refine g_bipush (v := 43) dX11_sum_17 (by decide) rfl ?_
            refine g_icmp_eq (tgt := 31) dX11_sum_19 (by decide) rfl (fun h_ => absurd h_ (hc)) (fun _ => ?_)
            refine g_aload_n dX11_sum_22 rfl rfl rfl ?_
            refine g_callVq (ci := 11) dX11_sum_23 lm_X11_132 mv_X11_look (r_look (d := d + 2) hx h2) rfl rfl (k100 h2.1.1) rfl rfl (Nat.le_of_ble_eq_true rfl) (gFit_room (by omega)) rfl (fun v M2 hQ => ?_)
            obtain ⟨rfl, hf⟩ := hQ
            rw [nxt_nxt] at hf
            rw [nxt_nxt]
            obtain ⟨hf3, h3⟩ := hf
            refine g_bipush (v := 45) dX11_sum_26 (by decide) rfl ?_
            refine g_icmp_ne (tgt := 84) dX11_sum_28 (by decide) rfl (fun h_ => absurd (hc2) h_) (fun _ => ?_)
            refine g_aload_n dX11_sum_31 rfl rfl rfl ?_
            refine g_callVq (ci := 11) dX11_sum_32 lm_X11_132 mv_X11_look (r_look (d := d + 2) hx h3) rfl rfl (k100 h3.1.1) rfl rfl (Nat.le_of_ble_eq_true rfl) (gFit_room (by omega)) rfl (fun v M2 hQ => ?_)
            obtain ⟨rfl, hf⟩ := hQ
            rw [nxt_nxt] at hf
            rw [nxt_nxt]
            obtain ⟨hf4, h4⟩ := hf
            refine g_bipush (v := 43) dX11_sum_35 (by decide) rfl ?_
            refine g_icmp_ne (tgt := 44) dX11_sum_37 (by decide) rfl (fun _ => ?_) (fun h_ => absurd h_ (hc))
            refine g_iconst (v := 0) dX11_sum_44 (by decide) rfl ?_
            refine g_istore_n dX11_sum_45 rfl (by decide) rfl ?_
            refine g_aload_n dX11_sum_46 rfl rfl rfl ?_
            refine g_dup dX11_sum_47 rfl rfl ?_
            refine g_getI dX11_sum_48 ff_X11_113 rfl (k100 h4.1.1) rfl ?_
            refine g_iconst (v := 1) dX11_sum_51 (by decide) rfl ?_
            refine g_iadd dX11_sum_52 rfl ?_
            rw [h4.2.1, nI_1]
            refine g_putI dX11_sum_53 fp_X11_113 rfl rfl rfl (k100 h4.1.1) rfl ?_
            exact g_go (go _ 13 (Or.inr rfl) (hjj.2.1.mp hc2) ((((hF.tr hf2).tr hf3).tr hf4).tr (iFr.put (Or.inl rfl))) (h4.at (by omega))) ⟨rfl, rfl, rfl, trivial⟩
    refine g_istore_n dX11_sum_4 rfl (by decide) rfl ?_
    exact g_go (main 240 _ r.2.1 r.2.2.2 (by omega) hf1 h1 (by rw [← hR]) (by rw [← hR]) (fun _ => by rw [← hR])) ⟨rfl, rfl, trivial⟩
  · rw [if_neg hr]
    have h3 := hbad hr
    refine g_istore_n dX11_sum_4 rfl (by decide) rfl ?_
    refine g_aload_n dX11_sum_5 rfl rfl rfl ?_
    refine g_getI dX11_sum_6 ff_X11_122 rfl (k100 (hf1.1.lay h.1.1)) rfl ?_
    refine g_iconst (v := -1) dX11_sum_9 (by decide) rfl ?_
    refine g_icmp_ne (tgt := 84) dX11_sum_10 (by decide) rfl (fun _ => ?_) (fun h_ => absurd h_ (h3.2))
    refine g_iload_n dX11_sum_84 rfl rfl rfl ?_
    exact g_iret dX11_sum_85 rfl (by first | rfl | exact b01) (RO_f2 hf1 h3)
end F3
