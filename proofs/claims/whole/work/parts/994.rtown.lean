section H26
variable {X : gX} {M : gM} {d : Nat} {T : Nat → Nat} {L i w p : Nat} {S : Nat → Prop} {s : TS}
/-- what the reference has read of a town -/
def RdT (M : gM) (s : TS) : Prop := gmi M 100 28 = nI s.1 ∧ gmi M 100 29 = nI s.2.1 ∧ gmi M 100 31 = ib (s.2.2.1 = true) ∧ (gmi M 106 0 = nI s.2.2.2.1 ∧ gmi M 106 1 = nI s.2.2.2.2.1) ∧ (∀ q, q < 3 * s.1 → gmi M 108 q = nI (s.2.2.2.2.2.1 q)) ∧ (∀ q, q < 3 * s.2.1 → gmi M 110 q = nI (s.2.2.2.2.2.2 q)) ∧ s.1 ≤ 6 ∧ s.2.1 ≤ 8
def scT : Nat → Prop := fun c => c = 106 ∨ c = 108 ∨ c = 110 ∨ c = 1028 ∨ c = 1029 ∨ c = 1031
theorem kdN_c0 (h : kdN T L p s = 0) : (p < L ∧ T p = 115) ∧ s.2.2.1 = false := by
  unfold kdN at h
  by_cases a : p < L
  · rw [if_pos a] at h
    by_cases b : T p = 115
    · rw [if_pos b] at h
      cases e : s.2.2.1
      · exact ⟨⟨a, b⟩, rfl⟩
      · rw [e] at h; exact absurd h (by decide)
    · rw [if_neg b] at h
      by_cases c : T p = 112
      · rw [if_pos c] at h; split at h <;> omega
      · rw [if_neg c] at h; split at h
        · split at h <;> omega
        · omega
  · rw [if_neg a] at h; omega
theorem kdN_c1 (h : kdN T L p s = 1) : (p < L ∧ T p = 112) ∧ s.1 < 6 := by
  refine ⟨?_, kdN_1 h⟩
  have hl := kdN_lt (show kdN T L p s < 3 by omega)
  refine ⟨hl, ?_⟩
  unfold kdN at h
  rw [if_pos hl] at h
  by_cases b : T p = 115
  · rw [if_pos b] at h; split at h <;> omega
  · rw [if_neg b] at h
    by_cases c : T p = 112
    · exact c
    · rw [if_neg c] at h; split at h
      · split at h <;> omega
      · omega
theorem kdN_c2 (h : kdN T L p s = 2) : (p < L ∧ T p = 100) ∧ s.2.1 < 8 := by
  refine ⟨?_, kdN_2 h⟩
  have hl := kdN_lt (show kdN T L p s < 3 by omega)
  refine ⟨hl, ?_⟩
  unfold kdN at h
  rw [if_pos hl] at h
  by_cases b : T p = 115
  · rw [if_pos b] at h; split at h <;> omega
  · rw [if_neg b] at h
    by_cases c : T p = 112
    · rw [if_pos c] at h; split at h <;> omega
    · rw [if_neg c] at h
      by_cases e : T p = 100
      · exact e
      · rw [if_neg e] at h; omega
theorem kdN_c3 (h : kdN T L p s = 3) : ¬ ((p < L ∧ T p = 115) ∧ s.2.2.1 = false) ∧ ¬ ((p < L ∧ T p = 112) ∧ s.1 < 6) ∧ ¬ ((p < L ∧ T p = 100) ∧ s.2.1 < 8) := by
  unfold kdN at h
  refine ⟨fun ⟨⟨a, b⟩, c⟩ => ?_, fun ⟨⟨a, b⟩, c⟩ => ?_, fun ⟨⟨a, b⟩, c⟩ => ?_⟩
  · rw [if_pos a, if_pos b, c] at h; exact absurd h (by decide)
  · rw [if_pos a, if_neg (by omega), if_pos b, if_neg (by omega)] at h; omega
  · rw [if_pos a, if_neg (by omega), if_neg (by omega), if_pos b, if_neg (by omega)] at h; omega
/-- a clause, from where it begins -/
def clR (T : Nat → Nat) (L i : Nat) (s : TS) : Bool × Nat × TS :=
  if kdN T L (nxt T L i) s = 3 then (false, nxt T L i, s)
  else if (itemsP T L (kdN T L (nxt T L i) s) 4 (nxt T L i + 1) 0 (fun j => untN (3 * kdN T L (nxt T L i) s + j))).1 = true then
    (true, (itemsP T L (kdN T L (nxt T L i) s) 4 (nxt T L i + 1) 0 (fun j => untN (3 * kdN T L (nxt T L i) s + j))).2.1, settleT (kdN T L (nxt T L i) s) (itemsP T L (kdN T L (nxt T L i) s) 4 (nxt T L i + 1) 0 (fun j => untN (3 * kdN T L (nxt T L i) s + j))).2.2 s)
  else (false, (itemsP T L (kdN T L (nxt T L i) s) 4 (nxt T L i + 1) 0 (fun j => untN (3 * kdN T L (nxt T L i) s + j))).2.1, s)
theorem clsP_R (n : Nat) (b : Bool) (hb : b = true ∨ isS T L i 59 = true) : clsP T L (n + 1) b i s = if (clR T L (if b then i else nxt T L i + 1) s).1 = true then clsP T L n false (clR T L (if b then i else nxt T L i + 1) s).2.1 (clR T L (if b then i else nxt T L i + 1) s).2.2 else (false, (clR T L (if b then i else nxt T L i + 1) s).2.1, s) := by
  show (if b = true ∨ isS T L i 59 = true then _ else _) = _
  rw [if_pos hb]
  generalize (if b then i else nxt T L i + 1) = q
  unfold clR
  by_cases h3 : kdN T L (nxt T L q) s = 3
  · rw [if_pos h3, if_pos h3, if_neg Bool.false_ne_true]
  · rw [if_neg h3, if_neg h3]
    by_cases hi : (itemsP T L (kdN T L (nxt T L q) s) 4 (nxt T L q + 1) 0 (fun j => untN (3 * kdN T L (nxt T L q) s + j))).1 = true
    · rw [if_pos hi, if_pos hi, if_pos rfl]
    · rw [if_neg hi, if_neg hi, if_neg Bool.false_ne_true]
def ClO (M0 M2 : gM) (T : Nat → Nat) (L w : Nat) (R : Bool × Nat × TS) : Prop := kFr scT M0 M2 ∧ (R.1 = true → PT M2 T L R.2.1 (-1) w ∧ RdT M2 R.2.2) ∧ (¬ R.1 = true → (gmi M2 100 11 = nI R.2.1 ∧ ¬ gmi M2 100 11 = -1) ∨ (PT M2 T L R.2.1 (-1) w ∧ R.2.1 < L ∧ T R.2.1 ≠ 59 ∧ nxt T L R.2.1 = R.2.1))
theorem ItO.cl {M0 M1 M2 : gM} {k c row : Nat} {R : Bool × Nat × (Nat → Nat)} (h : ItO M1 M2 T L w k c row R) (h1 : kFr scT M0 M1) (hc : scT c) (hD : R.1 = true → RdT M2 (settleT k R.2.2 s)) {Q : Bool × Nat × TS} (hQ : Q = if R.1 = true then (true, R.2.1, settleT k R.2.2 s) else (false, R.2.1, s)) : ClO M0 M2 T L w Q := by
  refine ⟨h1.tr (h.1.mono (fun q e => by rw [e]; exact hc)), fun hq => ?_, fun hq => ?_⟩
  · by_cases hr : R.1 = true
    · rw [if_pos hr] at hQ; rw [hQ]; exact ⟨(h.2.2.1 hr).1, hD hr⟩
    · rw [if_neg hr] at hQ; rw [hQ] at hq; exact absurd hq Bool.false_ne_true
  · by_cases hr : R.1 = true
    · rw [if_pos hr] at hQ; rw [hQ] at hq; exact absurd rfl hq
    · rw [if_neg hr] at hQ; rw [hQ]; exact h.2.2.2 hr
set_option maxRecDepth 20000 in
set_option maxHeartbeats 1000000 in
theorem r_readClause (hx : gXok X) (hZ : gSt X) (h : PT M T L i (-1) w) (hD : RdT M s) : gPos X (d + 6) yX11_readClause cX11_readClause 3 none [.ref 100] M (fun v M2 => v = none ∧ ClO M M2 T L w (clR T L i s)) := by
  have h240 := h.1.2.2.2.2.2.1.2.2.1
  refine gMet.of hx (by decide) (Nat.le_of_ble_eq_true rfl) ?_
  unfold clR
  refine g_aload_n dX11_readClause_0 rfl rfl rfl ?_
  refine g_callVq (ci := 11) dX11_readClause_1 lm_X11_132 mv_X11_look (r_look (d := d + 5) hx h) rfl rfl (k100 h.1.1) rfl rfl (Nat.le_of_ble_eq_true rfl) (gFit_room (by omega)) rfl (fun v M2 hQ => ?_)
  obtain ⟨rfl, hf1, h1⟩ := hQ
  obtain ⟨d28, d29, d31, d106, d108, d110, d6, d8⟩ := hD
  have e28 : gmi M2 100 28 = nI s.1 := by rw [hf1.2 28 (by decide) (by decide) (by decide)]; exact d28
  have e29 : gmi M2 100 29 = nI s.2.1 := by rw [hf1.2 29 (by decide) (by decide) (by decide)]; exact d29
  have e31 : gmi M2 100 31 = ib (s.2.2.1 = true) := by rw [hf1.2 31 (by decide) (by decide) (by decide)]; exact d31
  have eo : ∀ c, c ≠ 100 → gmi M2 c = gmi M c := fun c hc => hf1.1.2.2.2 c hc
  have hpL := h1.2.2.1
  have s115 := h1.sg (j := nxt T L i) (c := 115) (by decide)
  have s112 := h1.sg (j := nxt T L i) (c := 112) (by decide)
  have s100 := h1.sg (j := nxt T L i) (c := 100) (by decide)
  have hle := kdN_le T L (nxt T L i) s
  generalize nxt T L i = p at *
  have hr0 : (gmi M2 100 31 = 0) ↔ s.2.2.1 = false := by
    rw [e31, ib_eq0]; cases s.2.2.1 <;> simp
  have hp6 : (gmi M2 100 28 < 6) ↔ s.1 < 6 := by rw [e28, show (6 : Int32) = nI 6 from rfl]; exact nI_ltI (by omega) (by decide)
  have hd8 : (8 ≤ gmi M2 100 29) ↔ 8 ≤ s.2.1 := by rw [e29, show (8 : Int32) = nI 8 from rfl]; exact nI_leI (by decide) (by omega)
  by_cases k3 : kdN T L p s = 3
  · rw [if_pos k3]
    obtain ⟨n1, n2, n3⟩ := kdN_c3 k3
    have hno : ¬ ((sgn T L p = 115 ∧ gmi M2 100 31 = 0) ∨ (sgn T L p = 112 ∧ gmi M2 100 28 < 6) ∨ (sgn T L p = 100 ∧ ¬ 8 ≤ gmi M2 100 29)) := fun z => by
      rcases z with ⟨a, b⟩ | ⟨a, b⟩ | ⟨a, b⟩
      · exact n1 ⟨s115.mp a, hr0.mp b⟩
      · exact n2 ⟨s112.mp a, hp6.mp b⟩
      · exact n3 ⟨s100.mp a, Nat.lt_of_not_le (fun q => b (hd8.mpr q))⟩
    refine g_istore_n dX11_readClause_4 rfl (by decide) rfl ?_
    refine g_iload_n dX11_readClause_5 rfl rfl rfl ?_
    refine g_bipush (v := 115) dX11_readClause_6 (by decide) rfl ?_
    refine g_icmp_ne (tgt := 18) dX11_readClause_8 (by decide) rfl (fun h8 => ?_) (fun h8 => ?_)
    · refine g_iload_n dX11_readClause_18 rfl rfl rfl ?_
      refine g_bipush (v := 112) dX11_readClause_19 (by decide) rfl ?_
      refine g_icmp_ne (tgt := 33) dX11_readClause_21 (by decide) rfl (fun h21 => ?_) (fun h21 => ?_)
      · refine g_iload_n dX11_readClause_33 rfl rfl rfl ?_
        refine g_bipush (v := 100) dX11_readClause_34 (by decide) rfl ?_
        refine g_icmp_ne (tgt := 52) dX11_readClause_36 (by decide) rfl (fun h36 => ?_) (fun h36 => ?_)
        · refine g_iconst (v := 0) dX11_readClause_52 (by decide) rfl ?_
          refine g_istore_n dX11_readClause_53 rfl (by decide) rfl ?_
          refine g_iload_n dX11_readClause_54 rfl rfl rfl ?_
          refine g_if_ne (tgt := 64) dX11_readClause_55 (by decide) rfl (fun h_ => absurd (rfl) h_) (fun _ => ?_)
          refine g_aload_n dX11_readClause_58 rfl rfl rfl ?_
          refine g_callVq (ci := 11) dX11_readClause_59 lm_X11_128 mv_X11_fails (r_fails0 (d := d + 5) hx h1) rfl rfl (k100 h1.1.1) rfl rfl (Nat.le_of_ble_eq_true rfl) (gFit_room (by omega)) rfl (fun v M2 hQ => ?_)
          obtain ⟨rfl, hf⟩ := hQ
          refine g_pop dX11_readClause_62 rfl rfl ?_
          exact g_vret dX11_readClause_63 rfl (⟨rfl, (hf1.tr hf.1).k, fun z => absurd z Bool.false_ne_true, fun _ => Or.inl (hf.2.ft (show p < 2 ^ 31 by omega))⟩)
        · refine g_aload_n dX11_readClause_39 rfl rfl rfl ?_
          refine g_getI dX11_readClause_40 ff_X11_242 rfl (k100 h1.1.1) rfl ?_
          refine g_bipush (v := 8) dX11_readClause_43 (by decide) rfl ?_
          refine g_icmp_ge (tgt := 52) dX11_readClause_45 (by decide) rfl (fun h45 => ?_) (fun h45 => ?_)
          · refine g_iconst (v := 0) dX11_readClause_52 (by decide) rfl ?_
            refine g_istore_n dX11_readClause_53 rfl (by decide) rfl ?_
            refine g_iload_n dX11_readClause_54 rfl rfl rfl ?_
            refine g_if_ne (tgt := 64) dX11_readClause_55 (by decide) rfl (fun h_ => absurd (rfl) h_) (fun _ => ?_)
            refine g_aload_n dX11_readClause_58 rfl rfl rfl ?_
            refine g_callVq (ci := 11) dX11_readClause_59 lm_X11_128 mv_X11_fails (r_fails0 (d := d + 5) hx h1) rfl rfl (k100 h1.1.1) rfl rfl (Nat.le_of_ble_eq_true rfl) (gFit_room (by omega)) rfl (fun v M2 hQ => ?_)
            obtain ⟨rfl, hf⟩ := hQ
            refine g_pop dX11_readClause_62 rfl rfl ?_
            exact g_vret dX11_readClause_63 rfl (⟨rfl, (hf1.tr hf.1).k, fun z => absurd z Bool.false_ne_true, fun _ => Or.inl (hf.2.ft (show p < 2 ^ 31 by omega))⟩)
          · exact absurd (by first | exact Or.inl ⟨h8, h15⟩ | exact Or.inr (Or.inl ⟨h21, h30⟩) | exact Or.inr (Or.inr ⟨h36, h45⟩)) hno
      · refine g_aload_n dX11_readClause_24 rfl rfl rfl ?_
        refine g_getI dX11_readClause_25 ff_X11_239 rfl (k100 h1.1.1) rfl ?_
        refine g_bipush (v := 6) dX11_readClause_28 (by decide) rfl ?_
        refine g_icmp_lt (tgt := 48) dX11_readClause_30 (by decide) rfl (fun h30 => ?_) (fun h30 => ?_)
        · exact absurd (by first | exact Or.inl ⟨h8, h15⟩ | exact Or.inr (Or.inl ⟨h21, h30⟩) | exact Or.inr (Or.inr ⟨h36, h45⟩)) hno
        · refine g_iload_n dX11_readClause_33 rfl rfl rfl ?_
          refine g_bipush (v := 100) dX11_readClause_34 (by decide) rfl ?_
          refine g_icmp_ne (tgt := 52) dX11_readClause_36 (by decide) rfl (fun h36 => ?_) (fun h36 => ?_)
          · refine g_iconst (v := 0) dX11_readClause_52 (by decide) rfl ?_
            refine g_istore_n dX11_readClause_53 rfl (by decide) rfl ?_
            refine g_iload_n dX11_readClause_54 rfl rfl rfl ?_
            refine g_if_ne (tgt := 64) dX11_readClause_55 (by decide) rfl (fun h_ => absurd (rfl) h_) (fun _ => ?_)
            refine g_aload_n dX11_readClause_58 rfl rfl rfl ?_
            refine g_callVq (ci := 11) dX11_readClause_59 lm_X11_128 mv_X11_fails (r_fails0 (d := d + 5) hx h1) rfl rfl (k100 h1.1.1) rfl rfl (Nat.le_of_ble_eq_true rfl) (gFit_room (by omega)) rfl (fun v M2 hQ => ?_)
            obtain ⟨rfl, hf⟩ := hQ
            refine g_pop dX11_readClause_62 rfl rfl ?_
            exact g_vret dX11_readClause_63 rfl (⟨rfl, (hf1.tr hf.1).k, fun z => absurd z Bool.false_ne_true, fun _ => Or.inl (hf.2.ft (show p < 2 ^ 31 by omega))⟩)
          · refine g_aload_n dX11_readClause_39 rfl rfl rfl ?_
            refine g_getI dX11_readClause_40 ff_X11_242 rfl (k100 h1.1.1) rfl ?_
            refine g_bipush (v := 8) dX11_readClause_43 (by decide) rfl ?_
            refine g_icmp_ge (tgt := 52) dX11_readClause_45 (by decide) rfl (fun h45 => ?_) (fun h45 => ?_)
            · refine g_iconst (v := 0) dX11_readClause_52 (by decide) rfl ?_
              refine g_istore_n dX11_readClause_53 rfl (by decide) rfl ?_
              refine g_iload_n dX11_readClause_54 rfl rfl rfl ?_
              refine g_if_ne (tgt := 64) dX11_readClause_55 (by decide) rfl (fun h_ => absurd (rfl) h_) (fun _ => ?_)
              refine g_aload_n dX11_readClause_58 rfl rfl rfl ?_
              refine g_callVq (ci := 11) dX11_readClause_59 lm_X11_128 mv_X11_fails (r_fails0 (d := d + 5) hx h1) rfl rfl (k100 h1.1.1) rfl rfl (Nat.le_of_ble_eq_true rfl) (gFit_room (by omega)) rfl (fun v M2 hQ => ?_)
              obtain ⟨rfl, hf⟩ := hQ
              refine g_pop dX11_readClause_62 rfl rfl ?_
              exact g_vret dX11_readClause_63 rfl (⟨rfl, (hf1.tr hf.1).k, fun z => absurd z Bool.false_ne_true, fun _ => Or.inl (hf.2.ft (show p < 2 ^ 31 by omega))⟩)
            · exact absurd (by first | exact Or.inl ⟨h8, h15⟩ | exact Or.inr (Or.inl ⟨h21, h30⟩) | exact Or.inr (Or.inr ⟨h36, h45⟩)) hno
    · refine g_aload_n dX11_readClause_11 rfl rfl rfl ?_
      refine g_getI dX11_readClause_12 ff_X11_236 rfl (k100 h1.1.1) rfl ?_
      refine g_if_eq (tgt := 48) dX11_readClause_15 (by decide) rfl (fun h15 => ?_) (fun h15 => ?_)
      · exact absurd (by first | exact Or.inl ⟨h8, h15⟩ | exact Or.inr (Or.inl ⟨h21, h30⟩) | exact Or.inr (Or.inr ⟨h36, h45⟩)) hno
      · refine g_iload_n dX11_readClause_18 rfl rfl rfl ?_
        refine g_bipush (v := 112) dX11_readClause_19 (by decide) rfl ?_
        refine g_icmp_ne (tgt := 33) dX11_readClause_21 (by decide) rfl (fun h21 => ?_) (fun h21 => ?_)
        · refine g_iload_n dX11_readClause_33 rfl rfl rfl ?_
          refine g_bipush (v := 100) dX11_readClause_34 (by decide) rfl ?_
          refine g_icmp_ne (tgt := 52) dX11_readClause_36 (by decide) rfl (fun h36 => ?_) (fun h36 => ?_)
          · refine g_iconst (v := 0) dX11_readClause_52 (by decide) rfl ?_
            refine g_istore_n dX11_readClause_53 rfl (by decide) rfl ?_
            refine g_iload_n dX11_readClause_54 rfl rfl rfl ?_
            refine g_if_ne (tgt := 64) dX11_readClause_55 (by decide) rfl (fun h_ => absurd (rfl) h_) (fun _ => ?_)
            refine g_aload_n dX11_readClause_58 rfl rfl rfl ?_
            refine g_callVq (ci := 11) dX11_readClause_59 lm_X11_128 mv_X11_fails (r_fails0 (d := d + 5) hx h1) rfl rfl (k100 h1.1.1) rfl rfl (Nat.le_of_ble_eq_true rfl) (gFit_room (by omega)) rfl (fun v M2 hQ => ?_)
            obtain ⟨rfl, hf⟩ := hQ
            refine g_pop dX11_readClause_62 rfl rfl ?_
            exact g_vret dX11_readClause_63 rfl (⟨rfl, (hf1.tr hf.1).k, fun z => absurd z Bool.false_ne_true, fun _ => Or.inl (hf.2.ft (show p < 2 ^ 31 by omega))⟩)
          · refine g_aload_n dX11_readClause_39 rfl rfl rfl ?_
            refine g_getI dX11_readClause_40 ff_X11_242 rfl (k100 h1.1.1) rfl ?_
            refine g_bipush (v := 8) dX11_readClause_43 (by decide) rfl ?_
            refine g_icmp_ge (tgt := 52) dX11_readClause_45 (by decide) rfl (fun h45 => ?_) (fun h45 => ?_)
            · refine g_iconst (v := 0) dX11_readClause_52 (by decide) rfl ?_
              refine g_istore_n dX11_readClause_53 rfl (by decide) rfl ?_
              refine g_iload_n dX11_readClause_54 rfl rfl rfl ?_
              refine g_if_ne (tgt := 64) dX11_readClause_55 (by decide) rfl (fun h_ => absurd (rfl) h_) (fun _ => ?_)
              refine g_aload_n dX11_readClause_58 rfl rfl rfl ?_
              refine g_callVq (ci := 11) dX11_readClause_59 lm_X11_128 mv_X11_fails (r_fails0 (d := d + 5) hx h1) rfl rfl (k100 h1.1.1) rfl rfl (Nat.le_of_ble_eq_true rfl) (gFit_room (by omega)) rfl (fun v M2 hQ => ?_)
              obtain ⟨rfl, hf⟩ := hQ
              refine g_pop dX11_readClause_62 rfl rfl ?_
              exact g_vret dX11_readClause_63 rfl (⟨rfl, (hf1.tr hf.1).k, fun z => absurd z Bool.false_ne_true, fun _ => Or.inl (hf.2.ft (show p < 2 ^ 31 by omega))⟩)
            · exact absurd (by first | exact Or.inl ⟨h8, h15⟩ | exact Or.inr (Or.inl ⟨h21, h30⟩) | exact Or.inr (Or.inr ⟨h36, h45⟩)) hno
        · refine g_aload_n dX11_readClause_24 rfl rfl rfl ?_
          refine g_getI dX11_readClause_25 ff_X11_239 rfl (k100 h1.1.1) rfl ?_
          refine g_bipush (v := 6) dX11_readClause_28 (by decide) rfl ?_
          refine g_icmp_lt (tgt := 48) dX11_readClause_30 (by decide) rfl (fun h30 => ?_) (fun h30 => ?_)
          · exact absurd (by first | exact Or.inl ⟨h8, h15⟩ | exact Or.inr (Or.inl ⟨h21, h30⟩) | exact Or.inr (Or.inr ⟨h36, h45⟩)) hno
          · refine g_iload_n dX11_readClause_33 rfl rfl rfl ?_
            refine g_bipush (v := 100) dX11_readClause_34 (by decide) rfl ?_
            refine g_icmp_ne (tgt := 52) dX11_readClause_36 (by decide) rfl (fun h36 => ?_) (fun h36 => ?_)
            · refine g_iconst (v := 0) dX11_readClause_52 (by decide) rfl ?_
              refine g_istore_n dX11_readClause_53 rfl (by decide) rfl ?_
              refine g_iload_n dX11_readClause_54 rfl rfl rfl ?_
              refine g_if_ne (tgt := 64) dX11_readClause_55 (by decide) rfl (fun h_ => absurd (rfl) h_) (fun _ => ?_)
              refine g_aload_n dX11_readClause_58 rfl rfl rfl ?_
              refine g_callVq (ci := 11) dX11_readClause_59 lm_X11_128 mv_X11_fails (r_fails0 (d := d + 5) hx h1) rfl rfl (k100 h1.1.1) rfl rfl (Nat.le_of_ble_eq_true rfl) (gFit_room (by omega)) rfl (fun v M2 hQ => ?_)
              obtain ⟨rfl, hf⟩ := hQ
              refine g_pop dX11_readClause_62 rfl rfl ?_
              exact g_vret dX11_readClause_63 rfl (⟨rfl, (hf1.tr hf.1).k, fun z => absurd z Bool.false_ne_true, fun _ => Or.inl (hf.2.ft (show p < 2 ^ 31 by omega))⟩)
            · refine g_aload_n dX11_readClause_39 rfl rfl rfl ?_
              refine g_getI dX11_readClause_40 ff_X11_242 rfl (k100 h1.1.1) rfl ?_
              refine g_bipush (v := 8) dX11_readClause_43 (by decide) rfl ?_
              refine g_icmp_ge (tgt := 52) dX11_readClause_45 (by decide) rfl (fun h45 => ?_) (fun h45 => ?_)
              · refine g_iconst (v := 0) dX11_readClause_52 (by decide) rfl ?_
                refine g_istore_n dX11_readClause_53 rfl (by decide) rfl ?_
                refine g_iload_n dX11_readClause_54 rfl rfl rfl ?_
                refine g_if_ne (tgt := 64) dX11_readClause_55 (by decide) rfl (fun h_ => absurd (rfl) h_) (fun _ => ?_)
                refine g_aload_n dX11_readClause_58 rfl rfl rfl ?_
                refine g_callVq (ci := 11) dX11_readClause_59 lm_X11_128 mv_X11_fails (r_fails0 (d := d + 5) hx h1) rfl rfl (k100 h1.1.1) rfl rfl (Nat.le_of_ble_eq_true rfl) (gFit_room (by omega)) rfl (fun v M2 hQ => ?_)
                obtain ⟨rfl, hf⟩ := hQ
                refine g_pop dX11_readClause_62 rfl rfl ?_
                exact g_vret dX11_readClause_63 rfl (⟨rfl, (hf1.tr hf.1).k, fun z => absurd z Bool.false_ne_true, fun _ => Or.inl (hf.2.ft (show p < 2 ^ 31 by omega))⟩)
              · exact absurd (by first | exact Or.inl ⟨h8, h15⟩ | exact Or.inr (Or.inl ⟨h21, h30⟩) | exact Or.inr (Or.inr ⟨h36, h45⟩)) hno
  · rw [if_neg k3]
    have hp1 : p + 1 ≤ L := kdN_lt (show kdN T L p s < 3 by omega)
    have h2 := h1.at (j := p + 1) hp1
    have hf2 : kFr scT M (gwI M2 100 10 (nI (p + 1))) := (hf1.tr (iFr.put (Or.inl rfl))).k
    by_cases k0 : kdN T L p s = 0
    · obtain ⟨c1, c2⟩ := kdN_c0 k0
      have hx1 := s115.mpr c1
      rw [k0, hx1]
      have h3 := h2.wf (k := 31) (v := 1) (by decide)
      have hit := r_readItems (d := d) (k := 0) (c := 106) (row := 0) (nl := 2) hx hZ (by decide) h3 ⟨k106 h3.1.1, l106 h3.1.1⟩ ⟨by decide, by decide⟩ (by decide) (by decide)
      refine g_istore_n dX11_readClause_4 rfl (by decide) rfl ?_
      refine g_iload_n dX11_readClause_5 rfl rfl rfl ?_
      refine g_bipush (v := 115) dX11_readClause_6 (by decide) rfl ?_
      refine g_icmp_ne (tgt := 18) dX11_readClause_8 (by decide) rfl (fun h_ => absurd (rfl) h_) (fun _ => ?_)
      refine g_aload_n dX11_readClause_11 rfl rfl rfl ?_
      refine g_getI dX11_readClause_12 ff_X11_236 rfl (k100 h1.1.1) rfl ?_
      refine g_if_eq (tgt := 48) dX11_readClause_15 (by decide) rfl (fun _ => ?_) (fun h_ => absurd (hr0.mpr c2) h_)
      refine g_iconst (v := 1) dX11_readClause_48 (by decide) rfl ?_
      refine g_goto (tgt := 53) dX11_readClause_49 (by decide) ?_
      refine g_istore_n dX11_readClause_53 rfl (by decide) rfl ?_
      refine g_iload_n dX11_readClause_54 rfl rfl rfl ?_
      refine g_if_ne (tgt := 64) dX11_readClause_55 (by decide) rfl (fun _ => ?_) (fun h_ => absurd h_ (by decide))
      refine g_aload_n dX11_readClause_64 rfl rfl rfl ?_
      refine g_dup dX11_readClause_65 rfl rfl ?_
      refine g_getI dX11_readClause_66 ff_X11_113 rfl (k100 h1.1.1) rfl ?_
      refine g_iconst (v := 1) dX11_readClause_69 (by decide) rfl ?_
      refine g_iadd dX11_readClause_70 rfl ?_
      rw [h1.2.1, nI_1]
      refine g_putI dX11_readClause_71 fp_X11_113 rfl rfl rfl (k100 h1.1.1) rfl ?_
      refine g_iload_n dX11_readClause_74 rfl rfl rfl ?_
      refine g_bipush (v := 115) dX11_readClause_75 (by decide) rfl ?_
      refine g_icmp_ne (tgt := 100) dX11_readClause_77 (by decide) rfl (fun h_ => absurd (rfl) h_) (fun _ => ?_)
      refine g_aload_n dX11_readClause_80 rfl rfl rfl ?_
      refine g_iconst (v := 1) dX11_readClause_81 (by decide) rfl ?_
      refine g_putI dX11_readClause_82 fp_X11_236 rfl rfl rfl (k100 (gLay_I h1.1.1)) rfl ?_
      refine g_aload_n dX11_readClause_85 rfl rfl rfl ?_
      refine g_iload_n dX11_readClause_86 rfl rfl rfl ?_
      refine g_aload_n dX11_readClause_87 rfl rfl rfl ?_
      refine g_getR dX11_readClause_88 ff_X11_40 rfl (k100 (gLay_I (gLay_I h1.1.1))) (r100_19 (gLay_I (gLay_I h1.1.1))) rfl ?_
      refine g_iconst (v := 0) dX11_readClause_91 (by decide) rfl ?_
      refine g_ldcS (i := 5) dX11_readClause_92 hZ (List.mem_of_getElem? (i := 6) rfl) rfl ?_
      refine g_callVq (ci := 11) dX11_readClause_94 lm_X11_247 mv_X11_readItems (hit) rfl rfl (k100 h3.1.1) rfl rfl (Nat.le_of_ble_eq_true rfl) (gFit_room (by omega)) rfl (fun v M3 hQ => ?_)
      obtain ⟨rfl, hI⟩ := hQ
      have o3 : ∀ c, c ≠ 100 → c ≠ 106 → gmi M3 c = gmi M c := fun c a b => by rw [hI.1.1.2.2.2 c (by omega), gmi_In _ _ _ a, gmi_In _ _ _ a]; exact eo c a
      have f3 : ∀ j, 12 < j → j ≠ 31 → gmi M3 100 j = gmi M2 100 j := fun j a b => by rw [hI.1.2 j (by omega) (by omega) (by omega) (by omega), gmi_I, va_up_ne _ _ b, gmi_I, va_up_ne _ _ (by omega)]
      have f31 : gmi M3 100 31 = 1 := by rw [hI.1.2 31 (by decide) (by decide) (by decide) (by decide), gmi_I, va_up_self]
      refine g_goto (tgt := 167) dX11_readClause_97 (by decide) ?_
      refine g_vret dX11_readClause_167 rfl ⟨rfl, hI.cl (hf2.tr (kFr.wf (Or.inr (Or.inr (Or.inr (Or.inr (Or.inr rfl))))))) (Or.inl rfl) (fun hr => ?_) rfl⟩
      have hv := (hI.2.2.1 hr).2
      exact ⟨by rw [f3 28 (by decide) (by decide)]; exact e28, by rw [f3 29 (by decide) (by decide)]; exact e29, f31, ⟨hv 0 (by decide), hv 1 (by decide)⟩, fun q hq => by rw [o3 108 (by decide) (by decide)]; exact d108 q hq, fun q hq => by rw [o3 110 (by decide) (by decide)]; exact d110 q hq, d6, d8⟩
    · by_cases k1 : kdN T L p s = 1
      · obtain ⟨c1, c2⟩ := kdN_c1 k1
        have hx1 := s112.mpr c1
        rw [k1, hx1]
        have h3 := h2.wf (k := 28) (v := nI (s.1 + 1)) (by decide)
        have e28b : gmi (gwI M2 100 10 (nI (p + 1))) 100 28 = nI s.1 := by rw [gmi_I, va_up_ne _ _ (by decide)]; exact e28
        have hit := r_readItems (d := d) (k := 1) (c := 108) (row := 3 * s.1) (nl := 18) hx hZ (by decide) h3 ⟨k108 h3.1.1, l108 h3.1.1⟩ ⟨by decide, by decide⟩ (by show 3 * s.1 + 3 ≤ 18; omega) (by decide)
        refine g_istore_n dX11_readClause_4 rfl (by decide) rfl ?_
        refine g_iload_n dX11_readClause_5 rfl rfl rfl ?_
        refine g_bipush (v := 115) dX11_readClause_6 (by decide) rfl ?_
        refine g_icmp_ne (tgt := 18) dX11_readClause_8 (by decide) rfl (fun _ => ?_) (fun h_ => absurd h_ (by decide))
        refine g_iload_n dX11_readClause_18 rfl rfl rfl ?_
        refine g_bipush (v := 112) dX11_readClause_19 (by decide) rfl ?_
        refine g_icmp_ne (tgt := 33) dX11_readClause_21 (by decide) rfl (fun h_ => absurd (rfl) h_) (fun _ => ?_)
        refine g_aload_n dX11_readClause_24 rfl rfl rfl ?_
        refine g_getI dX11_readClause_25 ff_X11_239 rfl (k100 h1.1.1) rfl ?_
        refine g_bipush (v := 6) dX11_readClause_28 (by decide) rfl ?_
        refine g_icmp_lt (tgt := 48) dX11_readClause_30 (by decide) rfl (fun _ => ?_) (fun h_ => absurd (hp6.mpr c2) h_)
        refine g_iconst (v := 1) dX11_readClause_48 (by decide) rfl ?_
        refine g_goto (tgt := 53) dX11_readClause_49 (by decide) ?_
        refine g_istore_n dX11_readClause_53 rfl (by decide) rfl ?_
        refine g_iload_n dX11_readClause_54 rfl rfl rfl ?_
        refine g_if_ne (tgt := 64) dX11_readClause_55 (by decide) rfl (fun _ => ?_) (fun h_ => absurd h_ (by decide))
        refine g_aload_n dX11_readClause_64 rfl rfl rfl ?_
        refine g_dup dX11_readClause_65 rfl rfl ?_
        refine g_getI dX11_readClause_66 ff_X11_113 rfl (k100 h1.1.1) rfl ?_
        refine g_iconst (v := 1) dX11_readClause_69 (by decide) rfl ?_
        refine g_iadd dX11_readClause_70 rfl ?_
        rw [h1.2.1, nI_1]
        refine g_putI dX11_readClause_71 fp_X11_113 rfl rfl rfl (k100 h1.1.1) rfl ?_
        refine g_iload_n dX11_readClause_74 rfl rfl rfl ?_
        refine g_bipush (v := 115) dX11_readClause_75 (by decide) rfl ?_
        refine g_icmp_ne (tgt := 100) dX11_readClause_77 (by decide) rfl (fun _ => ?_) (fun h_ => absurd h_ (by decide))
        refine g_iload_n dX11_readClause_100 rfl rfl rfl ?_
        refine g_bipush (v := 112) dX11_readClause_101 (by decide) rfl ?_
        refine g_icmp_ne (tgt := 138) dX11_readClause_103 (by decide) rfl (fun h_ => absurd (rfl) h_) (fun _ => ?_)
        refine g_aload_n dX11_readClause_106 rfl rfl rfl ?_
        refine g_dup dX11_readClause_107 rfl rfl ?_
        refine g_getI dX11_readClause_108 ff_X11_239 rfl (k100 (gLay_I h1.1.1)) rfl ?_
        refine g_iconst (v := 1) dX11_readClause_111 (by decide) rfl ?_
        refine g_iadd dX11_readClause_112 rfl ?_
        rw [e28b, nI_1]
        refine g_putI dX11_readClause_113 fp_X11_239 rfl rfl rfl (k100 (gLay_I h1.1.1)) rfl ?_
        refine g_aload_n dX11_readClause_116 rfl rfl rfl ?_
        refine g_iload_n dX11_readClause_117 rfl rfl rfl ?_
        refine g_aload_n dX11_readClause_118 rfl rfl rfl ?_
        refine g_getR dX11_readClause_119 ff_X11_46 rfl (k100 (gLay_I (gLay_I h1.1.1))) (r100_21 (gLay_I (gLay_I h1.1.1))) rfl ?_
        refine g_iconst (v := 3) dX11_readClause_122 (by decide) rfl ?_
        refine g_aload_n dX11_readClause_123 rfl rfl rfl ?_
        refine g_getI dX11_readClause_124 ff_X11_239 rfl (k100 (gLay_I (gLay_I h1.1.1))) rfl ?_
        rw [gmi_I, va_up_self]
        refine g_iconst (v := 1) dX11_readClause_127 (by decide) rfl ?_
        refine g_isub dX11_readClause_128 rfl ?_
        rw [nI_pred]
        refine g_imul dX11_readClause_129 rfl ?_
        rw [show (3 : Int32) = nI 3 from rfl, pk_mul]
        refine g_ldcS (i := 6) dX11_readClause_130 hZ (List.mem_of_getElem? (i := 7) rfl) rfl ?_
        refine g_callVq (ci := 11) dX11_readClause_132 lm_X11_247 mv_X11_readItems (hit) rfl rfl (k100 h3.1.1) rfl rfl (Nat.le_of_ble_eq_true rfl) (gFit_room (by omega)) rfl (fun v M3 hQ => ?_)
        obtain ⟨rfl, hI⟩ := hQ
        have o3 : ∀ c, c ≠ 100 → c ≠ 108 → gmi M3 c = gmi M c := fun c a b => by rw [hI.1.1.2.2.2 c (by omega), gmi_In _ _ _ a, gmi_In _ _ _ a]; exact eo c a
        have f3 : ∀ j, 12 < j → j ≠ 28 → gmi M3 100 j = gmi M2 100 j := fun j a b => by rw [hI.1.2 j (by omega) (by omega) (by omega) (by omega), gmi_I, va_up_ne _ _ b, gmi_I, va_up_ne _ _ (by omega)]
        have f28 : gmi M3 100 28 = nI (s.1 + 1) := by rw [hI.1.2 28 (by decide) (by decide) (by decide) (by decide), gmi_I, va_up_self]
        refine g_goto (tgt := 167) dX11_readClause_135 (by decide) ?_
        refine g_vret dX11_readClause_167 rfl ⟨rfl, hI.cl (hf2.tr (kFr.wf (Or.inr (Or.inr (Or.inr (Or.inl rfl)))))) (Or.inr (Or.inl rfl)) (fun hr => ?_) rfl⟩
        have hv := (hI.2.2.1 hr).2
        refine ⟨f28, by rw [f3 29 (by decide) (by decide)]; exact e29, by rw [f3 31 (by decide) (by decide)]; exact e31, by rw [o3 106 (by decide) (by decide)]; exact d106, fun q hq => ?_, fun q hq => by rw [o3 110 (by decide) (by decide)]; exact d110 q hq, by show s.1 + 1 ≤ 6; omega, d8⟩
        have hq2 : q < 3 * (s.1 + 1) := hq
        show gmi M3 108 q = nI (up3 s.2.2.2.2.2.1 (3 * s.1) _ q)
        by_cases hlo : q < 3 * s.1
        · rw [up3_0 _ _ _ (Or.inl hlo), hI.2.1 q (Or.inl hlo), gmi_In _ _ _ (by decide), gmi_In _ _ _ (by decide), eo 108 (by decide)]
          exact d108 q hlo
        · obtain ⟨u0, u1, u2⟩ := up3_1 s.2.2.2.2.2.1 (3 * s.1) (itemsP T L 1 4 (p + 1) 0 (fun j => untN (3 * 1 + j))).2.2
          have hc : q = 3 * s.1 + 0 ∨ q = 3 * s.1 + 1 ∨ q = 3 * s.1 + 2 := by omega
          rcases hc with e | e | e <;> subst e
          · rw [hv 0 (by decide)]; exact congrArg nI u0.symm
          · rw [hv 1 (by decide), u1]
          · rw [hv 2 (by decide), u2]
      · have k2 : kdN T L p s = 2 := by omega
        obtain ⟨c1, c2⟩ := kdN_c2 k2
        have hx1 := s100.mpr c1
        rw [k2, hx1]
        have h3 := h2.wf (k := 29) (v := nI (s.2.1 + 1)) (by decide)
        have e29b : gmi (gwI M2 100 10 (nI (p + 1))) 100 29 = nI s.2.1 := by rw [gmi_I, va_up_ne _ _ (by decide)]; exact e29
        have hit := r_readItems (d := d) (k := 2) (c := 110) (row := 3 * s.2.1) (nl := 24) hx hZ (by decide) h3 ⟨k110 h3.1.1, l110 h3.1.1⟩ ⟨by decide, by decide⟩ (by show 3 * s.2.1 + 3 ≤ 24; omega) (by decide)
        refine g_istore_n dX11_readClause_4 rfl (by decide) rfl ?_
        refine g_iload_n dX11_readClause_5 rfl rfl rfl ?_
        refine g_bipush (v := 115) dX11_readClause_6 (by decide) rfl ?_
        refine g_icmp_ne (tgt := 18) dX11_readClause_8 (by decide) rfl (fun _ => ?_) (fun h_ => absurd h_ (by decide))
        refine g_iload_n dX11_readClause_18 rfl rfl rfl ?_
        refine g_bipush (v := 112) dX11_readClause_19 (by decide) rfl ?_
        refine g_icmp_ne (tgt := 33) dX11_readClause_21 (by decide) rfl (fun _ => ?_) (fun h_ => absurd h_ (by decide))
        refine g_iload_n dX11_readClause_33 rfl rfl rfl ?_
        refine g_bipush (v := 100) dX11_readClause_34 (by decide) rfl ?_
        refine g_icmp_ne (tgt := 52) dX11_readClause_36 (by decide) rfl (fun h_ => absurd (rfl) h_) (fun _ => ?_)
        refine g_aload_n dX11_readClause_39 rfl rfl rfl ?_
        refine g_getI dX11_readClause_40 ff_X11_242 rfl (k100 h1.1.1) rfl ?_
        refine g_bipush (v := 8) dX11_readClause_43 (by decide) rfl ?_
        refine g_icmp_ge (tgt := 52) dX11_readClause_45 (by decide) rfl (fun h_ => absurd h_ (fun z => absurd (hd8.mp z) (by omega))) (fun _ => ?_)
        refine g_iconst (v := 1) dX11_readClause_48 (by decide) rfl ?_
        refine g_goto (tgt := 53) dX11_readClause_49 (by decide) ?_
        refine g_istore_n dX11_readClause_53 rfl (by decide) rfl ?_
        refine g_iload_n dX11_readClause_54 rfl rfl rfl ?_
        refine g_if_ne (tgt := 64) dX11_readClause_55 (by decide) rfl (fun _ => ?_) (fun h_ => absurd h_ (by decide))
        refine g_aload_n dX11_readClause_64 rfl rfl rfl ?_
        refine g_dup dX11_readClause_65 rfl rfl ?_
        refine g_getI dX11_readClause_66 ff_X11_113 rfl (k100 h1.1.1) rfl ?_
        refine g_iconst (v := 1) dX11_readClause_69 (by decide) rfl ?_
        refine g_iadd dX11_readClause_70 rfl ?_
        rw [h1.2.1, nI_1]
        refine g_putI dX11_readClause_71 fp_X11_113 rfl rfl rfl (k100 h1.1.1) rfl ?_
        refine g_iload_n dX11_readClause_74 rfl rfl rfl ?_
        refine g_bipush (v := 115) dX11_readClause_75 (by decide) rfl ?_
        refine g_icmp_ne (tgt := 100) dX11_readClause_77 (by decide) rfl (fun _ => ?_) (fun h_ => absurd h_ (by decide))
        refine g_iload_n dX11_readClause_100 rfl rfl rfl ?_
        refine g_bipush (v := 112) dX11_readClause_101 (by decide) rfl ?_
        refine g_icmp_ne (tgt := 138) dX11_readClause_103 (by decide) rfl (fun _ => ?_) (fun h_ => absurd h_ (by decide))
        refine g_aload_n dX11_readClause_138 rfl rfl rfl ?_
        refine g_dup dX11_readClause_139 rfl rfl ?_
        refine g_getI dX11_readClause_140 ff_X11_242 rfl (k100 (gLay_I h1.1.1)) rfl ?_
        refine g_iconst (v := 1) dX11_readClause_143 (by decide) rfl ?_
        refine g_iadd dX11_readClause_144 rfl ?_
        rw [e29b, nI_1]
        refine g_putI dX11_readClause_145 fp_X11_242 rfl rfl rfl (k100 (gLay_I h1.1.1)) rfl ?_
        refine g_aload_n dX11_readClause_148 rfl rfl rfl ?_
        refine g_iload_n dX11_readClause_149 rfl rfl rfl ?_
        refine g_aload_n dX11_readClause_150 rfl rfl rfl ?_
        refine g_getR dX11_readClause_151 ff_X11_52 rfl (k100 (gLay_I (gLay_I h1.1.1))) (r100_23 (gLay_I (gLay_I h1.1.1))) rfl ?_
        refine g_iconst (v := 3) dX11_readClause_154 (by decide) rfl ?_
        refine g_aload_n dX11_readClause_155 rfl rfl rfl ?_
        refine g_getI dX11_readClause_156 ff_X11_242 rfl (k100 (gLay_I (gLay_I h1.1.1))) rfl ?_
        rw [gmi_I, va_up_self]
        refine g_iconst (v := 1) dX11_readClause_159 (by decide) rfl ?_
        refine g_isub dX11_readClause_160 rfl ?_
        rw [nI_pred]
        refine g_imul dX11_readClause_161 rfl ?_
        rw [show (3 : Int32) = nI 3 from rfl, pk_mul]
        refine g_ldcS (i := 7) dX11_readClause_162 hZ (List.mem_of_getElem? (i := 8) rfl) rfl ?_
        refine g_callVq (ci := 11) dX11_readClause_164 lm_X11_247 mv_X11_readItems (hit) rfl rfl (k100 h3.1.1) rfl rfl (Nat.le_of_ble_eq_true rfl) (gFit_room (by omega)) rfl (fun v M3 hQ => ?_)
        obtain ⟨rfl, hI⟩ := hQ
        have o3 : ∀ c, c ≠ 100 → c ≠ 110 → gmi M3 c = gmi M c := fun c a b => by rw [hI.1.1.2.2.2 c (by omega), gmi_In _ _ _ a, gmi_In _ _ _ a]; exact eo c a
        have f3 : ∀ j, 12 < j → j ≠ 29 → gmi M3 100 j = gmi M2 100 j := fun j a b => by rw [hI.1.2 j (by omega) (by omega) (by omega) (by omega), gmi_I, va_up_ne _ _ b, gmi_I, va_up_ne _ _ (by omega)]
        have f29 : gmi M3 100 29 = nI (s.2.1 + 1) := by rw [hI.1.2 29 (by decide) (by decide) (by decide) (by decide), gmi_I, va_up_self]
        refine g_vret dX11_readClause_167 rfl ⟨rfl, hI.cl (hf2.tr (kFr.wf (Or.inr (Or.inr (Or.inr (Or.inr (Or.inl rfl))))))) (Or.inr (Or.inr (Or.inl rfl))) (fun hr => ?_) rfl⟩
        have hv := (hI.2.2.1 hr).2
        refine ⟨by rw [f3 28 (by decide) (by decide)]; exact e28, f29, by rw [f3 31 (by decide) (by decide)]; exact e31, by rw [o3 106 (by decide) (by decide)]; exact d106, fun q hq => by rw [o3 108 (by decide) (by decide)]; exact d108 q hq, fun q hq => ?_, d6, by show s.2.1 + 1 ≤ 8; omega⟩
        have hq2 : q < 3 * (s.2.1 + 1) := hq
        show gmi M3 110 q = nI (up3 s.2.2.2.2.2.2 (3 * s.2.1) _ q)
        by_cases hlo : q < 3 * s.2.1
        · rw [up3_0 _ _ _ (Or.inl hlo), hI.2.1 q (Or.inl hlo), gmi_In _ _ _ (by decide), gmi_In _ _ _ (by decide), eo 110 (by decide)]
          exact d110 q hlo
        · obtain ⟨u0, u1, u2⟩ := up3_1 s.2.2.2.2.2.2 (3 * s.2.1) (itemsP T L 2 4 (p + 1) 0 (fun j => untN (3 * 2 + j))).2.2
          have hc : q = 3 * s.2.1 + 0 ∨ q = 3 * s.2.1 + 1 ∨ q = 3 * s.2.1 + 2 := by omega
          rcases hc with e | e | e <;> subst e
          · rw [hv 0 (by decide)]; exact congrArg nI u0.symm
          · rw [hv 1 (by decide), u1]
          · rw [hv 2 (by decide), u2]
end H26
