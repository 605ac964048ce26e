section F8
variable {X : gX} {M : gM} {d : Nat} {b nb off : Nat} {T : Nat → Nat} {L i : Nat} {lt : Nat → Int32}
/-- what going through a text changes -/
def tFr (M M2 : gM) : Prop := (∀ c, gkd M2 c = gkd M c ∧ gln M2 c = gln M c) ∧ (∀ c, c ≠ 100 → gmr M2 c = gmr M c) ∧ (∀ j, j ≠ 5 → gmr M2 100 j = gmr M 100 j) ∧ (∀ c, gml M2 c = gml M c) ∧ (∀ c, c ≠ 100 → gmi M2 c = gmi M c) ∧ ∀ j, j < 8 ∨ 14 < j → j ≠ 17 → gmi M2 100 j = gmi M 100 j
theorem tFr.rf : tFr M M := ⟨fun _ => ⟨rfl, rfl⟩, fun _ _ => rfl, fun _ _ => rfl, fun _ => rfl, fun _ _ => rfl, fun _ _ _ => rfl⟩
theorem tFr.tr {M1 M2 M3 : gM} (h : tFr M1 M2) (h2 : tFr M2 M3) : tFr M1 M3 := ⟨fun c => ⟨(h2.1 c).1.trans (h.1 c).1, (h2.1 c).2.trans (h.1 c).2⟩, fun c hc => (h2.2.1 c hc).trans (h.2.1 c hc), fun j hj => (h2.2.2.1 j hj).trans (h.2.2.1 j hj), fun c => (h2.2.2.2.1 c).trans (h.2.2.2.1 c), fun c hc => (h2.2.2.2.2.1 c hc).trans (h.2.2.2.2.1 c hc), fun j a b => (h2.2.2.2.2.2 j a b).trans (h.2.2.2.2.2 j a b)⟩
theorem grt5 : ∀ q ∈ grt, q.1 = 100 → q.2.1 ≠ 5 := by decide +kernel
theorem tFr.lay {M2 : gM} (h : tFr M M2) (hL : gLay M) : gLay M2 := ⟨fun a ha => (h.1 a).1.trans (hL.1 a ha), fun a ha => (h.1 a).2.trans (hL.2.1 a ha), fun q hq => by
  by_cases e : q.1 = 100
  · rw [e, h.2.2.1 _ (grt5 q hq e), ← e]; exact hL.2.2 q hq
  · rw [h.2.1 _ e]; exact hL.2.2 q hq⟩
theorem cFr.t {M2 : gM} (h : cFr M M2) : tFr M M2 := ⟨h.1.1, fun c _ => h.1.2.1 c, fun j _ => by rw [h.1.2.1], h.1.2.2.1, fun c hc => h.1.2.2.2 c hc, fun j a b => h.2 j (by omega) (by omega) (by omega) (by omega) b⟩
theorem iFr.t {M2 : gM} (h : iFr M M2) : tFr M M2 := h.c.t
theorem tFr.put {j : Nat} {v : Int32} (h : (8 ≤ j ∧ j ≤ 14) ∨ j = 17) : tFr M (gwI M 100 j v) := ⟨fun _ => ⟨rfl, rfl⟩, fun _ _ => rfl, fun _ _ => rfl, fun _ => rfl, fun c hc => gmi_In _ _ _ hc, fun q a b => by rw [gmi_I, va_up_ne _ _ (by omega)]⟩
theorem tFr.putR {v : Option Nat} : tFr M (gwR M 100 5 v) := ⟨fun _ => ⟨rfl, rfl⟩, fun c hc => gmr_Rn hc, fun j hj => by rw [gmr_Rs, va_up_ne _ _ hj], fun _ => rfl, fun c hc => rfl, fun q a b => rfl⟩
/-- a text of signs in a row of bytes -/
def TxB (M : gM) (b nb off : Nat) (T : Nat → Nat) (L : Nat) : Prop := (gkd M b = 33 ∧ gln M b = nb) ∧ (off + L ≤ nb ∧ nb ≤ 960 ∧ L ≤ 240 ∧ b ≠ 100) ∧ ∀ k, k < L → gmi M b (off + k) = (nI (T k)).toInt8.toInt32 ∧ 0 < T k ∧ T k < 256
set_option maxRecDepth 20000 in
theorem r_starts (hx : gXok X) (hL : gLay M) (hT : TxB M b nb off T L) : gPos X (d + 0) yX11_starts cX11_starts 4 none [.ref 100, .ref b, .int (nI off), .int (nI L)] M (fun v M2 => v = none ∧ tFr M M2 ∧ RS M2 b nb off T L ∧ gmi M2 100 10 = nI 0 ∧ gmi M2 100 11 = -1 ∧ gmi M2 100 12 = gmi M 100 12 ∧ gmi M2 100 13 = gmi M 100 13 ∧ gmi M2 100 14 = gmi M 100 14 ∧ gmi M2 100 17 = gmi M 100 17) := by
  refine gMet.of hx (by decide) (Nat.le_of_ble_eq_true rfl) ?_
  have hL1 : gLay (gwR M 100 5 (some b)) := (tFr.putR).lay hL
  refine g_aload_n dX11_starts_0 rfl rfl rfl ?_
  refine g_aload_n dX11_starts_1 rfl rfl rfl ?_
  refine g_putR dX11_starts_2 fp_X11_23 rfl (k100 hL) (Or.inl (by rw [hT.1.1]; decide)) rfl ?_
  refine g_aload_n dX11_starts_5 rfl rfl rfl ?_
  refine g_iload_n dX11_starts_6 rfl rfl rfl ?_
  refine g_putI dX11_starts_7 fp_X11_119 rfl rfl rfl (k100 hL1) rfl ?_
  refine g_aload_n dX11_starts_10 rfl rfl rfl ?_
  refine g_iload_n dX11_starts_11 rfl rfl rfl ?_
  refine g_putI dX11_starts_12 fp_X11_116 rfl rfl rfl (k100 (gLay_I hL1)) rfl ?_
  refine g_aload_n dX11_starts_15 rfl rfl rfl ?_
  refine g_iconst (v := 0) dX11_starts_16 (by decide) rfl ?_
  refine g_putI dX11_starts_17 fp_X11_113 rfl rfl rfl (k100 (gLay_I (gLay_I hL1))) rfl ?_
  refine g_aload_n dX11_starts_20 rfl rfl rfl ?_
  refine g_iconst (v := -1) dX11_starts_21 (by decide) rfl ?_
  refine g_putI dX11_starts_22 fp_X11_122 rfl rfl rfl (k100 (gLay_I (gLay_I (gLay_I hL1)))) rfl ?_
  exact g_vret dX11_starts_25 rfl (⟨rfl, (((tFr.putR.tr (tFr.put (Or.inl ⟨by decide, by decide⟩))).tr (tFr.put (Or.inl ⟨by decide, by decide⟩))).tr (tFr.put (Or.inl ⟨by decide, by decide⟩))).tr (tFr.put (Or.inl ⟨by decide, by decide⟩)), ⟨gLay_I (gLay_I (gLay_I (gLay_I hL1))), by show gmr (gwR M 100 5 (some b)) 100 5 = _; rw [gmr_Rs, va_up_self], hT.1, by rw [gmi_I, va_up_ne _ _ (by decide), gmi_I, va_up_ne _ _ (by decide), gmi_I, va_up_ne _ _ (by decide), gmi_I, va_up_self], by rw [gmi_I, va_up_ne _ _ (by decide), gmi_I, va_up_ne _ _ (by decide), gmi_I, va_up_self], hT.2.1, fun k hk => by rw [gmi_In _ _ _ hT.2.1.2.2.2, gmi_In _ _ _ hT.2.1.2.2.2, gmi_In _ _ _ hT.2.1.2.2.2, gmi_In _ _ _ hT.2.1.2.2.2]; exact hT.2.2 k hk⟩, by rw [gmi_I, va_up_ne _ _ (by decide), gmi_I, va_up_self]; rfl, by rw [gmi_I, va_up_self], by rw [gmi_I, va_up_ne _ _ (by decide), gmi_I, va_up_ne _ _ (by decide), gmi_I, va_up_ne _ _ (by decide), gmi_I, va_up_ne _ _ (by decide)]; rfl, by rw [gmi_I, va_up_ne _ _ (by decide), gmi_I, va_up_ne _ _ (by decide), gmi_I, va_up_ne _ _ (by decide), gmi_I, va_up_ne _ _ (by decide)]; rfl, by rw [gmi_I, va_up_ne _ _ (by decide), gmi_I, va_up_ne _ _ (by decide), gmi_I, va_up_ne _ _ (by decide), gmi_I, va_up_ne _ _ (by decide)]; rfl, by rw [gmi_I, va_up_ne _ _ (by decide), gmi_I, va_up_ne _ _ (by decide), gmi_I, va_up_ne _ _ (by decide), gmi_I, va_up_ne _ _ (by decide)]; rfl⟩)
/-- what going through a law leaves -/
def GT (M : gM) (lt : Nat → Int32) (T : Nat → Nat) (L : Nat) (M2 : gM) : Prop := tFr M M2 ∧ gmi M2 100 11 = lawV T L ∧ (lawOK T L = true → gmi M2 100 14 = clE (lwP T L 61 0).2.2 lt)
set_option maxRecDepth 20000 in
set_option maxHeartbeats 2000000 in
theorem r_goThrough (hx : gXok X) (hZ : gSt X) (hL : gLay M) (hT : TxB M b nb off T L) (hlt : LtR M lt) : gPos X (d + 31) yX11_goThrough cX11_goThrough 4 none [.ref 100, .ref b, .int (nI off), .int (nI L)] M (fun v M2 => v = none ∧ GT M lt T L M2) := by
  refine gMet.of hx (by decide) (Nat.le_of_ble_eq_true rfl) ?_
  have h240 := hT.2.1.2.2.1
  unfold GT lawV lawOK lawAt
  generalize hR : lwP T L 61 0 = R
  refine g_aload_n dX11_goThrough_0 rfl rfl rfl ?_
  refine g_aload_n dX11_goThrough_1 rfl rfl rfl ?_
  refine g_iload_n dX11_goThrough_2 rfl rfl rfl ?_
  refine g_iload_n dX11_goThrough_3 rfl rfl rfl ?_
  refine g_callVq (ci := 11) dX11_goThrough_4 lm_X11_201 mv_X11_starts (r_starts (d := d + 30) hx hL hT) rfl rfl (k100 hL) rfl rfl (Nat.le_of_ble_eq_true rfl) (gFit_room (by omega)) rfl (fun v M2 hQ => ?_)
  obtain ⟨rfl, hf⟩ := hQ
  obtain ⟨hF1, hRS, e10, e11, e12, e13, e14, e17⟩ := hf
  refine g_aload_n dX11_goThrough_7 rfl rfl rfl ?_
  refine g_bipush (v := 121) dX11_goThrough_8 (by decide) rfl ?_
  refine g_putI dX11_goThrough_10 fp_X11_195 rfl rfl rfl (k100 hRS.1) rfl ?_
  refine g_aload_n dX11_goThrough_13 rfl rfl rfl ?_
  refine g_iconst (v := 0) dX11_goThrough_14 (by decide) rfl ?_
  refine g_putI dX11_goThrough_15 fp_X11_125 rfl rfl rfl (k100 (gLay_I hRS.1)) rfl ?_
  refine g_aload_n dX11_goThrough_18 rfl rfl rfl ?_
  refine g_iconst (v := 0) dX11_goThrough_19 (by decide) rfl ?_
  refine g_putI dX11_goThrough_20 fp_X11_191 rfl rfl rfl (k100 (gLay_I (gLay_I hRS.1))) rfl ?_
  refine g_aload_n dX11_goThrough_23 rfl rfl rfl ?_
  refine g_iconst (v := 0) dX11_goThrough_24 (by decide) rfl ?_
  refine g_putI dX11_goThrough_25 fp_X11_198 rfl rfl rfl (k100 (gLay_I (gLay_I (gLay_I hRS.1)))) rfl ?_
  have hF2 := hF1.tr ((((tFr.put (M := M2) (j := 13) (v := 121) (Or.inl ⟨by decide, by decide⟩)).tr (tFr.put (j := 12) (v := 0) (Or.inl ⟨by decide, by decide⟩))).tr (tFr.put (j := 17) (v := 0) (Or.inr rfl))).tr (tFr.put (j := 14) (v := 0) (Or.inl ⟨by decide, by decide⟩)))
  have hP0 : PS (gwI (gwI (gwI (gwI M2 100 13 121) 100 12 0) 100 17 0) 100 14 0) b nb off T L 0 (-1) 0 := by
    refine ⟨⟨gLay_I (gLay_I (gLay_I (gLay_I hRS.1))), hRS.2.1, hRS.2.2.1, ?_, ?_, hRS.2.2.2.2.2.1, fun k hk => ?_⟩, ?_, Nat.zero_le _, ?_, ?_⟩
    · rw [gmi_I, va_up_ne _ _ (by decide), gmi_I, va_up_ne _ _ (by decide), gmi_I, va_up_ne _ _ (by decide), gmi_I, va_up_ne _ _ (by decide)]; exact hRS.2.2.2.1
    · rw [gmi_I, va_up_ne _ _ (by decide), gmi_I, va_up_ne _ _ (by decide), gmi_I, va_up_ne _ _ (by decide), gmi_I, va_up_ne _ _ (by decide)]; exact hRS.2.2.2.2.1
    · rw [gmi_In _ _ _ hT.2.1.2.2.2, gmi_In _ _ _ hT.2.1.2.2.2, gmi_In _ _ _ hT.2.1.2.2.2, gmi_In _ _ _ hT.2.1.2.2.2]; exact hRS.2.2.2.2.2.2 k hk
    · rw [gmi_I, va_up_ne _ _ (by decide), gmi_I, va_up_ne _ _ (by decide), gmi_I, va_up_ne _ _ (by decide), gmi_I, va_up_ne _ _ (by decide)]; exact e10
    · rw [gmi_I, va_up_ne _ _ (by decide), gmi_I, va_up_ne _ _ (by decide), gmi_I, va_up_ne _ _ (by decide), gmi_I, va_up_ne _ _ (by decide)]; exact e11
    · rw [gmi_I, va_up_ne _ _ (by decide), gmi_I, va_up_ne _ _ (by decide), gmi_I, va_up_self]; rfl
  have l13 : gmi (gwI (gwI (gwI (gwI M2 100 13 121) 100 12 0) 100 17 0) 100 14 0) 100 13 = 121 := by rw [gmi_I, va_up_ne _ _ (by decide), gmi_I, va_up_ne _ _ (by decide), gmi_I, va_up_ne _ _ (by decide), gmi_I, va_up_self]
  have l17 : gmi (gwI (gwI (gwI (gwI M2 100 13 121) 100 12 0) 100 17 0) 100 14 0) 100 17 = 0 := by rw [gmi_I, va_up_ne _ _ (by decide), gmi_I, va_up_self]
  have l14 : gmi (gwI (gwI (gwI (gwI M2 100 13 121) 100 12 0) 100 17 0) 100 14 0) 100 14 = 0 := by rw [gmi_I, va_up_self]
  generalize gwI (gwI (gwI (gwI M2 100 13 121) 100 12 0) 100 17 0) 100 14 0 = M3 at hF2 hP0 l13 l17 l14 ⊢
  generalize hQ0 : (fun (v : Option Value) (M2 : gM) => v = none ∧ tFr M M2 ∧ gmi M2 100 11 = (if (R.1 && decide (L ≤ nxt T L R.2.1)) = true then -1 else nI (if R.1 = true then nxt T L R.2.1 else R.2.1)) ∧ ((R.1 && decide (L ≤ nxt T L R.2.1)) = true → gmi M2 100 14 = clE R.2.2 lt)) = Q
  -- the end behind a fault
  have finB : ∀ (M1 : gM) (p : Nat), tFr M M1 → (gmi M1 100 11 = nI p ∧ ¬ gmi M1 100 11 = -1) → R.1 = false → R.2.1 = p → gW X (gRoom (d + 31) 0 0) (gZ X gN0 0 0 Q) gN0 yX11_goThrough cX11_goThrough 4 none 32 [(0, .ref 100)] [] M1 0 0 := by
    intro M1 p hF hb e1 e2
    have hL1 := hF.lay hL
    rw [← hQ0]
    refine g_aload_n dX11_goThrough_32 rfl rfl rfl ?_
    refine g_getI dX11_goThrough_33 ff_X11_122 rfl (k100 hL1) rfl ?_
    refine g_iconst (v := -1) dX11_goThrough_36 (by decide) rfl ?_
    refine g_icmp_ne (tgt := 66) dX11_goThrough_37 (by decide) rfl (fun _ => ?_) (fun h_ => absurd h_ (hb.2))
    refine g_aload_n dX11_goThrough_66 rfl rfl rfl ?_
    refine g_getI dX11_goThrough_67 ff_X11_122 rfl (k100 hL1) rfl ?_
    refine g_iconst (v := -1) dX11_goThrough_70 (by decide) rfl ?_
    refine g_icmp_ne (tgt := 87) dX11_goThrough_71 (by decide) rfl (fun _ => ?_) (fun h_ => absurd h_ (hb.2))
    exact g_vret dX11_goThrough_87 rfl (⟨rfl, hF, by rw [e1, Bool.false_and, if_neg Bool.false_ne_true, if_neg Bool.false_ne_true, e2]; exact hb.1, fun z => by rw [e1, Bool.false_and] at z; exact absurd z Bool.false_ne_true⟩)
  -- the loop, and the end
  have main : ∀ (n : Nat) (M1 : gM) (j : Nat), 244 ≤ j + 4 * n → tFr M M1 → PS M1 b nb off T L j (-1) 0 → gmi M1 100 13 = 121 → (gmi M1 100 17 = 0 → gmi M1 100 14 = 0) → R.1 = (lwP T L n j).1 → R.2.1 = (lwP T L n j).2.1 → (R.1 = true → clE R.2.2 lt = if gmi M1 100 17 = 0 then clE (lwP T L n j).2.2 lt else gmi M1 100 14) → ∀ pc, pc = 28 ∨ pc = 59 → gW X (gRoom (d + 31) 0 0) (gZ X gN0 0 0 Q) gN0 yX11_goThrough cX11_goThrough 4 none pc [(0, .ref 100)] [] M1 0 0 := by
    intro n
    induction n with
    | zero =>
      intro M1 j hj hF h1
      have := h1.2.2.1
      omega
    | succ n ih =>
      intro M1 j hj hF h1 hlab h17 e1 e2 e3 pc hpc
      unfold lwP at e1 e2 e3
      have hys := yP_san (T := T) h1.2.2.1
      have hltM : LtR M1 lt := fun s hs => by rw [hF.2.2.2.2.1 104 (by decide)]; exact hlt s hs
      -- behind the clause, at 32
      have aft : ∀ (M4 : gM), CO M1 lt b nb off T L (yP T L j) none M4 → gW X (gRoom (d + 31) 0 0) (gZ X gN0 0 0 Q) gN0 yX11_goThrough cX11_goThrough 4 none 32 [(0, .ref 100)] [] M4 0 0 := by
        intro M4 hco
        obtain ⟨-, hcf, hok, hbad⟩ := hco
        generalize yP T L j = r at *
        by_cases hr : r.1 = true
        · rw [if_pos hr] at e1 e2 e3
          obtain ⟨h4, f17, f14⟩ := hok hr
          have hF4 := hF.tr hcf.t
          have hs4 := (hys.2 hr).1
          have hnr := nxt_le (T := T) h4.2.2.1
          have hgr := nxt_ge (T := T) (L := L) (i := r.2.1)
          have is59 := h4.is (j := r.2.1) (c := 59) (by decide)
          have hlab4 : gmi M4 100 13 = 121 := by rw [hcf.2 13 (by decide) (by decide) (by decide) (by decide) (by decide)]; exact hlab
          -- what is found, with the clause read
          have hfound : ∀ rest : List CL, (if gmi M1 100 17 = 0 then clE (r.2.2 :: rest) lt else gmi M1 100 14) = if gmi M4 100 17 = 0 then clE rest lt else gmi M4 100 14 := by
            intro rest
            show (if gmi M1 100 17 = 0 then (if r.2.2.2.2.1 lt ≠ 0 then r.2.2.2.2.2 lt else clE rest lt) else gmi M1 100 14) = _
            by_cases z : gmi M1 100 17 = 0
            · by_cases y : r.2.2.2.2.1 lt ≠ 0
              · have g17 : gmi M4 100 17 = 1 := f17.trans (if_pos ⟨z, y⟩)
                have g14 := f14.trans (if_pos ⟨z, y⟩)
                rw [g17, g14, if_pos z, if_pos y, if_neg (by decide)]
              · have g17 := f17.trans (if_neg (fun q => y q.2))
                have g14 := f14.trans (if_neg (fun q => y q.2))
                rw [g17, g14, if_pos z, if_neg y, if_pos z]
            · have g17 := f17.trans (if_neg (fun q => z q.1))
              have g14 := f14.trans (if_neg (fun q => z q.1))
              rw [g17, g14, if_neg z, if_neg z]
          have h17b : gmi M4 100 17 = 0 → gmi M4 100 14 = 0 := by
            by_cases z : gmi M1 100 17 = 0 ∧ r.2.2.2.2.1 lt ≠ 0
            · rw [f17.trans (if_pos z)]; exact fun q => absurd q (by decide)
            · rw [f17.trans (if_neg z), f14.trans (if_neg z)]; exact h17
          by_cases hm : isS T L r.2.1 59 = true
          · rw [if_pos hm] at e1 e2 e3
            refine g_aload_n dX11_goThrough_32 rfl rfl rfl ?_
            refine g_getI dX11_goThrough_33 ff_X11_122 rfl (k100 h4.1.1) rfl ?_
            refine g_iconst (v := -1) dX11_goThrough_36 (by decide) rfl ?_
            rw [h4.2.2.2.1]
            refine g_icmp_ne (tgt := 66) dX11_goThrough_37 (by decide) rfl (fun h_ => absurd (rfl) h_) (fun _ => ?_)
            refine g_aload_n dX11_goThrough_40 rfl rfl rfl ?_
            refine g_callVq (ci := 11) dX11_goThrough_41 lm_X11_132 mv_X11_look (r_look (d := d + 30) hx h4) rfl rfl (k100 h4.1.1) rfl rfl (Nat.le_of_ble_eq_true rfl) (gFit_room (by omega)) rfl (fun v M2 hQ => ?_)
            obtain ⟨rfl, hf⟩ := hQ
            obtain ⟨hf5, h5⟩ := hf
            refine g_bipush (v := 59) dX11_goThrough_44 (by decide) rfl ?_
            refine g_icmp_ne (tgt := 66) dX11_goThrough_46 (by decide) rfl (fun h_ => absurd (is59.mp hm) h_) (fun _ => ?_)
            refine g_aload_n dX11_goThrough_49 rfl rfl rfl ?_
            refine g_dup dX11_goThrough_50 rfl rfl ?_
            refine g_getI dX11_goThrough_51 ff_X11_113 rfl (k100 h5.1.1) rfl ?_
            refine g_iconst (v := 1) dX11_goThrough_54 (by decide) rfl ?_
            refine g_iadd dX11_goThrough_55 rfl ?_
            rw [h5.2.1, nI_1]
            refine g_putI dX11_goThrough_56 fp_X11_113 rfl rfl rfl (k100 h5.1.1) rfl ?_
            have hi10 : iFr M2 (gwI M2 100 10 (nI (nxt T L r.2.1 + 1))) := iFr.put (Or.inl rfl)
            have hfi := hf5.tr hi10
            exact g_go (ih _ (nxt T L r.2.1 + 1) (by omega) (hF4.tr hfi.t) (h5.at (isS_in hm).1) (by rw [hfi.2 13 (by decide) (by decide) (by decide)]; exact hlab4) (by rw [hfi.2 17 (by decide) (by decide) (by decide), hfi.2 14 (by decide) (by decide) (by decide)]; exact h17b) e1 e2 (fun q => by rw [e3 q, hfound, hfi.2 17 (by decide) (by decide) (by decide), hfi.2 14 (by decide) (by decide) (by decide)]) 59 (Or.inr rfl)) ⟨rfl, trivial⟩
          · rw [if_neg hm] at e1 e2 e3
            have f1 : R.1 = true := e1
            have f2 : R.2.1 = nxt T L r.2.1 := e2
            have f3 := e3 f1
            rw [hfound] at f3
            have f4 : clE R.2.2 lt = gmi M4 100 14 := by
              rw [f3]
              by_cases z : gmi M4 100 17 = 0
              · rw [if_pos z, h17b z]; rfl
              · rw [if_neg z]
            rw [← hQ0, f1, f2, nxt_nxt, Bool.true_and, if_pos rfl]
            refine g_aload_n dX11_goThrough_32 rfl rfl rfl ?_
            refine g_getI dX11_goThrough_33 ff_X11_122 rfl (k100 h4.1.1) rfl ?_
            refine g_iconst (v := -1) dX11_goThrough_36 (by decide) rfl ?_
            rw [h4.2.2.2.1]
            refine g_icmp_ne (tgt := 66) dX11_goThrough_37 (by decide) rfl (fun h_ => absurd (rfl) h_) (fun _ => ?_)
            refine g_aload_n dX11_goThrough_40 rfl rfl rfl ?_
            refine g_callVq (ci := 11) dX11_goThrough_41 lm_X11_132 mv_X11_look (r_look (d := d + 30) hx h4) rfl rfl (k100 h4.1.1) rfl rfl (Nat.le_of_ble_eq_true rfl) (gFit_room (by omega)) rfl (fun v M2 hQ => ?_)
            obtain ⟨rfl, hf⟩ := hQ
            obtain ⟨hf5, h5⟩ := hf
            refine g_bipush (v := 59) dX11_goThrough_44 (by decide) rfl ?_
            refine g_icmp_ne (tgt := 66) dX11_goThrough_46 (by decide) rfl (fun _ => ?_) (fun h_ => absurd h_ (fun z => hm (is59.mpr z)))
            refine g_aload_n dX11_goThrough_66 rfl rfl rfl ?_
            refine g_getI dX11_goThrough_67 ff_X11_122 rfl (k100 h5.1.1) rfl ?_
            refine g_iconst (v := -1) dX11_goThrough_70 (by decide) rfl ?_
            rw [h5.2.2.2.1]
            refine g_icmp_ne (tgt := 87) dX11_goThrough_71 (by decide) rfl (fun h_ => absurd (rfl) h_) (fun _ => ?_)
            refine g_aload_n dX11_goThrough_74 rfl rfl rfl ?_
            refine g_callVq (ci := 11) dX11_goThrough_75 lm_X11_132 mv_X11_look (r_look (d := d + 30) hx h5) rfl rfl (k100 h5.1.1) rfl rfl (Nat.le_of_ble_eq_true rfl) (gFit_room (by omega)) rfl (fun v M2 hQ => ?_)
            obtain ⟨rfl, hf⟩ := hQ
            rw [nxt_nxt] at hf
            rw [nxt_nxt]
            obtain ⟨hf6, h6⟩ := hf
            have hfi := hf5.tr hf6
            have f14' : gmi M2 100 14 = gmi M4 100 14 := hfi.2 14 (by decide) (by decide) (by decide)
            by_cases hend : nxt T L r.2.1 < L
            · have hTk := (h6.1.2.2.2.2.2.2 _ hend).2
              rw [show sgn T L (nxt T L r.2.1) = nI (T (nxt T L r.2.1)) from if_pos hend]
              refine g_iconst (v := -1) dX11_goThrough_78 (by decide) rfl ?_
              refine g_icmp_eq (tgt := 87) dX11_goThrough_79 (by decide) rfl (fun h_ => absurd h_ (neg1 (by omega))) (fun _ => ?_)
              refine g_aload_n dX11_goThrough_82 rfl rfl rfl ?_
              refine g_callVq (ci := 11) dX11_goThrough_83 lm_X11_128 mv_X11_fails (r_fails0 (d := d + 30) hx h6) rfl rfl (k100 h6.1.1) rfl rfl (Nat.le_of_ble_eq_true rfl) (gFit_room (by omega)) rfl (fun v M2 hQ => ?_)
              obtain ⟨rfl, hf⟩ := hQ
              refine g_pop dX11_goThrough_86 rfl rfl ?_
              exact g_vret dX11_goThrough_87 rfl (⟨rfl, (hF4.tr hfi.t).tr hf.1.t, by rw [decide_eq_false (show ¬ L ≤ nxt T L r.2.1 by omega), if_neg Bool.false_ne_true]; exact hf.2.2.2.2.1, fun z => absurd (of_decide_eq_true z) (by omega)⟩)
            · rw [show sgn T L (nxt T L r.2.1) = -1 from if_neg hend]
              refine g_iconst (v := -1) dX11_goThrough_78 (by decide) rfl ?_
              refine g_icmp_eq (tgt := 87) dX11_goThrough_79 (by decide) rfl (fun _ => ?_) (fun h_ => absurd (rfl) h_)
              exact g_vret dX11_goThrough_87 rfl (⟨rfl, hF4.tr hfi.t, by rw [decide_eq_true (show L ≤ nxt T L r.2.1 by omega), if_pos rfl]; exact h6.2.2.2.1, fun _ => by rw [f4]; exact f14'⟩)
        · rw [if_neg hr] at e1 e2 e3
          exact finB M4 _ (hF.tr hcf.t) (hbad hr) e1 e2
      rcases hpc with rfl | rfl
      · refine g_aload_n dX11_goThrough_28 rfl rfl rfl ?_
        refine g_callVq (ci := 11) dX11_goThrough_29 lm_X11_205 mv_X11_clause (r_clause (d := d) hx hZ h1 hltM hlab) rfl rfl (k100 h1.1.1) rfl rfl (Nat.le_of_ble_eq_true rfl) (gFit_room (by omega)) rfl (fun v M2 hQ => ?_)
        obtain ⟨rfl, hf⟩ := hQ
        exact g_go (aft _ ⟨rfl, hf⟩) ⟨rfl, trivial⟩
      · refine g_aload_n dX11_goThrough_59 rfl rfl rfl ?_
        refine g_callVq (ci := 11) dX11_goThrough_60 lm_X11_205 mv_X11_clause (r_clause (d := d) hx hZ h1 hltM hlab) rfl rfl (k100 h1.1.1) rfl rfl (Nat.le_of_ble_eq_true rfl) (gFit_room (by omega)) rfl (fun v M2 hQ => ?_)
        obtain ⟨rfl, hf⟩ := hQ
        refine g_goto (tgt := 32) dX11_goThrough_63 (by decide) ?_
        exact g_go (aft _ ⟨rfl, hf⟩) ⟨rfl, trivial⟩
  exact g_go (main 61 _ 0 (by decide) hF2 hP0 l13 (fun _ => l14) (by rw [hR]) (by rw [hR]) (fun _ => by rw [if_pos l17, hR]) 28 (Or.inl rfl)) ⟨rfl, trivial⟩
end F8
