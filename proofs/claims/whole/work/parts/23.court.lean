section C0
variable {X : gX} {M : gM} {d : Nat}
/-- the same memory but for the whole numbers of the cells of S -/
def gFr (S : Nat → Prop) (M M2 : gM) : Prop := (∀ c, gkd M2 c = gkd M c ∧ gln M2 c = gln M c) ∧ (∀ c, gmr M2 c = gmr M c) ∧ (∀ c, gml M2 c = gml M c) ∧ ∀ c, ¬ S c → gmi M2 c = gmi M c
theorem gFr.rf {S : Nat → Prop} : gFr S M M := ⟨fun _ => ⟨rfl, rfl⟩, fun _ => rfl, fun _ => rfl, fun _ _ => rfl⟩
theorem gFr.tr {S : Nat → Prop} {M1 M2 M3 : gM} (h : gFr S M1 M2) (h2 : gFr S M2 M3) : gFr S M1 M3 :=
  ⟨fun c => ⟨(h2.1 c).1.trans (h.1 c).1, (h2.1 c).2.trans (h.1 c).2⟩, fun c => (h2.2.1 c).trans (h.2.1 c), fun c => (h2.2.2.1 c).trans (h.2.2.1 c), fun c hc => (h2.2.2.2 c hc).trans (h.2.2.2 c hc)⟩
theorem gFr.wF {S : Nat → Prop} {a : Nat} {f : Nat → Int32} (ha : S a) : gFr S M (gwF M a f) := ⟨fun _ => ⟨rfl, rfl⟩, fun _ => rfl, fun _ => rfl, fun c hc => gmi_Fn _ _ (fun e => hc (by rw [e]; exact ha))⟩
theorem gFr.wI {S : Nat → Prop} {a i : Nat} {v : Int32} (ha : S a) : gFr S M (gwI M a i v) := gFr.wF ha
theorem gFr.mono {S T : Nat → Prop} {M2 : gM} (h : gFr S M M2) (hs : ∀ c, S c → T c) : gFr T M M2 := ⟨h.1, h.2.1, h.2.2.1, fun c hc => h.2.2.2 c (fun q => hc (hs c q))⟩
theorem gFr.lay {S : Nat → Prop} {M2 : gM} (h : gFr S M M2) (hL : gLay M) : gLay M2 := ⟨fun a ha => (h.1 a).1.trans (hL.1 a ha), fun a ha => (h.1 a).2.trans (hL.2.1 a ha), fun q hq => by rw [h.2.1]; exact hL.2.2 q hq⟩
theorem gFr.play {S : Nat → Prop} {M2 : gM} (h : gFr S M M2) (hL : PLay M) : PLay M2 := fun i hi => by rw [h.2.1]; exact hL i hi
theorem okv_eq {M2 : gM} {c i b : Nat} (h : gmi M2 c = gmi M c) (ho : okv M c i b) : okv M2 c i b := by unfold okv tv at ho ⊢; rw [h]; exact ho
theorem tv_eq {M2 : gM} {c : Nat} (h : gmi M2 c = gmi M c) : tv M2 c = tv M c := by funext i; unfold tv; rw [h]
/-- what the barber's reading writes over: the letters, the numbers that wait -/
def scr0 : Nat → Prop := fun c => c = 22 ∨ ∃ k, c = 204 + 5 * k
theorem scr0_lo {c : Nat} (h : c < 200) (h2 : c ≠ 22) : ¬ scr0 c := fun q => q.elim h2 (fun ⟨k, hk⟩ => by omega)
theorem scr0_lo2 {c : Nat} (h : 22 < c) (h2 : c < 200) : ¬ scr0 c := fun q => q.elim (by omega) (fun ⟨k, hk⟩ => by omega)
theorem gFr.town {S : Nat → Prop} {M2 : gM} (h : gFr S M M2) (hs : ∀ c, 3 ≤ c → c < 11 → ¬ S c) (hT : TownOK M) : TownOK M2 := by
  obtain ⟨h1, h2, h3, h4, h5, h6, h7, h8⟩ := hT
  have e : ∀ c, 3 ≤ c → c < 11 → gmi M2 c = gmi M c := fun c a b => h.2.2.2 c (hs c a b)
  exact ⟨okv_eq (e 3 (by omega) (by omega)) h1, okv_eq (e 3 (by omega) (by omega)) h2, fun k hk => okv_eq (e 7 (by omega) (by omega)) (h3 k hk), fun k hk => okv_eq (e 8 (by omega) (by omega)) (h4 k hk), fun k hk => okv_eq (e 9 (by omega) (by omega)) (h5 k hk), fun k hk => okv_eq (e 5 (by omega) (by omega)) (h6 k hk), fun k hk => okv_eq (e 6 (by omega) (by omega)) (h7 k hk), okv_eq (e 3 (by omega) (by omega)) h8⟩
/-- a law's meaning -/
def LawSem (M : gM) (a : Nat) (E : (Nat → Int32) → Int32) : Prop :=
  ∃ (cl len : Nat) (co su sg : Nat → Nat), LawCode M a cl len co su sg ∧ ∀ lt : Nat → Int32, ∃ cv sv : Nat → Int32, (∀ j, j < cl → co j ≠ su j → ∀ w, vval lt sg w (co j) (su j - co j) = cv j) ∧ (∀ j, j < cl → ∀ w, vval lt sg w (su j) (enOf cl len co j - su j) = sv j) ∧ wfrom (fun j => decide (co j = su j ∨ cv j ≠ 0)) sv cl 0 = E lt
def mkL (g s b n w t : Int32) : Nat → Int32 := fun i => if i = 0 then g else if i = 1 then s else if i = 2 then b else if i = 3 then n else if i = 4 then w else t
/-- which law holds, and what it says -/
def CourtSem (M : gM) (EV : Option ((Nat → Int32) → Int32)) : Prop := match EV with
  | none => gmi M 20 4 < 0
  | some E => ∃ k n : Nat, gmi M 20 4 = nI k ∧ gmi M 20 3 = nI n ∧ k < n ∧ n ≤ 4 ∧ gmr M 21 k = some (200 + 5 * k) ∧ LawSem M (200 + 5 * k) E ∧ ∀ lt lt2 : Nat → Int32, (∀ i, i < 6 → lt i = lt2 i) → E lt = E lt2
def rdw (EV : Option ((Nat → Int32) → Int32)) (g s b n w t : Int32) : Int32 := match EV with
  | none => g - s
  | some E => E (mkL g s b n (w - w / 7 * 7) t)
/-- READ -/
def rd (EV : Option ((Nat → Int32) → Int32)) (g s b n w t : Int32) : Int32 := imax (-99) (imin 99 (rdw EV g s b n w t))
theorem LawCode_fr {M2 : gM} {a cl len : Nat} {co su sg : Nat → Nat} {S : Nat → Prop} (hs : ¬ S a ∧ ¬ S (a + 1) ∧ ¬ S (a + 2) ∧ ¬ S (a + 3)) (h : gFr S M M2) (hc : LawCode M a cl len co su sg) : LawCode M2 a cl len co su sg := by
  obtain ⟨h1, h2, h3, h4, h5⟩ := hc
  refine ⟨?_, ?_, ?_, ?_, ?_⟩
  · unfold LawAt at h1 ⊢
    rw [(h.1 a).1, (h.1 (a + 1)).1, (h.1 (a + 1)).2, (h.1 (a + 2)).1, (h.1 (a + 2)).2, (h.1 (a + 3)).1, (h.1 (a + 3)).2, (h.1 (a + 4)).1, (h.1 (a + 4)).2, h.2.1]
    exact h1
  · rw [h.2.2.2 a hs.1]; exact h2
  · rw [h.2.2.2 a hs.1]; exact h3
  · rw [h.2.2.2 _ hs.2.2.1, h.2.2.2 _ hs.2.2.2]; exact h4
  · rw [h.2.2.2 _ hs.2.1]; exact h5
theorem CourtSem_fr {M2 : gM} {EV : Option ((Nat → Int32) → Int32)} {S : Nat → Prop} (hs : ¬ S 20 ∧ ∀ k, ¬ S (200 + 5 * k) ∧ ¬ S (200 + 5 * k + 1) ∧ ¬ S (200 + 5 * k + 2) ∧ ¬ S (200 + 5 * k + 3)) (h : gFr S M M2) (hc : CourtSem M EV) : CourtSem M2 EV := by
  cases EV with
  | none =>
    show gmi M2 20 4 < 0
    rw [h.2.2.2 20 hs.1]
    exact hc
  | some E =>
    obtain ⟨k, n, h1, h2, h3, h4, h5, ⟨cl, len, co, su, sg, h6, h7⟩, h8⟩ := hc
    refine ⟨k, n, ?_, ?_, h3, h4, ?_, ⟨cl, len, co, su, sg, LawCode_fr (hs.2 k) h h6, h7⟩, h8⟩
    · rw [h.2.2.2 20 hs.1]; exact h1
    · rw [h.2.2.2 20 hs.1]; exact h2
    · rw [h.2.1]; exact h5
theorem scr0_court : ¬ scr0 20 ∧ ∀ k, ¬ scr0 (200 + 5 * k) ∧ ¬ scr0 (200 + 5 * k + 1) ∧ ¬ scr0 (200 + 5 * k + 2) ∧ ¬ scr0 (200 + 5 * k + 3) :=
  ⟨scr0_lo (by decide) (by decide), fun k => ⟨fun q => q.elim (by omega) (fun ⟨j, hj⟩ => by omega), fun q => q.elim (by omega) (fun ⟨j, hj⟩ => by omega), fun q => q.elim (by omega) (fun ⟨j, hj⟩ => by omega), fun q => q.elim (by omega) (fun ⟨j, hj⟩ => by omega)⟩⟩
set_option maxRecDepth 20000 in
theorem c_bookN (hx : gXok X) (hL : gLay M) (h : gmi M 20 4 < 0) : gDet X (d + 0) yX0_book cX0_book 1 (some (.object "GuiltyShave$Law")) [.ref 20] M (some .null) M := by
  refine gMet.of hx (by decide) (Nat.le_of_ble_eq_true rfl) ?_
  refine g_aload_n dX0_book_0 rfl rfl rfl ?_
  refine g_getI dX0_book_1 ff_X0_21 rfl (k20 hL) rfl ?_
  refine g_if_lt (tgt := 18) dX0_book_4 (by decide) rfl (fun _ => ?_) (fun h_ => absurd (h) h_)
  refine g_null dX0_book_18 rfl ?_
  refine g_goto (tgt := 31) dX0_book_19 (by decide) ?_
  exact g_aret dX0_book_31 rfl (Or.inl ⟨_, rfl⟩) (Or.inl rfl) ⟨rfl, rfl⟩
set_option maxRecDepth 20000 in
theorem c_bookS (hx : gXok X) (hL : gLay M) {k n : Nat} (h1 : gmi M 20 4 = nI k) (h2 : gmi M 20 3 = nI n) (h3 : k < n) (h4 : n ≤ 4) (h5 : gmr M 21 k = some (200 + 5 * k)) : gDet X (d + 0) yX0_book cX0_book 1 (some (.object "GuiltyShave$Law")) [.ref 20] M (some (.ref (200 + 5 * k))) M := by
  refine gMet.of hx (by decide) (Nat.le_of_ble_eq_true rfl) ?_
  refine g_aload_n dX0_book_0 rfl rfl rfl ?_
  refine g_getI dX0_book_1 ff_X0_21 rfl (k20 hL) rfl ?_
  refine g_if_lt (tgt := 18) dX0_book_4 (by decide) rfl (fun h_ => absurd h_ (by rw [h1]; exact nI_pos (by omega))) (fun _ => ?_)
  refine g_aload_n dX0_book_7 rfl rfl rfl ?_
  refine g_getI dX0_book_8 ff_X0_21 rfl (k20 hL) rfl ?_
  refine g_aload_n dX0_book_11 rfl rfl rfl ?_
  refine g_getI dX0_book_12 ff_X0_29 rfl (k20 hL) rfl ?_
  refine g_icmp_lt (tgt := 22) dX0_book_15 (by decide) rfl (fun _ => ?_) (fun h_ => absurd (by rw [h1, h2]; exact nI_lt h3 (by omega)) h_)
  refine g_aload_n dX0_book_22 rfl rfl rfl ?_
  refine g_getR dX0_book_23 ff_X0_11 rfl (k20 hL) (r20_1 hL) rfl ?_
  refine g_aload_n dX0_book_26 rfl rfl rfl ?_
  refine g_getI dX0_book_27 ff_X0_21 rfl (k20 hL) rfl ?_
  rw [h1]
  refine g_aald5 (i := k) dX0_book_30 (k21 hL) (l21 hL) (nI_toInt (by omega)) (by omega) rfl ?_
  rw [h5]
  exact g_aret (v := .ref (200 + 5 * k)) dX0_book_31 rfl (Or.inl ⟨_, rfl⟩) (Or.inr ⟨_, rfl⟩) ⟨rfl, rfl⟩
set_option maxRecDepth 20000 in
theorem c_letHold (hx : gXok X) (hL : gLay M) {x : Int32} : gDet X (d + 0) yX0_letHold cX0_letHold 2 (some .boolean) [.ref 20, .int x] M (some (.int (ib (¬ x < -1 ∧ x < gmi M 20 3)))) (if ¬ x < -1 ∧ x < gmi M 20 3 then gwI M 20 4 x else M) := by
  refine gMet.of hx (by decide) (Nat.le_of_ble_eq_true rfl) ?_
  refine g_iload_n dX0_letHold_0 rfl rfl rfl ?_
  refine g_iconst (v := -1) dX0_letHold_1 (by decide) rfl ?_
  refine g_icmp_lt (tgt := 13) dX0_letHold_2 (by decide) rfl (fun h2 => ?_) (fun h2 => ?_)
  · refine g_iconst (v := 0) dX0_letHold_13 (by decide) rfl ?_
    exact g_iret dX0_letHold_14 rfl rfl ⟨by rw [ib_f (fun q => q.1 h2)], by rw [if_neg (fun q => q.1 h2)]⟩
  · refine g_iload_n dX0_letHold_5 rfl rfl rfl ?_
    refine g_aload_n dX0_letHold_6 rfl rfl rfl ?_
    refine g_getI dX0_letHold_7 ff_X0_29 rfl (k20 hL) rfl ?_
    refine g_icmp_lt (tgt := 15) dX0_letHold_10 (by decide) rfl (fun h10 => ?_) (fun h10 => ?_)
    · refine g_aload_n dX0_letHold_15 rfl rfl rfl ?_
      refine g_iload_n dX0_letHold_16 rfl rfl rfl ?_
      refine g_putI dX0_letHold_17 fp_X0_21 rfl rfl rfl (k20 hL) rfl ?_
      refine g_iconst (v := 1) dX0_letHold_20 (by decide) rfl ?_
      exact g_iret dX0_letHold_21 rfl rfl ⟨by rw [ib_t ⟨h2, h10⟩], by rw [if_pos ⟨h2, h10⟩]⟩
    · refine g_iconst (v := 0) dX0_letHold_13 (by decide) rfl ?_
      exact g_iret dX0_letHold_14 rfl rfl ⟨by rw [ib_f (fun q => h10 q.2)], by rw [if_neg (fun q => h10 q.2)]⟩
set_option maxRecDepth 20000 in
set_option maxHeartbeats 4000000 in
theorem c_read (hx : gXok X) (hL : gLay M) {EV : Option ((Nat → Int32) → Int32)} (hC : CourtSem M EV) {p : Nat} (hp : p < 6) {g n b w t : Int32} :
    gPos X (d + 3) yX0_read cX0_read 9 (some .int) [.ref 20, .int (nI p), .int g, .int n, .int b, .int w, .int t] M (fun v M2 => v = some (.int (rd EV g (gmi M 5 p) b n w t)) ∧ gFr scr0 M M2) := by
  refine gMet.of hx (by decide) (Nat.le_of_ble_eq_true rfl) ?_
  refine g_aload_n dX0_read_0 rfl rfl rfl ?_
  cases EV with
  | none =>
    refine g_callVdr (ci := 0) dX0_read_1 lm_X0_32 mv_X0_book (c_bookN (d := d) hx hL hC) rfl rfl (k20 hL) rfl rfl (Nat.le_of_ble_eq_true rfl) (gFit_room (by omega)) rfl ?_
    refine g_astoreN dX0_read_4 (by decide) rfl ?_
    refine g_iload_n dX0_read_6 rfl rfl rfl ?_
    refine g_aload_n dX0_read_7 rfl rfl rfl ?_
    refine g_getR dX0_read_8 ff_X0_25 rfl (k20 hL) (r20_0 hL) rfl ?_
    refine g_getR dX0_read_11 ff_X0_40 rfl (k3 hL) (r3_1 hL) rfl ?_
    refine g_iload_n dX0_read_14 rfl rfl rfl ?_
    refine g_iald (i := p) dX0_read_15 (k5 hL) (l5 hL) (by (try simp only [nI_lit, pk_mul, nI_add, Nat.zero_add]); exact nI_toInt (by omega)) (by omega) rfl ?_
    refine g_isub dX0_read_16 rfl ?_
    refine g_istore dX0_read_17 (by decide) rfl ?_
    refine g_aloadN dX0_read_19 rfl rfl ?_
    refine g_ifnullN (tgt := 91) dX0_read_21 (by decide) ?_
    refine g_bipush (v := -99) dX0_read_91 (by decide) rfl ?_
    refine g_bipush (v := 99) dX0_read_93 (by decide) rfl ?_
    refine g_iload dX0_read_95 rfl rfl ?_
    refine g_callSdi dX0_read_97 lm_X0_49 mv_J9_min_7cf53 (c_min (d := d) hx) rfl rfl (Nat.le_of_ble_eq_true rfl) (gFit_room (by omega)) rfl ?_
    refine g_callSdi dX0_read_100 lm_X0_55 mv_J9_max_7cf53 (c_max (d := d) hx) rfl rfl (Nat.le_of_ble_eq_true rfl) (gFit_room (by omega)) rfl ?_
    exact g_iret dX0_read_103 rfl rfl ⟨rfl, gFr.rf⟩
  | some E =>
    obtain ⟨k, nn, e1, e2, e3, e4, e5, hS, hcong⟩ := id hC
    refine g_callVdr (ci := 0) dX0_read_1 lm_X0_32 mv_X0_book (c_bookS (d := d) hx hL e1 e2 e3 e4 e5) rfl rfl (k20 hL) rfl rfl (Nat.le_of_ble_eq_true rfl) (gFit_room (by omega)) rfl ?_
    refine g_astore dX0_read_4 (by decide) rfl ?_
    refine g_iload_n dX0_read_6 rfl rfl rfl ?_
    refine g_aload_n dX0_read_7 rfl rfl rfl ?_
    refine g_getR dX0_read_8 ff_X0_25 rfl (k20 hL) (r20_0 hL) rfl ?_
    refine g_getR dX0_read_11 ff_X0_40 rfl (k3 hL) (r3_1 hL) rfl ?_
    refine g_iload_n dX0_read_14 rfl rfl rfl ?_
    refine g_iald (i := p) dX0_read_15 (k5 hL) (l5 hL) (by (try simp only [nI_lit, pk_mul, nI_add, Nat.zero_add]); exact nI_toInt (by omega)) (by omega) rfl ?_
    refine g_isub dX0_read_16 rfl ?_
    refine g_istore dX0_read_17 (by decide) rfl ?_
    refine g_aload dX0_read_19 rfl rfl ?_
    refine g_ifnull dX0_read_21 rfl ?_
    refine g_aload_n dX0_read_24 rfl rfl rfl ?_
    refine g_getR dX0_read_25 ff_X0_17 rfl (k20 hL) (r20_2 hL) rfl ?_
    refine g_iconst (v := 0) dX0_read_28 (by decide) rfl ?_
    refine g_iload_n dX0_read_29 rfl rfl rfl ?_
    refine g_iast (i := 0) dX0_read_30 (k22 hL) (l22 hL) (by (try simp only [nI_lit, pk_mul, nI_add, Nat.zero_add]); exact nI_toInt (by omega)) (by omega) rfl ?_
    refine g_aload_n dX0_read_31 rfl rfl rfl ?_
    refine g_getR dX0_read_32 ff_X0_17 rfl (k20 (gLay_I hL)) (r20_2 (gLay_I hL)) rfl ?_
    refine g_iconst (v := 1) dX0_read_35 (by decide) rfl ?_
    refine g_aload_n dX0_read_36 rfl rfl rfl ?_
    refine g_getR dX0_read_37 ff_X0_25 rfl (k20 (gLay_I hL)) (r20_0 (gLay_I hL)) rfl ?_
    refine g_getR dX0_read_40 ff_X0_40 rfl (k3 (gLay_I hL)) (r3_1 (gLay_I hL)) rfl ?_
    refine g_iload_n dX0_read_43 rfl rfl rfl ?_
    refine g_iald (i := p) dX0_read_44 (k5 (gLay_I hL)) (l5 (gLay_I hL)) (by (try simp only [nI_lit, pk_mul, nI_add, Nat.zero_add]); exact nI_toInt (by omega)) (by omega) rfl ?_
    refine g_iast (i := 1) dX0_read_45 (k22 (gLay_I hL)) (l22 (gLay_I hL)) (by (try simp only [nI_lit, pk_mul, nI_add, Nat.zero_add]); exact nI_toInt (by omega)) (by omega) rfl ?_
    refine g_aload_n dX0_read_46 rfl rfl rfl ?_
    refine g_getR dX0_read_47 ff_X0_17 rfl (k20 (gLay_I (gLay_I hL))) (r20_2 (gLay_I (gLay_I hL))) rfl ?_
    refine g_iconst (v := 2) dX0_read_50 (by decide) rfl ?_
    refine g_iload dX0_read_51 rfl rfl ?_
    refine g_iast (i := 2) dX0_read_53 (k22 (gLay_I (gLay_I hL))) (l22 (gLay_I (gLay_I hL))) (by (try simp only [nI_lit, pk_mul, nI_add, Nat.zero_add]); exact nI_toInt (by omega)) (by omega) rfl ?_
    refine g_aload_n dX0_read_54 rfl rfl rfl ?_
    refine g_getR dX0_read_55 ff_X0_17 rfl (k20 (gLay_I (gLay_I (gLay_I hL)))) (r20_2 (gLay_I (gLay_I (gLay_I hL)))) rfl ?_
    refine g_iconst (v := 3) dX0_read_58 (by decide) rfl ?_
    refine g_iload_n dX0_read_59 rfl rfl rfl ?_
    refine g_iast (i := 3) dX0_read_60 (k22 (gLay_I (gLay_I (gLay_I hL)))) (l22 (gLay_I (gLay_I (gLay_I hL)))) (by (try simp only [nI_lit, pk_mul, nI_add, Nat.zero_add]); exact nI_toInt (by omega)) (by omega) rfl ?_
    refine g_aload_n dX0_read_61 rfl rfl rfl ?_
    refine g_getR dX0_read_62 ff_X0_17 rfl (k20 (gLay_I (gLay_I (gLay_I (gLay_I hL))))) (r20_2 (gLay_I (gLay_I (gLay_I (gLay_I hL))))) rfl ?_
    refine g_iconst (v := 4) dX0_read_65 (by decide) rfl ?_
    refine g_iload dX0_read_66 rfl rfl ?_
    refine g_bipush (v := 7) dX0_read_68 (by decide) rfl ?_
    refine g_irem dX0_read_70 (by decide) rfl ?_
    refine g_iast (i := 4) dX0_read_71 (k22 (gLay_I (gLay_I (gLay_I (gLay_I hL))))) (l22 (gLay_I (gLay_I (gLay_I (gLay_I hL))))) (by (try simp only [nI_lit, pk_mul, nI_add, Nat.zero_add]); exact nI_toInt (by omega)) (by omega) rfl ?_
    refine g_aload_n dX0_read_72 rfl rfl rfl ?_
    refine g_getR dX0_read_73 ff_X0_17 rfl (k20 (gLay_I (gLay_I (gLay_I (gLay_I (gLay_I hL)))))) (r20_2 (gLay_I (gLay_I (gLay_I (gLay_I (gLay_I hL)))))) rfl ?_
    refine g_iconst (v := 5) dX0_read_76 (by decide) rfl ?_
    refine g_iload dX0_read_77 rfl rfl ?_
    refine g_iast (i := 5) dX0_read_79 (k22 (gLay_I (gLay_I (gLay_I (gLay_I (gLay_I hL)))))) (l22 (gLay_I (gLay_I (gLay_I (gLay_I (gLay_I hL)))))) (by (try simp only [nI_lit, pk_mul, nI_add, Nat.zero_add]); exact nI_toInt (by omega)) (by omega) rfl ?_
    refine g_aload dX0_read_80 rfl rfl ?_
    refine g_aload_n dX0_read_82 rfl rfl rfl ?_
    refine g_getR dX0_read_83 ff_X0_17 rfl (k20 (gLay_I (gLay_I (gLay_I (gLay_I (gLay_I (gLay_I hL))))))) (r20_2 (gLay_I (gLay_I (gLay_I (gLay_I (gLay_I (gLay_I hL))))))) rfl ?_
    generalize hM1 : gwI (gwI (gwI (gwI (gwI (gwI M 22 0 g) 22 1 _) 22 2 b) 22 3 n) 22 4 (w - w / 7 * 7)) 22 5 t = M1
    have hf : gFr scr0 M M1 := by
      rw [← hM1]
      exact ((((((gFr.wI (Or.inl rfl)).tr (gFr.wI (Or.inl rfl))).tr (gFr.wI (Or.inl rfl))).tr (gFr.wI (Or.inl rfl))).tr (gFr.wI (Or.inl rfl))).tr (gFr.wI (Or.inl rfl)))
    have hl : ∀ i, i < 6 → gmi M1 22 i = mkL g (gmi M 5 p) b n (w - w / 7 * 7) t i := by
      intro i hi
      rw [← hM1]
      simp only [gwI, gwF_F, gmi_F]
      rcases (show i = 0 ∨ i = 1 ∨ i = 2 ∨ i = 3 ∨ i = 4 ∨ i = 5 by omega) with rfl | rfl | rfl | rfl | rfl | rfl <;> rfl
    obtain ⟨cl, len, co, su, sg, hcode, hsem⟩ := hS
    obtain ⟨cv, sv, hv1, hv2, hE⟩ := hsem (gmi M1 22)
    have hw := c_worth (X := X) (d := d) (M := M1) hx (hf.lay hL) (LawCode_fr (scr0_court.2 k) hf hcode) ⟨by omega, by omega, by omega⟩ hv1 hv2
    have k_a : gkd M1 (200 + 5 * k) = 3 := (LawCode_fr (scr0_court.2 k) hf hcode).1.1
    refine g_callVq (ci := 2) dX0_read_86 lm_X0_45 mv_X2_worth (hw) rfl rfl (k_a) rfl rfl (Nat.le_of_ble_eq_true rfl) (gFit_room (by omega)) rfl (fun v M2 hQ => ?_)
    obtain ⟨rfl, w2, rfl⟩ := hQ
    refine g_istore dX0_read_89 (by decide) rfl ?_
    rw [hE, hcong _ _ hl]
    refine g_bipush (v := -99) dX0_read_91 (by decide) rfl ?_
    refine g_bipush (v := 99) dX0_read_93 (by decide) rfl ?_
    refine g_iload dX0_read_95 rfl rfl ?_
    refine g_callSdi dX0_read_97 lm_X0_49 mv_J9_min_7cf53 (c_min (d := d) hx) rfl rfl (Nat.le_of_ble_eq_true rfl) (gFit_room (by omega)) rfl ?_
    refine g_callSdi dX0_read_100 lm_X0_55 mv_J9_max_7cf53 (c_max (d := d) hx) rfl rfl (Nat.le_of_ble_eq_true rfl) (gFit_room (by omega)) rfl ?_
    exact g_iret dX0_read_103 rfl rfl ⟨rfl, hf.tr (gFr.wF (Or.inr ⟨k, by omega⟩))⟩
end C0
