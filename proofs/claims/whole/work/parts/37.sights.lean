section S0
variable {X : gX} {M : gM} {d : Nat}
theorem c_sforget (hx : gXok X) (hL : gLay M) : gDet X (d + 0) yX6_forget cX6_forget 1 none [.ref 75] M none (gwI M 75 5 0) := by
  refine gMet.of hx (by decide) (Nat.le_of_ble_eq_true rfl) ?_
  refine g_aload_n dX6_forget_0 rfl rfl rfl ?_
  refine g_iconst (v := 0) dX6_forget_1 (by decide) rfl ?_
  refine g_putI dX6_forget_2 fp_X6_36 rfl rfl rfl (k75 hL) rfl ?_
  exact g_vret dX6_forget_5 rfl (⟨by first | rfl | assumption | exact gFr.rf | grind [ib], by first | rfl | assumption | exact gFr.rf | grind [ib]⟩)
/-- one more is seen -/
def addM (M : gM) (c : Nat) (x b g : Int32) : gM := gwI (gwI (gwI (gwI M 76 c x) 77 c b) 78 c g) 75 5 (nI (c + 1))
set_option maxRecDepth 20000 in
theorem c_add (hx : gXok X) (hL : gLay M) {c : Nat} (hc : gmi M 75 5 = nI c) (h10 : c < 10) {x b g : Int32} (hg : g = 0 ∨ g = 1) : gDet X (d + 0) yX6_add cX6_add 4 (some .int) [.ref 75, .int x, .int b, .int g] M (some (.int (nI (c + 1)))) (addM M c x b g) := by
  have hn : ¬ nI c = 10 := fun e => by have := (qeq c 10 rfl rfl (by omega) (by omega)).mp e; omega
  have hz : vp_nar .boolean g = g := by rcases hg with rfl | rfl <;> rfl
  refine gMet.of hx (by decide) (Nat.le_of_ble_eq_true rfl) ?_
  refine g_aload_n dX6_add_0 rfl rfl rfl ?_
  refine g_getI dX6_add_1 ff_X6_36 rfl (k75 hL) rfl ?_
  refine g_bipush (v := 10) dX6_add_4 (by decide) rfl ?_
  refine g_icmp_ne (tgt := 11) dX6_add_6 (by decide) rfl (fun _ => ?_) (fun h_ => absurd h_ (by rw [hc]; exact hn))
  refine g_aload_n dX6_add_11 rfl rfl rfl ?_
  refine g_getR dX6_add_12 ff_X6_11 rfl (k75 hL) (r75_2 hL) rfl ?_
  refine g_aload_n dX6_add_15 rfl rfl rfl ?_
  refine g_getI dX6_add_16 ff_X6_36 rfl (k75 hL) rfl ?_
  refine g_iload_n dX6_add_19 rfl rfl rfl ?_
  rw [hc]
  refine g_iast (i := c) dX6_add_20 (k76 hL) (l76 hL) (by (try simp only [nI_lit, pk_mul, nI_add, Nat.zero_add]); exact nI_toInt (by omega)) (by omega) rfl ?_
  refine g_aload_n dX6_add_21 rfl rfl rfl ?_
  refine g_getR dX6_add_22 ff_X6_15 rfl (k75 (gLay_I hL)) (r75_3 (gLay_I hL)) rfl ?_
  refine g_aload_n dX6_add_25 rfl rfl rfl ?_
  refine g_getI dX6_add_26 ff_X6_36 rfl (k75 (gLay_I hL)) rfl ?_
  refine g_iload_n dX6_add_29 rfl rfl rfl ?_
  rw [show gmi (gwI M 76 c x) 75 = gmi M 75 from gmi_In _ _ _ (by decide), hc]
  refine g_iast (i := c) dX6_add_30 (k77 (gLay_I hL)) (l77 (gLay_I hL)) (by (try simp only [nI_lit, pk_mul, nI_add, Nat.zero_add]); exact nI_toInt (by omega)) (by omega) rfl ?_
  refine g_aload_n dX6_add_31 rfl rfl rfl ?_
  refine g_getR dX6_add_32 ff_X6_18 rfl (k75 (gLay_I (gLay_I hL))) (r75_4 (gLay_I (gLay_I hL))) rfl ?_
  refine g_aload_n dX6_add_35 rfl rfl rfl ?_
  refine g_getI dX6_add_36 ff_X6_36 rfl (k75 (gLay_I (gLay_I hL))) rfl ?_
  refine g_iload_n dX6_add_39 rfl rfl rfl ?_
  rw [show gmi (gwI (gwI M 76 c x) 77 c b) 75 = gmi M 75 from rfl, hc]
  refine g_zast (i := c) dX6_add_40 (k78 (gLay_I (gLay_I hL))) (l78 (gLay_I (gLay_I hL))) (by (try simp only [nI_lit, pk_mul, nI_add, Nat.zero_add]); exact nI_toInt (by omega)) (by omega) rfl ?_
  rw [hz]
  refine g_aload_n dX6_add_41 rfl rfl rfl ?_
  refine g_dup dX6_add_42 rfl rfl ?_
  refine g_getI dX6_add_43 ff_X6_36 rfl (k75 (gLay_I (gLay_I (gLay_I hL)))) rfl ?_
  refine g_iconst (v := 1) dX6_add_46 (by decide) rfl ?_
  refine g_iadd dX6_add_47 rfl ?_
  rw [show gmi (gwI (gwI (gwI M 76 c x) 77 c b) 78 c g) 75 = gmi M 75 from rfl, hc, nI_1]
  refine g_putI dX6_add_48 fp_X6_36 rfl rfl rfl (k75 (gLay_I (gLay_I (gLay_I hL)))) rfl ?_
  refine g_aload_n dX6_add_51 rfl rfl rfl ?_
  refine g_getI dX6_add_52 ff_X6_36 rfl (k75 (gLay_I (gLay_I (gLay_I (gLay_I hL))))) rfl ?_
  exact g_iret dX6_add_55 rfl (by first | rfl | exact b01) (⟨by rw [gmi_I, va_up_self], rfl⟩)
abbrev maySee (M : gM) (x b : Int32) : Prop := inP M x ∧ ¬ b < 0 ∧ ¬ 99 < b ∧ ¬ gmi M 75 5 = 10
set_option maxRecDepth 20000 in
theorem c_seen (hx : gXok X) (hL : gLay M) {c : Nat} (hc : gmi M 75 5 = nI c) (h10 : c ≤ 10) {x b g : Int32} (hg : g = 0 ∨ g = 1) : gDet X (d + 1) yX10_seen cX10_seen 4 (some .int) [.ref 0, .int x, .int b, .int g] M (some (.int (if maySee M x b then nI (c + 1) else -1))) (if maySee M x b then addM M c x b g else M) := by
  refine gMet.of hx (by decide) (Nat.le_of_ble_eq_true rfl) ?_
  refine g_aload_n dX10_seen_0 rfl rfl rfl ?_
  refine g_getR dX10_seen_1 ff_X10_19 rfl (k0 hL) (r0_1 hL) rfl ?_
  refine g_iload_n dX10_seen_4 rfl rfl rfl ?_
  refine g_callVdi (ci := 8) dX10_seen_5 lm_X10_158 mv_X8_hasPerson (c_hasPerson (d := d) hx hL) rfl rfl (k3 hL) rfl rfl (Nat.le_of_ble_eq_true rfl) (gFit_room (by omega)) rfl ?_
  refine g_ieq (tgt := 33) dX10_seen_8 (by decide) rfl (fun h8 => ?_) (fun h8 => ?_)
  · refine g_iconst (v := -1) dX10_seen_33 (by decide) rfl ?_
    exact g_iret dX10_seen_34 rfl (by first | rfl | exact b01) (⟨by first | rfl | assumption | exact gFr.rf | grind [ib], by first | rfl | assumption | exact gFr.rf | grind [ib]⟩)
  · refine g_iload_n dX10_seen_11 rfl rfl rfl ?_
    refine g_if_lt (tgt := 33) dX10_seen_12 (by decide) rfl (fun h12 => ?_) (fun h12 => ?_)
    · refine g_iconst (v := -1) dX10_seen_33 (by decide) rfl ?_
      exact g_iret dX10_seen_34 rfl (by first | rfl | exact b01) (⟨by first | rfl | assumption | exact gFr.rf | grind [ib], by first | rfl | assumption | exact gFr.rf | grind [ib]⟩)
    · refine g_iload_n dX10_seen_15 rfl rfl rfl ?_
      refine g_bipush (v := 99) dX10_seen_16 (by decide) rfl ?_
      refine g_icmp_gt (tgt := 33) dX10_seen_18 (by decide) rfl (fun h18 => ?_) (fun h18 => ?_)
      · refine g_iconst (v := -1) dX10_seen_33 (by decide) rfl ?_
        exact g_iret dX10_seen_34 rfl (by first | rfl | exact b01) (⟨by first | rfl | assumption | exact gFr.rf | grind [ib], by first | rfl | assumption | exact gFr.rf | grind [ib]⟩)
      · refine g_aload_n dX10_seen_21 rfl rfl rfl ?_
        refine g_getR dX10_seen_22 ff_X10_80 rfl (k0 hL) (r0_13 hL) rfl ?_
        refine g_getI dX10_seen_25 ff_X10_347 rfl (k75 hL) rfl ?_
        refine g_bipush (v := 10) dX10_seen_28 (by decide) rfl ?_
        refine g_icmp_ne (tgt := 35) dX10_seen_30 (by decide) rfl (fun h30 => ?_) (fun h30 => ?_)
        · have hlt : c < 10 := Nat.lt_of_le_of_ne h10 (fun e => h30 (by rw [hc, e]; rfl))
          refine g_aload_n dX10_seen_35 rfl rfl rfl ?_
          refine g_getR dX10_seen_36 ff_X10_80 rfl (k0 hL) (r0_13 hL) rfl ?_
          refine g_iload_n dX10_seen_39 rfl rfl rfl ?_
          refine g_iload_n dX10_seen_40 rfl rfl rfl ?_
          refine g_iload_n dX10_seen_41 rfl rfl rfl ?_
          refine g_callVdi (ci := 6) dX10_seen_42 lm_X10_350 mv_X6_add (c_add (d := d) hx hL hc hlt hg) rfl rfl (k75 hL) rfl rfl (Nat.le_of_ble_eq_true rfl) (gFit_room (by omega)) rfl ?_
          exact g_iret dX10_seen_45 rfl (by first | rfl | exact b01) (⟨by first | rfl | assumption | exact gFr.rf | grind [ib], by first | rfl | assumption | exact gFr.rf | grind [ib]⟩)
        · refine g_iconst (v := -1) dX10_seen_33 (by decide) rfl ?_
          exact g_iret dX10_seen_34 rfl (by first | rfl | exact b01) (⟨by first | rfl | assumption | exact gFr.rf | grind [ib], by first | rfl | assumption | exact gFr.rf | grind [ib]⟩)
/-- what the barber would read of a set, on the first day -/
def rdS (M : gM) (EV : EVt) (p : Nat) (g n b : Int32) : Bool := decide (0 < rd EV g (gmi M 5 p) b n 0 0)
def fitB (M : gM) (EV : EVt) (p : Nat) (g n : Int32) : Nat → Bool
  | 0 => true
  | i + 1 => fitB M EV p g n i && (!decide (gmi M 76 i = nI p) || decide (ib (rdS M EV p g n (gmi M 77 i) = true) = gmi M 78 i))
theorem fitB_false {EV : EVt} {p : Nat} {g n : Int32} {i : Nat} (h : (!decide (gmi M 76 i = nI p) || decide (ib (rdS M EV p g n (gmi M 77 i) = true) = gmi M 78 i)) = false) : ∀ c, i < c → fitB M EV p g n c = false
  | 0, hn => absurd hn (by omega)
  | c + 1, hn => by
    show (fitB M EV p g n c && _) = false
    by_cases e : i = c
    · subst e; rw [h, Bool.and_false]
    · rw [fitB_false h c (by omega), Bool.false_and]
theorem c_readS (hx : gXok X) (hL : gLay M) {EV : EVt} (hC : CourtSem M EV) {M1 : gM} (hf : gFr scr0 M M1) {p : Nat} (hp : p < 6) {g n b : Int32} :
    gPos X (d + 3) yX0_read cX0_read 9 (some .int) [.ref 20, .int (nI p), .int g, .int n, .int b, .int 0, .int 0] M1 (fun v M2 => v = some (.int (rd EV g (gmi M 5 p) b n 0 0)) ∧ gFr scr0 M M2) := by
  have h := c_read (X := X) (d := d) hx (hf.lay hL) (CourtSem_fr scr0_court hf hC) hp (g := g) (n := n) (b := b) (w := 0) (t := 0)
  exact gMet.mono h (fun v M2 q => ⟨by rw [q.1, hf.2.2.2 5 (scr0_lo (by decide) (by decide))], hf.tr q.2⟩)
set_option maxRecDepth 20000 in
set_option maxHeartbeats 1000000 in
theorem c_fits (hx : gXok X) (hL : gLay M) {EV : EVt} (hC : CourtSem M EV) {c : Nat} (hc : gmi M 75 5 = nI c) (h10 : c ≤ 10) {M0 : gM} (hf0 : gFr scr0 M M0) {p : Nat} (hp : p < 6) {g n : Int32} :
    gPos X (d + 4) yX6_fits cX6_fits 5 (some .boolean) [.ref 75, .int (nI p), .int g, .int n] M0 (fun v M2 => v = some (.int (ib (fitB M EV p g n c = true))) ∧ gFr scr0 M M2) := by
  have hL0 := hL
  refine gMet.of hx (by decide) (Nat.le_of_ble_eq_true rfl) ?_
  refine g_iconst (v := 0) dX6_fits_0 (by decide) rfl ?_
  refine g_istore dX6_fits_1 (by decide) rfl ?_
  refine g_loopM (fun i => [(0, .ref 75), (1, .int (nI p)), (2, .int g), (3, .int n), (4, .int (nI i))]) (fun i M1 => gFr scr0 M M1 ∧ fitB M EV p g n i = true) c 0 (Nat.zero_le _) ⟨rfl, rfl, rfl, rfl, rfl, trivial⟩ ⟨hf0, rfl⟩ (fun M1 hI => ?_) (fun i M1 _ hi hI ih => ?_)
  · obtain ⟨hf, hb⟩ := hI
    have e75 : gmi M1 75 = gmi M 75 := hf.2.2.2 75 (scr0_lo (by decide) (by decide))
    refine g_iload dX6_fits_3 rfl rfl ?_
    refine g_aload_n dX6_fits_5 rfl rfl rfl ?_
    refine g_getI dX6_fits_6 ff_X6_36 rfl (k75 (hf.lay hL0)) rfl ?_
    rw [e75, hc]
    refine g_icmp_ge (tgt := 68) dX6_fits_9 (by decide) rfl (fun _ => ?_) (fun h_ => absurd (nI_le (Nat.le_refl _) (by omega)) h_)
    refine g_iconst (v := 1) dX6_fits_68 (by decide) rfl ?_
    exact g_iret dX6_fits_69 rfl (by first | rfl | exact b01) (⟨by rw [hb]; rfl, hf⟩)
  · obtain ⟨hf, hb⟩ := hI
    have e75 : gmi M1 75 = gmi M 75 := hf.2.2.2 75 (scr0_lo (by decide) (by decide))
    have e76 : gmi M1 76 = gmi M 76 := hf.2.2.2 76 (scr0_lo (by decide) (by decide))
    have e77 : gmi M1 77 = gmi M 77 := hf.2.2.2 77 (scr0_lo (by decide) (by decide))
    have hnext : ∀ M2, gFr scr0 M M2 → (!decide (gmi M 76 i = nI p) || decide (ib (rdS M EV p g n (gmi M 77 i) = true) = gmi M 78 i)) = true → gW X (gRoom (d + 4) 0 0) (gZ X gN0 0 0 (fun v M2 => v = some (.int (ib (fitB M EV p g n c = true))) ∧ gFr scr0 M M2)) gN0 yX6_fits cX6_fits 5 (some .boolean) 62 [(0, .ref 75), (1, .int (nI p)), (2, .int g), (3, .int n), (4, .int (nI i))] [] M2 0 0 := by
      intro M2 hf2 hq
      refine g_iincV (c := 1) dX6_fits_62 rfl (by decide) (by decide) rfl ?_
      refine g_goto (tgt := 3) dX6_fits_65 (by decide) ?_
      exact g_go (ih M2 ⟨hf2, by show (fitB M EV p g n i && _) = true; rw [hb, hq]; rfl⟩) ⟨rfl, rfl, rfl, rfl, by rw [← nI_1 i]; rfl, trivial⟩
    refine g_iload dX6_fits_3 rfl rfl ?_
    refine g_aload_n dX6_fits_5 rfl rfl rfl ?_
    refine g_getI dX6_fits_6 ff_X6_36 rfl (k75 (hf.lay hL0)) rfl ?_
    rw [e75, hc]
    refine g_icmp_ge (tgt := 68) dX6_fits_9 (by decide) rfl (fun h_ => absurd h_ (nI_ge hi (by omega))) (fun _ => ?_)
    refine g_aload_n dX6_fits_12 rfl rfl rfl ?_
    refine g_getR dX6_fits_13 ff_X6_11 rfl (k75 (hf.lay hL0)) (r75_2 (hf.lay hL0)) rfl ?_
    refine g_iload dX6_fits_16 rfl rfl ?_
    refine g_iald (i := i) dX6_fits_18 (k76 (hf.lay hL0)) (l76 (hf.lay hL0)) (by (try simp only [nI_lit, pk_mul, nI_add, Nat.zero_add]); exact nI_toInt (by omega)) (by omega) rfl ?_
    rw [e76]
    refine g_iload_n dX6_fits_19 rfl rfl rfl ?_
    refine g_icmp_ne (tgt := 62) dX6_fits_20 (by decide) rfl (fun h20 => ?_) (fun h20 => ?_)
    · exact g_go (hnext M1 hf (by rw [decide_eq_false h20]; rfl)) ⟨rfl, rfl, rfl, rfl, rfl, trivial⟩
    · refine g_aload_n dX6_fits_23 rfl rfl rfl ?_
      refine g_getR dX6_fits_24 ff_X6_32 rfl (k75 (hf.lay hL0)) (r75_1 (hf.lay hL0)) rfl ?_
      refine g_iload_n dX6_fits_27 rfl rfl rfl ?_
      refine g_iload_n dX6_fits_28 rfl rfl rfl ?_
      refine g_iload_n dX6_fits_29 rfl rfl rfl ?_
      refine g_aload_n dX6_fits_30 rfl rfl rfl ?_
      refine g_getR dX6_fits_31 ff_X6_15 rfl (k75 (hf.lay hL0)) (r75_3 (hf.lay hL0)) rfl ?_
      refine g_iload dX6_fits_34 rfl rfl ?_
      refine g_iald (i := i) dX6_fits_36 (k77 (hf.lay hL0)) (l77 (hf.lay hL0)) (by (try simp only [nI_lit, pk_mul, nI_add, Nat.zero_add]); exact nI_toInt (by omega)) (by omega) rfl ?_
      rw [e77]
      refine g_iconst (v := 0) dX6_fits_37 (by decide) rfl ?_
      refine g_iconst (v := 0) dX6_fits_38 (by decide) rfl ?_
      refine g_callVq (ci := 0) dX6_fits_39 lm_X6_40 mv_X0_read (c_readS (d := d) hx hL0 hC ‹gFr scr0 M M1› hp) rfl rfl (k20 (hf.lay hL0)) rfl rfl (Nat.le_of_ble_eq_true rfl) (gFit_room (by omega)) rfl (fun v M2 hQ => ?_)
      obtain ⟨rfl, hf⟩ := hQ
      have e78 : gmi M2 78 = gmi M 78 := hf.2.2.2 78 (scr0_lo (by decide) (by decide))
      have fin : gW X (gRoom (d + 4) 0 0) (gZ X gN0 0 0 (fun v M2 => v = some (.int (ib (fitB M EV p g n c = true))) ∧ gFr scr0 M M2)) gN0 yX6_fits cX6_fits 5 (some .boolean) 50 [(0, .ref 75), (1, .int (nI p)), (2, .int g), (3, .int n), (4, .int (nI i))] [.int (ib (rdS M EV p g n (gmi M 77 i) = true))] M2 0 0 := by
        refine g_aload_n dX6_fits_50 rfl rfl rfl ?_
        refine g_getR dX6_fits_51 ff_X6_18 rfl (k75 (hf.lay hL0)) (r75_4 (hf.lay hL0)) rfl ?_
        refine g_iload dX6_fits_54 rfl rfl ?_
        refine g_zald (i := i) dX6_fits_56 (k78 (hf.lay hL0)) (l78 (hf.lay hL0)) (by (try simp only [nI_lit, pk_mul, nI_add, Nat.zero_add]); exact nI_toInt (by omega)) (by omega) rfl ?_
        rw [e78]
        refine g_icmp_eq (tgt := 62) dX6_fits_57 (by decide) rfl (fun h57 => ?_) (fun h57 => ?_)
        · exact g_go (hnext M2 hf (by rw [decide_eq_true h57, Bool.or_true])) ⟨rfl, rfl, rfl, rfl, rfl, trivial⟩
        · refine g_iconst (v := 0) dX6_fits_60 (by decide) rfl ?_
          exact g_iret dX6_fits_61 rfl (by first | rfl | exact b01) (⟨by rw [fitB_false (by rw [decide_eq_true h20, decide_eq_false h57]; rfl) c hi]; rfl, hf⟩)
      refine g_if_le (tgt := 49) dX6_fits_42 (by decide) rfl (fun h42 => ?_) (fun h42 => ?_)
      · rw [show ib (rdS M EV p g n (gmi M 77 i) = true) = 0 from ib_f (fun q => absurd (of_decide_eq_true q) (Int32.not_lt.mpr h42))] at fin
        refine g_iconst (v := 0) dX6_fits_49 (by decide) rfl ?_
        exact g_go fin ⟨rfl, rfl, rfl, rfl, rfl, trivial⟩
      · rw [show ib (rdS M EV p g n (gmi M 77 i) = true) = 1 from ib_t (decide_eq_true (Int32.not_le.mp h42))] at fin
        refine g_iconst (v := 1) dX6_fits_45 (by decide) rfl ?_
        refine g_goto (tgt := 50) dX6_fits_46 (by decide) ?_
        exact g_go fin ⟨rfl, rfl, rfl, rfl, rfl, trivial⟩
/-- the i-th that fits; how many, if i is NONE -/
def fsFrom (P : Nat → Bool) (x : Int32) : Nat → Nat → Nat → Int32
  | 0, _, f => if x = -1 then nI f else -1
  | n + 1, b, f => if P b then (if nI f = x then nI b else fsFrom P x n (b + 1) (f + 1)) else fsFrom P x n (b + 1) f
/-- a set that fits what was seen of p -/
def setB (M : gM) (EV : EVt) (p c b : Nat) : Bool := fitB M EV p (nI (heft M b)) (ibc (nI b)) c
set_option maxRecDepth 20000 in
set_option maxHeartbeats 1000000 in
theorem c_fitting (hx : gXok X) (hL : gLay M) (hT : TownOK M) {EV : EVt} (hC : CourtSem M EV) {c : Nat} (hc : gmi M 75 5 = nI c) (h10 : c ≤ 10) {p : Nat} (hp : p < 6) {x : Int32} :
    gPos X (d + 5) yX6_fittingSet cX6_fittingSet 6 (some .int) [.ref 75, .int (nI p), .int x] M (fun v M2 => v = some (.int (fsFrom (setB M EV p c) x (2 ^ tv M 3 8) 0 0)) ∧ gFr scr0 M M2) := by
  have hL0 := hL
  have h8 := hT.2.1.2
  have h256 : 2 ^ tv M 3 8 ≤ 256 := Nat.le_trans (bt_pow h8) (by decide)
  refine gMet.of hx (by decide) (Nat.le_of_ble_eq_true rfl) ?_
  generalize hP : setB M EV p c = P
  refine g_iconst (v := 0) dX6_fittingSet_0 (by decide) rfl ?_
  refine g_istore_n dX6_fittingSet_1 rfl (by decide) rfl ?_
  refine g_iconst (v := 1) dX6_fittingSet_2 (by decide) rfl ?_
  refine g_aload_n dX6_fittingSet_3 rfl rfl rfl ?_
  refine g_getR dX6_fittingSet_4 ff_X6_28 rfl (k75 hL) (r75_0 hL) rfl ?_
  refine g_getI dX6_fittingSet_7 ff_X6_46 rfl (k3 hL) rfl ?_
  refine g_ishl dX6_fittingSet_10 rfl ?_
  rw [hT.2.1.1, bt_one _ (by omega)]
  refine g_istore dX6_fittingSet_11 (by decide) rfl ?_
  refine g_iconst (v := 0) dX6_fittingSet_13 (by decide) rfl ?_
  refine g_istore dX6_fittingSet_14 (by decide) rfl ?_
  refine g_loopM (fun i => [(0, .ref 75), (1, .int (nI p)), (2, .int x), (3, .int (nI (fb_ct P i))), (4, .int (nI (2 ^ tv M 3 8))), (5, .int (nI i))]) (fun i M1 => gFr scr0 M M1 ∧ fsFrom P x (2 ^ tv M 3 8 - i) i (fb_ct P i) = fsFrom P x (2 ^ tv M 3 8) 0 0) (2 ^ tv M 3 8) 0 (Nat.zero_le _) ⟨rfl, rfl, rfl, rfl, rfl, rfl, trivial⟩ ⟨gFr.rf, rfl⟩ (fun M1 hI => ?_) (fun i M1 _ hi hI ih => ?_)
  · obtain ⟨hf, hb⟩ := hI
    rw [Nat.sub_self] at hb
    rw [← hb]
    refine g_iload dX6_fittingSet_16 rfl rfl ?_
    refine g_iload dX6_fittingSet_18 rfl rfl ?_
    refine g_icmp_ge (tgt := 62) dX6_fittingSet_20 (by decide) rfl (fun _ => ?_) (fun h_ => absurd (nI_le (Nat.le_refl _) (by omega)) h_)
    refine g_iload_n dX6_fittingSet_62 rfl rfl rfl ?_
    refine g_iconst (v := -1) dX6_fittingSet_63 (by decide) rfl ?_
    refine g_icmp_ne (tgt := 71) dX6_fittingSet_64 (by decide) rfl (fun h64 => ?_) (fun h64 => ?_)
    · rw [show fsFrom P x 0 (2 ^ tv M 3 8) (fb_ct P (2 ^ tv M 3 8)) = -1 from if_neg h64]
      refine g_iconst (v := -1) dX6_fittingSet_71 (by decide) rfl ?_
      exact g_iret dX6_fittingSet_72 rfl (by first | rfl | exact b01) (⟨by first | rfl | assumption | exact gFr.rf | grind [ib], hf⟩)
    · rw [show fsFrom P x 0 (2 ^ tv M 3 8) (fb_ct P (2 ^ tv M 3 8)) = nI (fb_ct P (2 ^ tv M 3 8)) from if_pos h64]
      refine g_iload_n dX6_fittingSet_67 rfl rfl rfl ?_
      refine g_goto (tgt := 72) dX6_fittingSet_68 (by decide) ?_
      exact g_iret dX6_fittingSet_72 rfl (by first | rfl | exact b01) (⟨by first | rfl | assumption | exact gFr.rf | grind [ib], hf⟩)
  · obtain ⟨hf, hb⟩ := hI
    have hct := fb_ct_le P i
    rw [show 2 ^ tv M 3 8 - i = (2 ^ tv M 3 8 - (i + 1)) + 1 by omega, show fsFrom P x ((2 ^ tv M 3 8 - (i + 1)) + 1) i (fb_ct P i) = if P i then (if nI (fb_ct P i) = x then nI i else fsFrom P x (2 ^ tv M 3 8 - (i + 1)) (i + 1) (fb_ct P i + 1)) else fsFrom P x (2 ^ tv M 3 8 - (i + 1)) (i + 1) (fb_ct P i) from rfl] at hb
    have ePi : P i = fitB M EV p (nI (heft M i)) (ibc (nI i)) c := by rw [← hP]; rfl
    have hw := c_weightOf (X := X) (d := d) hx (hf.lay hL) (show i < 256 by omega) (hf.town scr0_town hT).2.1 (hf.town scr0_town hT).2.2.1
    rw [show ssum i (tv M1 7) (tv M1 3 8) = heft M i from heft_fr (e3 hf) (hf.2.2.2 7 (scr0_lo (by decide) (by decide)))] at hw
    refine g_iload dX6_fittingSet_16 rfl rfl ?_
    refine g_iload dX6_fittingSet_18 rfl rfl ?_
    refine g_icmp_ge (tgt := 62) dX6_fittingSet_20 (by decide) rfl (fun h_ => absurd h_ (nI_ge hi (by omega))) (fun _ => ?_)
    refine g_aload_n dX6_fittingSet_23 rfl rfl rfl ?_
    refine g_iload_n dX6_fittingSet_24 rfl rfl rfl ?_
    refine g_aload_n dX6_fittingSet_25 rfl rfl rfl ?_
    refine g_getR dX6_fittingSet_26 ff_X6_28 rfl (k75 (hf.lay hL0)) (r75_0 (hf.lay hL0)) rfl ?_
    refine g_iload dX6_fittingSet_29 rfl rfl ?_
    refine g_callVdi (ci := 8) dX6_fittingSet_31 lm_X6_51 mv_X8_weightOf (hw) rfl rfl (k3 (hf.lay hL0)) rfl rfl (Nat.le_of_ble_eq_true rfl) (gFit_room (by omega)) rfl ?_
    refine g_iload dX6_fittingSet_34 rfl rfl ?_
    refine g_callSdi dX6_fittingSet_36 lm_X6_55 mv_J6_bitCount_0f7a4 (c_bitCount (d := d) hx) rfl rfl (Nat.le_of_ble_eq_true rfl) (gFit_room (by omega)) rfl ?_
    refine g_callVq (ci := 6) dX6_fittingSet_39 lm_X6_60 mv_X6_fits (c_fits (d := d) hx hL0 hC hc h10 ‹gFr scr0 M M1› hp) rfl rfl (k75 (hf.lay hL0)) rfl rfl (Nat.le_of_ble_eq_true rfl) (gFit_room (by omega)) rfl (fun v M2 hQ => ?_)
    obtain ⟨rfl, hf⟩ := hQ
    rw [← ePi]
    refine g_ieq (tgt := 56) dX6_fittingSet_42 (by decide) rfl (fun h42 => ?_) (fun h42 => ?_)
    · rw [if_neg h42] at hb
      have e1 : fb_ct P (i + 1) = fb_ct P i := by rw [fb_ct_succ, if_neg h42]; rfl
      refine g_iincV (c := 1) dX6_fittingSet_56 rfl (by decide) (by decide) rfl ?_
      refine g_goto (tgt := 16) dX6_fittingSet_59 (by decide) ?_
      exact g_go (ih M2 ⟨hf, by rw [e1]; exact hb⟩) ⟨rfl, rfl, rfl, by rw [e1]; rfl, rfl, by rw [← nI_1 i]; rfl, trivial⟩
    · rw [if_pos h42] at hb
      refine g_iload_n dX6_fittingSet_45 rfl rfl rfl ?_
      refine g_iload_n dX6_fittingSet_46 rfl rfl rfl ?_
      refine g_icmp_ne (tgt := 53) dX6_fittingSet_47 (by decide) rfl (fun h47 => ?_) (fun h47 => ?_)
      · rw [if_neg h47] at hb
        have e1 : fb_ct P (i + 1) = fb_ct P i + 1 := by rw [fb_ct_succ, if_pos h42]
        refine g_iincV (c := 1) dX6_fittingSet_53 rfl (by decide) (by decide) rfl ?_
        refine g_iincV (c := 1) dX6_fittingSet_56 rfl (by decide) (by decide) rfl ?_
        refine g_goto (tgt := 16) dX6_fittingSet_59 (by decide) ?_
        exact g_go (ih M2 ⟨hf, by rw [e1]; exact hb⟩) ⟨rfl, rfl, rfl, by rw [e1, ← nI_1]; rfl, rfl, by rw [← nI_1 i]; rfl, trivial⟩
      · rw [if_pos h47] at hb
        refine g_iload dX6_fittingSet_50 rfl rfl ?_
        exact g_iret dX6_fittingSet_52 rfl (by first | rfl | exact b01) (⟨by rw [← hb], hf⟩)
set_option maxRecDepth 20000 in
theorem c_sets (hx : gXok X) (hL : gLay M) (hT : TownOK M) {EV : EVt} (hC : CourtSem M EV) {c : Nat} (hc : gmi M 75 5 = nI c) (h10 : c ≤ 10) {x z : Int32} :
    gPos X (d + 6) yX10_sets cX10_sets 3 (some .int) [.ref 0, .int x, .int z] M (fun v M2 => v = some (.int (if inP M x ∧ -1 ≤ z then fsFrom (setB M EV (tn x) c) z (2 ^ tv M 3 8) 0 0 else -1)) ∧ gFr scr0 M M2) := by
  refine gMet.of hx (by decide) (Nat.le_of_ble_eq_true rfl) ?_
  refine g_aload_n dX10_sets_0 rfl rfl rfl ?_
  refine g_getR dX10_sets_1 ff_X10_19 rfl (k0 hL) (r0_1 hL) rfl ?_
  refine g_iload_n dX10_sets_4 rfl rfl rfl ?_
  refine g_callVdi (ci := 8) dX10_sets_5 lm_X10_158 mv_X8_hasPerson (c_hasPerson (d := d) hx hL) rfl rfl (k3 hL) rfl rfl (Nat.le_of_ble_eq_true rfl) (gFit_room (by omega)) rfl ?_
  refine g_ieq (tgt := 16) dX10_sets_8 (by decide) rfl (fun h8 => ?_) (fun h8 => ?_)
  · refine g_iconst (v := -1) dX10_sets_16 (by decide) rfl ?_
    exact g_iret dX10_sets_17 rfl (by first | rfl | exact b01) (⟨by first | rfl | assumption | exact gFr.rf | grind [ib], by first | rfl | assumption | exact gFr.rf | grind [ib]⟩)
  · refine g_iload_n dX10_sets_11 rfl rfl rfl ?_
    refine g_iconst (v := -1) dX10_sets_12 (by decide) rfl ?_
    refine g_icmp_ge (tgt := 18) dX10_sets_13 (by decide) rfl (fun h13 => ?_) (fun h13 => ?_)
    · rw [if_pos ⟨h8, h13⟩]
      obtain ⟨ex_, lk⟩ := in_row hT.1.1 (by have := hT.1.2; omega) (h8)
      have mk := Nat.lt_of_lt_of_le lk hT.1.2
      generalize gk : tn x = k at *
      subst ex_
      refine g_aload_n dX10_sets_18 rfl rfl rfl ?_
      refine g_getR dX10_sets_19 ff_X10_80 rfl (k0 hL) (r0_13 hL) rfl ?_
      refine g_iload_n dX10_sets_22 rfl rfl rfl ?_
      refine g_iload_n dX10_sets_23 rfl rfl rfl ?_
      refine g_callVq (ci := 6) dX10_sets_24 lm_X10_353 mv_X6_fittingSet (c_fitting (d := d) hx hL hT hC hc h10 mk) rfl rfl (k75 hL) rfl rfl (Nat.le_of_ble_eq_true rfl) (gFit_room (by omega)) rfl (fun v M2 hQ => ?_)
      obtain ⟨rfl, hf⟩ := hQ
      exact g_iret dX10_sets_27 rfl (by first | rfl | exact b01) (⟨by first | rfl | assumption | exact gFr.rf | grind [ib], by first | rfl | assumption | exact gFr.rf | grind [ib]⟩)
    · refine g_iconst (v := -1) dX10_sets_16 (by decide) rfl ?_
      exact g_iret dX10_sets_17 rfl (by first | rfl | exact b01) (⟨by first | rfl | assumption | exact gFr.rf | grind [ib], by first | rfl | assumption | exact gFr.rf | grind [ib]⟩)
end S0
