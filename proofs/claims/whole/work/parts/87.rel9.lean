/-! rows with their logs: the reference's R, the class's F and entries e -/
def LogR (R : Nat → Int32) (D : Nat) (e : Nat → Int32) : Prop := R 67 = nI (min 60 D) ∧ ∀ j, j < min 60 D → ∀ q, q < 3 → R (68 + 3 * (min 60 D - 1 - j) + q) = e ((D - 1 - j) % 128 * 3 + q)
def RowOK (F : Nat → Int32) : Prop := RngF F ∧ LeftF F ∧ (∃ m, m ≤ 9999 ∧ F 64 = nI m) ∧ ∃ D, D ≤ 999 ∧ F 66 = nI D
def RowL (R F e : Nat → Int32) : Prop := (∀ k, k < 67 → R k = F (cix k)) ∧ LogR R (tn (F 66)) e ∧ RowOK F
theorem LogR.cg {R R2 e : Nat → Int32} {D : Nat} (h : LogR R D e) (hr : ∀ j, j < 248 → R2 j = R j) : LogR R2 D e := ⟨by rw [hr 67 (by decide)]; exact h.1, fun j hj q hq => by rw [hr _ (by omega)]; exact h.2 j hj q hq⟩
theorem RowL.cg {R R2 F e : Nat → Int32} (h : RowL R F e) (hr : ∀ j, j < 248 → R2 j = R j) : RowL R2 F e := ⟨fun k hk => by rw [hr k (by omega)]; exact h.1 k hk, h.2.1.cg hr, h.2.2⟩
/-- only the class's row matters below 67 -/
theorem RowOK.cg {F G : Nat → Int32} (h : RowOK F) (hg : ∀ k, k < 67 → G k = F k) : RowOK G := by
  obtain ⟨⟨a, b, c⟩, l, m, D⟩ := h
  refine ⟨⟨fun p hp => by rw [hg p (by omega)]; exact a p hp, fun p hp => by rw [hg _ (by omega)]; exact b p hp, by rw [hg 66 (by decide)]; exact c⟩, fun i h1 h2 => by rw [hg i (by omega)]; exact l i h1 h2, by rw [hg 64 (by decide)]; exact m, by rw [hg 66 (by decide)]; exact D⟩
theorem RowL.cgF {R F G e : Nat → Int32} (h : RowL R F e) (hg : ∀ k, k < 67 → G k = F k) : RowL R G e := ⟨fun k hk => by rw [hg _ (cix_lt k hk)]; exact h.1 k hk, by rw [hg 66 (by decide)]; exact h.2.1, h.2.2.cg hg⟩
theorem LogR.e {R e e2 : Nat → Int32} {D : Nat} (h : LogR R D e) (he : ∀ j, j < min 60 D → ∀ q, q < 3 → e2 ((D - 1 - j) % 128 * 3 + q) = e ((D - 1 - j) % 128 * 3 + q)) : LogR R D e2 := ⟨h.1, fun j hj q hq => by rw [he j hj q hq]; exact h.2 j hj q hq⟩
/-- the entries with a day D more -/
def entF (e : Nat → Int32) (D : Nat) (a b c : Int32) : Nat → Int32 := va_up (va_up (va_up e (D % 128 * 3) a) (D % 128 * 3 + 1) b) (D % 128 * 3 + 2) c
theorem dayE_ent (M : gM) (r e : Nat) : dayE M r e = entF (gmi M e) (tv M r 66) (nI (smo M r)) (gmi M r 61) (gmi M r 62) := rfl
theorem entF_ne {e : Nat → Int32} {D t q : Nat} {a b c : Int32} (h : t % 128 ≠ D % 128) (hq : q < 3) : entF e D a b c (t % 128 * 3 + q) = e (t % 128 * 3 + q) := by
  unfold entF
  rw [va_up_ne _ _ (by omega), va_up_ne _ _ (by omega), va_up_ne _ _ (by omega)]
theorem mod128 {t D : Nat} (h1 : t < D) (h2 : D < t + 128) : t % 128 ≠ D % 128 := by omega
/-- a row that is kept, behind a day D of another -/
theorem LogR.kept {R e : Nat → Int32} {D0 D : Nat} {a b c : Int32} (h : LogR R D0 e) (h1 : D0 ≤ D) (h2 : D ≤ D0 + 40) : LogR R D0 (entF e D a b c) := by
  refine h.e (fun j hj q hq => entF_ne (mod128 (by omega) (by omega)) hq)
/-- the row itself, a day on -/
theorem LogR.day {R R2 e : Nat → Int32} {D : Nat} {a b c : Int32} (h : LogR R D e) (h67 : R2 67 = nI (lgC (min 60 D) + 1)) (hj : ∀ j, j < 3 * lgC (min 60 D) → R2 (68 + j) = R (68 + j + lgS (min 60 D))) (ha : R2 (68 + 3 * lgC (min 60 D)) = a) (hb : R2 (68 + 3 * lgC (min 60 D) + 1) = b) (hc : R2 (68 + 3 * lgC (min 60 D) + 2) = c) : LogR R2 (D + 1) (entF e D a b c) := by
  have hcases : (D < 60 ∧ lgC (min 60 D) = D ∧ lgS (min 60 D) = 0 ∧ min 60 D = D ∧ min 60 (D + 1) = D + 1) ∨ (60 ≤ D ∧ lgC (min 60 D) = 59 ∧ lgS (min 60 D) = 3 ∧ min 60 D = 60 ∧ min 60 (D + 1) = 60) := by
    unfold lgC lgS
    by_cases z : D < 60
    · left
      rw [Nat.min_eq_right (by omega), if_neg (by omega), if_neg (by omega)]
      exact ⟨z, rfl, rfl, rfl, by omega⟩
    · right
      rw [Nat.min_eq_left (by omega), if_pos rfl, if_pos rfl]
      exact ⟨by omega, rfl, rfl, rfl, by omega⟩
  obtain ⟨C, S, eC, eS, hC1, hCS⟩ : ∃ C S, lgC (min 60 D) = C ∧ lgS (min 60 D) = S ∧ min 60 (D + 1) = C + 1 ∧ (S = 0 ∧ C = D ∧ min 60 D = D ∨ S = 3 ∧ C = 59 ∧ min 60 D = 60 ∧ 60 ≤ D) := by
    rcases hcases with ⟨z, z1, z2, z3, z4⟩ | ⟨z, z1, z2, z3, z4⟩
    · exact ⟨_, _, z1, z2, by omega, Or.inl ⟨rfl, rfl, z3⟩⟩
    · exact ⟨_, _, z1, z2, by omega, Or.inr ⟨rfl, rfl, z3, z⟩⟩
  rw [eC] at h67 hj ha hb hc
  rw [eS] at hj
  refine ⟨by rw [h67, hC1], fun j hj1 q hq => ?_⟩
  rw [hC1] at hj1 ⊢
  by_cases j0 : j = 0
  · subst j0
    rw [show D + 1 - 1 - 0 = D by omega, show C + 1 - 1 - 0 = C by omega]
    unfold entF
    rcases (show q = 0 ∨ q = 1 ∨ q = 2 by omega) with rfl | rfl | rfl
    · rw [va_up_ne _ _ (by omega), va_up_ne _ _ (by omega), Nat.add_zero, Nat.add_zero, va_up_self, ha]
    · rw [va_up_ne _ _ (by omega), va_up_self, hb]
    · rw [va_up_self, hc]
  · have hjj := hj (3 * (C - j) + q) (by omega)
    rw [show 68 + 3 * (C + 1 - 1 - j) + q = 68 + (3 * (C - j) + q) by omega, hjj]
    have h2 := h.2 (j - 1) (by omega) q hq
    rw [show D + 1 - 1 - j = D - 1 - (j - 1) by omega, entF_ne (mod128 (by omega) (by omega)) hq, ← h2]
    congr 1
    omega
/-- the acts that may be undone -/
def pcell (N A a : Nat) : Nat := 35 + (N + 40 - A + a) % 40
def RPast (Mc M : gM) (N A : Nat) : Prop := (gmi Mc 33 2 = nI N ∧ N < 40) ∧ (gmi Mc 33 1 = nI A ∧ gmi M 100 39 = nI A ∧ A ≤ 40) ∧ ∀ a, a < A → RowL (fun j => gmi M 117 (248 * a + j)) (gmi Mc (pcell N A a)) (gmi Mc 26) ∧ tn (gmi Mc (pcell N A a) 66) ≤ tn (gmi Mc 25 66) ∧ tn (gmi Mc 25 66) ≤ tn (gmi Mc (pcell N A a) 66) + (A - a)
def RNow (Mc M : gM) : Prop := RowL (gmi M 113) (gmi Mc 25) (gmi Mc 26)
def RImg (Mc M : gM) : Prop := gmi M 100 46 = gmi Mc 0 11 ∧ (gmi Mc 0 11 = 0 ∨ gmi Mc 0 11 = 1) ∧ (¬ gmi Mc 0 11 = 0 → RowL (gmi M 119) (gmi Mc 31) (gmi Mc 32))
section G9
variable {X : gX} {Mc M : gM} {d n : Nat} {E : Nat → LE} {EV : EVt} {N A : Nat}
def rmA (A : Nat) : Nat := if A = 40 then 39 else A
def rmS (A : Nat) : Nat := if A = 40 then 1 else 0
def Rem (M M2 : gM) (A : Nat) : Prop := xFr (fun c => c = 117 ∨ c = 1039) M M2 ∧ gml M2 115 = gml M 115 ∧ gmi M2 116 = gmi M 116 ∧ gmi M2 100 39 = nI (rmA A + 1) ∧ (∀ a, a < rmA A → ∀ j, j < 248 → gmi M2 117 (248 * a + j) = gmi M 117 (248 * (a + rmS A) + j)) ∧ ∀ j, j < 248 → gmi M2 117 (248 * rmA A + j) = gmi M 113 j
set_option maxRecDepth 20000 in
set_option maxHeartbeats 1000000 in
/-- the rows as numbers -/
theorem r_remember (hx : gXok X) (hL0 : gLay M) (hA : gmi M 100 39 = nI A) (hA40 : A ≤ 40) : gPos X (d + 0) yX11_remember cX11_remember 2 none [.ref 100] M (fun v M2 => v = none ∧ Rem M M2 A) := by
  refine gMet.of hx (by decide) (Nat.le_of_ble_eq_true rfl) ?_
  have main : ∀ (M1 : gM), xFr (fun c => c = 117 ∨ c = 1039) M M1 → gml M1 115 = gml M 115 → gmi M1 116 = gmi M 116 → gmi M1 100 39 = nI (rmA A) → (∀ a, a < rmA A → ∀ j, j < 248 → gmi M1 117 (248 * a + j) = gmi M 117 (248 * (a + rmS A) + j)) → gW X (gRoom (d + 0) 0 0) (gZ X gN0 0 0 (fun v M2 => v = none ∧ Rem M M2 A)) gN0 yX11_remember cX11_remember 2 none 50 [(0, .ref 100)] [] M1 0 0 := by
    intro M1 hf h115 h116 h39 hrow
    have hB : rmA A ≤ 39 := by unfold rmA; split <;> omega
    unfold Rem
    generalize rmA A = B at *
    have hL1 := hf.lay hL0
    have now1 : gmi M1 113 = gmi M 113 := hf.2.2.2.2.2.1 113 (by decide) (by decide) (by decide) (by omega)
    refine g_iconst (v := 0) dX11_remember_50 (by decide) rfl ?_
    refine g_istore_n dX11_remember_51 rfl (by decide) rfl ?_
    refine g_loopM (fun i => [(0, .ref 100), (1, .int (nI i))]) (fun i M2 => gFr (fun c => c = 117) M1 M2 ∧ (∀ k, k < 248 * B → gmi M2 117 k = gmi M1 117 k) ∧ ∀ j, j < i → gmi M2 117 (248 * B + j) = gmi M 113 j) 248 0 (by decide) ⟨rfl, rfl, trivial⟩ ⟨gFr.rf, fun _ _ => rfl, fun j hj => absurd hj (by omega)⟩ (fun M2 hI => ?_) (fun i M2 _ hi hI ih => ?_)
    · obtain ⟨g1, g2, g3⟩ := hI
      have hL2 := g1.lay hL1
      have f39 : gmi M2 100 39 = nI B := by rw [g1.2.2.2 100 (by decide)]; exact h39
      refine g_iload_n dX11_remember_52 rfl rfl rfl ?_
      refine g_sipush (v := 248) dX11_remember_53 (by decide) rfl ?_
      refine g_icmp_ge (tgt := 86) dX11_remember_56 (by decide) rfl (fun _ => ?_) (fun h_ => absurd (nI_le (Nat.le_refl 248) (by decide)) h_)
      refine g_aload_n dX11_remember_86 rfl rfl rfl ?_
      refine g_dup dX11_remember_87 rfl rfl ?_
      refine g_getI dX11_remember_88 ff_X11_294 rfl (k100 hL2) rfl ?_
      refine g_iconst (v := 1) dX11_remember_91 (by decide) rfl ?_
      refine g_iadd dX11_remember_92 rfl ?_
      rw [f39, nI_1]
      refine g_putI dX11_remember_93 fp_X11_294 rfl rfl rfl (k100 hL2) rfl ?_
      exact g_vret dX11_remember_96 rfl (⟨rfl, (hf.tr ((g1.x (by decide)).mono (fun c q => Or.inl q))).tr (xFr.wf (Or.inr rfl)), by show gml M2 115 = _; rw [g1.2.2.1 115, h115], by rw [gmi_In _ _ _ (by decide), g1.2.2.2 116 (by decide), h116], by rw [gmi_I, va_up_self], fun a ha j hj => by rw [gmi_In _ _ _ (by decide), g2 _ (by omega)]; exact hrow a ha j hj, fun j hj => by rw [gmi_In _ _ _ (by decide)]; exact g3 j hj⟩)
    · obtain ⟨g1, g2, g3⟩ := hI
      have hL2 := g1.lay hL1
      have f39 : gmi M2 100 39 = nI B := by rw [g1.2.2.2 100 (by decide)]; exact h39
      refine g_iload_n dX11_remember_52 rfl rfl rfl ?_
      refine g_sipush (v := 248) dX11_remember_53 (by decide) rfl ?_
      refine g_icmp_ge (tgt := 86) dX11_remember_56 (by decide) rfl (fun h_ => absurd h_ (nI_ge (b := 248) hi (by decide))) (fun _ => ?_)
      refine g_aload_n dX11_remember_59 rfl rfl rfl ?_
      refine g_getR dX11_remember_60 ff_X11_81 rfl (k100 hL2) (r100_38 hL2) rfl ?_
      refine g_sipush (v := 248) dX11_remember_63 (by decide) rfl ?_
      refine g_aload_n dX11_remember_66 rfl rfl rfl ?_
      refine g_getI dX11_remember_67 ff_X11_294 rfl (k100 hL2) rfl ?_
      refine g_imul dX11_remember_70 rfl ?_
      refine g_iload_n dX11_remember_71 rfl rfl rfl ?_
      rw [f39, show (248 : Int32) = nI 248 from rfl, pk_mul]
      refine g_iadd dX11_remember_72 rfl ?_
      rw [nI_add]
      refine g_aload_n dX11_remember_73 rfl rfl rfl ?_
      refine g_getR dX11_remember_74 ff_X11_61 rfl (k100 hL2) (r100_32 hL2) rfl ?_
      refine g_iload_n dX11_remember_77 rfl rfl rfl ?_
      refine g_iald (i := i) dX11_remember_78 (k113 hL2) (l113 hL2) (nI_toInt (by omega)) (by omega) rfl ?_
      rw [g1.2.2.2 113 (by decide), now1]
      refine g_iast (i := (248 * B + i)) dX11_remember_79 (k117 hL2) (l117 hL2) (nI_toInt (by omega)) (by omega) rfl ?_
      refine g_iincV (c := 1) dX11_remember_80 rfl (by decide) (by decide) rfl ?_
      refine g_goto (tgt := 52) dX11_remember_83 (by decide) ?_
      refine g_go (ih _ ⟨g1.tr (gFr.wI rfl), fun k hk => by rw [gmi_I, va_up_ne _ _ (by omega)]; exact g2 k hk, fun j hj => ?_⟩) ⟨rfl, by rw [← nI_1 i]; rfl, trivial⟩
      rw [gmi_I]
      by_cases e1 : j = i
      · rw [e1, va_up_self]
      · rw [va_up_ne _ _ (by omega)]; exact g3 j (by omega)
  refine g_aload_n dX11_remember_0 rfl rfl rfl ?_
  refine g_getI dX11_remember_1 ff_X11_294 rfl (k100 hL0) rfl ?_
  refine g_bipush (v := 40) dX11_remember_4 (by decide) rfl ?_
  rw [hA]
  refine g_icmp_ne (tgt := 50) dX11_remember_6 (by decide) rfl (fun h6 => ?_) (fun h6 => ?_)
  · have hne : A ≠ 40 := fun z => h6 (by rw [z]; rfl)
    have e1 : rmA A = A := if_neg hne
    have e2 : rmS A = 0 := if_neg hne
    exact main M xFr.rf rfl rfl (by rw [e1]; exact hA) (fun a _ j _ => by rw [e2, Nat.add_zero])
  · refine g_iconst (v := 0) dX11_remember_9 (by decide) rfl ?_
    refine g_istore_n dX11_remember_10 rfl (by decide) rfl ?_
    have h40 : A = 40 := (qeq A 40 rfl rfl (by omega) (by decide)).mp h6
    subst h40
    refine g_loopM (fun i => [(0, .ref 100), (1, .int (nI i))]) (fun i M1 => gFr (fun c => c = 117) M M1 ∧ (∀ j, j < i → gmi M1 117 j = gmi M 117 (j + 248)) ∧ ∀ j, i ≤ j → gmi M1 117 j = gmi M 117 j) 9672 0 (by decide) ⟨rfl, rfl, trivial⟩ ⟨gFr.rf, fun j hj => absurd hj (by omega), fun _ _ => rfl⟩ (fun M1 hI => ?_) (fun i M1 _ hi hI ih => ?_)
    · obtain ⟨g1, g2, g3⟩ := hI
      have hL1 := g1.lay hL0
      have f39 : gmi M1 100 39 = nI 40 := by rw [g1.2.2.2 100 (by decide)]; exact hA
      refine g_iload_n dX11_remember_11 rfl rfl rfl ?_
      refine g_sipush (v := 9672) dX11_remember_12 (by decide) rfl ?_
      refine g_icmp_ge (tgt := 40) dX11_remember_15 (by decide) rfl (fun _ => ?_) (fun h_ => absurd (nI_le (Nat.le_refl 9672) (by decide)) h_)
      refine g_aload_n dX11_remember_40 rfl rfl rfl ?_
      refine g_dup dX11_remember_41 rfl rfl ?_
      refine g_getI dX11_remember_42 ff_X11_294 rfl (k100 hL1) rfl ?_
      refine g_iconst (v := 1) dX11_remember_45 (by decide) rfl ?_
      refine g_isub dX11_remember_46 rfl ?_
      rw [f39, show nI 40 - 1 = nI 39 from rfl]
      refine g_putI dX11_remember_47 fp_X11_294 rfl rfl rfl (k100 hL1) rfl ?_
      exact g_go (main _ (((g1.x (by decide)).mono (fun c q => Or.inl q)).tr (xFr.wf (Or.inr rfl))) (by show gml M1 115 = _; exact g1.2.2.1 115) (by rw [gmi_In _ _ _ (by decide)]; exact g1.2.2.2 116 (by decide)) (by rw [gmi_I, va_up_self]; rfl) (fun a ha j hj => by rw [gmi_In _ _ _ (by decide), g2 _ (by have : rmA 40 = 39 := rfl; omega)]; congr 1; show 248 * a + j + 248 = 248 * (a + 1) + j; omega)) ⟨rfl, trivial⟩
    · obtain ⟨g1, g2, g3⟩ := hI
      have hL1 := g1.lay hL0
      refine g_iload_n dX11_remember_11 rfl rfl rfl ?_
      refine g_sipush (v := 9672) dX11_remember_12 (by decide) rfl ?_
      refine g_icmp_ge (tgt := 40) dX11_remember_15 (by decide) rfl (fun h_ => absurd h_ (nI_ge (b := 9672) hi (by decide))) (fun _ => ?_)
      refine g_aload_n dX11_remember_18 rfl rfl rfl ?_
      refine g_getR dX11_remember_19 ff_X11_81 rfl (k100 hL1) (r100_38 hL1) rfl ?_
      refine g_iload_n dX11_remember_22 rfl rfl rfl ?_
      refine g_aload_n dX11_remember_23 rfl rfl rfl ?_
      refine g_getR dX11_remember_24 ff_X11_81 rfl (k100 hL1) (r100_38 hL1) rfl ?_
      refine g_iload_n dX11_remember_27 rfl rfl rfl ?_
      refine g_sipush (v := 248) dX11_remember_28 (by decide) rfl ?_
      refine g_iadd dX11_remember_31 rfl ?_
      rw [show (248 : Int32) = nI 248 from rfl, nI_add]
      refine g_iald (i := (i + 248)) dX11_remember_32 (k117 hL1) (l117 hL1) (nI_toInt (by omega)) (by omega) rfl ?_
      refine g_iast (i := i) dX11_remember_33 (k117 hL1) (l117 hL1) (nI_toInt (by omega)) (by omega) rfl ?_
      refine g_iincV (c := 1) dX11_remember_34 rfl (by decide) (by decide) rfl ?_
      refine g_goto (tgt := 11) dX11_remember_37 (by decide) ?_
      refine g_go (ih _ ⟨g1.tr (gFr.wI rfl), fun j hj => ?_, fun j hj => by rw [gmi_I, va_up_ne _ _ (by omega)]; exact g3 j (by omega)⟩) ⟨rfl, by rw [← nI_1 i]; rfl, trivial⟩
      rw [gmi_I]
      by_cases e1 : j = i
      · rw [e1, va_up_self]; exact g3 _ (by omega)
      · rw [va_up_ne _ _ e1]; exact g2 j (by omega)
end G9
