section W2
variable {X : gX} {M : gM} {d : Nat}
def enOf (cl len : Nat) (co : Nat → Nat) (j : Nat) : Nat := if j + 1 < cl then co (j + 1) else len
/-- the law at the cell a, as signs -/
def LawCode (M : gM) (a cl len : Nat) (co su sg : Nat → Nat) : Prop :=
  LawAt M a ∧ (gmi M a 5 = nI cl ∧ cl ≤ 61) ∧ (gmi M a 4 = nI len ∧ len ≤ 240) ∧ (∀ j, j < cl → gmi M (a + 2) j = nI (co j) ∧ gmi M (a + 3) j = nI (su j) ∧ co j ≤ su j ∧ su j ≤ enOf cl len co j ∧ enOf cl len co j ≤ len) ∧ ∀ i, i < len → gmi M (a + 1) i = nI (sg i) ∧ sg i < 20000
/-- the first clause that holds -/
def wfrom (c : Nat → Bool) (sv : Nat → Int32) : Nat → Nat → Int32
  | 0, _ => 0
  | n + 1, i => if c i then sv i else wfrom c sv n (i + 1)
theorem LawCode_F {a cl len : Nat} {co su sg : Nat → Nat} {w : Nat → Int32} (h : LawCode M a cl len co su sg) : LawCode (gwF M (a + 4) w) a cl len co su sg := by
  obtain ⟨h1, h2, h3, h4, h5⟩ := h
  refine ⟨LawAt_F h1, ?_, ?_, ?_, ?_⟩
  · rw [gmi_Fn _ _ (show a ≠ a + 4 by omega)]; exact h2
  · rw [gmi_Fn _ _ (show a ≠ a + 4 by omega)]; exact h3
  · rw [gmi_Fn _ _ (show a + 2 ≠ a + 4 by omega), gmi_Fn _ _ (show a + 3 ≠ a + 4 by omega)]; exact h4
  · rw [gmi_Fn _ _ (show a + 1 ≠ a + 4 by omega)]; exact h5
set_option maxRecDepth 20000 in
set_option maxHeartbeats 4000000 in
theorem c_worth (hx : gXok X) (hL : gLay M) {a cl len : Nat} {co su sg : Nat → Nat} (hc : LawCode M a cl len co su sg) (hne : a + 1 ≠ 22 ∧ a + 4 ≠ 22 ∧ a ≠ 22) {cv sv : Nat → Int32}
    (hv1 : ∀ j, j < cl → co j ≠ su j → ∀ w, vval (gmi M 22) sg w (co j) (su j - co j) = cv j) (hv2 : ∀ j, j < cl → ∀ w, vval (gmi M 22) sg w (su j) (enOf cl len co j - su j) = sv j) :
    gPos X (d + 2) yX2_worth cX2_worth 4 (some .int) [.ref a, .ref 22] M (fun v M2 => v = some (.int (wfrom (fun j => decide (co j = su j ∨ cv j ≠ 0)) sv cl 0)) ∧ ∃ w, M2 = gwF M (a + 4) w) := by
  have hval : ∀ (w : Nat → Int32) (b t : Nat), b ≤ t → t ≤ len → gDet X (d + 1) yX2_valueOf cX2_valueOf 7 (some .int) [.ref a, .int (nI b), .int (nI t), .ref 22] (gwF M (a + 4) w) (some (.int (vval (gmi M 22) sg w b (t - b)))) (gwF M (a + 4) (vrun (gmi M 22) sg b (w, 0) (t - b)).1) := by
    intro w b t h1 h2
    have hl := hc.2.2.1.2
    have h := c_valueOf (X := X) (d := d) (M := gwF M (a + 4) w) (sg := sg) hx (gLay_F hL) (LawAt_F hc.1) hne h1 (by omega) (fun i _ hi => (LawCode_F hc).2.2.2.2 i (by omega))
    rw [gmi_Fn _ _ (show 22 ≠ a + 4 by omega), gmi_F, gwF_F] at h
    exact h
  refine gMet.of hx (by decide) (Nat.le_of_ble_eq_true rfl) ?_
  refine g_iconst (v := 0) dX2_worth_0 (by decide) rfl ?_
  refine g_istore_n dX2_worth_1 rfl (by decide) rfl ?_
  suffices key : ∀ (n i : Nat) (w : Nat → Int32), i + n = cl → wfrom (fun j => decide (co j = su j ∨ cv j ≠ 0)) sv n i = wfrom (fun j => decide (co j = su j ∨ cv j ≠ 0)) sv cl 0 → gW X (gRoom (d + 2) 0 0) (gZ X gN0 0 0 (fun v M2 => v = some (.int (wfrom (fun j => decide (co j = su j ∨ cv j ≠ 0)) sv cl 0)) ∧ ∃ w, M2 = gwF M (a + 4) w)) gN0 yX2_worth cX2_worth 4 (some .int) 2 [(0, .ref a), (1, .ref 22), (2, .int (nI i))] [] (gwF M (a + 4) w) 0 0 by
    have h := key cl 0 (gmi M (a + 4)) (by omega) rfl
    rw [gwF_self] at h
    exact g_go h ⟨rfl, rfl, rfl, trivial⟩
  intro n
  induction n with
  | zero =>
    intro i w hi hr
    obtain ⟨⟨k_a, -⟩, ⟨hcl, hcl2⟩, -⟩ := LawCode_F (w := w) hc
    refine g_iload_n dX2_worth_2 rfl rfl rfl ?_
    refine g_aload_n dX2_worth_3 rfl rfl rfl ?_
    refine g_getI dX2_worth_4 ff_X2_28 rfl (k_a) rfl ?_
    rw [hcl]
    refine g_icmp_ge (tgt := 90) dX2_worth_7 (by decide) rfl (fun _ => ?_) (fun h => absurd (nI_le (by omega) (by omega)) h)
    refine g_iconst (v := 0) dX2_worth_90 (by decide) rfl ?_
    exact g_iret dX2_worth_91 rfl rfl ⟨by rw [← hr]; rfl, w, rfl⟩
  | succ n ih =>
    intro i w hi hr
    have hil : i < cl := by omega
    obtain ⟨⟨k_a, -, ⟨k_a2, l_a2⟩, ⟨k_a3, l_a3⟩, -, -, r_a_1, r_a_2, -⟩, ⟨hcl, hcl2⟩, ⟨hln, hln2⟩, hcs, -⟩ := LawCode_F (w := w) hc
    obtain ⟨hco, hsu, ho1, ho2, ho3⟩ := hcs i hil
    refine g_iload_n dX2_worth_2 rfl rfl rfl ?_
    refine g_aload_n dX2_worth_3 rfl rfl rfl ?_
    refine g_getI dX2_worth_4 ff_X2_28 rfl (k_a) rfl ?_
    rw [hcl]
    refine g_icmp_ge (tgt := 90) dX2_worth_7 (by decide) rfl (fun h => absurd h (nI_ge (by omega) (by omega))) (fun _ => ?_)
    refine g_aload_n dX2_worth_10 rfl rfl rfl ?_
    refine g_getR dX2_worth_11 ff_X2_15 rfl (k_a) (r_a_1) rfl ?_
    refine g_iload_n dX2_worth_14 rfl rfl rfl ?_
    refine g_iald (i := i) dX2_worth_15 (k_a2) (l_a2) (by (try simp only [nI_lit, pk_mul, nI_add, Nat.zero_add]); exact nI_toInt (by omega)) (by omega) rfl ?_
    refine g_aload_n dX2_worth_16 rfl rfl rfl ?_
    refine g_getR dX2_worth_17 ff_X2_18 rfl (k_a) (r_a_2) rfl ?_
    refine g_iload_n dX2_worth_20 rfl rfl rfl ?_
    refine g_iald (i := i) dX2_worth_21 (k_a3) (l_a3) (by (try simp only [nI_lit, pk_mul, nI_add, Nat.zero_add]); exact nI_toInt (by omega)) (by omega) rfl ?_
    rw [hco, hsu]
    have fin : ∀ w2 : Nat → Int32, decide (co i = su i ∨ cv i ≠ 0) = true → gW X (gRoom (d + 2) 0 0) (gZ X gN0 0 0 (fun v M2 => v = some (.int (wfrom (fun j => decide (co j = su j ∨ cv j ≠ 0)) sv cl 0)) ∧ ∃ w, M2 = gwF M (a + 4) w)) gN0 yX2_worth cX2_worth 4 (some .int) 45 [(0, .ref a), (1, .ref 22), (2, .int (nI i))] [] (gwF M (a + 4) w2) 0 0 := by
      intro w2 ht
      obtain ⟨⟨k_a, -, ⟨k_a2, l_a2⟩, ⟨k_a3, l_a3⟩, -, -, r_a_1, r_a_2, -⟩, ⟨hcl, hcl2⟩, ⟨hln, hln2⟩, hcs, -⟩ := LawCode_F (w := w2) hc
      obtain ⟨hco, hsu, ho1, ho2, ho3⟩ := hcs i hil
      have hres : sv i = wfrom (fun j => decide (co j = su j ∨ cv j ≠ 0)) sv cl 0 := by
        rw [← hr]
        show sv i = if decide (co i = su i ∨ cv i ≠ 0) then sv i else _
        rw [if_pos ht]
      refine g_iload_n dX2_worth_45 rfl rfl rfl ?_
      refine g_iconst (v := 1) dX2_worth_46 (by decide) rfl ?_
      refine g_iadd dX2_worth_47 rfl ?_
      refine g_aload_n dX2_worth_48 rfl rfl rfl ?_
      refine g_getI dX2_worth_49 ff_X2_28 rfl (k_a) rfl ?_
      rw [hcl, nI_1]
      refine g_icmp_ge (tgt := 66) dX2_worth_52 (by decide) rfl (fun h52 => ?_) (fun h52 => ?_)
      · have h52 : ¬ i + 1 < cl := fun q => absurd ((nI_leI (by omega) (by omega)).mp h52) (by omega)
        have een : enOf cl len co i = len := if_neg h52
        rw [een] at ho2
        refine g_aload_n dX2_worth_66 rfl rfl rfl ?_
        refine g_getI dX2_worth_67 ff_X2_24 rfl (k_a) rfl ?_
        rw [hln]
        refine g_istore_n dX2_worth_70 rfl (by decide) rfl ?_
        refine g_aload_n dX2_worth_71 rfl rfl rfl ?_
        refine g_aload_n dX2_worth_72 rfl rfl rfl ?_
        refine g_getR dX2_worth_73 ff_X2_18 rfl (k_a) (r_a_2) rfl ?_
        refine g_iload_n dX2_worth_76 rfl rfl rfl ?_
        refine g_iald (i := i) dX2_worth_77 (k_a3) (l_a3) (by (try simp only [nI_lit, pk_mul, nI_add, Nat.zero_add]); exact nI_toInt (by omega)) (by omega) rfl ?_
        rw [hsu]
        refine g_iload_n dX2_worth_78 rfl rfl rfl ?_
        refine g_aload_n dX2_worth_79 rfl rfl rfl ?_
        refine g_callVdi (ci := 2) dX2_worth_80 lm_X2_35 mv_X2_valueOf (hval w2 (su i) len ho2 (Nat.le_refl _)) rfl rfl (k_a) rfl rfl (Nat.le_of_ble_eq_true rfl) (gFit_room (by omega)) rfl ?_
        have hv := hv2 i hil w2
        rw [een] at hv
        rw [hv]
        exact g_iret dX2_worth_83 rfl rfl ⟨by rw [hres], _, rfl⟩
      · have h52 : i + 1 < cl := Nat.not_le.mp (fun q => h52 ((nI_leI (by omega) (by omega)).mpr q))
        have een : enOf cl len co i = co (i + 1) := if_pos h52
        rw [een] at ho2 ho3
        refine g_aload_n dX2_worth_55 rfl rfl rfl ?_
        refine g_getR dX2_worth_56 ff_X2_15 rfl (k_a) (r_a_1) rfl ?_
        refine g_iload_n dX2_worth_59 rfl rfl rfl ?_
        refine g_iconst (v := 1) dX2_worth_60 (by decide) rfl ?_
        refine g_iadd dX2_worth_61 rfl ?_
        rw [nI_1]
        refine g_iald (i := (i + 1)) dX2_worth_62 (k_a2) (l_a2) (nI_toInt (by omega)) (by omega) rfl ?_
        rw [(hcs (i + 1) h52).1]
        refine g_goto (tgt := 70) dX2_worth_63 (by decide) ?_
        refine g_istore_n dX2_worth_70 rfl (by decide) rfl ?_
        refine g_aload_n dX2_worth_71 rfl rfl rfl ?_
        refine g_aload_n dX2_worth_72 rfl rfl rfl ?_
        refine g_getR dX2_worth_73 ff_X2_18 rfl (k_a) (r_a_2) rfl ?_
        refine g_iload_n dX2_worth_76 rfl rfl rfl ?_
        refine g_iald (i := i) dX2_worth_77 (k_a3) (l_a3) (by (try simp only [nI_lit, pk_mul, nI_add, Nat.zero_add]); exact nI_toInt (by omega)) (by omega) rfl ?_
        rw [hsu]
        refine g_iload_n dX2_worth_78 rfl rfl rfl ?_
        refine g_aload_n dX2_worth_79 rfl rfl rfl ?_
        refine g_callVdi (ci := 2) dX2_worth_80 lm_X2_35 mv_X2_valueOf (hval w2 (su i) (co (i + 1)) ho2 ho3) rfl rfl (k_a) rfl rfl (Nat.le_of_ble_eq_true rfl) (gFit_room (by omega)) rfl ?_
        have hv := hv2 i hil w2
        rw [een] at hv
        rw [hv]
        exact g_iret dX2_worth_83 rfl rfl ⟨by rw [hres], _, rfl⟩
    refine g_icmp_eq (tgt := 45) dX2_worth_22 (by decide) rfl (fun h22 => ?_) (fun h22 => ?_)
    · have h22 : co i = su i := (nI_eq (by omega) (by omega)).mp h22
      exact g_go (fin w (decide_eq_true (Or.inl h22))) ⟨rfl, rfl, rfl, trivial⟩
    · have h22 : co i ≠ su i := fun q => h22 (by rw [q])
      refine g_aload_n dX2_worth_25 rfl rfl rfl ?_
      refine g_aload_n dX2_worth_26 rfl rfl rfl ?_
      refine g_getR dX2_worth_27 ff_X2_15 rfl (k_a) (r_a_1) rfl ?_
      refine g_iload_n dX2_worth_30 rfl rfl rfl ?_
      refine g_iald (i := i) dX2_worth_31 (k_a2) (l_a2) (by (try simp only [nI_lit, pk_mul, nI_add, Nat.zero_add]); exact nI_toInt (by omega)) (by omega) rfl ?_
      refine g_aload_n dX2_worth_32 rfl rfl rfl ?_
      refine g_getR dX2_worth_33 ff_X2_18 rfl (k_a) (r_a_2) rfl ?_
      refine g_iload_n dX2_worth_36 rfl rfl rfl ?_
      refine g_iald (i := i) dX2_worth_37 (k_a3) (l_a3) (by (try simp only [nI_lit, pk_mul, nI_add, Nat.zero_add]); exact nI_toInt (by omega)) (by omega) rfl ?_
      refine g_aload_n dX2_worth_38 rfl rfl rfl ?_
      rw [hco, hsu]
      refine g_callVdi (ci := 2) dX2_worth_39 lm_X2_35 mv_X2_valueOf (hval w (co i) (su i) ho1 (by omega)) rfl rfl (k_a) rfl rfl (Nat.le_of_ble_eq_true rfl) (gFit_room (by omega)) rfl ?_
      rw [hv1 i hil h22 w]
      refine g_if_eq (tgt := 84) dX2_worth_42 (by decide) rfl (fun h42 => ?_) (fun h42 => ?_)
      · refine g_iincV (c := 1) dX2_worth_84 rfl (by decide) (by decide) rfl ?_
        refine g_goto (tgt := 2) dX2_worth_87 (by decide) ?_
        have hf : decide (co i = su i ∨ cv i ≠ 0) = false := decide_eq_false (fun q => q.elim h22 (fun z => z h42))
        refine g_go (ih (i + 1) _ (by omega) ?_) ⟨rfl, rfl, by rw [← nI_1 i]; rfl, trivial⟩
        rw [← hr]
        show _ = if decide (co i = su i ∨ cv i ≠ 0) then sv i else _
        rw [hf]
        rfl
      · exact g_go (fin _ (decide_eq_true (Or.inr h42))) ⟨rfl, rfl, rfl, trivial⟩
set_option maxRecDepth 20000 in
theorem c_clear (hx : gXok X) {a : Nat} (ha : LawAt M a) : gDet X (d + 0) yX2_clear cX2_clear 1 none [.ref a] M none (gwI (gwI (gwI M a 4 0) a 5 0) a 6 0) := by
  obtain ⟨k_a, -⟩ := id ha
  refine gMet.of hx (by decide) (Nat.le_of_ble_eq_true rfl) ?_
  refine g_aload_n dX2_clear_0 rfl rfl rfl ?_
  refine g_iconst (v := 0) dX2_clear_1 (by decide) rfl ?_
  refine g_putI dX2_clear_2 fp_X2_24 rfl rfl rfl (k_a) rfl ?_
  refine g_aload_n dX2_clear_5 rfl rfl rfl ?_
  refine g_iconst (v := 0) dX2_clear_6 (by decide) rfl ?_
  refine g_putI dX2_clear_7 fp_X2_28 rfl rfl rfl (k_a) rfl ?_
  refine g_aload_n dX2_clear_10 rfl rfl rfl ?_
  refine g_iconst (v := 0) dX2_clear_11 (by decide) rfl ?_
  refine g_putI dX2_clear_12 fp_X2_31 rfl rfl rfl (k_a) rfl ?_
  exact g_vret dX2_clear_15 rfl ⟨rfl, rfl⟩
end W2
