section G8
variable {X : gX} {Mc M : gM} {d n : Nat} {E : Nat → LE} {EV : EVt} {w p e c : Nat} {F : Nat → Int32}
def lgC (c : Nat) : Nat := if c = 60 then 59 else c
def lgS (c : Nat) : Nat := if c = 60 then 3 else 0
/-- a day of the row w, with its log -/
def DayW (Mc M M2 : gM) (w : Nat) (F : Nat → Int32) (c : Nat) : Prop := gFr (fun q => q = w) M M2 ∧ RowR M2 w (dayF Mc F) ∧ gmi M2 w 67 = nI (lgC c + 1) ∧ (∀ j, j < 3 * lgC c → gmi M2 w (68 + j) = gmi M w (68 + j + lgS c)) ∧ gmi M2 w (68 + 3 * lgC c) = nI (smoF F (tv Mc 3 7)) ∧ gmi M2 w (68 + 3 * lgC c + 1) = F 61 ∧ gmi M2 w (68 + 3 * lgC c + 2) = F 62
theorem iminN {a b : Nat} (ha : a < 2 ^ 31) (hb : b < 2 ^ 31) : imin (nI a) (nI b) = nI (min a b) := by
  unfold imin
  by_cases h : b < a
  · rw [if_pos ((nI_ltI hb ha).mpr h), Nat.min_eq_right (by omega)]
  · rw [if_neg (fun z => h ((nI_ltI hb ha).mp z)), Nat.min_eq_left (by omega)]
set_option maxRecDepth 20000 in
set_option maxHeartbeats 2000000 in
theorem r_goDay (hx : gXok X) (h0 : R0 Mc M n E EV) (hw : w = 113 ∨ w = 114) (hR : RowR M w F) {m D : Nat} (hm : F 64 = nI m) (hm9 : m ≤ 9999) (hD : F 66 = nI D) (hD3 : D < 2 ^ 30) (hc : gmi M w 67 = nI c) (hc60 : c ≤ 60) : gPos X (d + 2) yX11_goDay cX11_goDay 5 (some .int) [.ref 100, .ref w] M (fun v M2 => v = some (.int (ibc (nI (smoF F (tv Mc 3 7))))) ∧ DayW Mc M M2 w F c) := by
  have hT := h0.2.1
  have h6 := hT.1.2
  have hL0 := h0.1.1
  have hsm : smoF F (tv Mc 3 7) < 64 := Nat.lt_of_lt_of_le (bsum_lt _ _) (Nat.le_trans (bt_pow h6) (by decide))
  refine gMet.of hx (by decide) (Nat.le_of_ble_eq_true rfl) ?_
  -- behind the shift: from the row 52
  have main : ∀ (M1 : gM) (lz : List (Nat × Value)), gFr (fun q => q = w) M M1 → RowR M1 w F → gmi M1 w 67 = nI (lgC c) → (∀ j, j < 3 * lgC c → gmi M1 w (68 + j) = gmi M w (68 + j + lgS c)) → gW X (gRoom (d + 2) 0 0) (gZ X gN0 0 0 (fun v M2 => v = some (.int (ibc (nI (smoF F (tv Mc 3 7))))) ∧ DayW Mc M M2 w F c)) gN0 yX11_goDay cX11_goDay 5 (some .int) 52 [(0, .ref 100), (1, .ref w), (2, .int (nI (smoF F (tv Mc 3 7))))] [] M1 0 0 := by
    intro M1 lz hf1 hR1 hc1 hl1
    have hcc : lgC c ≤ 59 := by unfold lgC; split <;> omega
    generalize hk : lgC c = k at *
    have hL1 := hf1.lay hL0
    obtain ⟨k_w, l_w⟩ := wlay hL1 hw
    have hb3 : ∀ {Ma : gM} {i : Nat} {v : Int32}, gFr (fun q => q = w) M Ma → gFr (fun q => q = w) M (gwI Ma w i v) := fun h => h.tr (gFr.wI rfl)
    refine g_bipush (v := 68) dX11_goDay_52 (by decide) rfl ?_
    refine g_iconst (v := 3) dX11_goDay_54 (by decide) rfl ?_
    refine g_aload_n dX11_goDay_55 rfl rfl rfl ?_
    refine g_bipush (v := 67) dX11_goDay_56 (by decide) rfl ?_
    refine g_iald (i := 67) dX11_goDay_58 (k_w) (l_w) rfl (by decide) rfl ?_
    rw [hc1]
    refine g_imul dX11_goDay_59 rfl ?_
    refine g_iadd dX11_goDay_60 rfl ?_
    rw [show (68 : Int32) = nI 68 from rfl, show (3 : Int32) = nI 3 from rfl, pk_mul, nI_add]
    refine g_istore_n dX11_goDay_61 rfl (by decide) rfl ?_
    refine g_aload_n dX11_goDay_62 rfl rfl rfl ?_
    refine g_iload_n dX11_goDay_63 rfl rfl rfl ?_
    refine g_iload_n dX11_goDay_64 rfl rfl rfl ?_
    refine g_iast (i := (68 + 3 * k)) dX11_goDay_65 (k_w) (l_w) (nI_toInt (by omega)) (by omega) rfl ?_
    refine g_aload_n dX11_goDay_66 rfl rfl rfl ?_
    refine g_iload_n dX11_goDay_67 rfl rfl rfl ?_
    refine g_iconst (v := 1) dX11_goDay_68 (by decide) rfl ?_
    refine g_iadd dX11_goDay_69 rfl ?_
    refine g_aload_n dX11_goDay_70 rfl rfl rfl ?_
    refine g_bipush (v := 66) dX11_goDay_71 (by decide) rfl ?_
    rw [show (1 : Int32) = nI 1 from rfl, nI_add]
    refine g_iald (i := 66) dX11_goDay_73 (k_w) (l_w) rfl (by decide) rfl ?_
    rw [gmi_I, va_up_ne _ _ (show 66 ≠ 68 + 3 * k by omega), hR1 66 (by decide), show cix 66 = 61 from rfl]
    refine g_iast (i := (68 + 3 * k + 1)) dX11_goDay_74 (k_w) (l_w) (nI_toInt (by omega)) (by omega) rfl ?_
    refine g_aload_n dX11_goDay_75 rfl rfl rfl ?_
    refine g_iload_n dX11_goDay_76 rfl rfl rfl ?_
    refine g_iconst (v := 2) dX11_goDay_77 (by decide) rfl ?_
    refine g_iadd dX11_goDay_78 rfl ?_
    refine g_aload_n dX11_goDay_79 rfl rfl rfl ?_
    refine g_bipush (v := 61) dX11_goDay_80 (by decide) rfl ?_
    rw [show (2 : Int32) = nI 2 from rfl, nI_add]
    refine g_iald (i := 61) dX11_goDay_82 (k_w) (l_w) rfl (by decide) rfl ?_
    rw [gmi_I, va_up_ne _ _ (show 61 ≠ 68 + 3 * k + 1 by omega), gmi_I, va_up_ne _ _ (show 61 ≠ 68 + 3 * k by omega), hR1 61 (by decide), show cix 61 = 62 from rfl]
    refine g_iast (i := (68 + 3 * k + 2)) dX11_goDay_83 (k_w) (l_w) (nI_toInt (by omega)) (by omega) rfl ?_
    refine g_aload_n dX11_goDay_84 rfl rfl rfl ?_
    refine g_bipush (v := 67) dX11_goDay_85 (by decide) rfl ?_
    refine g_dup2 dX11_goDay_87 rfl rfl rfl ?_
    refine g_iald (i := 67) dX11_goDay_88 (k_w) (l_w) rfl (by decide) rfl ?_
    rw [gmi_I, va_up_ne _ _ (show 67 ≠ 68 + 3 * k + 2 by omega), gmi_I, va_up_ne _ _ (show 67 ≠ 68 + 3 * k + 1 by omega), gmi_I, va_up_ne _ _ (show 67 ≠ 68 + 3 * k by omega), hc1]
    refine g_iconst (v := 1) dX11_goDay_89 (by decide) rfl ?_
    refine g_iadd dX11_goDay_90 rfl ?_
    rw [nI_1]
    refine g_iast (i := 67) dX11_goDay_91 (k_w) (l_w) rfl (by decide) rfl ?_
    have hfA := hb3 (i := 67) (v := nI (k + 1)) (hb3 (i := 68 + 3 * k + 2) (v := F 62) (hb3 (i := 68 + 3 * k + 1) (v := F 61) (hb3 (i := 68 + 3 * k) (v := nI (smoF F (tv Mc 3 7))) hf1)))
    have hRA : RowR (gwI (gwI (gwI (gwI M1 w (68 + 3 * k) (nI (smoF F (tv Mc 3 7)))) w (68 + 3 * k + 1) (F 61)) w (68 + 3 * k + 2) (F 62)) w 67 (nI (k + 1))) w F := (((hR1.hi (by omega)).hi (by omega)).hi (by omega)).hi (by omega)
    have v67 : gmi (gwI (gwI (gwI (gwI M1 w (68 + 3 * k) (nI (smoF F (tv Mc 3 7)))) w (68 + 3 * k + 1) (F 61)) w (68 + 3 * k + 2) (F 62)) w 67 (nI (k + 1))) w 67 = nI (k + 1) := by rw [gmi_I, va_up_self]
    have v0 : gmi (gwI (gwI (gwI (gwI M1 w (68 + 3 * k) (nI (smoF F (tv Mc 3 7)))) w (68 + 3 * k + 1) (F 61)) w (68 + 3 * k + 2) (F 62)) w 67 (nI (k + 1))) w (68 + 3 * k) = nI (smoF F (tv Mc 3 7)) := by rw [gmi_I, va_up_ne _ _ (by omega), gmi_I, va_up_ne _ _ (by omega), gmi_I, va_up_ne _ _ (by omega), gmi_I, va_up_self]
    have v1 : gmi (gwI (gwI (gwI (gwI M1 w (68 + 3 * k) (nI (smoF F (tv Mc 3 7)))) w (68 + 3 * k + 1) (F 61)) w (68 + 3 * k + 2) (F 62)) w 67 (nI (k + 1))) w (68 + 3 * k + 1) = F 61 := by rw [gmi_I, va_up_ne _ _ (by omega), gmi_I, va_up_ne _ _ (by omega), gmi_I, va_up_self]
    have v2 : gmi (gwI (gwI (gwI (gwI M1 w (68 + 3 * k) (nI (smoF F (tv Mc 3 7)))) w (68 + 3 * k + 1) (F 61)) w (68 + 3 * k + 2) (F 62)) w 67 (nI (k + 1))) w (68 + 3 * k + 2) = F 62 := by rw [gmi_I, va_up_ne _ _ (by omega), gmi_I, va_up_self]
    have vj : ∀ j, j < 3 * k → gmi (gwI (gwI (gwI (gwI M1 w (68 + 3 * k) (nI (smoF F (tv Mc 3 7)))) w (68 + 3 * k + 1) (F 61)) w (68 + 3 * k + 2) (F 62)) w 67 (nI (k + 1))) w (68 + j) = gmi M w (68 + j + lgS c) := fun j hj => by
      rw [gmi_I, va_up_ne _ _ (by omega), gmi_I, va_up_ne _ _ (by omega), gmi_I, va_up_ne _ _ (by omega), gmi_I, va_up_ne _ _ (by omega)]
      exact hl1 j hj
    generalize gwI (gwI (gwI (gwI M1 w (68 + 3 * k) (nI (smoF F (tv Mc 3 7)))) w (68 + 3 * k + 1) (F 61)) w (68 + 3 * k + 2) (F 62)) w 67 (nI (k + 1)) = MA at hfA hRA v67 v0 v1 v2 vj ⊢
    have hct := fun i => fb_ct_le (wisF Mc F) i
    have e0 : va_up F 64 (nI (min 9999 (m + fb_ct (wisF Mc F) 0))) = F := by
      show va_up F 64 (nI (min 9999 (m + 0))) = F
      rw [Nat.add_zero, Nat.min_eq_right hm9, ← hm, va_up_id]
    refine g_iconst (v := 0) dX11_goDay_92 (by decide) rfl ?_
    refine g_istore dX11_goDay_93 (by decide) rfl ?_
    refine g_loopM (fun i => [(0, .ref 100), (1, .ref w), (2, .int (nI (smoF F (tv Mc 3 7)))), (4, .int (nI i))]) (fun i M2 => RW MA M2 w (va_up F 64 (nI (min 9999 (m + fb_ct (wisF Mc F) i))))) (tv Mc 3 7) 0 (by omega) ⟨rfl, rfl, rfl, rfl, trivial⟩ (by rw [e0]; exact RW.rf hRA) (fun M2 hI => ?_) (fun i M2 _ hi hI ih => ?_)
    · have hfB := hfA.tr hI.1
      have hB : R0 Mc M2 n E EV := by
        have hS : Nt (fun q => q = w) := ⟨by omega, by omega, by omega, by omega, by omega, by omega, by omega, by omega, by omega⟩
        have hfx : xFr (fun q => q = w) M M2 := hfB.x (by omega)
        exact h0.x hfx hS (h0.1.x hfx hS (hfB.2.2.1 115) (hfB.2.2.2 116 (by omega)))
      have ecl : va_up F 64 (nI (min 9999 (m + fb_ct (wisF Mc F) (tv Mc 3 7)))) = va_up F 64 (imin 9999 (F 64 + nI (fb_ct (wisF Mc F) (tv Mc 3 7)))) := by
        have := hct (tv Mc 3 7)
        rw [hm, nI_add, show (9999 : Int32) = nI 9999 from rfl, iminN (by decide) (by omega)]
      have e26 : gmi M2 100 26 = nI (tv Mc 3 7) := hB.2.2.1.trans hT.1.1
      refine g_iload dX11_goDay_95 rfl rfl ?_
      refine g_aload_n dX11_goDay_97 rfl rfl rfl ?_
      refine g_getI dX11_goDay_98 ff_X11_285 rfl (k100 hB.1.1) rfl ?_
      rw [e26]
      refine g_icmp_ge (tgt := 156) dX11_goDay_101 (by decide) rfl (fun _ => ?_) (fun h_ => absurd (nI_le (Nat.le_refl _) (by omega)) h_)
      refine g_aload_n dX11_goDay_156 rfl rfl rfl ?_
      refine g_aload_n dX11_goDay_157 rfl rfl rfl ?_
      refine g_callVq (ci := 11) dX11_goDay_158 lm_X11_386 mv_X11_ages (r_ages (d := d) hx hB hw hI.2.1) rfl rfl (k100 hB.1.1) rfl rfl (Nat.le_of_ble_eq_true rfl) (gFit_room (by omega)) rfl (fun v M2 hQ => ?_)
      obtain ⟨rfl, hf⟩ := hQ
      refine g_iload_n dX11_goDay_161 rfl rfl rfl ?_
      refine g_callSdi dX11_goDay_162 lm_X11_327 mv_J6_bitCount_0f7a4 (c_bitCount (d := d + 1) hx) rfl rfl (Nat.le_of_ble_eq_true rfl) (gFit_room (by omega)) rfl ?_
      exact g_iret dX11_goDay_165 rfl (by first | rfl | exact b01 | exact nb01 hv01) (⟨rfl, hfB.tr hf.1, by unfold dayF; rw [← ecl]; exact hf.2.1, by rw [hk, hf.2.2 67 (by omega), hI.2.2 67 (by omega)]; exact v67, fun j hj => by rw [hf.2.2 _ (by omega), hI.2.2 _ (by omega)]; exact vj j (by omega), by rw [hk, hf.2.2 _ (by omega), hI.2.2 _ (by omega)]; exact v0, by rw [hk, hf.2.2 _ (by omega), hI.2.2 _ (by omega)]; exact v1, by rw [hk, hf.2.2 _ (by omega), hI.2.2 _ (by omega)]; exact v2⟩)
    · have hfB := hfA.tr hI.1
      have hLB := hfB.lay hL0
      have hcti := hct i
      have ect : fb_ct (wisF Mc F) (i + 1) = fb_ct (wisF Mc F) i + (if wisF Mc F i then 1 else 0) := rfl
      have ewi : wisF Mc F i = ((smoF F (tv Mc 3 7)).testBit i && decide (gmi Mc 6 i = F 66 - F 66 / 7 * 7)) := rfl
      have e26 : gmi M2 100 26 = nI (tv Mc 3 7) := by rw [hfB.2.2.2 100 (by omega)]; exact h0.2.2.1.trans hT.1.1
      have efk : gmi M2 107 (3 * i + 2) = gmi Mc 6 i := by rw [hfB.2.2.2 107 (by omega)]; exact (h0.2.2.2.2.1 i hi).2.2
      obtain ⟨k_w, l_w⟩ := wlay hLB hw
      have r65 : gmi M2 w 65 = F 66 := by rw [hI.2.1 65 (by decide), show cix 65 = 66 from rfl, va_up_ne _ _ (by decide)]
      have r63 : gmi M2 w 63 = nI (min 9999 (m + fb_ct (wisF Mc F) i)) := by rw [hI.2.1 63 (by decide), show cix 63 = 64 from rfl, va_up_self]
      have hno : ¬ wisF Mc F i = true → gW X (gRoom (d + 2) 0 0) (gZ X gN0 0 0 (fun v M2 => v = some (.int (ibc (nI (smoF F (tv Mc 3 7))))) ∧ DayW Mc M M2 w F c)) gN0 yX11_goDay cX11_goDay 5 (some .int) 150 [(0, .ref 100), (1, .ref w), (2, .int (nI (smoF F (tv Mc 3 7)))), (4, .int (nI i))] [] M2 0 0 := by
        intro hz
        rw [if_neg hz, Nat.add_zero] at ect
        refine g_iincV (c := 1) dX11_goDay_150 rfl (by decide) (by decide) rfl ?_
        refine g_goto (tgt := 95) dX11_goDay_153 (by decide) ?_
        exact g_go (ih M2 (by rw [ect]; exact hI)) ⟨rfl, rfl, rfl, by rw [← nI_1 i]; rfl, trivial⟩
      refine g_iload dX11_goDay_95 rfl rfl ?_
      refine g_aload_n dX11_goDay_97 rfl rfl rfl ?_
      refine g_getI dX11_goDay_98 ff_X11_285 rfl (k100 hLB) rfl ?_
      rw [e26]
      refine g_icmp_ge (tgt := 156) dX11_goDay_101 (by decide) rfl (fun h_ => absurd h_ (nI_ge hi (by omega))) (fun _ => ?_)
      refine g_iload_n dX11_goDay_104 rfl rfl rfl ?_
      refine g_iload dX11_goDay_105 rfl rfl ?_
      refine g_callSdi dX11_goDay_107 lm_X11_223 mv_X11_has (r_has (d := d + 1) hx (show smoF F (tv Mc 3 7) < 2 ^ 31 by omega) (show i < 32 by omega)) rfl rfl (Nat.le_of_ble_eq_true rfl) (gFit_room (by omega)) rfl ?_
      refine g_ieq (tgt := 150) dX11_goDay_110 (by decide) rfl (fun h110 => ?_) (fun h110 => ?_)
      · first
          | exact g_go (hno (fun z => h110 (by rw [ewi] at z; exact (Bool.and_eq_true _ _ ▸ z : _ ∧ _).1))) ⟨rfl, rfl, rfl, rfl, trivial⟩
          | exact g_go (hno (fun z => h131 (by rw [ewi] at z; exact of_decide_eq_true (Bool.and_eq_true _ _ ▸ z : _ ∧ _).2))) ⟨rfl, rfl, rfl, rfl, trivial⟩
          | (have hz : wisF Mc F i = true := by rw [ewi, h110, decide_eq_true h131]; rfl
             rw [if_pos hz] at ect
             have hW := hI.st (v := imin 9999 (nI (min 9999 (m + fb_ct (wisF Mc F) i) + 1))) (show 63 < 67 by decide)
             have eup : va_up (va_up F 64 (nI (min 9999 (m + fb_ct (wisF Mc F) i)))) (cix 63) (imin 9999 (nI (min 9999 (m + fb_ct (wisF Mc F) i) + 1))) = va_up F 64 (nI (min 9999 (m + fb_ct (wisF Mc F) (i + 1)))) := by
               rw [show cix 63 = 64 from rfl, va_up_up, show (9999 : Int32) = nI 9999 from rfl, iminN (by decide) (by omega), ect]
               congr 2
               omega
             rw [eup] at hW
             refine g_iincV (c := 1) dX11_goDay_150 rfl (by decide) (by decide) rfl ?_
             refine g_goto (tgt := 95) dX11_goDay_153 (by decide) ?_
             exact g_go (ih _ hW) ⟨rfl, rfl, rfl, by rw [← nI_1 i]; rfl, trivial⟩)
      · refine g_aload_n dX11_goDay_113 rfl rfl rfl ?_
        refine g_getR dX11_goDay_114 ff_X11_43 rfl (k100 hLB) (r100_20 hLB) rfl ?_
        refine g_iconst (v := 3) dX11_goDay_117 (by decide) rfl ?_
        refine g_iload dX11_goDay_118 rfl rfl ?_
        refine g_imul dX11_goDay_120 rfl ?_
        refine g_iconst (v := 2) dX11_goDay_121 (by decide) rfl ?_
        refine g_iadd dX11_goDay_122 rfl ?_
        rw [show (3 : Int32) = nI 3 from rfl, show (2 : Int32) = nI 2 from rfl, pk_mul, nI_add]
        refine g_iald (i := (3 * i + 2)) dX11_goDay_123 (k107 hLB) (l107 hLB) (nI_toInt (by omega)) (by omega) rfl ?_
        rw [efk]
        refine g_aload_n dX11_goDay_124 rfl rfl rfl ?_
        refine g_bipush (v := 65) dX11_goDay_125 (by decide) rfl ?_
        refine g_iald (i := 65) dX11_goDay_127 (k_w) (l_w) rfl (by decide) rfl ?_
        rw [r65]
        refine g_bipush (v := 7) dX11_goDay_128 (by decide) rfl ?_
        refine g_irem dX11_goDay_130 (by decide) rfl ?_
        refine g_icmp_ne (tgt := 150) dX11_goDay_131 (by decide) rfl (fun h131 => ?_) (fun h131 => ?_)
        · first
            | exact g_go (hno (fun z => h110 (by rw [ewi] at z; exact (Bool.and_eq_true _ _ ▸ z : _ ∧ _).1))) ⟨rfl, rfl, rfl, rfl, trivial⟩
            | exact g_go (hno (fun z => h131 (by rw [ewi] at z; exact of_decide_eq_true (Bool.and_eq_true _ _ ▸ z : _ ∧ _).2))) ⟨rfl, rfl, rfl, rfl, trivial⟩
            | (have hz : wisF Mc F i = true := by rw [ewi, h110, decide_eq_true h131]; rfl
               rw [if_pos hz] at ect
               have hW := hI.st (v := imin 9999 (nI (min 9999 (m + fb_ct (wisF Mc F) i) + 1))) (show 63 < 67 by decide)
               have eup : va_up (va_up F 64 (nI (min 9999 (m + fb_ct (wisF Mc F) i)))) (cix 63) (imin 9999 (nI (min 9999 (m + fb_ct (wisF Mc F) i) + 1))) = va_up F 64 (nI (min 9999 (m + fb_ct (wisF Mc F) (i + 1)))) := by
                 rw [show cix 63 = 64 from rfl, va_up_up, show (9999 : Int32) = nI 9999 from rfl, iminN (by decide) (by omega), ect]
                 congr 2
                 omega
               rw [eup] at hW
               refine g_iincV (c := 1) dX11_goDay_150 rfl (by decide) (by decide) rfl ?_
               refine g_goto (tgt := 95) dX11_goDay_153 (by decide) ?_
               exact g_go (ih _ hW) ⟨rfl, rfl, rfl, by rw [← nI_1 i]; rfl, trivial⟩)
        · refine g_aload_n dX11_goDay_134 rfl rfl rfl ?_
          refine g_bipush (v := 63) dX11_goDay_135 (by decide) rfl ?_
          refine g_sipush (v := 9999) dX11_goDay_137 (by decide) rfl ?_
          refine g_aload_n dX11_goDay_140 rfl rfl rfl ?_
          refine g_bipush (v := 63) dX11_goDay_141 (by decide) rfl ?_
          refine g_iald (i := 63) dX11_goDay_143 (k_w) (l_w) rfl (by decide) rfl ?_
          rw [r63]
          refine g_iconst (v := 1) dX11_goDay_144 (by decide) rfl ?_
          refine g_iadd dX11_goDay_145 rfl ?_
          rw [nI_1]
          refine g_callSdi dX11_goDay_146 lm_X11_316 mv_J9_min_7cf53 (c_min (d := d + 1) hx) rfl rfl (Nat.le_of_ble_eq_true rfl) (gFit_room (by omega)) rfl ?_
          refine g_iast (i := 63) dX11_goDay_149 (k_w) (l_w) rfl (by decide) rfl ?_
          first
            | exact g_go (hno (fun z => h110 (by rw [ewi] at z; exact (Bool.and_eq_true _ _ ▸ z : _ ∧ _).1))) ⟨rfl, rfl, rfl, rfl, trivial⟩
            | exact g_go (hno (fun z => h131 (by rw [ewi] at z; exact of_decide_eq_true (Bool.and_eq_true _ _ ▸ z : _ ∧ _).2))) ⟨rfl, rfl, rfl, rfl, trivial⟩
            | (have hz : wisF Mc F i = true := by rw [ewi, h110, decide_eq_true h131]; rfl
               rw [if_pos hz] at ect
               have hW := hI.st (v := imin 9999 (nI (min 9999 (m + fb_ct (wisF Mc F) i) + 1))) (show 63 < 67 by decide)
               have eup : va_up (va_up F 64 (nI (min 9999 (m + fb_ct (wisF Mc F) i)))) (cix 63) (imin 9999 (nI (min 9999 (m + fb_ct (wisF Mc F) i) + 1))) = va_up F 64 (nI (min 9999 (m + fb_ct (wisF Mc F) (i + 1)))) := by
                 rw [show cix 63 = 64 from rfl, va_up_up, show (9999 : Int32) = nI 9999 from rfl, iminN (by decide) (by omega), ect]
                 congr 2
                 omega
               rw [eup] at hW
               refine g_iincV (c := 1) dX11_goDay_150 rfl (by decide) (by decide) rfl ?_
               refine g_goto (tgt := 95) dX11_goDay_153 (by decide) ?_
               exact g_go (ih _ hW) ⟨rfl, rfl, rfl, by rw [← nI_1 i]; rfl, trivial⟩)
  obtain ⟨k_w, l_w⟩ := wlay hL0 hw
  refine g_aload_n dX11_goDay_0 rfl rfl rfl ?_
  refine g_aload_n dX11_goDay_1 rfl rfl rfl ?_
  refine g_callVdi (ci := 11) dX11_goDay_2 lm_X11_382 mv_X11_smooth (r_smooth (d := d + 1) hx h0 hw hR) rfl rfl (k100 hL0) rfl rfl (Nat.le_of_ble_eq_true rfl) (gFit_room (by omega)) rfl ?_
  refine g_istore_n dX11_goDay_5 rfl (by decide) rfl ?_
  refine g_aload_n dX11_goDay_6 rfl rfl rfl ?_
  refine g_bipush (v := 67) dX11_goDay_7 (by decide) rfl ?_
  refine g_iald (i := 67) dX11_goDay_9 (k_w) (l_w) rfl (by decide) rfl ?_
  rw [hc]
  refine g_bipush (v := 60) dX11_goDay_10 (by decide) rfl ?_
  refine g_icmp_ne (tgt := 52) dX11_goDay_12 (by decide) rfl (fun h12 => ?_) (fun h12 => ?_)
  · have hne : c ≠ 60 := fun z => h12 (by rw [z]; rfl)
    have e1 : lgC c = c := if_neg hne
    have e2 : lgS c = 0 := if_neg hne
    exact g_go (main M [] gFr.rf hR (by rw [e1]; exact hc) (fun j _ => by rw [e2, Nat.add_zero])) ⟨rfl, rfl, rfl, trivial⟩
  · refine g_iconst (v := 1) dX11_goDay_15 (by decide) rfl ?_
    refine g_istore_n dX11_goDay_16 rfl (by decide) rfl ?_
    have h60 : c = 60 := (qeq c 60 rfl rfl (by omega) (by decide)).mp h12
    subst h60
    refine g_loopM (fun i => [(0, .ref 100), (1, .ref w), (2, .int (nI (smoF F (tv Mc 3 7)))), (3, .int (nI i))]) (fun i M1 => gFr (fun q => q = w) M M1 ∧ RowR M1 w F ∧ gmi M1 w 67 = nI 60 ∧ (∀ j, 1 ≤ j → j < i → gmi M1 w (67 + j) = gmi M w (67 + j + 3)) ∧ ∀ j, i ≤ j → gmi M1 w (67 + j) = gmi M w (67 + j)) 178 1 (by decide) ⟨rfl, rfl, rfl, rfl, trivial⟩ ⟨gFr.rf, hR, hc, fun j h1 h2 => absurd h2 (by omega), fun _ _ => rfl⟩ (fun M1 hI => ?_) (fun i M1 hi1 hi hI ih => ?_)
    · obtain ⟨hf1, hR1, hc1, hA, hB⟩ := hI
      have hL1 := hf1.lay hL0
      obtain ⟨k_w, l_w⟩ := wlay hL1 hw
      refine g_iload_n dX11_goDay_17 rfl rfl rfl ?_
      refine g_sipush (v := 177) dX11_goDay_18 (by decide) rfl ?_
      refine g_icmp_gt (tgt := 44) dX11_goDay_21 (by decide) rfl (fun _ => ?_) (fun h_ => absurd (by decide) h_)
      refine g_aload_n dX11_goDay_44 rfl rfl rfl ?_
      refine g_bipush (v := 67) dX11_goDay_45 (by decide) rfl ?_
      refine g_dup2 dX11_goDay_47 rfl rfl rfl ?_
      refine g_iald (i := 67) dX11_goDay_48 (k_w) (l_w) rfl (by decide) rfl ?_
      rw [hc1]
      refine g_iconst (v := 1) dX11_goDay_49 (by decide) rfl ?_
      refine g_isub dX11_goDay_50 rfl ?_
      rw [show nI 60 - 1 = nI 59 from rfl]
      refine g_iast (i := 67) dX11_goDay_51 (k_w) (l_w) rfl (by decide) rfl ?_
      exact g_go (main _ [] (hf1.tr (gFr.wI rfl)) (hR1.hi (by decide)) (by rw [gmi_I, va_up_self]; rfl) (fun j hj => by rw [gmi_I, va_up_ne _ _ (by omega)]; have := hA (j + 1) (by omega) (by have : 3 * lgC 60 = 177 := rfl; omega); rw [show 67 + (j + 1) = 68 + j by omega] at this; exact this)) ⟨rfl, rfl, rfl, trivial⟩
    · obtain ⟨hf1, hR1, hc1, hA, hB⟩ := hI
      have hL1 := hf1.lay hL0
      obtain ⟨k_w, l_w⟩ := wlay hL1 hw
      refine g_iload_n dX11_goDay_17 rfl rfl rfl ?_
      refine g_sipush (v := 177) dX11_goDay_18 (by decide) rfl ?_
      refine g_icmp_gt (tgt := 44) dX11_goDay_21 (by decide) rfl (fun h_ => absurd h_ (fun q => absurd ((qlt 177 i rfl rfl (by decide) (by omega)).mp q) (by omega))) (fun _ => ?_)
      refine g_aload_n dX11_goDay_24 rfl rfl rfl ?_
      refine g_bipush (v := 67) dX11_goDay_25 (by decide) rfl ?_
      refine g_iload_n dX11_goDay_27 rfl rfl rfl ?_
      refine g_iadd dX11_goDay_28 rfl ?_
      refine g_aload_n dX11_goDay_29 rfl rfl rfl ?_
      refine g_bipush (v := 67) dX11_goDay_30 (by decide) rfl ?_
      refine g_iload_n dX11_goDay_32 rfl rfl rfl ?_
      refine g_iadd dX11_goDay_33 rfl ?_
      refine g_iconst (v := 3) dX11_goDay_34 (by decide) rfl ?_
      refine g_iadd dX11_goDay_35 rfl ?_
      rw [show (67 : Int32) = nI 67 from rfl, show (3 : Int32) = nI 3 from rfl, nI_add, nI_add]
      refine g_iald (i := (67 + i + 3)) dX11_goDay_36 (k_w) (l_w) (nI_toInt (by omega)) (by omega) rfl ?_
      refine g_iast (i := (67 + i)) dX11_goDay_37 (k_w) (l_w) (nI_toInt (by omega)) (by omega) rfl ?_
      refine g_iincV (c := 1) dX11_goDay_38 rfl (by decide) (by decide) rfl ?_
      refine g_goto (tgt := 17) dX11_goDay_41 (by decide) ?_
      refine g_go (ih _ ⟨hf1.tr (gFr.wI rfl), hR1.hi (by omega), by rw [gmi_I, va_up_ne _ _ (by omega)]; exact hc1, fun j h1 h2 => ?_, fun j h1 => by rw [gmi_I, va_up_ne _ _ (by omega)]; exact hB j (by omega)⟩) ⟨rfl, rfl, rfl, by rw [← nI_1 i]; rfl, trivial⟩
      rw [gmi_I]
      by_cases e1 : j = i
      · rw [e1, va_up_self]
        have := hB (i + 3) (by omega)
        rw [show 67 + (i + 3) = 67 + i + 3 by omega] at this
        exact this
      · rw [va_up_ne _ _ (by omega)]; exact hA j h1 (by omega)
end G8
