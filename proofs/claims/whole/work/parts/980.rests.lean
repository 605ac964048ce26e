section H11
variable {X : gX} {Mc M : gM} {d n A c : Nat} {E : Nat → LE} {EV : EVt} {F : Nat → Int32}
/-- how far the looking for a rest has come -/
def rsI (V : Nat → Bool) (a b k : Nat) : Bool := allB (fun o => decide (gpV V o b ≤ gpV V a b)) k && allB (fun o => decide (gbV V a o ≤ gbV V a b)) (min k 3)
theorem rsI_4 (V : Nat → Bool) (a b : Nat) : rsI V a b 4 = restB V a b := rfl
theorem rsI_s (V : Nat → Bool) (a b k : Nat) : rsI V a b (k + 1) = (rsI V a b k && (decide (gpV V k b ≤ gpV V a b) && (decide (2 < k) || decide (gbV V a k ≤ gbV V a b)))) := by
  unfold rsI
  have e1 : allB (fun o => decide (gpV V o b ≤ gpV V a b)) (k + 1) = (allB (fun o => decide (gpV V o b ≤ gpV V a b)) k && decide (gpV V k b ≤ gpV V a b)) := rfl
  rw [e1]
  by_cases h : 2 < k
  · rw [Nat.min_eq_right (show 3 ≤ k + 1 by omega), Nat.min_eq_right (show 3 ≤ k by omega), decide_eq_true h, Bool.true_or, Bool.and_true]
    cases allB (fun o => decide (gpV V o b ≤ gpV V a b)) k <;> cases decide (gpV V k b ≤ gpV V a b) <;> simp
  · have e2 : allB (fun o => decide (gbV V a o ≤ gbV V a b)) (k + 1) = (allB (fun o => decide (gbV V a o ≤ gbV V a b)) k && decide (gbV V a k ≤ gbV V a b)) := rfl
    rw [Nat.min_eq_left (show k + 1 ≤ 3 by omega), Nat.min_eq_left (show k ≤ 3 by omega), e2, decide_eq_false h, Bool.false_or]
    cases allB (fun o => decide (gpV V o b ≤ gpV V a b)) k <;> cases decide (gpV V k b ≤ gpV V a b) <;> simp
set_option maxRecDepth 20000 in
set_option maxHeartbeats 2000000 in
theorem r_rests (hx : gXok X) (hZ : gSt X) (h0 : R0 Mc M n E EV) (hN : RNow Mc M) {x z : Int32} : gPos X (d + 36) yX11_rests cX11_rests 8 (some .int) [.ref 100, .int x, .int z] M (fun v M2 => v = some (.int (if inP Mc x ∧ -1 ≤ z then fsV (resB Mc EV (tn x)) resV z 12 0 0 else -1)) ∧ xFr (fun q => q = 1000) M M2 ∧ RQ M2 n E EV) := by
  have hL := h0.1.1
  have hT := h0.2.1
  obtain ⟨hrow, hlog, hRng, hlf, -, D0, hD0, h66⟩ := hN
  have hQ0 : QS (fun c => c = 1000) Mc M (gwI M 100 0 0) n E EV (gmi Mc 25) := QS.th h0 hrow rfl
  have h1 := hQ0.2.1
  refine gMet.of hx (by decide) (Nat.le_of_ble_eq_true rfl) ?_
  by_cases hc : inP Mc x ∧ -1 ≤ z
  · rw [if_pos hc]
    obtain ⟨hp, hz⟩ := hc
    obtain ⟨ex, lx⟩ := in_row hT.1.1 (by have := hT.1.2; omega) hp
    generalize tn x = p at *
    subst ex
    generalize hV : verB Mc EV p = V
    have hgo : ∀ (M1 : gM) (a b : Nat) (w : Int32), QS (fun c => c = 1000) Mc M M1 n E EV (gmi Mc 25) → a < 4 → b < 3 → gPos X (d + 35) yX11_gameOf cX11_gameOf 6 (some .int) [.ref 100, .int (nI p), .int (nI a), .int (nI b), .int w] M1 (fun v M2 => v = some (.int (gmV V a b w)) ∧ QS (fun c => c = 1000) Mc M M2 n E EV (gmi Mc 25)) := by
      intro M1 a b w hQ ha hb
      rw [← hV]
      exact r_gameOf (d := d) (w := w) hx hZ hQ hRng hlf lx ha hb
    have hres : ∀ k, resB Mc EV p k = restB V (k / 3) (k % 3) := fun k => by rw [← hV]; rfl
    -- a pair, from the row 34
    have main : ∀ (k q f a b : Nat) (M1 : gM), q = 3 * a + b → q < 12 → b < 3 → f ≤ q → (∀ (f2 : Nat) (M2 : gM), f2 ≤ q + 1 → QS (fun c => c = 1000) Mc M M2 n E EV (gmi Mc 25) → gW X (gRoom (d + 36) 0 0) (gZ X gN0 0 0 (fun v M2 => v = some (.int (fsV (resB Mc EV p) resV z k (q + 1) f2)) ∧ xFr (fun q => q = 1000) M M2 ∧ RQ M2 n E EV)) gN0 yX11_rests cX11_rests 8 (some .int) 147 [(0, .ref 100), (1, .int (nI p)), (2, .int z), (3, .int (nI f2)), (4, .int (nI a)), (5, .int (nI b))] [] M2 0 0) → QS (fun c => c = 1000) Mc M M1 n E EV (gmi Mc 25) → gW X (gRoom (d + 36) 0 0) (gZ X gN0 0 0 (fun v M2 => v = some (.int (fsV (resB Mc EV p) resV z (k + 1) q f)) ∧ xFr (fun q => q = 1000) M M2 ∧ RQ M2 n E EV)) gN0 yX11_rests cX11_rests 8 (some .int) 34 [(0, .ref 100), (1, .int (nI p)), (2, .int z), (3, .int (nI f)), (4, .int (nI a)), (5, .int (nI b))] [] M1 0 0 := by
      intro k q f a b M1 hq1 hq12 hb1 hf ih hQ1
      have ha4 : a < 4 := by omega
      rw [fsV_s, hres, show q / 3 = a by omega, show q % 3 = b by omega]
      refine g_iload dX11_rests_34 rfl rfl ?_
      refine g_iconst (v := 3) dX11_rests_36 (by decide) rfl ?_
      refine g_icmp_ge (tgt := 153) dX11_rests_37 (by decide) rfl (fun h_ => absurd h_ (nI_ge (b := 3) hb1 (by decide))) (fun _ => ?_)
      refine g_iconst (v := 1) dX11_rests_40 (by decide) rfl ?_
      refine g_istore dX11_rests_41 (by decide) rfl ?_
      refine g_iconst (v := 0) dX11_rests_43 (by decide) rfl ?_
      refine g_istore dX11_rests_44 (by decide) rfl ?_
      refine g_loopM (fun i => [(0, .ref 100), (1, .int (nI p)), (2, .int z), (3, .int (nI f)), (4, .int (nI a)), (5, .int (nI b)), (6, .int (ib (rsI V a b i = true))), (7, .int (nI i))]) (fun i M2 => QS (fun c => c = 1000) Mc M M2 n E EV (gmi Mc 25)) 4 0 (by decide) ⟨rfl, rfl, rfl, rfl, rfl, rfl, rfl, rfl, trivial⟩ hQ1 (fun M2 hJ => ?_) (fun i M2 _ hi hJ ih2 => ?_)
      · rw [rsI_4]
        by_cases hr : restB V a b = true
        · rw [if_pos hr, ib_t hr]
          by_cases hfx : nI f = z
          · rw [if_pos hfx]
            refine g_iload dX11_rests_46 rfl rfl ?_
            refine g_iconst (v := 4) dX11_rests_48 (by decide) rfl ?_
            refine g_icmp_ge (tgt := 122) dX11_rests_49 (by decide) rfl (fun _ => ?_) (fun h_ => absurd (by decide) h_)
            refine g_iload dX11_rests_122 rfl rfl ?_
            refine g_if_ne (tgt := 130) dX11_rests_124 (by decide) rfl (fun _ => ?_) (fun h_ => absurd h_ (by decide))
            refine g_iload_n dX11_rests_130 rfl rfl rfl ?_
            refine g_iload_n dX11_rests_131 rfl rfl rfl ?_
            refine g_icmp_ne (tgt := 144) dX11_rests_132 (by decide) rfl (fun h_ => absurd (hfx) h_) (fun _ => ?_)
            refine g_bipush (v := 10) dX11_rests_135 (by decide) rfl ?_
            refine g_iload dX11_rests_137 rfl rfl ?_
            refine g_imul dX11_rests_139 rfl ?_
            refine g_iload dX11_rests_140 rfl rfl ?_
            refine g_iadd dX11_rests_142 rfl ?_
            rw [show (10 : Int32) = nI 10 from rfl, pk_mul, nI_add]
            exact g_iret dX11_rests_143 rfl (by first | rfl | exact b01 | exact nb01 hv01) (⟨by unfold resV; rw [show q / 3 = a by omega, show q % 3 = b by omega], hJ.1, hJ.2.1.1⟩)
          · rw [if_neg hfx]
            refine g_iload dX11_rests_46 rfl rfl ?_
            refine g_iconst (v := 4) dX11_rests_48 (by decide) rfl ?_
            refine g_icmp_ge (tgt := 122) dX11_rests_49 (by decide) rfl (fun _ => ?_) (fun h_ => absurd (by decide) h_)
            refine g_iload dX11_rests_122 rfl rfl ?_
            refine g_if_ne (tgt := 130) dX11_rests_124 (by decide) rfl (fun _ => ?_) (fun h_ => absurd h_ (by decide))
            refine g_iload_n dX11_rests_130 rfl rfl rfl ?_
            refine g_iload_n dX11_rests_131 rfl rfl rfl ?_
            refine g_icmp_ne (tgt := 144) dX11_rests_132 (by decide) rfl (fun _ => ?_) (fun h_ => absurd h_ (hfx))
            refine g_iincV (c := 1) dX11_rests_144 rfl (by decide) (by decide) rfl ?_
            exact g_go (ih (f + 1) _ (by omega) hJ) ⟨rfl, rfl, rfl, by rw [← nI_1 f]; rfl, rfl, rfl, trivial⟩
        · rw [if_neg hr, ib_f hr]
          refine g_iload dX11_rests_46 rfl rfl ?_
          refine g_iconst (v := 4) dX11_rests_48 (by decide) rfl ?_
          refine g_icmp_ge (tgt := 122) dX11_rests_49 (by decide) rfl (fun _ => ?_) (fun h_ => absurd (by decide) h_)
          refine g_iload dX11_rests_122 rfl rfl ?_
          refine g_if_ne (tgt := 130) dX11_rests_124 (by decide) rfl (fun h_ => absurd (by decide) h_) (fun _ => ?_)
          refine g_goto (tgt := 147) dX11_rests_127 (by decide) ?_
          exact g_go (ih f _ (by omega) hJ) ⟨rfl, rfl, rfl, rfl, rfl, rfl, trivial⟩
      · have es := rsI_s V a b i
        have put : ∀ (M3 : gM) (v : Int32) (bb : Bool), rsI V a b (i + 1) = bb → v = ib (bb = true) → QS (fun c => c = 1000) Mc M M3 n E EV (gmi Mc 25) → gW X (gRoom (d + 36) 0 0) (gZ X gN0 0 0 (fun v M2 => v = some (.int (if restB V a b = true then (if nI f = z then resV q else fsV (resB Mc EV p) resV z k (q + 1) (f + 1)) else fsV (resB Mc EV p) resV z k (q + 1) f)) ∧ xFr (fun q => q = 1000) M M2 ∧ RQ M2 n E EV)) gN0 yX11_rests cX11_rests 8 (some .int) 114 [(0, .ref 100), (1, .int (nI p)), (2, .int z), (3, .int (nI f)), (4, .int (nI a)), (5, .int (nI b)), (7, .int (nI i))] [.int v] M3 0 0 := by
          intro M3 v bb e1 e2 hQ3
          rw [e2]
          refine g_istore dX11_rests_114 (by decide) rfl ?_
          refine g_iincV (c := 1) dX11_rests_116 rfl (by decide) (by decide) rfl ?_
          refine g_goto (tgt := 46) dX11_rests_119 (by decide) ?_
          exact g_go (ih2 M3 hQ3) ⟨rfl, rfl, rfl, rfl, rfl, rfl, by rw [e1]; rfl, by rw [← nI_1 i]; rfl, trivial⟩
        by_cases hI : rsI V a b i = true
        · rw [ib_t hI]
          rw [hI, Bool.true_and] at es
          refine g_iload dX11_rests_46 rfl rfl ?_
          refine g_iconst (v := 4) dX11_rests_48 (by decide) rfl ?_
          refine g_icmp_ge (tgt := 122) dX11_rests_49 (by decide) rfl (fun h_ => absurd h_ (nI_ge (b := 4) hi (by decide))) (fun _ => ?_)
          refine g_iload dX11_rests_52 rfl rfl ?_
          refine g_if_eq (tgt := 113) dX11_rests_54 (by decide) rfl (fun h_ => absurd h_ (by decide)) (fun _ => ?_)
          refine g_aload_n dX11_rests_57 rfl rfl rfl ?_
          refine g_iload_n dX11_rests_58 rfl rfl rfl ?_
          refine g_iload dX11_rests_59 rfl rfl ?_
          refine g_iload dX11_rests_61 rfl rfl ?_
          refine g_iconst (v := 0) dX11_rests_63 (by decide) rfl ?_
          refine g_callVq (ci := 11) dX11_rests_64 lm_X11_454 mv_X11_gameOf (hgo _ i b 0 hJ hi hb1) rfl rfl (k100 hJ.2.1.1.1) rfl rfl (Nat.le_of_ble_eq_true rfl) (gFit_room (by omega)) rfl (fun v M2 hQ => ?_)
          obtain ⟨rfl, hf⟩ := hQ
          have hJ1 := hf
          rw [show gmV V i b 0 = gpV V i b from if_pos rfl]
          refine g_aload_n dX11_rests_67 rfl rfl rfl ?_
          refine g_iload_n dX11_rests_68 rfl rfl rfl ?_
          refine g_iload dX11_rests_69 rfl rfl ?_
          refine g_iload dX11_rests_71 rfl rfl ?_
          refine g_iconst (v := 0) dX11_rests_73 (by decide) rfl ?_
          refine g_callVq (ci := 11) dX11_rests_74 lm_X11_454 mv_X11_gameOf (hgo _ a b 0 hJ1 ha4 hb1) rfl rfl (k100 hJ1.2.1.1.1) rfl rfl (Nat.le_of_ble_eq_true rfl) (gFit_room (by omega)) rfl (fun v M2 hQ => ?_)
          obtain ⟨rfl, hf⟩ := hQ
          have hJ2 := hf
          rw [show gmV V a b 0 = gpV V a b from if_pos rfl]
          by_cases hle : gpV V i b ≤ gpV V a b
          · rw [decide_eq_true hle, Bool.true_and] at es
            by_cases h2 : 2 < i
            · rw [decide_eq_true h2, Bool.true_or] at es
              refine g_icmp_gt (tgt := 113) dX11_rests_77 (by decide) rfl (fun h_ => absurd h_ (Int32.not_lt.mpr hle)) (fun _ => ?_)
              refine g_iload dX11_rests_80 rfl rfl ?_
              refine g_iconst (v := 2) dX11_rests_82 (by decide) rfl ?_
              refine g_icmp_gt (tgt := 109) dX11_rests_83 (by decide) rfl (fun _ => ?_) (fun h_ => absurd ((qlt 2 i rfl rfl (by decide) (by omega)).mpr h2) h_)
              refine g_iconst (v := 1) dX11_rests_109 (by decide) rfl ?_
              refine g_goto (tgt := 114) dX11_rests_110 (by decide) ?_
              exact g_go (put _ 1 true es rfl hJ2) ⟨rfl, rfl, rfl, rfl, rfl, rfl, rfl, trivial⟩
            · rw [decide_eq_false h2, Bool.false_or] at es
              refine g_icmp_gt (tgt := 113) dX11_rests_77 (by decide) rfl (fun h_ => absurd h_ (Int32.not_lt.mpr hle)) (fun _ => ?_)
              refine g_iload dX11_rests_80 rfl rfl ?_
              refine g_iconst (v := 2) dX11_rests_82 (by decide) rfl ?_
              refine g_icmp_gt (tgt := 109) dX11_rests_83 (by decide) rfl (fun h_ => absurd h_ (fun y => h2 ((qlt 2 i rfl rfl (by decide) (by omega)).mp y))) (fun _ => ?_)
              refine g_aload_n dX11_rests_86 rfl rfl rfl ?_
              refine g_iload_n dX11_rests_87 rfl rfl rfl ?_
              refine g_iload dX11_rests_88 rfl rfl ?_
              refine g_iload dX11_rests_90 rfl rfl ?_
              refine g_iconst (v := 1) dX11_rests_92 (by decide) rfl ?_
              refine g_callVq (ci := 11) dX11_rests_93 lm_X11_454 mv_X11_gameOf (hgo _ a i 1 hJ2 ha4 (show i < 3 by omega)) rfl rfl (k100 hJ2.2.1.1.1) rfl rfl (Nat.le_of_ble_eq_true rfl) (gFit_room (by omega)) rfl (fun v M2 hQ => ?_)
              obtain ⟨rfl, hf⟩ := hQ
              have hJ3 := hf
              rw [show gmV V a i 1 = gbV V a i from if_neg (by decide)]
              refine g_aload_n dX11_rests_96 rfl rfl rfl ?_
              refine g_iload_n dX11_rests_97 rfl rfl rfl ?_
              refine g_iload dX11_rests_98 rfl rfl ?_
              refine g_iload dX11_rests_100 rfl rfl ?_
              refine g_iconst (v := 1) dX11_rests_102 (by decide) rfl ?_
              refine g_callVq (ci := 11) dX11_rests_103 lm_X11_454 mv_X11_gameOf (hgo _ a b 1 hJ3 ha4 hb1) rfl rfl (k100 hJ3.2.1.1.1) rfl rfl (Nat.le_of_ble_eq_true rfl) (gFit_room (by omega)) rfl (fun v M2 hQ => ?_)
              obtain ⟨rfl, hf⟩ := hQ
              have hJ4 := hf
              rw [show gmV V a b 1 = gbV V a b from if_neg (by decide)]
              by_cases hg : gbV V a i ≤ gbV V a b
              · rw [decide_eq_true hg] at es
                refine g_icmp_gt (tgt := 113) dX11_rests_106 (by decide) rfl (fun h_ => absurd h_ (Int32.not_lt.mpr hg)) (fun _ => ?_)
                refine g_iconst (v := 1) dX11_rests_109 (by decide) rfl ?_
                refine g_goto (tgt := 114) dX11_rests_110 (by decide) ?_
                exact g_go (put _ 1 true es rfl hJ4) ⟨rfl, rfl, rfl, rfl, rfl, rfl, rfl, trivial⟩
              · rw [decide_eq_false hg] at es
                refine g_icmp_gt (tgt := 113) dX11_rests_106 (by decide) rfl (fun _ => ?_) (fun h_ => absurd (Int32.not_le.mp hg) h_)
                refine g_iconst (v := 0) dX11_rests_113 (by decide) rfl ?_
                exact g_go (put _ 0 false es rfl hJ4) ⟨rfl, rfl, rfl, rfl, rfl, rfl, rfl, trivial⟩
          · rw [decide_eq_false hle, Bool.false_and] at es
            refine g_icmp_gt (tgt := 113) dX11_rests_77 (by decide) rfl (fun _ => ?_) (fun h_ => absurd (Int32.not_le.mp hle) h_)
            refine g_iconst (v := 0) dX11_rests_113 (by decide) rfl ?_
            exact g_go (put _ 0 false es rfl hJ2) ⟨rfl, rfl, rfl, rfl, rfl, rfl, rfl, trivial⟩
        · rw [ib_f hI]
          rw [Bool.eq_false_iff.mpr hI, Bool.false_and] at es
          refine g_iload dX11_rests_46 rfl rfl ?_
          refine g_iconst (v := 4) dX11_rests_48 (by decide) rfl ?_
          refine g_icmp_ge (tgt := 122) dX11_rests_49 (by decide) rfl (fun h_ => absurd h_ (nI_ge (b := 4) hi (by decide))) (fun _ => ?_)
          refine g_iload dX11_rests_52 rfl rfl ?_
          refine g_if_eq (tgt := 113) dX11_rests_54 (by decide) rfl (fun _ => ?_) (fun h_ => absurd (by decide) h_)
          refine g_iconst (v := 0) dX11_rests_113 (by decide) rfl ?_
          exact g_go (put _ 0 false es rfl hJ) ⟨rfl, rfl, rfl, rfl, rfl, rfl, rfl, trivial⟩
    have adv : ∀ (k q a b f : Nat) (M1 : gM), q + 1 + k = 12 → q = 3 * a + b → b < 3 → f ≤ q + 1 → QS (fun c => c = 1000) Mc M M1 n E EV (gmi Mc 25) → gW X (gRoom (d + 36) 0 0) (gZ X gN0 0 0 (fun v M2 => v = some (.int (fsV (resB Mc EV p) resV z k (q + 1) f)) ∧ xFr (fun q => q = 1000) M M2 ∧ RQ M2 n E EV)) gN0 yX11_rests cX11_rests 8 (some .int) 147 [(0, .ref 100), (1, .int (nI p)), (2, .int z), (3, .int (nI f)), (4, .int (nI a)), (5, .int (nI b))] [] M1 0 0 := by
      intro k
      induction k with
      | zero =>
        intro q a b f M1 hqk hq hb hf hQ
        have ha : a = 3 := by omega
        have hb2 : b = 2 := by omega
        subst ha hb2
        unfold fsV
        by_cases hz1 : z = -1
        · rw [if_pos hz1]
          refine g_iincV (c := 1) dX11_rests_147 rfl (by decide) (by decide) rfl ?_
          refine g_goto (tgt := 34) dX11_rests_150 (by decide) ?_
          refine g_iload dX11_rests_34 rfl rfl ?_
          refine g_iconst (v := 3) dX11_rests_36 (by decide) rfl ?_
          refine g_icmp_ge (tgt := 153) dX11_rests_37 (by decide) rfl (fun _ => ?_) (fun h_ => absurd (by decide) h_)
          refine g_iincV (c := 1) dX11_rests_153 rfl (by decide) (by decide) rfl ?_
          refine g_goto (tgt := 25) dX11_rests_156 (by decide) ?_
          refine g_iload dX11_rests_25 rfl rfl ?_
          refine g_iconst (v := 4) dX11_rests_27 (by decide) rfl ?_
          refine g_icmp_ge (tgt := 159) dX11_rests_28 (by decide) rfl (fun _ => ?_) (fun h_ => absurd (by decide) h_)
          refine g_iload_n dX11_rests_159 rfl rfl rfl ?_
          refine g_iconst (v := -1) dX11_rests_160 (by decide) rfl ?_
          refine g_icmp_ne (tgt := 168) dX11_rests_161 (by decide) rfl (fun h_ => absurd (hz1) h_) (fun _ => ?_)
          refine g_iload_n dX11_rests_164 rfl rfl rfl ?_
          refine g_goto (tgt := 169) dX11_rests_165 (by decide) ?_
          exact g_iret dX11_rests_169 rfl (by first | rfl | exact b01 | exact nb01 hv01) (⟨rfl, hQ.1, hQ.2.1.1⟩)
        · rw [if_neg hz1]
          refine g_iincV (c := 1) dX11_rests_147 rfl (by decide) (by decide) rfl ?_
          refine g_goto (tgt := 34) dX11_rests_150 (by decide) ?_
          refine g_iload dX11_rests_34 rfl rfl ?_
          refine g_iconst (v := 3) dX11_rests_36 (by decide) rfl ?_
          refine g_icmp_ge (tgt := 153) dX11_rests_37 (by decide) rfl (fun _ => ?_) (fun h_ => absurd (by decide) h_)
          refine g_iincV (c := 1) dX11_rests_153 rfl (by decide) (by decide) rfl ?_
          refine g_goto (tgt := 25) dX11_rests_156 (by decide) ?_
          refine g_iload dX11_rests_25 rfl rfl ?_
          refine g_iconst (v := 4) dX11_rests_27 (by decide) rfl ?_
          refine g_icmp_ge (tgt := 159) dX11_rests_28 (by decide) rfl (fun _ => ?_) (fun h_ => absurd (by decide) h_)
          refine g_iload_n dX11_rests_159 rfl rfl rfl ?_
          refine g_iconst (v := -1) dX11_rests_160 (by decide) rfl ?_
          refine g_icmp_ne (tgt := 168) dX11_rests_161 (by decide) rfl (fun _ => ?_) (fun h_ => absurd h_ (hz1))
          refine g_iconst (v := -1) dX11_rests_168 (by decide) rfl ?_
          exact g_iret dX11_rests_169 rfl (by first | rfl | exact b01 | exact nb01 hv01) (⟨rfl, hQ.1, hQ.2.1.1⟩)
      | succ k ih =>
        intro q a b f M1 hqk hq hb hf hQ
        by_cases hb2 : b < 2
        · refine g_iincV (c := 1) dX11_rests_147 rfl (by decide) (by decide) rfl ?_
          refine g_goto (tgt := 34) dX11_rests_150 (by decide) ?_
          exact g_go (main k (q + 1) f a (b + 1) M1 (by omega) (by omega) (by omega) hf (fun f2 M2 h2 hQ2 => ih (q + 1) a (b + 1) f2 M2 (by omega) (by omega) (by omega) h2 hQ2) hQ) ⟨rfl, rfl, rfl, rfl, rfl, by rw [← nI_1 b]; rfl, trivial⟩
        · have hb3 : b = 2 := by omega
          subst hb3
          refine g_iincV (c := 1) dX11_rests_147 rfl (by decide) (by decide) rfl ?_
          refine g_goto (tgt := 34) dX11_rests_150 (by decide) ?_
          refine g_iload dX11_rests_34 rfl rfl ?_
          refine g_iconst (v := 3) dX11_rests_36 (by decide) rfl ?_
          refine g_icmp_ge (tgt := 153) dX11_rests_37 (by decide) rfl (fun _ => ?_) (fun h_ => absurd (by decide) h_)
          refine g_iincV (c := 1) dX11_rests_153 rfl (by decide) (by decide) rfl ?_
          refine g_goto (tgt := 25) dX11_rests_156 (by decide) ?_
          refine g_iload dX11_rests_25 rfl rfl ?_
          refine g_iconst (v := 4) dX11_rests_27 (by decide) rfl ?_
          rw [nI_1 a]
          refine g_icmp_ge (tgt := 159) dX11_rests_28 (by decide) rfl (fun h_ => absurd h_ (nI_ge (b := 4) (show a + 1 < 4 by omega) (by decide))) (fun _ => ?_)
          refine g_iconst (v := 0) dX11_rests_31 (by decide) rfl ?_
          refine g_istore dX11_rests_32 (by decide) rfl ?_
          exact g_go (main k (q + 1) f (a + 1) 0 M1 (by omega) (by omega) (by omega) hf (fun f2 M2 h2 hQ2 => ih (q + 1) (a + 1) 0 f2 M2 (by omega) (by omega) (by omega) h2 hQ2) hQ) ⟨rfl, rfl, rfl, rfl, rfl, rfl, trivial⟩
    refine g_aload_n dX11_rests_0 rfl rfl rfl ?_
    refine g_iconst (v := 0) dX11_rests_1 (by decide) rfl ?_
    refine g_putI dX11_rests_2 fp_X11_90 rfl rfl rfl (k100 hL) rfl ?_
    refine g_aload_n dX11_rests_5 rfl rfl rfl ?_
    refine g_iload_n dX11_rests_6 rfl rfl rfl ?_
    refine g_callVdi (ci := 11) dX11_rests_7 lm_X11_342 mv_X11_isPerson (h1.isP (d := d + 35) hx) rfl rfl (k100 (gLay_I hL)) rfl rfl (Nat.le_of_ble_eq_true rfl) (gFit_room (by omega)) rfl ?_
    rw [ib_t hp]
    refine g_if_eq (tgt := 18) dX11_rests_10 (by decide) rfl (fun h_ => absurd h_ (by decide)) (fun _ => ?_)
    refine g_iload_n dX11_rests_13 rfl rfl rfl ?_
    refine g_iconst (v := -1) dX11_rests_14 (by decide) rfl ?_
    refine g_icmp_ge (tgt := 20) dX11_rests_15 (by decide) rfl (fun _ => ?_) (fun h_ => absurd (hz) h_)
    refine g_iconst (v := 0) dX11_rests_20 (by decide) rfl ?_
    refine g_istore_n dX11_rests_21 rfl (by decide) rfl ?_
    refine g_iconst (v := 0) dX11_rests_22 (by decide) rfl ?_
    refine g_istore dX11_rests_23 (by decide) rfl ?_
    refine g_iload dX11_rests_25 rfl rfl ?_
    refine g_iconst (v := 4) dX11_rests_27 (by decide) rfl ?_
    refine g_icmp_ge (tgt := 159) dX11_rests_28 (by decide) rfl (fun h_ => absurd h_ (by decide)) (fun _ => ?_)
    refine g_iconst (v := 0) dX11_rests_31 (by decide) rfl ?_
    refine g_istore dX11_rests_32 (by decide) rfl ?_
    exact g_go (main 11 0 0 0 0 _ rfl (by decide) (by decide) (Nat.le_refl _) (fun f2 M2 h2 hQ2 => adv 11 0 0 0 f2 M2 rfl rfl (by decide) h2 hQ2) hQ0) ⟨rfl, rfl, rfl, rfl, rfl, rfl, trivial⟩
  · rw [if_neg hc]
    refine g_aload_n dX11_rests_0 rfl rfl rfl ?_
    refine g_iconst (v := 0) dX11_rests_1 (by decide) rfl ?_
    refine g_putI dX11_rests_2 fp_X11_90 rfl rfl rfl (k100 hL) rfl ?_
    refine g_aload_n dX11_rests_5 rfl rfl rfl ?_
    refine g_iload_n dX11_rests_6 rfl rfl rfl ?_
    refine g_callVdi (ci := 11) dX11_rests_7 lm_X11_342 mv_X11_isPerson (h1.isP (d := d + 35) hx) rfl rfl (k100 (gLay_I hL)) rfl rfl (Nat.le_of_ble_eq_true rfl) (gFit_room (by omega)) rfl ?_
    refine g_ieq (tgt := 18) dX11_rests_10 (by decide) rfl (fun h10 => ?_) (fun h10 => ?_)
    · refine g_iconst (v := -1) dX11_rests_18 (by decide) rfl ?_
      exact g_iret dX11_rests_19 rfl (by first | rfl | exact b01 | exact nb01 hv01) (⟨rfl, hQ0.1, h1.1⟩)
    · refine g_iload_n dX11_rests_13 rfl rfl rfl ?_
      refine g_iconst (v := -1) dX11_rests_14 (by decide) rfl ?_
      refine g_icmp_ge (tgt := 20) dX11_rests_15 (by decide) rfl (fun h_ => absurd h_ (fun q => hc ⟨h10, q⟩)) (fun _ => ?_)
      refine g_iconst (v := -1) dX11_rests_18 (by decide) rfl ?_
      exact g_iret dX11_rests_19 rfl (by first | rfl | exact b01 | exact nb01 hv01) (⟨rfl, hQ0.1, h1.1⟩)
end H11
