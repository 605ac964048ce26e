section H17
variable {X : gX} {Mc M : gM} {d n A c : Nat} {E : Nat → LE} {EV : EVt} {F : Nat → Int32}
/-- one deed is looked at -/
def stP (his n ch e part : Nat) : Nat := if his.testBit e then (if n.testBit e then part - part * ch / 100 else part * ch / 100) else part
def pwF (his n ch : Nat) : Nat → Nat → Nat → Nat
  | 0, _, part => part
  | k + 1, e, part => pwF his n ch k (e + 1) (stP his n ch e part)
theorem pwF_N (his n ch : Nat) : ∀ k e, pwF his n ch k e (partN his n ch e) = partN his n ch (e + k)
  | 0, e => rfl
  | k + 1, e => by
    show pwF his n ch k (e + 1) (partN his n ch (e + 1)) = _
    rw [pwF_N his n ch k (e + 1), show e + 1 + k = e + (k + 1) by omega]
def sumB (h : Nat → Nat) : Nat → Nat
  | 0 => 0
  | k + 1 => sumB h k + h k
theorem sumB_two (h : Nat → Nat) : ∀ k, sumB h (2 * k) = sumB (fun m => h (2 * m) + h (2 * m + 1)) k
  | 0 => rfl
  | k + 1 => by
    show sumB h (2 * k + 1 + 1) = sumB (fun m => h (2 * m) + h (2 * m + 1)) k + (h (2 * k) + h (2 * k + 1))
    rw [← sumB_two h k]
    show sumB h (2 * k) + h (2 * k) + h (2 * k + 1) = _
    omega
theorem sumB_add (f g : Nat → Nat) : ∀ k, sumB (fun m => f m + g m) k = sumB f k + sumB g k
  | 0 => rfl
  | k + 1 => by
    show sumB (fun m => f m + g m) k + (f k + g k) = sumB f k + f k + (sumB g k + g k)
    rw [sumB_add f g k]
    omega
theorem sumB_cong {f g : Nat → Nat} : ∀ k, (∀ m, m < k → f m = g m) → sumB f k = sumB g k
  | 0, _ => rfl
  | k + 1, h => by
    show sumB f k + f k = sumB g k + g k
    rw [sumB_cong k (fun m hm => h m (by omega)), h k (by omega)]
/-- the reference's walk over the deeds -/
def odF (Mc : gM) (EV : EVt) (p ch : Nat) : Nat → Nat → Nat → Nat → Nat
  | 0, _, s, part => if gub Mc EV p s = true then part else 0
  | k + 1, e, s, part => if (dset Mc 25 p 0).testBit e then odF Mc EV p ch k (e + 1) s (part * ch / 100) + odF Mc EV p ch k (e + 1) (s + 2 ^ e) (part - part * ch / 100) else odF Mc EV p ch k (e + 1) s part
def odG (Mc : gM) (EV : EVt) (p ch k e part n : Nat) : Nat := if bdif n (dset Mc 25 p 0) = 0 ∧ gub Mc EV p n = true then pwF (dset Mc 25 p 0) n ch k e part else 0
theorem bdif_nz {n o e : Nat} (h1 : n.testBit e = true) (h2 : o.testBit e = false) : ¬ bdif n o = 0 := fun h => by
  have := bdif_bit n o e
  rw [h, h1, h2, Nat.zero_testBit] at this
  exact absurd this (by decide)
theorem bdif_in {n o : Nat} (h : ∀ e, n.testBit e = true → o.testBit e = true) : bdif n o = 0 := by
  apply Nat.eq_of_testBit_eq
  intro i
  rw [bdif_bit, Nat.zero_testBit]
  cases z : n.testBit i
  · rfl
  · rw [h i z]; rfl
theorem od_bit {e m s : Nat} (hs : s < 2 ^ e) : (2 ^ e * (2 * m) + s).testBit e = false ∧ (2 ^ e * (2 * m + 1) + s).testBit e = true := by
  rw [Nat.testBit_two_pow_mul_add _ hs, Nat.testBit_two_pow_mul_add _ hs, if_neg (Nat.lt_irrefl _), Nat.sub_self]
  constructor
  · rw [Nat.testBit_zero]; simp
  · rw [Nat.testBit_zero]; simp
theorem odF_sum (p ch : Nat) : ∀ k e s part, s < 2 ^ e → (∀ i, s.testBit i = true → (dset Mc 25 p 0).testBit i = true) → odF Mc EV p ch k e s part = sumB (fun m => odG Mc EV p ch k e part (2 ^ e * m + s)) (2 ^ k)
  | 0, e, s, part, hs, hi => by
    show (if gub Mc EV p s = true then part else 0) = 0 + odG Mc EV p ch 0 e part (2 ^ e * 0 + s)
    rw [Nat.mul_zero, Nat.zero_add, Nat.zero_add]
    unfold odG
    rw [bdif_in hi]
    by_cases hg : gub Mc EV p s = true
    · rw [if_pos hg, if_pos ⟨rfl, hg⟩]; rfl
    · rw [if_neg hg, if_neg (fun y => hg y.2)]
  | k + 1, e, s, part, hs, hi => by
    have hs1 : s < 2 ^ (e + 1) := Nat.lt_of_lt_of_le hs (bt_pow (by omega))
    have hs2 : s + 2 ^ e < 2 ^ (e + 1) := by rw [Nat.pow_succ]; omega
    have e0 : ∀ m, 2 ^ e * (2 * m) + s = 2 ^ (e + 1) * m + s := fun m => by rw [Nat.pow_succ, Nat.mul_assoc]
    have e1 : ∀ m, 2 ^ e * (2 * m + 1) + s = 2 ^ (e + 1) * m + (s + 2 ^ e) := fun m => by rw [Nat.pow_succ, Nat.mul_add, Nat.mul_assoc, Nat.mul_one]; omega
    rw [show 2 ^ (k + 1) = 2 * 2 ^ k by rw [Nat.pow_succ, Nat.mul_comm], sumB_two]
    show (if (dset Mc 25 p 0).testBit e then odF Mc EV p ch k (e + 1) s (part * ch / 100) + odF Mc EV p ch k (e + 1) (s + 2 ^ e) (part - part * ch / 100) else odF Mc EV p ch k (e + 1) s part) = _
    by_cases hb : (dset Mc 25 p 0).testBit e = true
    · have hi2 : ∀ i, (s + 2 ^ e).testBit i = true → (dset Mc 25 p 0).testBit i = true := fun i h => by
        rw [show s + 2 ^ e = 2 ^ e * 1 + s by omega, Nat.testBit_two_pow_mul_add _ hs] at h
        by_cases hie : i < e
        · rw [if_pos hie] at h; exact hi i h
        · rw [if_neg hie] at h
          by_cases h1 : i = e
          · rw [h1]; exact hb
          · have : (1 : Nat).testBit (i - e) = false := Nat.testBit_lt_two_pow (Nat.lt_of_lt_of_le (show 1 < 2 ^ 1 by decide) (bt_pow (by omega)))
            rw [this] at h; exact absurd h (by decide)
      rw [if_pos hb, odF_sum p ch k (e + 1) s _ hs1 hi, odF_sum p ch k (e + 1) (s + 2 ^ e) _ hs2 hi2, ← sumB_add]
      refine sumB_cong _ (fun m _ => ?_)
      obtain ⟨b0, b1⟩ := od_bit (m := m) hs
      show odG Mc EV p ch k (e + 1) (part * ch / 100) (2 ^ (e + 1) * m + s) + odG Mc EV p ch k (e + 1) (part - part * ch / 100) (2 ^ (e + 1) * m + (s + 2 ^ e)) = odG Mc EV p ch (k + 1) e part (2 ^ e * (2 * m) + s) + odG Mc EV p ch (k + 1) e part (2 ^ e * (2 * m + 1) + s)
      rw [e0] at b0
      rw [e1] at b1
      rw [e0, e1]
      unfold odG
      show _ = (if _ then pwF _ _ ch k (e + 1) (stP (dset Mc 25 p 0) (2 ^ (e + 1) * m + s) ch e part) else 0) + (if _ then pwF _ _ ch k (e + 1) (stP (dset Mc 25 p 0) (2 ^ (e + 1) * m + (s + 2 ^ e)) ch e part) else 0)
      unfold stP
      rw [if_pos hb, if_pos hb, b0, b1]
      rfl
    · rw [if_neg hb, odF_sum p ch k (e + 1) s _ hs1 hi]
      refine sumB_cong _ (fun m _ => ?_)
      obtain ⟨b0, b1⟩ := od_bit (m := m) hs
      show odG Mc EV p ch k (e + 1) part (2 ^ (e + 1) * m + s) = odG Mc EV p ch (k + 1) e part (2 ^ e * (2 * m) + s) + odG Mc EV p ch (k + 1) e part (2 ^ e * (2 * m + 1) + s)
      have z : odG Mc EV p ch (k + 1) e part (2 ^ e * (2 * m + 1) + s) = 0 := if_neg (fun y => bdif_nz b1 (Bool.eq_false_iff.mpr hb) y.1)
      rw [z, Nat.add_zero, e0]
      unfold odG
      show _ = (if _ then pwF _ _ ch k (e + 1) (stP (dset Mc 25 p 0) (2 ^ (e + 1) * m + s) ch e part) else 0)
      unfold stP
      rw [if_neg hb]
theorem oddsN_sum (p ch : Nat) : ∀ k, oddsN Mc EV p ch k = sumB (oddsB Mc EV p ch) k
  | 0 => rfl
  | k + 1 => by
    show oddsN Mc EV p ch k + oddsB Mc EV p ch k = _
    rw [oddsN_sum p ch k]; rfl
theorem odF_N (p ch : Nat) : odF Mc EV p ch (tv Mc 3 8) 0 0 1000000000 = oddsN Mc EV p ch (2 ^ tv Mc 3 8) := by
  rw [odF_sum p ch _ 0 0 _ (by decide) (fun i h => absurd h (by rw [Nat.zero_testBit]; decide)), oddsN_sum]
  refine sumB_cong _ (fun m _ => ?_)
  show odG Mc EV p ch (tv Mc 3 8) 0 1000000000 (2 ^ 0 * m + 0) = _
  rw [Nat.pow_zero, Nat.one_mul, Nat.add_zero]
  unfold odG oddsB
  rw [show (1000000000 : Nat) = partN (dset Mc 25 p 0) m ch 0 from rfl, pwF_N, Nat.zero_add]
set_option maxRecDepth 20000 in
set_option maxHeartbeats 1000000 in
theorem r_oddsFrom (hx : gXok X) (hZ : gSt X) {S : Nat → Prop} {M0 : gM} (hRng : RngF (gmi Mc 25)) (hlf : LeftF (gmi Mc 25)) {p ch : Nat} (hp : p < tv Mc 3 7) (hch : ch ≤ 100) : ∀ (k : Nat) {M : gM} {e s part : Nat}, QS S Mc M0 M n E EV (gmi Mc 25) → e + k = tv Mc 3 8 → s < 2 ^ e → part ≤ 1000000000 → gPos X (d + 35 + k) yX11_oddsFrom cX11_oddsFrom 7 (some .int) [.ref 100, .int (nI p), .int (nI e), .int (nI s), .int (nI ch), .int (nI part)] M (fun v M2 => v = some (.int (nI (odF Mc EV p ch k e s part))) ∧ QS S Mc M0 M2 n E EV (gmi Mc 25))
  | 0, M, e, s, part, hQ, hk, hs, hpt => by
    have hT := hQ.2.1.2.1
    have h8 := hT.2.1.2
    have hL := hQ.2.1.1.1
    obtain ⟨-, e27, -, -⟩ := hQ.2.1.e26
    have hs8 : s < 256 := Nat.lt_of_lt_of_le hs (Nat.le_trans (bt_pow (show e ≤ 8 by omega)) (by decide))
    refine gMet.of hx (by decide) (Nat.le_of_ble_eq_true rfl) ?_
    show gW X _ (gZ X gN0 0 0 (fun v M2 => v = some (.int (nI (if gub Mc EV p s = true then part else 0))) ∧ QS S Mc M0 M2 n E EV (gmi Mc 25))) _ _ _ _ _ _ _ _ _ _ _
    refine g_iload_n dX11_oddsFrom_0 rfl rfl rfl ?_
    refine g_aload_n dX11_oddsFrom_1 rfl rfl rfl ?_
    refine g_getI dX11_oddsFrom_2 ff_X11_288 rfl (k100 hL) rfl ?_
    rw [e27]
    refine g_icmp_ne (tgt := 28) dX11_oddsFrom_5 (by decide) rfl (fun h_ => absurd (by rw [← hk]; rfl) h_) (fun _ => ?_)
    refine g_aload_n dX11_oddsFrom_8 rfl rfl rfl ?_
    refine g_aload_n dX11_oddsFrom_9 rfl rfl rfl ?_
    refine g_getR dX11_oddsFrom_10 ff_X11_61 rfl (k100 hL) (r100_32 hL) rfl ?_
    refine g_iload_n dX11_oddsFrom_13 rfl rfl rfl ?_
    refine g_iload_n dX11_oddsFrom_14 rfl rfl rfl ?_
    refine g_callVq (ci := 11) dX11_oddsFrom_15 lm_X11_339 mv_X11_readWith (r_readWith (d := d) hx hZ hQ.2.1 (Or.inl rfl) hQ.2.2 hRng hp hs8) rfl rfl (k100 hL) rfl rfl (Nat.le_of_ble_eq_true rfl) (gFit_room (by omega)) rfl (fun v M2 hQ => ?_)
    obtain ⟨rfl, hf⟩ := hQ
    have hQ2 := hQ.q hf.1 hf.2
    by_cases hg : gub Mc EV p s = true
    · rw [if_pos hg]
      refine g_if_le (tgt := 26) dX11_oddsFrom_18 (by decide) rfl (fun h_ => absurd h_ (Int32.not_le.mpr (gub_rd.mp hg))) (fun _ => ?_)
      refine g_iload dX11_oddsFrom_21 rfl rfl ?_
      refine g_goto (tgt := 27) dX11_oddsFrom_23 (by decide) ?_
      exact g_iret dX11_oddsFrom_27 rfl (by first | rfl | exact b01 | exact nb01 hv01) (⟨rfl, hQ2⟩)
    · rw [if_neg hg]
      refine g_if_le (tgt := 26) dX11_oddsFrom_18 (by decide) rfl (fun _ => ?_) (fun h_ => absurd (Int32.not_lt.mp (fun y => hg (gub_rd.mpr y))) h_)
      refine g_iconst (v := 0) dX11_oddsFrom_26 (by decide) rfl ?_
      exact g_iret dX11_oddsFrom_27 rfl (by first | rfl | exact b01 | exact nb01 hv01) (⟨rfl, hQ2⟩)
  | k + 1, M, e, s, part, hQ, hk, hs, hpt => by
    have hT := hQ.2.1.2.1
    have h6 := hT.1.2
    have h8 := hT.2.1.2
    have hL := hQ.2.1.1.1
    obtain ⟨-, e27, -, -⟩ := hQ.2.1.e26
    have he : e < tv Mc 3 8 := by omega
    have hs1 : s < 2 ^ (e + 1) := Nat.lt_of_lt_of_le hs (bt_pow (by omega))
    have hs2 : s + 2 ^ e < 2 ^ (e + 1) := by rw [Nat.pow_succ]; omega
    have hdv : part * ch / 100 ≤ part := by
      refine Nat.div_le_of_le_mul ?_
      rw [Nat.mul_comm 100]
      exact Nat.mul_le_mul_left _ hch
    have hpc : part * ch ≤ 1000000000 * 100 := Nat.mul_le_mul hpt hch
    have hbit : (dset Mc 25 p 0).testBit e = true ↔ ¬ gmi Mc 25 (12 + p * 8 + e) = 0 := by
      obtain ⟨m, hm, hm9⟩ := hlf (12 + p * 8 + e) (by omega) (by omega)
      unfold dset
      rw [bsum_test, decide_eq_true he, Bool.true_and, decide_eq_true_iff]
      unfold tv
      rw [hm, nI_clamp (by omega)]
      constructor
      · exact fun y => nI_ne0 y (by omega)
      · intro y
        rcases Nat.eq_zero_or_pos m with z | z
        · rw [z] at y; exact absurd rfl y
        · exact z
    refine gMet.of hx (by decide) (Nat.le_of_ble_eq_true rfl) ?_
    show gW X _ (gZ X gN0 0 0 (fun v M2 => v = some (.int (nI (if (dset Mc 25 p 0).testBit e then odF Mc EV p ch k (e + 1) s (part * ch / 100) + odF Mc EV p ch k (e + 1) (s + 2 ^ e) (part - part * ch / 100) else odF Mc EV p ch k (e + 1) s part))) ∧ QS S Mc M0 M2 n E EV (gmi Mc 25))) _ _ _ _ _ _ _ _ _ _ _
    by_cases hb : (dset Mc 25 p 0).testBit e = true
    · rw [if_pos hb]
      refine g_iload_n dX11_oddsFrom_0 rfl rfl rfl ?_
      refine g_aload_n dX11_oddsFrom_1 rfl rfl rfl ?_
      refine g_getI dX11_oddsFrom_2 ff_X11_288 rfl (k100 hL) rfl ?_
      rw [e27]
      refine g_icmp_ne (tgt := 28) dX11_oddsFrom_5 (by decide) rfl (fun _ => ?_) (fun h_ => absurd h_ (fun y => absurd ((nI_eq (by omega) (by omega)).mp y) (by omega)))
      refine g_aload_n dX11_oddsFrom_28 rfl rfl rfl ?_
      refine g_getR dX11_oddsFrom_29 ff_X11_61 rfl (k100 hL) (r100_32 hL) rfl ?_
      refine g_iload_n dX11_oddsFrom_32 rfl rfl rfl ?_
      refine g_iload_n dX11_oddsFrom_33 rfl rfl rfl ?_
      refine g_callSdi dX11_oddsFrom_34 lm_X11_300 mv_X11_left0 (r_left0 (d := d + 35 + k) hx hL (Or.inl rfl) hQ.2.2 (show p < 6 by omega) (show e < 8 by omega)) rfl rfl (Nat.le_of_ble_eq_true rfl) (gFit_room (by omega)) rfl ?_
      refine g_if_ne (tgt := 54) dX11_oddsFrom_37 (by decide) rfl (fun _ => ?_) (fun h_ => absurd h_ (hbit.mp hb))
      refine g_iload dX11_oddsFrom_54 rfl rfl ?_
      refine g_i2l dX11_oddsFrom_56 rfl ?_
      refine g_iload dX11_oddsFrom_57 rfl rfl ?_
      refine g_i2l dX11_oddsFrom_59 rfl ?_
      rw [nI_l (show part < 2 ^ 31 by omega), nI_l (show ch < 2 ^ 31 by omega)]
      refine g_lmul dX11_oddsFrom_60 rfl ?_
      refine g_ldc2 dX11_oddsFrom_61 lq_X11_304 rfl ?_
      rw [lN_mul]
      refine g_ldiv dX11_oddsFrom_64 (by decide) rfl ?_
      rw [fa_litL 100, pk_lDiv (by omega) (by decide) (by decide)]
      refine g_l2i dX11_oddsFrom_65 rfl ?_
      rw [lN_i]
      refine g_istore dX11_oddsFrom_66 (by decide) rfl ?_
      refine g_aload_n dX11_oddsFrom_68 rfl rfl rfl ?_
      refine g_iload_n dX11_oddsFrom_69 rfl rfl rfl ?_
      refine g_iload_n dX11_oddsFrom_70 rfl rfl rfl ?_
      refine g_iconst (v := 1) dX11_oddsFrom_71 (by decide) rfl ?_
      refine g_iadd dX11_oddsFrom_72 rfl ?_
      refine g_iload_n dX11_oddsFrom_73 rfl rfl rfl ?_
      refine g_iload dX11_oddsFrom_74 rfl rfl ?_
      refine g_iload dX11_oddsFrom_76 rfl rfl ?_
      rw [nI_1 e]
      refine g_callVq (ci := 11) dX11_oddsFrom_78 lm_X11_458 mv_X11_oddsFrom (r_oddsFrom hx hZ hRng hlf hp hch k hQ (by omega) hs1 (by omega)) rfl rfl (k100 hL) rfl rfl (Nat.le_of_ble_eq_true rfl) (gFit_room (by omega)) rfl (fun v M2 hQ => ?_)
      obtain ⟨rfl, hf⟩ := hQ
      refine g_aload_n dX11_oddsFrom_81 rfl rfl rfl ?_
      refine g_iload_n dX11_oddsFrom_82 rfl rfl rfl ?_
      refine g_iload_n dX11_oddsFrom_83 rfl rfl rfl ?_
      refine g_iconst (v := 1) dX11_oddsFrom_84 (by decide) rfl ?_
      refine g_iadd dX11_oddsFrom_85 rfl ?_
      refine g_iload_n dX11_oddsFrom_86 rfl rfl rfl ?_
      refine g_iconst (v := 1) dX11_oddsFrom_87 (by decide) rfl ?_
      refine g_iload_n dX11_oddsFrom_88 rfl rfl rfl ?_
      refine g_ishl dX11_oddsFrom_89 rfl ?_
      refine g_ior dX11_oddsFrom_90 rfl ?_
      refine g_iload dX11_oddsFrom_91 rfl rfl ?_
      refine g_iload dX11_oddsFrom_93 rfl rfl ?_
      refine g_iload dX11_oddsFrom_95 rfl rfl ?_
      refine g_isub dX11_oddsFrom_97 rfl ?_
      rw [nI_1 e, bt_or hs (by omega), nI_sub hdv]
      have hq2 := hf
      refine g_callVq (ci := 11) dX11_oddsFrom_98 lm_X11_458 mv_X11_oddsFrom (r_oddsFrom hx hZ hRng hlf hp hch k hf (by omega) hs2 (by omega)) rfl rfl (k100 hf.2.1.1.1) rfl rfl (Nat.le_of_ble_eq_true rfl) (gFit_room (by omega)) rfl (fun v M2 hQ => ?_)
      obtain ⟨rfl, hf⟩ := hQ
      refine g_iadd dX11_oddsFrom_101 rfl ?_
      rw [nI_add]
      exact g_iret dX11_oddsFrom_102 rfl (by first | rfl | exact b01 | exact nb01 hv01) ⟨rfl, hf⟩
    · rw [if_neg hb]
      refine g_iload_n dX11_oddsFrom_0 rfl rfl rfl ?_
      refine g_aload_n dX11_oddsFrom_1 rfl rfl rfl ?_
      refine g_getI dX11_oddsFrom_2 ff_X11_288 rfl (k100 hL) rfl ?_
      rw [e27]
      refine g_icmp_ne (tgt := 28) dX11_oddsFrom_5 (by decide) rfl (fun _ => ?_) (fun h_ => absurd h_ (fun y => absurd ((nI_eq (by omega) (by omega)).mp y) (by omega)))
      refine g_aload_n dX11_oddsFrom_28 rfl rfl rfl ?_
      refine g_getR dX11_oddsFrom_29 ff_X11_61 rfl (k100 hL) (r100_32 hL) rfl ?_
      refine g_iload_n dX11_oddsFrom_32 rfl rfl rfl ?_
      refine g_iload_n dX11_oddsFrom_33 rfl rfl rfl ?_
      refine g_callSdi dX11_oddsFrom_34 lm_X11_300 mv_X11_left0 (r_left0 (d := d + 35 + k) hx hL (Or.inl rfl) hQ.2.2 (show p < 6 by omega) (show e < 8 by omega)) rfl rfl (Nat.le_of_ble_eq_true rfl) (gFit_room (by omega)) rfl ?_
      refine g_if_ne (tgt := 54) dX11_oddsFrom_37 (by decide) rfl (fun h_ => absurd (Decidable.not_not.mp (fun y => hb (hbit.mpr y))) h_) (fun _ => ?_)
      refine g_aload_n dX11_oddsFrom_40 rfl rfl rfl ?_
      refine g_iload_n dX11_oddsFrom_41 rfl rfl rfl ?_
      refine g_iload_n dX11_oddsFrom_42 rfl rfl rfl ?_
      refine g_iconst (v := 1) dX11_oddsFrom_43 (by decide) rfl ?_
      refine g_iadd dX11_oddsFrom_44 rfl ?_
      refine g_iload_n dX11_oddsFrom_45 rfl rfl rfl ?_
      refine g_iload dX11_oddsFrom_46 rfl rfl ?_
      refine g_iload dX11_oddsFrom_48 rfl rfl ?_
      rw [nI_1 e]
      refine g_callVq (ci := 11) dX11_oddsFrom_50 lm_X11_458 mv_X11_oddsFrom (r_oddsFrom hx hZ hRng hlf hp hch k hQ (by omega) hs1 hpt) rfl rfl (k100 hL) rfl rfl (Nat.le_of_ble_eq_true rfl) (gFit_room (by omega)) rfl (fun v M2 hQ => ?_)
      obtain ⟨rfl, hf⟩ := hQ
      exact g_iret dX11_oddsFrom_53 rfl (by first | rfl | exact b01 | exact nb01 hv01) (⟨rfl, hf⟩)
set_option maxRecDepth 20000 in
theorem r_odds (hx : gXok X) (hZ : gSt X) (h0 : R0 Mc M n E EV) (hN : RNow Mc M) {x z : Int32} : gPos X (d + 45) yX11_odds cX11_odds 3 (some .int) [.ref 100, .int x, .int z] M (fun v M2 => v = some (.int (if inO Mc x z then nI (oddsN Mc EV (tn x) (tn z) (2 ^ tv Mc 3 8)) else -1)) ∧ xFr (fun q => q = 1000) M M2 ∧ RQ M2 n E EV) := by
  have hL := h0.1.1
  have hT := h0.2.1
  have h8 := hT.2.1.2
  obtain ⟨hrow, hlog, hRng, hlf, -, D0, hD0, h66⟩ := hN
  have hQ0 : QS (fun q => q = 1000) Mc M (gwI M 100 0 0) n E EV (gmi Mc 25) := QS.th h0 hrow rfl
  have h1 := hQ0.2.1
  refine gMet.of hx (by decide) (Nat.le_of_ble_eq_true rfl) ?_
  by_cases hxc : inP Mc x
  · by_cases hz : 0 ≤ z ∧ z ≤ 100
    · rw [if_pos (show inO Mc x z from ⟨hxc, Int32.not_lt.mpr hz.1, hz.2⟩)]
      obtain ⟨ez, lz⟩ := in_row (x := z) (b := 101) (n := 101) rfl (by omega) ⟨hz.1, Int32.lt_of_le_of_lt hz.2 (by decide)⟩
      generalize hkz : tn z = ch at ez lz
      subst ez
      obtain ⟨ex_, lp⟩ := in_row hT.1.1 (by have := hT.1.2; omega) (hxc)
      have mp := Nat.lt_of_lt_of_le lp hT.1.2
      generalize gp : tn x = p at *
      subst ex_
      rw [← odF_N]
      obtain ⟨k, hk⟩ : ∃ k, d + 45 = d + (9 - tv Mc 3 8) + 35 + tv Mc 3 8 + 1 := ⟨0, by omega⟩
      rw [hk]
      have ho := r_oddsFrom (d := d + (9 - tv Mc 3 8)) hx hZ hRng hlf lp (show ch ≤ 100 by omega) (tv Mc 3 8) hQ0 (Nat.zero_add _) (show 0 < 2 ^ 0 by decide) (Nat.le_refl 1000000000)
      refine g_aload_n dX11_odds_0 rfl rfl rfl ?_
      refine g_iconst (v := 0) dX11_odds_1 (by decide) rfl ?_
      refine g_putI dX11_odds_2 fp_X11_90 rfl rfl rfl (k100 hL) rfl ?_
      refine g_aload_n dX11_odds_5 rfl rfl rfl ?_
      refine g_iload_n dX11_odds_6 rfl rfl rfl ?_
      refine g_callVdi (ci := 11) dX11_odds_7 lm_X11_342 mv_X11_isPerson (h1.isP (d := d + (9 - tv Mc 3 8) + 35 + tv Mc 3 8) hx) rfl rfl (k100 (gLay_I hL)) rfl rfl (Nat.le_of_ble_eq_true rfl) (gFit_room (by omega)) rfl ?_
      rw [ib_t hxc]
      refine g_if_eq (tgt := 39) dX11_odds_10 (by decide) rfl (fun h_ => absurd h_ (by decide)) (fun _ => ?_)
      refine g_iload_n dX11_odds_13 rfl rfl rfl ?_
      refine g_i2l dX11_odds_14 rfl ?_
      refine g_lconst (v := 0) dX11_odds_15 (by decide) rfl ?_
      refine g_ldc2 dX11_odds_16 lq_X11_304 rfl ?_
      refine g_callSdi dX11_odds_19 lm_X11_211 mv_X11_isIn (r_isIn (d := d + (9 - tv Mc 3 8) + 35 + tv Mc 3 8) (l := 0) (h := 100) hx rfl (by decide) (by decide)) rfl rfl (Nat.le_of_ble_eq_true rfl) (gFit_room (by omega)) rfl ?_
      rw [ib_t hz]
      refine g_if_eq (tgt := 39) dX11_odds_22 (by decide) rfl (fun h_ => absurd h_ (by decide)) (fun _ => ?_)
      refine g_aload_n dX11_odds_25 rfl rfl rfl ?_
      refine g_iload_n dX11_odds_26 rfl rfl rfl ?_
      refine g_iconst (v := 0) dX11_odds_27 (by decide) rfl ?_
      refine g_iconst (v := 0) dX11_odds_28 (by decide) rfl ?_
      refine g_iload_n dX11_odds_29 rfl rfl rfl ?_
      refine g_ldcw dX11_odds_30 lq_X11_462 rfl ?_
      refine g_callVq (ci := 11) dX11_odds_33 lm_X11_458 mv_X11_oddsFrom (ho) rfl rfl (k100 (gLay_I hL)) rfl rfl (Nat.le_of_ble_eq_true rfl) (gFit_room (by omega)) rfl (fun v M2 hQ => ?_)
      obtain ⟨rfl, hf⟩ := hQ
      refine g_goto (tgt := 40) dX11_odds_36 (by decide) ?_
      exact g_iret dX11_odds_40 rfl (by first | rfl | exact b01 | exact nb01 hv01) (⟨rfl, hf.1, hf.2.1.1⟩)
    · rw [if_neg (fun y => hz ⟨Int32.not_lt.mp y.2.1, y.2.2⟩)]
      refine g_aload_n dX11_odds_0 rfl rfl rfl ?_
      refine g_iconst (v := 0) dX11_odds_1 (by decide) rfl ?_
      refine g_putI dX11_odds_2 fp_X11_90 rfl rfl rfl (k100 hL) rfl ?_
      refine g_aload_n dX11_odds_5 rfl rfl rfl ?_
      refine g_iload_n dX11_odds_6 rfl rfl rfl ?_
      refine g_callVdi (ci := 11) dX11_odds_7 lm_X11_342 mv_X11_isPerson (h1.isP (d := d + 44) hx) rfl rfl (k100 (gLay_I hL)) rfl rfl (Nat.le_of_ble_eq_true rfl) (gFit_room (by omega)) rfl ?_
      rw [ib_t hxc]
      refine g_if_eq (tgt := 39) dX11_odds_10 (by decide) rfl (fun h_ => absurd h_ (by decide)) (fun _ => ?_)
      refine g_iload_n dX11_odds_13 rfl rfl rfl ?_
      refine g_i2l dX11_odds_14 rfl ?_
      refine g_lconst (v := 0) dX11_odds_15 (by decide) rfl ?_
      refine g_ldc2 dX11_odds_16 lq_X11_304 rfl ?_
      refine g_callSdi dX11_odds_19 lm_X11_211 mv_X11_isIn (r_isIn (d := d + 44) (l := 0) (h := 100) hx rfl (by decide) (by decide)) rfl rfl (Nat.le_of_ble_eq_true rfl) (gFit_room (by omega)) rfl ?_
      rw [ib_f hz]
      refine g_if_eq (tgt := 39) dX11_odds_22 (by decide) rfl (fun _ => ?_) (fun h_ => absurd (by decide) h_)
      refine g_iconst (v := -1) dX11_odds_39 (by decide) rfl ?_
      exact g_iret dX11_odds_40 rfl (by first | rfl | exact b01 | exact nb01 hv01) (⟨rfl, hQ0.1, h1.1⟩)
  · rw [if_neg (fun y => hxc y.1)]
    refine g_aload_n dX11_odds_0 rfl rfl rfl ?_
    refine g_iconst (v := 0) dX11_odds_1 (by decide) rfl ?_
    refine g_putI dX11_odds_2 fp_X11_90 rfl rfl rfl (k100 hL) rfl ?_
    refine g_aload_n dX11_odds_5 rfl rfl rfl ?_
    refine g_iload_n dX11_odds_6 rfl rfl rfl ?_
    refine g_callVdi (ci := 11) dX11_odds_7 lm_X11_342 mv_X11_isPerson (h1.isP (d := d + 44) hx) rfl rfl (k100 (gLay_I hL)) rfl rfl (Nat.le_of_ble_eq_true rfl) (gFit_room (by omega)) rfl ?_
    rw [ib_f hxc]
    refine g_if_eq (tgt := 39) dX11_odds_10 (by decide) rfl (fun _ => ?_) (fun h_ => absurd (by decide) h_)
    refine g_iconst (v := -1) dX11_odds_39 (by decide) rfl ?_
    exact g_iret dX11_odds_40 rfl (by first | rfl | exact b01 | exact nb01 hv01) (⟨rfl, hQ0.1, h1.1⟩)
end H17
