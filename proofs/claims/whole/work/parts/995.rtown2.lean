section H27
variable {X : gX} {M : gM} {d : Nat} {T : Nat → Nat} {L i w p : Nat} {S : Nat → Prop} {s : TS}
/-- what reading a text changes: the memo stays -/
def zFr (S : Nat → Prop) (M M2 : gM) : Prop := xFr S M M2 ∧ gml M2 115 = gml M 115 ∧ gmi M2 116 = gmi M 116 ∧ gmi M2 104 = gmi M 104
theorem zFr.tr {M1 M2 M3 : gM} (h : zFr S M1 M2) (h2 : zFr S M2 M3) : zFr S M1 M3 := ⟨h.1.tr h2.1, h2.2.1.trans h.2.1, h2.2.2.1.trans h.2.2.1, h2.2.2.2.trans h.2.2.2⟩
theorem zFr.mono {S2 : Nat → Prop} {M2 : gM} (h : zFr S M M2) (hs : ∀ c, S c → S2 c) : zFr S2 M M2 := ⟨h.1.mono hs, h.2⟩
theorem tFr.z {M2 : gM} (h : tFr M M2) : zFr S M M2 := ⟨h.q.x, h.2.2.2.1 115, h.2.2.2.2.1 116 (by decide), h.2.2.2.2.1 104 (by decide)⟩
theorem kFr.z {M2 : gM} (h : kFr S M M2) (h1 : ¬ S 116) (h2 : ¬ S 104) : zFr S M M2 := ⟨⟨h.1.1, fun c _ => h.1.2.1 c, fun j _ => by rw [h.1.2.1], fun c _ _ => h.1.2.2.1 c, fun _ => h.1.2.2.1 100, fun c a _ _ r => h.1.2.2.2 c (fun q => q.elim a r), fun j a _ e => h.2 j (by omega) (by omega) (by omega) e⟩, h.1.2.2.1 115, h.1.2.2.2 116 (fun q => q.elim (by decide) h1), h.1.2.2.2 104 (fun q => q.elim (by decide) h2)⟩
theorem zFr.wf {k : Nat} {v : Int32} (hc : S (1000 + k)) : zFr S M (gwI M 100 k v) := ⟨xFr.wf hc, rfl, gmi_In _ _ _ (by decide), gmi_In _ _ _ (by decide)⟩
theorem TapeR.tx {L : Nat} (hL : gLay M) (h : TapeR M T L) : TxB M 101 240 0 T L := ⟨⟨k101 hL, l101 hL⟩, ⟨by have := h.2.1; omega, by decide, h.2.1, by decide⟩, fun k hk => by rw [Nat.zero_add]; exact h.2.2 k hk⟩
theorem scT6 : ¬ scT 116 := by unfold scT; decide
theorem scT4 : ¬ scT 104 := by unfold scT; decide
def cntT (s : TS) : Nat := (if s.2.2.1 then 1 else 0) + s.1 + s.2.1
theorem clR_cnt (h : (clR T L i s).1 = true) : cntT (clR T L i s).2.2 = cntT s + 1 := by
  have hle := kdN_le T L (nxt T L i) s
  unfold clR at *
  by_cases h3 : kdN T L (nxt T L i) s = 3
  · rw [if_pos h3] at h; exact absurd h Bool.false_ne_true
  · rw [if_neg h3] at h ⊢
    by_cases hi : (itemsP T L (kdN T L (nxt T L i) s) 4 (nxt T L i + 1) 0 (fun j => untN (3 * kdN T L (nxt T L i) s + j))).1 = true
    · rw [if_pos hi]
      show cntT (settleT _ _ s) = _
      unfold settleT cntT
      by_cases k0 : kdN T L (nxt T L i) s = 0
      · obtain ⟨-, c2⟩ := kdN_c0 k0
        rw [if_pos k0, c2]
        simp; omega
      · by_cases k1 : kdN T L (nxt T L i) s = 1
        · rw [if_neg k0, if_pos k1]; simp; omega
        · rw [if_neg k0, if_neg k1]; simp; omega
    · rw [if_neg hi] at h; exact absurd h Bool.false_ne_true
theorem RdT.cnt (h : RdT M s) : cntT s ≤ 15 := by
  have h1 := h.2.2.2.2.2.2.1
  have h2 := h.2.2.2.2.2.2.2
  unfold cntT
  split <;> omega
theorem RdT.im {M2 : gM} (h : RdT M s) (hf : iFr M M2) : RdT M2 s := by
  unfold RdT at *
  rw [hf.2 28 (by decide) (by decide) (by decide), hf.2 29 (by decide) (by decide) (by decide), hf.2 31 (by decide) (by decide) (by decide), hf.1.2.2.2 106 (by decide), hf.1.2.2.2 108 (by decide), hf.1.2.2.2 110 (by decide)]
  exact h
theorem nI_bv (x : Int32) : nI x.toBitVec.toNat = x := by
  apply Int32.toBitVec_inj.mp
  show (Int32.ofNat x.toBitVec.toNat).toBitVec = _
  rw [Int32.toBitVec_ofNat']
  simp
set_option maxRecDepth 20000 in
set_option maxHeartbeats 1000000 in
theorem r_readTown (hx : gXok X) (hZ : gSt X) (hL : gLay M) (hT : TapeR M T L) : gPos X (d + 7) yX11_readTown cX11_readTown 2 none [.ref 100] M (fun v M2 => v = none ∧ zFr scT M M2 ∧ gmi M2 100 11 = fl0 T L ∧ (townOK T L = true → RdT M2 (townP T L).2.2)) := by
  have h240 := hT.2.1
  have hPle : (townP T L).2.1 ≤ L := clsP_le 16 true 0 townI (Nat.zero_le _)
  refine gMet.of hx (by decide) (Nat.le_of_ble_eq_true rfl) ?_
  unfold fl0 townOK townAt
  have hP0 : (if (clR T L 0 townI).1 = true then clsP T L 15 false (clR T L 0 townI).2.1 (clR T L 0 townI).2.2 else (false, (clR T L 0 townI).2.1, townI)) = townP T L := (clsP_R (i := 0) (s := townI) 15 true (Or.inl rfl)).symm
  obtain ⟨w, hw12⟩ : ∃ w, gmi M 100 12 = nI w := ⟨_, (nI_bv _).symm⟩
  generalize hP : townP T L = P at *
  -- the end behind a fault
  have endF : ∀ (M1 : gM) (lz : List (Nat × Value)), gLay M1 → zFr scT M M1 → gmi M1 100 11 = nI P.2.1 ∧ ¬ gmi M1 100 11 = -1 → P.1 = false → gW X (gRoom (d + 7) 0 0) (gZ X gN0 0 0 (fun v M2 => v = none ∧ zFr scT M M2 ∧ gmi M2 100 11 = (if (P.1 && (decide (L ≤ nxt T L P.2.1) && (decide (0 < P.2.2.1) && decide (0 < P.2.2.2.1)))) = true then -1 else nI (if P.1 = true then nxt T L P.2.1 else P.2.1)) ∧ ((P.1 && (decide (L ≤ nxt T L P.2.1) && (decide (0 < P.2.2.1) && decide (0 < P.2.2.2.1)))) = true → RdT M2 P.2.2))) gN0 yX11_readTown cX11_readTown 2 none 111 ((0, .ref 100) :: lz) [] M1 0 0 := by
    intro M1 lz hL1 hf1 h11 hp
    rw [hp, Bool.false_and, if_neg Bool.false_ne_true, if_neg Bool.false_ne_true]
    refine g_aload_n dX11_readTown_111 rfl rfl rfl ?_
    refine g_getI dX11_readTown_112 ff_X11_122 rfl (k100 hL1) rfl ?_
    refine g_iconst (v := -1) dX11_readTown_115 (by decide) rfl ?_
    refine g_icmp_ne (tgt := 146) dX11_readTown_116 (by decide) rfl (fun _ => ?_) (fun h_ => absurd h_ (h11.2))
    exact g_vret dX11_readTown_146 rfl (⟨rfl, hf1, h11.1, fun z => absurd z Bool.false_ne_true⟩)
  -- the end behind a sign that can't be
  have endS : ∀ (M1 : gM) (lz : List (Nat × Value)), PT M1 T L P.2.1 (-1) w → zFr scT M M1 → P.2.1 < L → nxt T L P.2.1 = P.2.1 → P.1 = false → gW X (gRoom (d + 7) 0 0) (gZ X gN0 0 0 (fun v M2 => v = none ∧ zFr scT M M2 ∧ gmi M2 100 11 = (if (P.1 && (decide (L ≤ nxt T L P.2.1) && (decide (0 < P.2.2.1) && decide (0 < P.2.2.2.1)))) = true then -1 else nI (if P.1 = true then nxt T L P.2.1 else P.2.1)) ∧ ((P.1 && (decide (L ≤ nxt T L P.2.1) && (decide (0 < P.2.2.1) && decide (0 < P.2.2.2.1)))) = true → RdT M2 P.2.2))) gN0 yX11_readTown cX11_readTown 2 none 111 ((0, .ref 100) :: lz) [] M1 0 0 := by
    intro M1 lz h1 hf1 hlt hnx hp
    rw [hp, Bool.false_and, if_neg Bool.false_ne_true, if_neg Bool.false_ne_true]
    have htp := (h1.1.2.2.2.2.2.2 P.2.1 hlt).2.2
    have hlk := r_look (d := d + 6) hx h1
    rw [hnx] at hlk
    have hsg : sgn T L P.2.1 = nI (T P.2.1) := if_pos hlt
    refine g_aload_n dX11_readTown_111 rfl rfl rfl ?_
    refine g_getI dX11_readTown_112 ff_X11_122 rfl (k100 h1.1.1) rfl ?_
    refine g_iconst (v := -1) dX11_readTown_115 (by decide) rfl ?_
    rw [h1.2.2.2.1]
    refine g_icmp_ne (tgt := 146) dX11_readTown_116 (by decide) rfl (fun h_ => absurd (rfl) h_) (fun _ => ?_)
    refine g_aload_n dX11_readTown_119 rfl rfl rfl ?_
    refine g_callVq (ci := 11) dX11_readTown_120 lm_X11_132 mv_X11_look (hlk) rfl rfl (k100 h1.1.1) rfl rfl (Nat.le_of_ble_eq_true rfl) (gFit_room (by omega)) rfl (fun v M2 hQ => ?_)
    obtain ⟨rfl, hf⟩ := hQ
    refine g_iconst (v := -1) dX11_readTown_123 (by decide) rfl ?_
    rw [hsg]
    refine g_icmp_ne (tgt := 141) dX11_readTown_124 (by decide) rfl (fun _ => ?_) (fun h_ => absurd h_ (neg1 (by omega)))
    refine g_aload_n dX11_readTown_141 rfl rfl rfl ?_
    refine g_callVq (ci := 11) dX11_readTown_142 lm_X11_128 mv_X11_fails (r_fails0 (d := d + 6) hx hf.2) rfl rfl (k100 hf.2.1.1) rfl rfl (Nat.le_of_ble_eq_true rfl) (gFit_room (by omega)) rfl (fun v M3 hQ => ?_)
    obtain ⟨rfl, hf5, h5⟩ := hQ
    refine g_pop dX11_readTown_145 rfl rfl ?_
    exact g_vret dX11_readTown_146 rfl ⟨rfl, (hf1.tr (hf.1.k.z scT6 scT4)).tr (hf5.k.z scT6 scT4), h5.2.2.2.1, fun z => absurd z Bool.false_ne_true⟩
  -- the end behind clauses
  have endT : ∀ (M1 : gM) (lz : List (Nat × Value)), PT M1 T L P.2.1 (-1) w → RdT M1 P.2.2 → zFr scT M M1 → P.1 = true → gW X (gRoom (d + 7) 0 0) (gZ X gN0 0 0 (fun v M2 => v = none ∧ zFr scT M M2 ∧ gmi M2 100 11 = (if (P.1 && (decide (L ≤ nxt T L P.2.1) && (decide (0 < P.2.2.1) && decide (0 < P.2.2.2.1)))) = true then -1 else nI (if P.1 = true then nxt T L P.2.1 else P.2.1)) ∧ ((P.1 && (decide (L ≤ nxt T L P.2.1) && (decide (0 < P.2.2.1) && decide (0 < P.2.2.2.1)))) = true → RdT M2 P.2.2))) gN0 yX11_readTown cX11_readTown 2 none 111 ((0, .ref 100) :: lz) [] M1 0 0 := by
    intro M1 lz h1 hD1 hf1 hp
    rw [hp, Bool.true_and, if_pos rfl]
    have hnL := nxt_le (T := T) h1.2.2.1
    refine g_aload_n dX11_readTown_111 rfl rfl rfl ?_
    refine g_getI dX11_readTown_112 ff_X11_122 rfl (k100 h1.1.1) rfl ?_
    refine g_iconst (v := -1) dX11_readTown_115 (by decide) rfl ?_
    rw [h1.2.2.2.1]
    refine g_icmp_ne (tgt := 146) dX11_readTown_116 (by decide) rfl (fun h_ => absurd (rfl) h_) (fun _ => ?_)
    refine g_aload_n dX11_readTown_119 rfl rfl rfl ?_
    refine g_callVq (ci := 11) dX11_readTown_120 lm_X11_132 mv_X11_look (r_look (d := d + 6) hx h1) rfl rfl (k100 h1.1.1) rfl rfl (Nat.le_of_ble_eq_true rfl) (gFit_room (by omega)) rfl (fun v M3 hQ => ?_)
    obtain ⟨rfl, hf3, h3⟩ := hQ
    have hD3 := hD1.im hf3
    have hz3 := hf1.tr (hf3.k.z scT6 scT4)
    have h6 := hD3.2.2.2.2.2.2.1
    have h8 := hD3.2.2.2.2.2.2.2
    generalize nxt T L P.2.1 = q at *
    by_cases hq : L ≤ q
    · have hsg : sgn T L q = -1 := if_neg (by omega)
      rw [hsg, decide_eq_true hq, Bool.true_and]
      by_cases hp0 : 0 < P.2.2.1
      · by_cases hq0 : 0 < P.2.2.2.1
        · rw [decide_eq_true hp0, decide_eq_true hq0, if_pos (by rfl)]
          refine g_iconst (v := -1) dX11_readTown_123 (by decide) rfl ?_
          refine g_icmp_ne (tgt := 141) dX11_readTown_124 (by decide) rfl (fun h_ => absurd (rfl) h_) (fun _ => ?_)
          refine g_aload_n dX11_readTown_127 rfl rfl rfl ?_
          refine g_getI dX11_readTown_128 ff_X11_239 rfl (k100 h3.1.1) rfl ?_
          rw [hD3.1]
          refine g_if_eq (tgt := 141) dX11_readTown_131 (by decide) rfl (fun h_ => absurd h_ (nI_ne0 hp0 (by omega))) (fun _ => ?_)
          refine g_aload_n dX11_readTown_134 rfl rfl rfl ?_
          refine g_getI dX11_readTown_135 ff_X11_242 rfl (k100 h3.1.1) rfl ?_
          rw [hD3.2.1]
          refine g_if_ne (tgt := 146) dX11_readTown_138 (by decide) rfl (fun _ => ?_) (fun h_ => absurd h_ (nI_ne0 hq0 (by omega)))
          exact g_vret dX11_readTown_146 rfl (⟨rfl, hz3, h3.2.2.2.1, fun _ => hD3⟩)
        · rw [decide_eq_false hq0, Bool.and_false, if_neg Bool.false_ne_true]
          have e0 : P.2.2.2.1 = 0 := by omega
          refine g_iconst (v := -1) dX11_readTown_123 (by decide) rfl ?_
          refine g_icmp_ne (tgt := 141) dX11_readTown_124 (by decide) rfl (fun h_ => absurd (rfl) h_) (fun _ => ?_)
          refine g_aload_n dX11_readTown_127 rfl rfl rfl ?_
          refine g_getI dX11_readTown_128 ff_X11_239 rfl (k100 h3.1.1) rfl ?_
          rw [hD3.1]
          refine g_if_eq (tgt := 141) dX11_readTown_131 (by decide) rfl (fun h_ => absurd h_ (nI_ne0 hp0 (by omega))) (fun _ => ?_)
          refine g_aload_n dX11_readTown_134 rfl rfl rfl ?_
          refine g_getI dX11_readTown_135 ff_X11_242 rfl (k100 h3.1.1) rfl ?_
          rw [hD3.2.1]
          refine g_if_ne (tgt := 146) dX11_readTown_138 (by decide) rfl (fun h_ => absurd (by rw [e0]; rfl) h_) (fun _ => ?_)
          refine g_aload_n dX11_readTown_141 rfl rfl rfl ?_
          refine g_callVq (ci := 11) dX11_readTown_142 lm_X11_128 mv_X11_fails (r_fails0 (d := d + 6) hx h3) rfl rfl (k100 h3.1.1) rfl rfl (Nat.le_of_ble_eq_true rfl) (gFit_room (by omega)) rfl (fun v M2 hQ => ?_)
          obtain ⟨rfl, hf⟩ := hQ
          refine g_pop dX11_readTown_145 rfl rfl ?_
          exact g_vret dX11_readTown_146 rfl (⟨rfl, hz3.tr (hf.1.k.z scT6 scT4), hf.2.2.2.2.1, fun z => absurd z Bool.false_ne_true⟩)
      · rw [decide_eq_false hp0, Bool.false_and, if_neg Bool.false_ne_true]
        have e0 : P.2.2.1 = 0 := by omega
        refine g_iconst (v := -1) dX11_readTown_123 (by decide) rfl ?_
        refine g_icmp_ne (tgt := 141) dX11_readTown_124 (by decide) rfl (fun h_ => absurd (rfl) h_) (fun _ => ?_)
        refine g_aload_n dX11_readTown_127 rfl rfl rfl ?_
        refine g_getI dX11_readTown_128 ff_X11_239 rfl (k100 h3.1.1) rfl ?_
        rw [hD3.1]
        refine g_if_eq (tgt := 141) dX11_readTown_131 (by decide) rfl (fun _ => ?_) (fun h_ => absurd (by rw [e0]; rfl) h_)
        refine g_aload_n dX11_readTown_141 rfl rfl rfl ?_
        refine g_callVq (ci := 11) dX11_readTown_142 lm_X11_128 mv_X11_fails (r_fails0 (d := d + 6) hx h3) rfl rfl (k100 h3.1.1) rfl rfl (Nat.le_of_ble_eq_true rfl) (gFit_room (by omega)) rfl (fun v M2 hQ => ?_)
        obtain ⟨rfl, hf⟩ := hQ
        refine g_pop dX11_readTown_145 rfl rfl ?_
        exact g_vret dX11_readTown_146 rfl (⟨rfl, hz3.tr (hf.1.k.z scT6 scT4), hf.2.2.2.2.1, fun z => absurd z Bool.false_ne_true⟩)
    · have htp := (h3.1.2.2.2.2.2.2 q (by omega)).2.2
      have hsg : sgn T L q = nI (T q) := if_pos (by omega)
      rw [hsg, decide_eq_false hq, Bool.false_and, if_neg Bool.false_ne_true]
      refine g_iconst (v := -1) dX11_readTown_123 (by decide) rfl ?_
      refine g_icmp_ne (tgt := 141) dX11_readTown_124 (by decide) rfl (fun _ => ?_) (fun h_ => absurd h_ (neg1 (by omega)))
      refine g_aload_n dX11_readTown_141 rfl rfl rfl ?_
      refine g_callVq (ci := 11) dX11_readTown_142 lm_X11_128 mv_X11_fails (r_fails0 (d := d + 6) hx h3) rfl rfl (k100 h3.1.1) rfl rfl (Nat.le_of_ble_eq_true rfl) (gFit_room (by omega)) rfl (fun v M2 hQ => ?_)
      obtain ⟨rfl, hf⟩ := hQ
      refine g_pop dX11_readTown_145 rfl rfl ?_
      exact g_vret dX11_readTown_146 rfl (⟨rfl, hz3.tr (hf.1.k.z scT6 scT4), hf.2.2.2.2.1, fun z => absurd z Bool.false_ne_true⟩)
  -- clause by clause: the row 55
  have main : ∀ (n i : Nat) (s : TS) (M1 : gM), cntT s + (n + 1) = 16 → PT M1 T L i (-1) w → RdT M1 s → zFr scT M M1 → (if (clR T L i s).1 = true then clsP T L n false (clR T L i s).2.1 (clR T L i s).2.2 else (false, (clR T L i s).2.1, s)) = P → gW X (gRoom (d + 7) 0 0) (gZ X gN0 0 0 (fun v M2 => v = none ∧ zFr scT M M2 ∧ gmi M2 100 11 = (if (P.1 && (decide (L ≤ nxt T L P.2.1) && (decide (0 < P.2.2.1) && decide (0 < P.2.2.2.1)))) = true then -1 else nI (if P.1 = true then nxt T L P.2.1 else P.2.1)) ∧ ((P.1 && (decide (L ≤ nxt T L P.2.1) && (decide (0 < P.2.2.1) && decide (0 < P.2.2.2.1)))) = true → RdT M2 P.2.2))) gN0 yX11_readTown cX11_readTown 2 none 55 [(0, .ref 100), (1, .int 1)] [] M1 0 0 := by
    intro n
    induction n with
    | zero =>
      intro i s M1 hcn h1 hD1 hf1 hPe
      have hno : ¬ (clR T L i s).1 = true := fun hr => by
        have := clR_cnt hr
        -- fifteen clauses are all: another one can't be
        unfold clR at hr
        have h6 := hD1.2.2.2.2.2.2.1
        have h8 := hD1.2.2.2.2.2.2.2
        have hle := kdN_le T L (nxt T L i) s
        have hc : cntT s = 15 := by omega
        have hall : s.2.2.1 = true ∧ s.1 = 6 ∧ s.2.1 = 8 := by
          unfold cntT at hc
          cases e : s.2.2.1
          · rw [e, if_neg Bool.false_ne_true] at hc; omega
          · rw [e, if_pos rfl] at hc; exact ⟨rfl, by omega, by omega⟩
        have k3 : kdN T L (nxt T L i) s = 3 := by
          refine Decidable.by_contra (fun k3 => ?_)
          rcases (show kdN T L (nxt T L i) s = 0 ∨ kdN T L (nxt T L i) s = 1 ∨ kdN T L (nxt T L i) s = 2 by omega) with z | z | z
          · rw [(kdN_c0 z).2] at hall; exact absurd hall.1 Bool.false_ne_true
          · have := (kdN_c1 z).2; omega
          · have := (kdN_c2 z).2; omega
        rw [if_pos k3] at hr
        exact absurd hr Bool.false_ne_true
      rw [if_neg hno] at hPe
      have hp1 : P.1 = false := by rw [← hPe]
      have hp2 : P.2.1 = (clR T L i s).2.1 := by rw [← hPe]
      refine g_iload_n dX11_readTown_55 rfl rfl rfl ?_
      refine g_if_eq (tgt := 111) dX11_readTown_56 (by decide) rfl (fun h_ => absurd h_ (by decide)) (fun _ => ?_)
      refine g_aload_n dX11_readTown_59 rfl rfl rfl ?_
      refine g_getI dX11_readTown_60 ff_X11_122 rfl (k100 h1.1.1) rfl ?_
      refine g_iconst (v := -1) dX11_readTown_63 (by decide) rfl ?_
      rw [h1.2.2.2.1]
      refine g_icmp_ne (tgt := 111) dX11_readTown_64 (by decide) rfl (fun h_ => absurd (rfl) h_) (fun _ => ?_)
      refine g_aload_n dX11_readTown_67 rfl rfl rfl ?_
      refine g_callVq (ci := 11) dX11_readTown_68 lm_X11_255 mv_X11_readClause (r_readClause (d := d) hx hZ h1 hD1) rfl rfl (k100 h1.1.1) rfl rfl (Nat.le_of_ble_eq_true rfl) (gFit_room (by omega)) rfl (fun v M3 hQ => ?_)
      obtain ⟨rfl, hf3, -, hn3⟩ := hQ
      have hz3 := hf1.tr (hf3.z scT6 scT4)
      have hL3 := hf3.1.lay h1.1.1
      rcases hn3 hno with h4 | ⟨h4, h5, h6, h7⟩
      · refine g_aload_n dX11_readTown_71 rfl rfl rfl ?_
        refine g_getI dX11_readTown_72 ff_X11_122 rfl (k100 hL3) rfl ?_
        refine g_iconst (v := -1) dX11_readTown_75 (by decide) rfl ?_
        refine g_icmp_ne (tgt := 92) dX11_readTown_76 (by decide) rfl (fun _ => ?_) (fun h_ => absurd h_ (h4.2))
        refine g_iconst (v := 0) dX11_readTown_92 (by decide) rfl ?_
        refine g_istore_n dX11_readTown_93 rfl (by decide) rfl ?_
        refine g_iload_n dX11_readTown_94 rfl rfl rfl ?_
        refine g_if_eq (tgt := 55) dX11_readTown_95 (by decide) rfl (fun _ => ?_) (fun h_ => absurd (rfl) h_)
        refine g_iload_n dX11_readTown_55 rfl rfl rfl ?_
        refine g_if_eq (tgt := 111) dX11_readTown_56 (by decide) rfl (fun _ => ?_) (fun h_ => absurd (rfl) h_)
        exact g_go (endF M3 [] hL3 hz3 (by rw [hp2]; exact h4) hp1) ⟨rfl, trivial⟩
      · have hlk := r_look (d := d + 6) hx h4
        rw [h7] at hlk
        have h59 : ¬ sgn T L (clR T L i s).2.1 = 59 := fun z => h6 (((h4.sg (c := 59) (by decide)).mp z).2)
        refine g_aload_n dX11_readTown_71 rfl rfl rfl ?_
        refine g_getI dX11_readTown_72 ff_X11_122 rfl (k100 hL3) rfl ?_
        refine g_iconst (v := -1) dX11_readTown_75 (by decide) rfl ?_
        rw [h4.2.2.2.1]
        refine g_icmp_ne (tgt := 92) dX11_readTown_76 (by decide) rfl (fun h_ => absurd (rfl) h_) (fun _ => ?_)
        refine g_aload_n dX11_readTown_79 rfl rfl rfl ?_
        refine g_callVq (ci := 11) dX11_readTown_80 lm_X11_132 mv_X11_look (hlk) rfl rfl (k100 h4.1.1) rfl rfl (Nat.le_of_ble_eq_true rfl) (gFit_room (by omega)) rfl (fun v M4 hQ => ?_)
        obtain ⟨rfl, hf4, h8⟩ := hQ
        refine g_bipush (v := 59) dX11_readTown_83 (by decide) rfl ?_
        refine g_icmp_ne (tgt := 92) dX11_readTown_85 (by decide) rfl (fun _ => ?_) (fun h_ => absurd h_ (h59))
        refine g_iconst (v := 0) dX11_readTown_92 (by decide) rfl ?_
        refine g_istore_n dX11_readTown_93 rfl (by decide) rfl ?_
        refine g_iload_n dX11_readTown_94 rfl rfl rfl ?_
        refine g_if_eq (tgt := 55) dX11_readTown_95 (by decide) rfl (fun _ => ?_) (fun h_ => absurd (rfl) h_)
        refine g_iload_n dX11_readTown_55 rfl rfl rfl ?_
        refine g_if_eq (tgt := 111) dX11_readTown_56 (by decide) rfl (fun _ => ?_) (fun h_ => absurd (rfl) h_)
        exact g_go (endS M4 [] (by rw [hp2]; exact h8) (hz3.tr (hf4.k.z scT6 scT4)) (by rw [hp2]; exact h5) (by rw [hp2]; exact h7) hp1) ⟨rfl, trivial⟩
    | succ n ih =>
      intro i s M1 hcn h1 hD1 hf1 hPe
      refine g_iload_n dX11_readTown_55 rfl rfl rfl ?_
      refine g_if_eq (tgt := 111) dX11_readTown_56 (by decide) rfl (fun h_ => absurd h_ (by decide)) (fun _ => ?_)
      refine g_aload_n dX11_readTown_59 rfl rfl rfl ?_
      refine g_getI dX11_readTown_60 ff_X11_122 rfl (k100 h1.1.1) rfl ?_
      refine g_iconst (v := -1) dX11_readTown_63 (by decide) rfl ?_
      rw [h1.2.2.2.1]
      refine g_icmp_ne (tgt := 111) dX11_readTown_64 (by decide) rfl (fun h_ => absurd (rfl) h_) (fun _ => ?_)
      refine g_aload_n dX11_readTown_67 rfl rfl rfl ?_
      refine g_callVq (ci := 11) dX11_readTown_68 lm_X11_255 mv_X11_readClause (r_readClause (d := d) hx hZ h1 hD1) rfl rfl (k100 h1.1.1) rfl rfl (Nat.le_of_ble_eq_true rfl) (gFit_room (by omega)) rfl (fun v M3 hQ => ?_)
      obtain ⟨rfl, hf3, hy3, hn3⟩ := hQ
      have hz3 := hf1.tr (hf3.z scT6 scT4)
      have hL3 := hf3.1.lay h1.1.1
      by_cases hr : (clR T L i s).1 = true
      · obtain ⟨h4, hD4⟩ := hy3 hr
        have hcn4 := clR_cnt hr
        rw [if_pos hr] at hPe
        generalize (clR T L i s).2.1 = q at *
        generalize (clR T L i s).2.2 = s4 at *
        refine g_aload_n dX11_readTown_71 rfl rfl rfl ?_
        refine g_getI dX11_readTown_72 ff_X11_122 rfl (k100 hL3) rfl ?_
        refine g_iconst (v := -1) dX11_readTown_75 (by decide) rfl ?_
        rw [h4.2.2.2.1]
        refine g_icmp_ne (tgt := 92) dX11_readTown_76 (by decide) rfl (fun h_ => absurd (rfl) h_) (fun _ => ?_)
        refine g_aload_n dX11_readTown_79 rfl rfl rfl ?_
        refine g_callVq (ci := 11) dX11_readTown_80 lm_X11_132 mv_X11_look (r_look (d := d + 6) hx h4) rfl rfl (k100 h4.1.1) rfl rfl (Nat.le_of_ble_eq_true rfl) (gFit_room (by omega)) rfl (fun v M4 hQ => ?_)
        obtain ⟨rfl, hf4, h8⟩ := hQ
        have hz4 := hz3.tr (hf4.k.z scT6 scT4)
        have hD8 := hD4.im hf4
        by_cases hs : isS T L q 59 = true
        · have h59 : sgn T L (nxt T L q) = 59 := (h4.is (c := 59) (by decide)).mp hs
          have hlt := ((h4.sg (j := nxt T L q) (c := 59) (by decide)).mp h59).1
          rw [clsP_R n false (Or.inr hs), if_neg Bool.false_ne_true] at hPe
          have h9 := h8.at (j := nxt T L q + 1) (show nxt T L q + 1 ≤ L by omega)
          rw [h59]
          refine g_bipush (v := 59) dX11_readTown_83 (by decide) rfl ?_
          refine g_icmp_ne (tgt := 92) dX11_readTown_85 (by decide) rfl (fun h_ => absurd (rfl) h_) (fun _ => ?_)
          refine g_iconst (v := 1) dX11_readTown_88 (by decide) rfl ?_
          refine g_goto (tgt := 93) dX11_readTown_89 (by decide) ?_
          refine g_istore_n dX11_readTown_93 rfl (by decide) rfl ?_
          refine g_iload_n dX11_readTown_94 rfl rfl rfl ?_
          refine g_if_eq (tgt := 55) dX11_readTown_95 (by decide) rfl (fun h_ => absurd h_ (by decide)) (fun _ => ?_)
          refine g_aload_n dX11_readTown_98 rfl rfl rfl ?_
          refine g_dup dX11_readTown_99 rfl rfl ?_
          refine g_getI dX11_readTown_100 ff_X11_113 rfl (k100 h8.1.1) rfl ?_
          refine g_iconst (v := 1) dX11_readTown_103 (by decide) rfl ?_
          refine g_iadd dX11_readTown_104 rfl ?_
          rw [h8.2.1, nI_1]
          refine g_putI dX11_readTown_105 fp_X11_113 rfl rfl rfl (k100 h8.1.1) rfl ?_
          refine g_goto (tgt := 55) dX11_readTown_108 (by decide) ?_
          exact g_go (ih (nxt T L q + 1) s4 _ (by omega) h9 (hD8.im (iFr.put (Or.inl rfl))) (hz4.tr ((iFr.put (Or.inl rfl)).k.z scT6 scT4)) hPe) ⟨rfl, rfl, trivial⟩
        · have h59 : ¬ sgn T L (nxt T L q) = 59 := fun z => hs ((h4.is (c := 59) (by decide)).mpr z)
          have hPe2 : (true, nxt T L q, s4) = P := by
            rw [← hPe]
            show _ = (if (false = true) ∨ isS T L q 59 = true then _ else _)
            rw [if_neg (fun z => z.elim Bool.false_ne_true hs)]
          have hp1 : P.1 = true := by rw [← hPe2]
          have hp2 : P.2.1 = nxt T L q := by rw [← hPe2]
          have hp3 : P.2.2 = s4 := by rw [← hPe2]
          refine g_bipush (v := 59) dX11_readTown_83 (by decide) rfl ?_
          refine g_icmp_ne (tgt := 92) dX11_readTown_85 (by decide) rfl (fun _ => ?_) (fun h_ => absurd h_ (h59))
          refine g_iconst (v := 0) dX11_readTown_92 (by decide) rfl ?_
          refine g_istore_n dX11_readTown_93 rfl (by decide) rfl ?_
          refine g_iload_n dX11_readTown_94 rfl rfl rfl ?_
          refine g_if_eq (tgt := 55) dX11_readTown_95 (by decide) rfl (fun _ => ?_) (fun h_ => absurd (rfl) h_)
          refine g_iload_n dX11_readTown_55 rfl rfl rfl ?_
          refine g_if_eq (tgt := 111) dX11_readTown_56 (by decide) rfl (fun _ => ?_) (fun h_ => absurd (rfl) h_)
          exact g_go (endT M4 [] (by rw [hp2]; exact h8) (by rw [hp3]; exact hD8) hz4 hp1) ⟨rfl, trivial⟩
      · rw [if_neg hr] at hPe
        have hp1 : P.1 = false := by rw [← hPe]
        have hp2 : P.2.1 = (clR T L i s).2.1 := by rw [← hPe]
        rcases hn3 hr with h4 | ⟨h4, h5, h6, h7⟩
        · refine g_aload_n dX11_readTown_71 rfl rfl rfl ?_
          refine g_getI dX11_readTown_72 ff_X11_122 rfl (k100 hL3) rfl ?_
          refine g_iconst (v := -1) dX11_readTown_75 (by decide) rfl ?_
          refine g_icmp_ne (tgt := 92) dX11_readTown_76 (by decide) rfl (fun _ => ?_) (fun h_ => absurd h_ (h4.2))
          refine g_iconst (v := 0) dX11_readTown_92 (by decide) rfl ?_
          refine g_istore_n dX11_readTown_93 rfl (by decide) rfl ?_
          refine g_iload_n dX11_readTown_94 rfl rfl rfl ?_
          refine g_if_eq (tgt := 55) dX11_readTown_95 (by decide) rfl (fun _ => ?_) (fun h_ => absurd (rfl) h_)
          refine g_iload_n dX11_readTown_55 rfl rfl rfl ?_
          refine g_if_eq (tgt := 111) dX11_readTown_56 (by decide) rfl (fun _ => ?_) (fun h_ => absurd (rfl) h_)
          exact g_go (endF M3 [] hL3 hz3 (by rw [hp2]; exact h4) hp1) ⟨rfl, trivial⟩
        · have hlk := r_look (d := d + 6) hx h4
          rw [h7] at hlk
          have h59 : ¬ sgn T L (clR T L i s).2.1 = 59 := fun z => h6 (((h4.sg (c := 59) (by decide)).mp z).2)
          refine g_aload_n dX11_readTown_71 rfl rfl rfl ?_
          refine g_getI dX11_readTown_72 ff_X11_122 rfl (k100 hL3) rfl ?_
          refine g_iconst (v := -1) dX11_readTown_75 (by decide) rfl ?_
          rw [h4.2.2.2.1]
          refine g_icmp_ne (tgt := 92) dX11_readTown_76 (by decide) rfl (fun h_ => absurd (rfl) h_) (fun _ => ?_)
          refine g_aload_n dX11_readTown_79 rfl rfl rfl ?_
          refine g_callVq (ci := 11) dX11_readTown_80 lm_X11_132 mv_X11_look (hlk) rfl rfl (k100 h4.1.1) rfl rfl (Nat.le_of_ble_eq_true rfl) (gFit_room (by omega)) rfl (fun v M4 hQ => ?_)
          obtain ⟨rfl, hf4, h8⟩ := hQ
          refine g_bipush (v := 59) dX11_readTown_83 (by decide) rfl ?_
          refine g_icmp_ne (tgt := 92) dX11_readTown_85 (by decide) rfl (fun _ => ?_) (fun h_ => absurd h_ (h59))
          refine g_iconst (v := 0) dX11_readTown_92 (by decide) rfl ?_
          refine g_istore_n dX11_readTown_93 rfl (by decide) rfl ?_
          refine g_iload_n dX11_readTown_94 rfl rfl rfl ?_
          refine g_if_eq (tgt := 55) dX11_readTown_95 (by decide) rfl (fun _ => ?_) (fun h_ => absurd (rfl) h_)
          refine g_iload_n dX11_readTown_55 rfl rfl rfl ?_
          refine g_if_eq (tgt := 111) dX11_readTown_56 (by decide) rfl (fun _ => ?_) (fun h_ => absurd (rfl) h_)
          exact g_go (endS M4 [] (by rw [hp2]; exact h8) (hz3.tr (hf4.k.z scT6 scT4)) (by rw [hp2]; exact h5) (by rw [hp2]; exact h7) hp1) ⟨rfl, trivial⟩
  refine g_aload_n dX11_readTown_0 rfl rfl rfl ?_
  refine g_aload_n dX11_readTown_1 rfl rfl rfl ?_
  refine g_getR dX11_readTown_2 ff_X11_9 rfl (k100 hL) (r100_1 hL) rfl ?_
  refine g_iconst (v := 0) dX11_readTown_5 (by decide) rfl ?_
  refine g_aload_n dX11_readTown_6 rfl rfl rfl ?_
  refine g_getI dX11_readTown_7 ff_X11_103 rfl (k100 hL) rfl ?_
  rw [hT.1]
  refine g_callVq (ci := 11) dX11_readTown_10 lm_X11_201 mv_X11_starts (r_starts (d := d + 6) hx hL (hT.tx hL)) rfl rfl (k100 hL) rfl rfl (Nat.le_of_ble_eq_true rfl) (gFit_room (by omega)) rfl (fun v M2 hQ => ?_)
  obtain ⟨rfl, hF1, hRS, e10, e11, e12, -, -, -⟩ := hQ
  have hp2 : PT M2 T L 0 (-1) w := ⟨hRS, e10, Nat.zero_le _, e11, e12.trans hw12⟩
  have hp3 := ((hp2.wf (k := 28) (v := 0) (by decide)).wf (k := 29) (v := 0) (by decide)).wf (k := 31) (v := 0) (by decide)
  have hz3 : zFr scT M (gwI (gwI (gwI M2 100 28 0) 100 29 0) 100 31 0) := ((hF1.z.tr (zFr.wf (Or.inr (Or.inr (Or.inr (Or.inl rfl)))))).tr (zFr.wf (Or.inr (Or.inr (Or.inr (Or.inr (Or.inl rfl))))))).tr (zFr.wf (Or.inr (Or.inr (Or.inr (Or.inr (Or.inr rfl))))))
  have g28 : gmi (gwI (gwI (gwI M2 100 28 0) 100 29 0) 100 31 0) 100 28 = 0 := by rw [gmi_I, va_up_ne _ _ (by decide), gmi_I, va_up_ne _ _ (by decide), gmi_I, va_up_self]
  have g29 : gmi (gwI (gwI (gwI M2 100 28 0) 100 29 0) 100 31 0) 100 29 = 0 := by rw [gmi_I, va_up_ne _ _ (by decide), gmi_I, va_up_self]
  have g31 : gmi (gwI (gwI (gwI M2 100 28 0) 100 29 0) 100 31 0) 100 31 = 0 := by rw [gmi_I, va_up_self]
  refine g_aload_n dX11_readTown_13 rfl rfl rfl ?_
  refine g_iconst (v := 0) dX11_readTown_14 (by decide) rfl ?_
  refine g_putI dX11_readTown_15 fp_X11_239 rfl rfl rfl (k100 hRS.1) rfl ?_
  refine g_aload_n dX11_readTown_18 rfl rfl rfl ?_
  refine g_iconst (v := 0) dX11_readTown_19 (by decide) rfl ?_
  refine g_putI dX11_readTown_20 fp_X11_242 rfl rfl rfl (k100 (gLay_I hRS.1)) rfl ?_
  refine g_aload_n dX11_readTown_23 rfl rfl rfl ?_
  refine g_iconst (v := 0) dX11_readTown_24 (by decide) rfl ?_
  refine g_putI dX11_readTown_25 fp_X11_236 rfl rfl rfl (k100 (gLay_I (gLay_I hRS.1))) rfl ?_
  refine g_iconst (v := 0) dX11_readTown_28 (by decide) rfl ?_
  refine g_istore_n dX11_readTown_29 rfl (by decide) rfl ?_
  refine g_loopM (fun j => [(0, .ref 100), (1, .int (nI j))]) (fun j M1 => PT M1 T L 0 (-1) w ∧ zFr scT M M1 ∧ (gmi M1 100 28 = 0 ∧ gmi M1 100 29 = 0 ∧ gmi M1 100 31 = 0) ∧ ∀ q, q < j → gmi M1 106 q = nI (untN q)) 2 0 (Nat.zero_le _) ⟨rfl, rfl, trivial⟩ ⟨hp3, hz3, ⟨g28, g29, g31⟩, fun q hq => absurd hq (by omega)⟩ (fun M1 hI => ?_) (fun j M1 _ hj hI ih => ?_)
  · obtain ⟨h1, hz1, ⟨a1, a2, a3⟩, hv⟩ := hI
    have hD : RdT M1 townI := ⟨a1, a2, a3, ⟨hv 0 (by decide), hv 1 (by decide)⟩, fun q hq => absurd hq (Nat.not_lt_zero q), fun q hq => absurd hq (Nat.not_lt_zero q), Nat.zero_le _, Nat.zero_le _⟩
    refine g_iload_n dX11_readTown_30 rfl rfl rfl ?_
    refine g_iconst (v := 2) dX11_readTown_31 (by decide) rfl ?_
    refine g_icmp_ge (tgt := 53) dX11_readTown_32 (by decide) rfl (fun _ => ?_) (fun h_ => absurd (nI_le (a := 2) (Nat.le_refl _) (by decide)) h_)
    refine g_iconst (v := 1) dX11_readTown_53 (by decide) rfl ?_
    refine g_istore_n dX11_readTown_54 rfl (by decide) rfl ?_
    exact g_go (main 15 0 townI M1 rfl h1 hD hz1 hP0) ⟨rfl, rfl, trivial⟩
  · obtain ⟨h1, hz1, ⟨a1, a2, a3⟩, hv⟩ := hI
    have t1 := (tabs 0 (by decide) j hj).1
    rw [Nat.mul_zero, Nat.zero_add] at t1
    refine g_iload_n dX11_readTown_30 rfl rfl rfl ?_
    refine g_iconst (v := 2) dX11_readTown_31 (by decide) rfl ?_
    refine g_icmp_ge (tgt := 53) dX11_readTown_32 (by decide) rfl (fun h_ => absurd h_ (nI_ge (b := 2) hj (by decide))) (fun _ => ?_)
    refine g_aload_n dX11_readTown_35 rfl rfl rfl ?_
    refine g_getR dX11_readTown_36 ff_X11_40 rfl (k100 h1.1.1) (r100_19 h1.1.1) rfl ?_
    refine g_iload_n dX11_readTown_39 rfl rfl rfl ?_
    refine g_bipush (v := 115) dX11_readTown_40 (by decide) rfl ?_
    refine g_iload_n dX11_readTown_42 rfl rfl rfl ?_
    refine g_callSdi dX11_readTown_43 lm_X11_215 mv_X11_usual (r_usual (d := d + 6) hx) rfl rfl (Nat.le_of_ble_eq_true rfl) (gFit_room (by omega)) rfl ?_
    rw [show usV 115 (nI j) = nI (untN j) from t1]
    refine g_iast (i := j) dX11_readTown_46 (k106 h1.1.1) (l106 h1.1.1) (nI_toInt (by omega)) (by omega) rfl ?_
    refine g_iincV (c := 1) dX11_readTown_47 rfl (by decide) (by decide) rfl ?_
    refine g_goto (tgt := 30) dX11_readTown_50 (by decide) ?_
    refine g_go (ih _ ⟨h1.wc (by decide) (by decide), hz1.tr ((kFr.wc (Or.inl rfl) (by decide)).z scT6 scT4), ⟨by rw [gmi_In _ _ _ (by decide)]; exact a1, by rw [gmi_In _ _ _ (by decide)]; exact a2, by rw [gmi_In _ _ _ (by decide)]; exact a3⟩, fun q hq => ?_⟩) ⟨rfl, by rw [← nI_1 j]; rfl, trivial⟩
    rw [gmi_I]
    by_cases e : q = j
    · subst e; rw [va_up_self]
    · rw [va_up_ne _ _ e]; exact hv q (by omega)
end H27
