section G3
variable {X : gX} {M : gM} {d : Nat}
abbrev EVt : Type := Option ((Nat → Int32) → Int32)
/-- guilty now, were he to have the deeds b -/
def gub (M : gM) (EV : EVt) (p b : Nat) : Bool := decide (0 < rd EV (nI (heft M b)) (gmi M 5 p) (gmi M 25 p) (ibc (nI b)) (gmi M 25 66) (gmi M 25 (6 + p)))
theorem gub_fr {M2 : gM} {EV : EVt} (h : gFr scr0 M M2) (p b : Nat) : gub M2 EV p b = gub M EV p b := by
  have e3 := h.2.2.2 3 (scr0_lo (by decide) (by decide))
  have e5 := h.2.2.2 5 (scr0_lo (by decide) (by decide))
  have e7 := h.2.2.2 7 (scr0_lo (by decide) (by decide))
  have e25 := h.2.2.2 25 (scr0_lo (by decide) (by decide))
  unfold gub
  rw [heft_fr e3 e7, e5, e25]
theorem ds_fr {M2 : gM} (h : gFr scr0 M M2) (p n : Nat) : dset M2 25 p n = dset M 25 p n := dset_fr (h.2.2.2 3 (scr0_lo (by decide) (by decide))) (h.2.2.2 25 (scr0_lo (by decide) (by decide)))
theorem e25 {M2 : gM} (h : gFr scr0 M M2) : gmi M2 25 = gmi M 25 := h.2.2.2 25 (scr0_lo (by decide) (by decide))
theorem e3 {M2 : gM} (h : gFr scr0 M M2) : gmi M2 3 = gmi M 3 := h.2.2.2 3 (scr0_lo (by decide) (by decide))
theorem ib_gub {EV : EVt} {p b : Nat} : ib (0 < rd EV (nI (heft M b)) (gmi M 5 p) (gmi M 25 p) (ibc (nI b)) (gmi M 25 66) (gmi M 25 (6 + p))) = ib (gub M EV p b = true) := ib_iff ⟨fun h => decide_eq_true h, fun h => of_decide_eq_true h⟩
theorem gMet.mono {y : MethodName} {cc : ByteArray} {nL : Nat} {ret : Option FieldType} {av : List Value} {N : Nat → Prop} {mc ms : Nat} {Q Q' : Option Value → gM → Prop} (h : gMet X d y cc nL ret av M N mc ms Q) (hq : ∀ v M2, Q v M2 → Q' v M2) : gMet X d y cc nL ret av M N mc ms Q' := by
  intro ad0 p e ha hc hk s m args below hf happ hP hK
  obtain ⟨n, o, h1, h2, h3, ⟨⟨v, M2, ad, h4, h5, h6⟩, h7⟩, h8⟩ := h ad0 p e ha hc hk s m args below hf happ hP hK
  exact ⟨n, o, h1, h2, h3, ⟨⟨v, M2, ad, h4, hq v M2 h5, h6⟩, h7⟩, h8⟩
/-- isGuilty of now, in these words, after any reading -/
theorem c_gub (hx : gXok X) (hL : gLay M) (hT : TownOK M) {EV : EVt} (hC : CourtSem M EV) {M1 : gM} (hf : gFr scr0 M M1) {p b : Nat} (hp : p < 6) (hb : b < 256) :
    gPos X (d + 4) yX0_isGuilty cX0_isGuilty 4 (some .boolean) [.ref 20, .ref 24, .int (nI p), .int (nI b)] M1 (fun v M2 => v = some (.int (ib (gub M EV p b = true))) ∧ gFr scr0 M M2) := by
  have h := c_isGuilty_now (X := X) (d := d) hx (hf.lay hL) (hf.town scr0_town hT) (CourtSem_fr scr0_court hf hC) hp hb
  exact gMet.mono h (fun v M2 q => ⟨by rw [q.1, ib_gub, gub_fr hf], hf.tr q.2⟩)
set_option maxRecDepth 20000 in
theorem c_harmAmong (hx : gXok X) (hL : gLay M) (hT : TownOK M) (hl : LeftOK M 25) {q b : Nat} (hq : q < 64) (hb : b < 256) : gDet X (d + 3) yX10_harmAmong cX10_harmAmong 5 (some .int) [.ref 0, .int (nI q), .int (nI b)] M (some (.int (nI (ssum q (fun p => ssum (bdif b (dset M 25 p 0)) (tv M 8) (tv M 3 8)) (tv M 3 7))))) M := by
  have h6 := hT.1.2
  refine gMet.of hx (by decide) (Nat.le_of_ble_eq_true rfl) ?_
  refine g_iconst (v := 0) dX10_harmAmong_0 (by decide) rfl ?_
  refine g_istore_n dX10_harmAmong_1 rfl (by decide) rfl ?_
  refine g_iconst (v := 0) dX10_harmAmong_2 (by decide) rfl ?_
  refine g_istore dX10_harmAmong_3 (by decide) rfl ?_
  refine g_loop (fun i => [(0, .ref 0), (1, .int (nI q)), (2, .int (nI b)), (3, .int (nI (ssum q (fun p => ssum (bdif b (dset M 25 p 0)) (tv M 8) (tv M 3 8)) i))), (4, .int (nI i))]) (fun _ => M) (tv M 3 7) 0 (by omega) ⟨rfl, rfl, rfl, rfl, rfl, trivial⟩ rfl ?_ (fun i _ hi ih => ?_)
  · refine g_iload dX10_harmAmong_5 rfl rfl ?_
    refine g_aload_n dX10_harmAmong_7 rfl rfl rfl ?_
    refine g_getR dX10_harmAmong_8 ff_X10_19 rfl (k0 hL) (r0_1 hL) rfl ?_
    refine g_getI dX10_harmAmong_11 ff_X10_141 rfl (k3 hL) rfl ?_
    refine g_icmp_ge (tgt := 56) dX10_harmAmong_14 (by decide) rfl (fun _ => ?_) (fun h_ => absurd (by rw [hT.1.1]; exact nI_le (by omega) (by omega)) h_)
    refine g_iload_n dX10_harmAmong_56 rfl rfl rfl ?_
    exact g_iret dX10_harmAmong_57 rfl rfl ⟨rfl, rfl⟩
  · refine g_iload dX10_harmAmong_5 rfl rfl ?_
    refine g_aload_n dX10_harmAmong_7 rfl rfl rfl ?_
    refine g_getR dX10_harmAmong_8 ff_X10_19 rfl (k0 hL) (r0_1 hL) rfl ?_
    refine g_getI dX10_harmAmong_11 ff_X10_141 rfl (k3 hL) rfl ?_
    refine g_icmp_ge (tgt := 56) dX10_harmAmong_14 (by decide) rfl (fun h_ => absurd h_ (by rw [hT.1.1]; exact nI_ge (by omega) (by omega))) (fun _ => ?_)
    refine g_iload_n dX10_harmAmong_17 rfl rfl rfl ?_
    refine g_iload dX10_harmAmong_18 rfl rfl ?_
    refine g_ishr dX10_harmAmong_20 rfl ?_
    refine g_iconst (v := 1) dX10_harmAmong_21 (by decide) rfl ?_
    refine g_iand dX10_harmAmong_22 rfl ?_
    refine g_iconst (v := 1) dX10_harmAmong_23 (by decide) rfl ?_
    refine g_icmp_ne (tgt := 50) dX10_harmAmong_24 (by decide) rfl (fun h24 => ?_) (fun h24 => ?_)
    · have hbt : q.testBit i = false := by
        cases hz : q.testBit i with
        | false => rfl
        | true => exact absurd ((bt_is1 (by omega) (by omega)).mpr hz) h24
      refine g_iincV (c := 1) dX10_harmAmong_50 rfl (by decide) (by decide) rfl ?_
      refine g_goto (tgt := 5) dX10_harmAmong_53 (by decide) ?_
      refine g_go ih ⟨rfl, rfl, rfl, ?_, by rw [← nI_1 i]; rfl, trivial⟩
      show some (Value.int (nI (ssum q _ i))) = some (Value.int (nI (ssum q _ i + (if q.testBit i then _ else 0))))
      rw [hbt]
      rfl
    · have hbt : q.testBit i = true := (bt_is1 (by omega) (by omega)).mp h24
      refine g_iload_n dX10_harmAmong_27 rfl rfl rfl ?_
      refine g_aload_n dX10_harmAmong_28 rfl rfl rfl ?_
      refine g_getR dX10_harmAmong_29 ff_X10_19 rfl (k0 hL) (r0_1 hL) rfl ?_
      refine g_iload_n dX10_harmAmong_32 rfl rfl rfl ?_
      refine g_aload_n dX10_harmAmong_33 rfl rfl rfl ?_
      refine g_getR dX10_harmAmong_34 ff_X10_58 rfl (k0 hL) (r0_8 hL) rfl ?_
      refine g_iload dX10_harmAmong_37 rfl rfl ?_
      refine g_callVdi (ci := 4) dX10_harmAmong_39 lm_X10_239 mv_X4_deedsOf (c_deedsOf_now (d := d) hx hL hT hl (show i < 6 by omega)) rfl rfl (k24 hL) rfl rfl (Nat.le_of_ble_eq_true rfl) (gFit_room (by omega)) rfl ?_
      refine g_iconst (v := -1) dX10_harmAmong_42 (by decide) rfl ?_
      refine g_ixor dX10_harmAmong_43 rfl ?_
      refine g_iand dX10_harmAmong_44 rfl ?_
      rw [bt_andn]
      refine g_callVdi (ci := 8) dX10_harmAmong_45 lm_X10_336 mv_X8_harmOf (c_harmOf (d := d) hx hL (bdif_lt hb) hT.2.1 hT.2.2.2.1) rfl rfl (k3 hL) rfl rfl (Nat.le_of_ble_eq_true rfl) (gFit_room (by omega)) rfl ?_
      refine g_iadd dX10_harmAmong_48 rfl ?_
      refine g_istore_n dX10_harmAmong_49 rfl (by decide) rfl ?_
      refine g_iincV (c := 1) dX10_harmAmong_50 rfl (by decide) (by decide) rfl ?_
      refine g_goto (tgt := 5) dX10_harmAmong_53 (by decide) ?_
      refine g_go ih ⟨rfl, rfl, rfl, ?_, by rw [← nI_1 i]; rfl, trivial⟩
      show some (Value.int (nI (ssum q (fun p => ssum (bdif b (dset M 25 p 0)) (tv M 8) (tv M 3 8)) i) + nI (ssum (bdif b (dset M 25 i 0)) (tv M 8) (tv M 3 8)))) = some (Value.int (nI (ssum q (fun p => ssum (bdif b (dset M 25 p 0)) (tv M 8) (tv M 3 8)) i + (if q.testBit i then ssum (bdif b (dset M 25 i 0)) (tv M 8) (tv M 3 8) else 0))))
      rw [hbt, nI_add]
      rfl
/-- all of q are guilty with b -/
def allG (M : gM) (EV : EVt) (q b : Nat) : Nat → Bool
  | 0 => true
  | n + 1 => allG M EV q b n && (!q.testBit n || gub M EV n (b ||| dset M 25 n 0))
theorem allG_false {EV : EVt} {q b i : Nat} (h : (!q.testBit i || gub M EV i (b ||| dset M 25 i 0)) = false) : ∀ n, i < n → allG M EV q b n = false
  | 0, hn => absurd hn (by omega)
  | n + 1, hn => by
    show (allG M EV q b n && _) = false
    by_cases e : i = n
    · subst e; rw [h, Bool.and_false]
    · rw [allG_false h n (by omega), Bool.false_and]
set_option maxRecDepth 20000 in
theorem c_allGuiltyWith (hx : gXok X) (hL : gLay M) (hT : TownOK M) (hl : LeftOK M 25) {EV : EVt} (hC : CourtSem M EV) {M0 : gM} (hf0 : gFr scr0 M M0) {q b : Nat} (hq : q < 64) (hb : b < 256) :
    gPos X (d + 5) yX10_allGuiltyWith cX10_allGuiltyWith 4 (some .boolean) [.ref 0, .int (nI q), .int (nI b)] M0 (fun v M2 => v = some (.int (ib (allG M EV q b (tv M 3 7) = true))) ∧ gFr scr0 M M2) := by
  have h6 := hT.1.2
  have hL0 := hL
  refine gMet.of hx (by decide) (Nat.le_of_ble_eq_true rfl) ?_
  refine g_iconst (v := 0) dX10_allGuiltyWith_0 (by decide) rfl ?_
  refine g_istore_n dX10_allGuiltyWith_1 rfl (by decide) rfl ?_
  refine g_loopM (fun i => [(0, .ref 0), (1, .int (nI q)), (2, .int (nI b)), (3, .int (nI i))]) (fun i M1 => gFr scr0 M M1 ∧ allG M EV q b i = true) (tv M 3 7) 0 (by omega) ⟨rfl, rfl, rfl, rfl, trivial⟩ ⟨hf0, rfl⟩ (fun M1 hI => ?_) (fun i M1 _ hi hI ih => ?_)
  · have hL1 := hI.1.lay hL
    refine g_iload_n dX10_allGuiltyWith_2 rfl rfl rfl ?_
    refine g_aload_n dX10_allGuiltyWith_3 rfl rfl rfl ?_
    refine g_getR dX10_allGuiltyWith_4 ff_X10_19 rfl (k0 hL1) (r0_1 hL1) rfl ?_
    refine g_getI dX10_allGuiltyWith_7 ff_X10_141 rfl (k3 hL1) rfl ?_
    rw [e3 hI.1]
    refine g_icmp_ge (tgt := 55) dX10_allGuiltyWith_10 (by decide) rfl (fun _ => ?_) (fun h_ => absurd (by rw [hT.1.1]; exact nI_le (by omega) (by omega)) h_)
    refine g_iconst (v := 1) dX10_allGuiltyWith_55 (by decide) rfl ?_
    exact g_iret dX10_allGuiltyWith_56 rfl rfl ⟨congrArg (fun z => some (Value.int z)) (ib_t hI.2).symm, hI.1⟩
  · have hL1 := hI.1.lay hL
    refine g_iload_n dX10_allGuiltyWith_2 rfl rfl rfl ?_
    refine g_aload_n dX10_allGuiltyWith_3 rfl rfl rfl ?_
    refine g_getR dX10_allGuiltyWith_4 ff_X10_19 rfl (k0 hL1) (r0_1 hL1) rfl ?_
    refine g_getI dX10_allGuiltyWith_7 ff_X10_141 rfl (k3 hL1) rfl ?_
    rw [e3 hI.1]
    refine g_icmp_ge (tgt := 55) dX10_allGuiltyWith_10 (by decide) rfl (fun h_ => absurd h_ (by rw [hT.1.1]; exact nI_ge (by omega) (by omega))) (fun _ => ?_)
    refine g_iload_n dX10_allGuiltyWith_13 rfl rfl rfl ?_
    refine g_iload_n dX10_allGuiltyWith_14 rfl rfl rfl ?_
    refine g_ishr dX10_allGuiltyWith_15 rfl ?_
    refine g_iconst (v := 1) dX10_allGuiltyWith_16 (by decide) rfl ?_
    refine g_iand dX10_allGuiltyWith_17 rfl ?_
    refine g_iconst (v := 1) dX10_allGuiltyWith_18 (by decide) rfl ?_
    refine g_icmp_ne (tgt := 49) dX10_allGuiltyWith_19 (by decide) rfl (fun h19 => ?_) (fun h19 => ?_)
    · have hbt : q.testBit i = false := by
        cases hz : q.testBit i with
        | false => rfl
        | true => exact absurd ((bt_is1 (by omega) (by omega)).mpr hz) h19
      refine g_iincV (c := 1) dX10_allGuiltyWith_49 rfl (by decide) (by decide) rfl ?_
      refine g_goto (tgt := 2) dX10_allGuiltyWith_52 (by decide) ?_
      refine g_go (ih M1 ⟨hI.1, ?_⟩) ⟨rfl, rfl, rfl, by rw [← nI_1 i]; rfl, trivial⟩
      show (allG M EV q b i && (!q.testBit i || _)) = true
      rw [hI.2, hbt]
      rfl
    · have hbt : q.testBit i = true := (bt_is1 (by omega) (by omega)).mp h19
      have hd2 := c_deedsOf_now (X := X) (d := d) hx hL1 (hI.1.town scr0_town hT) (LeftOK_fr (e25 hI.1) hl) (show i < 6 by omega)
      rw [ds_fr hI.1] at hd2
      refine g_aload_n dX10_allGuiltyWith_22 rfl rfl rfl ?_
      refine g_getR dX10_allGuiltyWith_23 ff_X10_40 rfl (k0 hL1) (r0_4 hL1) rfl ?_
      refine g_aload_n dX10_allGuiltyWith_26 rfl rfl rfl ?_
      refine g_getR dX10_allGuiltyWith_27 ff_X10_58 rfl (k0 hL1) (r0_8 hL1) rfl ?_
      refine g_iload_n dX10_allGuiltyWith_30 rfl rfl rfl ?_
      refine g_iload_n dX10_allGuiltyWith_31 rfl rfl rfl ?_
      refine g_aload_n dX10_allGuiltyWith_32 rfl rfl rfl ?_
      refine g_getR dX10_allGuiltyWith_33 ff_X10_58 rfl (k0 hL1) (r0_8 hL1) rfl ?_
      refine g_iload_n dX10_allGuiltyWith_36 rfl rfl rfl ?_
      refine g_callVdi (ci := 4) dX10_allGuiltyWith_37 lm_X10_239 mv_X4_deedsOf (hd2) rfl rfl (k24 hL1) rfl rfl (Nat.le_of_ble_eq_true rfl) (gFit_room (by omega)) rfl ?_
      refine g_ior dX10_allGuiltyWith_40 rfl ?_
      rw [fa_or]
      refine g_callVq (ci := 0) dX10_allGuiltyWith_41 lm_X10_242 mv_X0_isGuilty (c_gub (d := d) hx hL0 hT hC hI.1 (show i < 6 by omega) (bt_orlt hb (dset_lt hT 25 i 0))) rfl rfl (k20 hL1) rfl rfl (Nat.le_of_ble_eq_true rfl) (gFit_room (by omega)) rfl (fun v M2 hQ => ?_)
      obtain ⟨rfl, hf⟩ := hQ
      refine g_ine (tgt := 49) dX10_allGuiltyWith_44 (by decide) rfl (fun q44 => ?_) (fun q44 => ?_)
      · refine g_iincV (c := 1) dX10_allGuiltyWith_49 rfl (by decide) (by decide) rfl ?_
        refine g_goto (tgt := 2) dX10_allGuiltyWith_52 (by decide) ?_
        refine g_go (ih M2 ⟨hf, ?_⟩) ⟨rfl, rfl, rfl, by rw [← nI_1 i]; rfl, trivial⟩
        show (allG M EV q b i && (!q.testBit i || gub M EV i (b ||| dset M 25 i 0))) = true
        rw [hI.2, q44, hbt]
        rfl
      · refine g_iconst (v := 0) dX10_allGuiltyWith_47 (by decide) rfl ?_
        have hg : gub M EV i (b ||| dset M 25 i 0) = false := by cases hz : gub M EV i (b ||| dset M 25 i 0) with
          | false => rfl
          | true => exact absurd hz q44
        exact g_iret dX10_allGuiltyWith_48 rfl rfl ⟨congrArg (fun z => some (Value.int z)) (ib_f (fun z => by rw [allG_false (i := i) (by rw [hbt, hg]; rfl) _ hi] at z; cases z)).symm, hf⟩
/-- the trade: the first deed -/
def trad (M : gM) (EV : EVt) (p o e : Nat) : Bool := ((dset M 25 p 0).testBit e && !(dset M 25 o 0).testBit e) && (gub M EV p (bdif (dset M 25 p 0) (2 ^ e)) && gub M EV o (dset M 25 o 0 ||| 2 ^ e))
end G3
