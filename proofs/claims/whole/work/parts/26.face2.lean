theorem bt_andn (a b : Nat) : nI a &&& (nI b ^^^ (-1)) = nI (a ^^^ (a &&& b)) := by
  apply Int32.toBitVec_inj.mp
  apply BitVec.eq_of_getLsbD_eq
  intro i hi
  have e1 : (nI a).toBitVec = BitVec.ofNat 32 a := rfl
  have e2 : (nI b).toBitVec = BitVec.ofNat 32 b := rfl
  have e3 : (nI (a ^^^ (a &&& b))).toBitVec = BitVec.ofNat 32 (a ^^^ (a &&& b)) := rfl
  have e4 : (-1 : Int32).toBitVec = BitVec.allOnes 32 := by decide
  rw [Int32.toBitVec_and, Int32.toBitVec_xor, e1, e2, e3, e4, BitVec.getLsbD_and, BitVec.getLsbD_xor, BitVec.getLsbD_ofNat, BitVec.getLsbD_ofNat, BitVec.getLsbD_ofNat, BitVec.getLsbD_allOnes, Nat.testBit_xor, Nat.testBit_and]
  cases a.testBit i <;> cases b.testBit i <;> simp [hi]
theorem bt_orlt {a b : Nat} (ha : a < 256) (hb : b < 256) : a ||| b < 256 := Nat.or_lt_two_pow (n := 8) ha hb
theorem bt_andlt {a b : Nat} (ha : a < 256) : a &&& b < 256 := Nat.lt_of_le_of_lt Nat.and_le_left ha
theorem bt_xorlt {a b : Nat} (ha : a < 256) (hb : b < 256) : a ^^^ b < 256 := Nat.xor_lt_two_pow (n := 8) ha hb
/-- a without b -/
def bdif (a b : Nat) : Nat := a ^^^ (a &&& b)
theorem bdif_lt {a b : Nat} (ha : a < 256) : bdif a b < 256 := bt_xorlt ha (bt_andlt ha)
section G2
variable {X : gX} {M : gM} {d : Nat}
set_option maxRecDepth 20000 in
theorem c_owners (hx : gXok X) (hL : gLay M) (hT : TownOK M) {x : Int32} : gDet X (d + 1) yX10_owners cX10_owners 4 (some .int) [.ref 0, .int x] M (some (.int (if inD M x then nI (bsum (fun p => decide (¬ gmi M 25 (12 + p * 8 + tn x) ≤ 0)) (tv M 3 7)) else -1))) M := by
  have h6 := hT.1.2
  have h8 := hT.2.1.2
  refine gMet.of hx (by decide) (Nat.le_of_ble_eq_true rfl) ?_
  refine g_aload_n dX10_owners_0 rfl rfl rfl ?_
  refine g_getR dX10_owners_1 ff_X10_19 rfl (k0 hL) (r0_1 hL) rfl ?_
  refine g_iload_n dX10_owners_4 rfl rfl rfl ?_
  refine g_callVdi (ci := 8) dX10_owners_5 lm_X10_181 mv_X8_hasDeed (c_hasDeed (d := d) hx hL) rfl rfl (k3 hL) rfl rfl (Nat.le_of_ble_eq_true rfl) (gFit_room (by omega)) rfl ?_
  refine g_ine (tgt := 13) dX10_owners_8 (by decide) rfl (fun q8 => ?_) (fun q8 => ?_)
  · obtain ⟨ex, hx8⟩ := in_row hT.2.1.1 (by omega) q8
    rw [if_pos q8]
    generalize hk : tn x = k at ex hx8
    subst ex
    refine g_iconst (v := 0) dX10_owners_13 (by decide) rfl ?_
    refine g_istore_n dX10_owners_14 rfl (by decide) rfl ?_
    refine g_iconst (v := 0) dX10_owners_15 (by decide) rfl ?_
    refine g_istore_n dX10_owners_16 rfl (by decide) rfl ?_
    refine g_loop (fun i => [(0, .ref 0), (1, .int (nI k)), (2, .int (nI (bsum (fun p => decide (¬ gmi M 25 (12 + p * 8 + k) ≤ 0)) i))), (3, .int (nI i))]) (fun _ => M) (tv M 3 7) 0 (by omega) ⟨rfl, rfl, rfl, rfl, trivial⟩ rfl ?_ (fun i _ hi ih => ?_)
    · refine g_iload_n dX10_owners_17 rfl rfl rfl ?_
      refine g_aload_n dX10_owners_18 rfl rfl rfl ?_
      refine g_getR dX10_owners_19 ff_X10_19 rfl (k0 hL) (r0_1 hL) rfl ?_
      refine g_getI dX10_owners_22 ff_X10_141 rfl (k3 hL) rfl ?_
      refine g_icmp_ge (tgt := 52) dX10_owners_25 (by decide) rfl (fun _ => ?_) (fun h_ => absurd (by rw [hT.1.1]; exact nI_le (by omega) (by omega)) h_)
      refine g_iload_n dX10_owners_52 rfl rfl rfl ?_
      exact g_iret dX10_owners_53 rfl rfl ⟨rfl, rfl⟩
    · refine g_iload_n dX10_owners_17 rfl rfl rfl ?_
      refine g_aload_n dX10_owners_18 rfl rfl rfl ?_
      refine g_getR dX10_owners_19 ff_X10_19 rfl (k0 hL) (r0_1 hL) rfl ?_
      refine g_getI dX10_owners_22 ff_X10_141 rfl (k3 hL) rfl ?_
      refine g_icmp_ge (tgt := 52) dX10_owners_25 (by decide) rfl (fun h_ => absurd h_ (by rw [hT.1.1]; exact nI_ge (by omega) (by omega))) (fun _ => ?_)
      refine g_aload_n dX10_owners_28 rfl rfl rfl ?_
      refine g_getR dX10_owners_29 ff_X10_58 rfl (k0 hL) (r0_8 hL) rfl ?_
      refine g_iload_n dX10_owners_32 rfl rfl rfl ?_
      refine g_iload_n dX10_owners_33 rfl rfl rfl ?_
      refine g_callVdi (ci := 4) dX10_owners_34 lm_X10_197 mv_X4_leftOf (c_leftOf_now (d := d) hx hL (show i < 6 by omega) (show k < 8 by omega)) rfl rfl (k24 hL) rfl rfl (Nat.le_of_ble_eq_true rfl) (gFit_room (by omega)) rfl ?_
      refine g_if_le (tgt := 46) dX10_owners_37 (by decide) rfl (fun h37 => ?_) (fun h37 => ?_)
      · refine g_iincV (c := 1) dX10_owners_46 rfl (by decide) (by decide) rfl ?_
        refine g_goto (tgt := 17) dX10_owners_49 (by decide) ?_
        refine g_go ih ⟨rfl, rfl, ?_, by rw [← nI_1 i]; rfl, trivial⟩
        have e : decide (¬ gmi M 25 (12 + i * 8 + k) ≤ 0) = false := decide_eq_false (fun q => q h37)
        show some (Value.int (nI (bsum _ i))) = some (Value.int (nI (bsum (fun p => decide (¬ gmi M 25 (12 + p * 8 + k) ≤ 0)) i + (if decide (¬ gmi M 25 (12 + i * 8 + k) ≤ 0) then 2 ^ i else 0))))
        rw [e]
        rfl
      · refine g_iload_n dX10_owners_40 rfl rfl rfl ?_
        refine g_iconst (v := 1) dX10_owners_41 (by decide) rfl ?_
        refine g_iload_n dX10_owners_42 rfl rfl rfl ?_
        refine g_ishl dX10_owners_43 rfl ?_
        refine g_ior dX10_owners_44 rfl ?_
        refine g_istore_n dX10_owners_45 rfl (by decide) rfl ?_
        refine g_iincV (c := 1) dX10_owners_46 rfl (by decide) (by decide) rfl ?_
        refine g_goto (tgt := 17) dX10_owners_49 (by decide) ?_
        refine g_go ih ⟨rfl, rfl, ?_, by rw [← nI_1 i]; rfl, trivial⟩
        have e : decide (¬ gmi M 25 (12 + i * 8 + k) ≤ 0) = true := decide_eq_true h37
        show some (Value.int (nI (bsum (fun p => decide (¬ gmi M 25 (12 + p * 8 + k) ≤ 0)) i) ||| ((1 : Int32) <<< (nI i &&& 31)))) = some (Value.int (nI (bsum (fun p => decide (¬ gmi M 25 (12 + p * 8 + k) ≤ 0)) i + (if decide (¬ gmi M 25 (12 + i * 8 + k) ≤ 0) then 2 ^ i else 0))))
        rw [bt_or (bsum_lt _ i) (by omega), e]
        rfl
  · refine g_iconst (v := -1) dX10_owners_11 (by decide) rfl ?_
    exact g_iret dX10_owners_12 rfl rfl ⟨by rw [if_neg q8], rfl⟩
set_option maxRecDepth 20000 in
theorem c_daysToWish (hx : gXok X) (hL : gLay M) {p : Nat} (hp : p < 6) : gDet X (d + 1) yX10_daysToWish cX10_daysToWish 2 (some .int) [.ref 0, .int (nI p)] M (some (.int (ifmod (gmi M 6 p - gmi M 25 66) 7))) M := by
  refine gMet.of hx (by decide) (Nat.le_of_ble_eq_true rfl) ?_
  refine g_aload_n dX10_daysToWish_0 rfl rfl rfl ?_
  refine g_getR dX10_daysToWish_1 ff_X10_19 rfl (k0 hL) (r0_1 hL) rfl ?_
  refine g_getR dX10_daysToWish_4 ff_X10_172 rfl (k3 hL) (r3_2 hL) rfl ?_
  refine g_iload_n dX10_daysToWish_7 rfl rfl rfl ?_
  refine g_iald (i := p) dX10_daysToWish_8 (k6 hL) (l6 hL) (by (try simp only [nI_lit, pk_mul, nI_add, Nat.zero_add]); exact nI_toInt (by omega)) (by omega) rfl ?_
  refine g_aload_n dX10_daysToWish_9 rfl rfl rfl ?_
  refine g_getR dX10_daysToWish_10 ff_X10_58 rfl (k0 hL) (r0_8 hL) rfl ?_
  refine g_bipush (v := 66) dX10_daysToWish_13 (by decide) rfl ?_
  refine g_callVdi (ci := 4) dX10_daysToWish_15 lm_X10_254 mv_X4_get (c_get_now (d := d) (i := 66) hx hL (by decide)) rfl rfl (k24 hL) rfl rfl (Nat.le_of_ble_eq_true rfl) (gFit_room (by omega)) rfl ?_
  refine g_isub dX10_daysToWish_18 rfl ?_
  refine g_bipush (v := 7) dX10_daysToWish_19 (by decide) rfl ?_
  refine g_callSdi dX10_daysToWish_21 lm_X10_383 mv_J9_floorMod_7cf53 (c_floorMod (d := d) hx (by decide)) rfl rfl (Nat.le_of_ble_eq_true rfl) (gFit_room (by omega)) rfl ?_
  exact g_iret dX10_daysToWish_24 rfl rfl ⟨rfl, rfl⟩
set_option maxRecDepth 20000 in
theorem c_wish (hx : gXok X) (hL : gLay M) (hT : TownOK M) {x : Int32} : gDet X (d + 2) yX10_wish cX10_wish 2 (some .int) [.ref 0, .int x] M (some (.int (if inP M x then ifmod (gmi M 6 (tn x) - gmi M 25 66) 7 else -1))) M := by
  refine gMet.of hx (by decide) (Nat.le_of_ble_eq_true rfl) ?_
  refine g_aload_n dX10_wish_0 rfl rfl rfl ?_
  refine g_getR dX10_wish_1 ff_X10_19 rfl (k0 hL) (r0_1 hL) rfl ?_
  refine g_iload_n dX10_wish_4 rfl rfl rfl ?_
  refine g_callVdi (ci := 8) dX10_wish_5 lm_X10_158 mv_X8_hasPerson (c_hasPerson (d := d) hx hL) rfl rfl (k3 hL) rfl rfl (Nat.le_of_ble_eq_true rfl) (gFit_room (by omega)) rfl ?_
  refine g_ieq (tgt := 19) dX10_wish_8 (by decide) rfl (fun q8 => ?_) (fun q8 => ?_)
  · refine g_iconst (v := -1) dX10_wish_19 (by decide) rfl ?_
    exact g_iret dX10_wish_20 rfl rfl ⟨by rw [if_neg q8], rfl⟩
  · obtain ⟨ex, hx6⟩ := in_row hT.1.1 (by have := hT.1.2; omega) q8
    have := hT.1.2
    rw [if_pos q8]
    generalize hk : tn x = k at ex hx6
    subst ex
    refine g_aload_n dX10_wish_11 rfl rfl rfl ?_
    refine g_iload_n dX10_wish_12 rfl rfl rfl ?_
    refine g_callVdi (ci := 10) dX10_wish_13 lm_X10_380 mv_X10_daysToWish (c_daysToWish (d := d) hx hL (show k < 6 by omega)) rfl rfl (k0 hL) rfl rfl (Nat.le_of_ble_eq_true rfl) (gFit_room (by omega)) rfl ?_
    refine g_goto (tgt := 20) dX10_wish_16 (by decide) ?_
    exact g_iret dX10_wish_20 rfl rfl ⟨rfl, rfl⟩
/-- the guilt of all together -/
def guAll (M : gM) : Nat → Nat
  | 0 => 0
  | n + 1 => guAll M n + heft M (dset M 25 n 0)
theorem heft_le (hT : TownOK M) (b : Nat) : heft M b ≤ 72 := Nat.le_trans (ssum_le (fun k hk => (hT.2.2.1 k (by have := hT.2.1.2; omega)).2)) (by have := hT.2.1.2; omega)
theorem guAll_le (hT : TownOK M) : ∀ n, guAll M n ≤ n * 72
  | 0 => Nat.le_refl _
  | n + 1 => by have h := guAll_le hT n; have h2 := heft_le hT (dset M 25 n 0); show guAll M n + heft M (dset M 25 n 0) ≤ (n + 1) * 72; omega
set_option maxRecDepth 20000 in
theorem c_shares (hx : gXok X) (hL : gLay M) (hT : TownOK M) (hl : LeftOK M 25) {x z : Int32} : gDet X (d + 4) yX10_shares cX10_shares 5 (some .int) [.ref 0, .int x, .int z] M (some (.int (if inP M x ∧ ¬ z < 0 ∧ z ≤ 999 then (if guAll M (tv M 3 7) = 0 then 0 else z * nI (heft M (dset M 25 (tn x) 0)) / nI (guAll M (tv M 3 7))) else -1))) M := by
  have h6 := hT.1.2
  refine gMet.of hx (by decide) (Nat.le_of_ble_eq_true rfl) ?_
  refine g_aload_n dX10_shares_0 rfl rfl rfl ?_
  refine g_getR dX10_shares_1 ff_X10_19 rfl (k0 hL) (r0_1 hL) rfl ?_
  refine g_iload_n dX10_shares_4 rfl rfl rfl ?_
  refine g_callVdi (ci := 8) dX10_shares_5 lm_X10_158 mv_X8_hasPerson (c_hasPerson (d := d) hx hL) rfl rfl (k3 hL) rfl rfl (Nat.le_of_ble_eq_true rfl) (gFit_room (by omega)) rfl ?_
  refine g_ieq (tgt := 22) dX10_shares_8 (by decide) rfl (fun q8 => ?_) (fun q8 => ?_)
  · refine g_iconst (v := -1) dX10_shares_22 (by decide) rfl ?_
    exact g_iret dX10_shares_23 rfl rfl ⟨by rw [if_neg (fun q => q8 q.1)], rfl⟩
  · refine g_iload_n dX10_shares_11 rfl rfl rfl ?_
    refine g_if_lt (tgt := 22) dX10_shares_12 (by decide) rfl (fun h12 => ?_) (fun h12 => ?_)
    · refine g_iconst (v := -1) dX10_shares_22 (by decide) rfl ?_
      exact g_iret dX10_shares_23 rfl rfl ⟨by rw [if_neg (fun q => q.2.1 h12)], rfl⟩
    · refine g_iload_n dX10_shares_15 rfl rfl rfl ?_
      refine g_sipush (v := 999) dX10_shares_16 (by decide) rfl ?_
      refine g_icmp_le (tgt := 24) dX10_shares_19 (by decide) rfl (fun h19 => ?_) (fun h19 => ?_)
      · obtain ⟨ex, hx6⟩ := in_row hT.1.1 (by omega) q8
        rw [if_pos ⟨q8, h12, h19⟩]
        generalize hk : tn x = k at ex hx6
        subst ex
        refine g_iconst (v := 0) dX10_shares_24 (by decide) rfl ?_
        refine g_istore_n dX10_shares_25 rfl (by decide) rfl ?_
        refine g_iconst (v := 0) dX10_shares_26 (by decide) rfl ?_
        refine g_istore dX10_shares_27 (by decide) rfl ?_
        refine g_loop (fun i => [(0, .ref 0), (1, .int (nI k)), (2, .int z), (3, .int (nI (guAll M i))), (4, .int (nI i))]) (fun _ => M) (tv M 3 7) 0 (by omega) ⟨rfl, rfl, rfl, rfl, rfl, trivial⟩ rfl ?_ (fun i _ hi ih => ?_)
        · have hg := guAll_le hT (tv M 3 7)
          refine g_iload dX10_shares_29 rfl rfl ?_
          refine g_aload_n dX10_shares_31 rfl rfl rfl ?_
          refine g_getR dX10_shares_32 ff_X10_19 rfl (k0 hL) (r0_1 hL) rfl ?_
          refine g_getI dX10_shares_35 ff_X10_141 rfl (k3 hL) rfl ?_
          refine g_icmp_ge (tgt := 59) dX10_shares_38 (by decide) rfl (fun _ => ?_) (fun h_ => absurd (by rw [hT.1.1]; exact nI_le (by omega) (by omega)) h_)
          refine g_iload_n dX10_shares_59 rfl rfl rfl ?_
          refine g_if_ne (tgt := 67) dX10_shares_60 (by decide) rfl (fun h60 => ?_) (fun h60 => ?_)
          · have h0 : ¬ guAll M (tv M 3 7) = 0 := fun q => h60 (by rw [q]; rfl)
            rw [if_neg h0]
            refine g_iload_n dX10_shares_67 rfl rfl rfl ?_
            refine g_aload_n dX10_shares_68 rfl rfl rfl ?_
            refine g_getR dX10_shares_69 ff_X10_58 rfl (k0 hL) (r0_8 hL) rfl ?_
            refine g_iload_n dX10_shares_72 rfl rfl rfl ?_
            refine g_callVdi (ci := 4) dX10_shares_73 lm_X10_215 mv_X4_guiltOf (c_guiltOf_now (d := d) hx hL hT hl (show k < 6 by omega)) rfl rfl (k24 hL) rfl rfl (Nat.le_of_ble_eq_true rfl) (gFit_room (by omega)) rfl ?_
            refine g_imul dX10_shares_76 rfl ?_
            refine g_iload_n dX10_shares_77 rfl rfl rfl ?_
            refine g_idiv dX10_shares_78 h60 rfl ?_
            exact g_iret dX10_shares_79 rfl rfl ⟨rfl, rfl⟩
          · have h0 : guAll M (tv M 3 7) = 0 := (qeq _ 0 rfl rfl (by omega) (by omega)).mp h60
            rw [if_pos h0]
            refine g_iconst (v := 0) dX10_shares_63 (by decide) rfl ?_
            refine g_goto (tgt := 79) dX10_shares_64 (by decide) ?_
            exact g_iret dX10_shares_79 rfl rfl ⟨rfl, rfl⟩
        · refine g_iload dX10_shares_29 rfl rfl ?_
          refine g_aload_n dX10_shares_31 rfl rfl rfl ?_
          refine g_getR dX10_shares_32 ff_X10_19 rfl (k0 hL) (r0_1 hL) rfl ?_
          refine g_getI dX10_shares_35 ff_X10_141 rfl (k3 hL) rfl ?_
          refine g_icmp_ge (tgt := 59) dX10_shares_38 (by decide) rfl (fun h_ => absurd h_ (by rw [hT.1.1]; exact nI_ge (by omega) (by omega))) (fun _ => ?_)
          refine g_iload_n dX10_shares_41 rfl rfl rfl ?_
          refine g_aload_n dX10_shares_42 rfl rfl rfl ?_
          refine g_getR dX10_shares_43 ff_X10_58 rfl (k0 hL) (r0_8 hL) rfl ?_
          refine g_iload dX10_shares_46 rfl rfl ?_
          refine g_callVdi (ci := 4) dX10_shares_48 lm_X10_215 mv_X4_guiltOf (c_guiltOf_now (d := d) hx hL hT hl (show i < 6 by omega)) rfl rfl (k24 hL) rfl rfl (Nat.le_of_ble_eq_true rfl) (gFit_room (by omega)) rfl ?_
          refine g_iadd dX10_shares_51 rfl ?_
          refine g_istore_n dX10_shares_52 rfl (by decide) rfl ?_
          refine g_iincV (c := 1) dX10_shares_53 rfl (by decide) (by decide) rfl ?_
          refine g_goto (tgt := 29) dX10_shares_56 (by decide) ?_
          exact g_go ih ⟨rfl, rfl, rfl, by show some (Value.int (nI (guAll M i) + nI (heft M (dset M 25 i 0)))) = some (Value.int (nI (guAll M i + heft M (dset M 25 i 0)))); rw [nI_add], by rw [← nI_1 i]; rfl, trivial⟩
      · refine g_iconst (v := -1) dX10_shares_22 (by decide) rfl ?_
        exact g_iret dX10_shares_23 rfl rfl ⟨by rw [if_neg (fun q => h19 q.2.2)], rfl⟩
/-- the longest that is left -/
def mxL (M : gM) (p : Nat) (a : Int32) : Nat → Int32
  | 0 => a
  | n + 1 => imax (mxL M p a n) (gmi M 25 (12 + p * 8 + n))
def mxP (M : gM) : Nat → Int32
  | 0 => 0
  | n + 1 => mxL M n (mxP M n) (tv M 3 8)
set_option maxRecDepth 20000 in
theorem c_clean (hx : gXok X) (hL : gLay M) (hT : TownOK M) : gDet X (d + 1) yX10_clean cX10_clean 4 (some .int) [.ref 0] M (some (.int (if gmi M 3 7 = 0 then -1 else mxP M (tv M 3 7)))) M := by
  have h6 := hT.1.2
  have h8 := hT.2.1.2
  refine gMet.of hx (by decide) (Nat.le_of_ble_eq_true rfl) ?_
  refine g_aload_n dX10_clean_0 rfl rfl rfl ?_
  refine g_callVdi (ci := 10) dX10_clean_1 lm_X10_250 mv_X10_noTown (c_noTown (d := d) hx hL) rfl rfl (k0 hL) rfl rfl (Nat.le_of_ble_eq_true rfl) (gFit_room (by omega)) rfl ?_
  refine g_ieq (tgt := 9) dX10_clean_4 (by decide) rfl (fun q4 => ?_) (fun q4 => ?_)
  · rw [if_neg q4]
    refine g_iconst (v := 0) dX10_clean_9 (by decide) rfl ?_
    refine g_istore_n dX10_clean_10 rfl (by decide) rfl ?_
    refine g_iconst (v := 0) dX10_clean_11 (by decide) rfl ?_
    refine g_istore_n dX10_clean_12 rfl (by decide) rfl ?_
    refine g_loop (fun i => [(0, .ref 0), (1, .int (mxP M i)), (2, .int (nI i))]) (fun _ => M) (tv M 3 7) 0 (by omega) ⟨rfl, rfl, rfl, trivial⟩ rfl ?_ (fun i _ hi ih => ?_)
    · refine g_iload_n dX10_clean_13 rfl rfl rfl ?_
      refine g_aload_n dX10_clean_14 rfl rfl rfl ?_
      refine g_getR dX10_clean_15 ff_X10_19 rfl (k0 hL) (r0_1 hL) rfl ?_
      refine g_getI dX10_clean_18 ff_X10_141 rfl (k3 hL) rfl ?_
      refine g_icmp_ge (tgt := 63) dX10_clean_21 (by decide) rfl (fun _ => ?_) (fun h_ => absurd (by rw [hT.1.1]; exact nI_le (by omega) (by omega)) h_)
      refine g_iload_n dX10_clean_63 rfl rfl rfl ?_
      exact g_iret dX10_clean_64 rfl rfl ⟨rfl, rfl⟩
    · refine g_iload_n dX10_clean_13 rfl rfl rfl ?_
      refine g_aload_n dX10_clean_14 rfl rfl rfl ?_
      refine g_getR dX10_clean_15 ff_X10_19 rfl (k0 hL) (r0_1 hL) rfl ?_
      refine g_getI dX10_clean_18 ff_X10_141 rfl (k3 hL) rfl ?_
      refine g_icmp_ge (tgt := 63) dX10_clean_21 (by decide) rfl (fun h_ => absurd h_ (by rw [hT.1.1]; exact nI_ge (by omega) (by omega))) (fun _ => ?_)
      refine g_iconst (v := 0) dX10_clean_24 (by decide) rfl ?_
      refine g_istore_n dX10_clean_25 rfl (by decide) rfl ?_
      refine g_loop (fun j => [(0, .ref 0), (1, .int (mxL M i (mxP M i) j)), (2, .int (nI i)), (3, .int (nI j))]) (fun _ => M) (tv M 3 8) 0 (by omega) ⟨rfl, rfl, rfl, rfl, trivial⟩ rfl ?_ (fun j _ hj jh => ?_)
      · refine g_iload_n dX10_clean_26 rfl rfl rfl ?_
        refine g_aload_n dX10_clean_27 rfl rfl rfl ?_
        refine g_getR dX10_clean_28 ff_X10_19 rfl (k0 hL) (r0_1 hL) rfl ?_
        refine g_getI dX10_clean_31 ff_X10_283 rfl (k3 hL) rfl ?_
        refine g_icmp_ge (tgt := 57) dX10_clean_34 (by decide) rfl (fun _ => ?_) (fun h_ => absurd (by rw [hT.2.1.1]; exact nI_le (by omega) (by omega)) h_)
        refine g_iincV (c := 1) dX10_clean_57 rfl (by decide) (by decide) rfl ?_
        refine g_goto (tgt := 13) dX10_clean_60 (by decide) ?_
        exact g_go ih ⟨rfl, rfl, by rw [← nI_1 i]; rfl, trivial⟩
      · refine g_iload_n dX10_clean_26 rfl rfl rfl ?_
        refine g_aload_n dX10_clean_27 rfl rfl rfl ?_
        refine g_getR dX10_clean_28 ff_X10_19 rfl (k0 hL) (r0_1 hL) rfl ?_
        refine g_getI dX10_clean_31 ff_X10_283 rfl (k3 hL) rfl ?_
        refine g_icmp_ge (tgt := 57) dX10_clean_34 (by decide) rfl (fun h_ => absurd h_ (by rw [hT.2.1.1]; exact nI_ge (by omega) (by omega))) (fun _ => ?_)
        refine g_iload_n dX10_clean_37 rfl rfl rfl ?_
        refine g_aload_n dX10_clean_38 rfl rfl rfl ?_
        refine g_getR dX10_clean_39 ff_X10_58 rfl (k0 hL) (r0_8 hL) rfl ?_
        refine g_iload_n dX10_clean_42 rfl rfl rfl ?_
        refine g_iload_n dX10_clean_43 rfl rfl rfl ?_
        refine g_callVdi (ci := 4) dX10_clean_44 lm_X10_197 mv_X4_leftOf (c_leftOf_now (d := d) hx hL (show i < 6 by omega) (show j < 8 by omega)) rfl rfl (k24 hL) rfl rfl (Nat.le_of_ble_eq_true rfl) (gFit_room (by omega)) rfl ?_
        refine g_callSdi dX10_clean_47 lm_X10_342 mv_J9_max_7cf53 (c_max (d := d) hx) rfl rfl (Nat.le_of_ble_eq_true rfl) (gFit_room (by omega)) rfl ?_
        refine g_istore_n dX10_clean_50 rfl (by decide) rfl ?_
        refine g_iincV (c := 1) dX10_clean_51 rfl (by decide) (by decide) rfl ?_
        refine g_goto (tgt := 26) dX10_clean_54 (by decide) ?_
        exact g_go jh ⟨rfl, rfl, rfl, by rw [← nI_1 j]; rfl, trivial⟩
  · refine g_iconst (v := -1) dX10_clean_7 (by decide) rfl ?_
    exact g_iret dX10_clean_8 rfl rfl ⟨by rw [if_pos q4], rfl⟩
end G2
