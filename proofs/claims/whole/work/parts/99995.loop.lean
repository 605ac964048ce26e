section K2
variable {X : gX} {R : Room} {Z : gZt} {M : gM} {bc bs i n : Nat} {xs : Nat → Int32}
theorem and63 (x : Int32) : ∃ j, j < 64 ∧ x &&& 63 = nI j := by
  refine ⟨x.toBitVec.toNat &&& 63, Nat.lt_of_le_of_lt Nat.and_le_right (by decide), ?_⟩
  apply Int32.toBitVec_inj.mp
  apply BitVec.eq_of_toNat_eq
  have h1 : x.toBitVec.toNat &&& 63 < 2 ^ 32 := Nat.lt_of_le_of_lt Nat.and_le_right (by decide)
  show (x.toBitVec &&& 63#32).toNat = (BitVec.ofNat 32 (x.toBitVec.toNat &&& 63)).toNat
  rw [BitVec.toNat_and, BitVec.toNat_ofNat, BitVec.toNat_ofNat, Nat.mod_eq_of_lt h1]
theorem sub6 {i n : Nat} (hn : n ≤ 3072) (hi : i ≤ 3078) : ¬ (nI n - 6 < nI i) ↔ i + 6 ≤ n := by
  have h1 : (nI n - 6).toInt = (n : Int) - 6 := by
    rw [Int32.toInt_sub, nI_toInt (by omega), show (6 : Int32).toInt = 6 from rfl]
    exact Int.bmod_eq_of_le (by omega) (by omega)
  rw [Int32.lt_iff_toInt_lt, h1, nI_toInt (by omega)]
  omega
/-- what person's turn owes -/
def LPe (X : gX) (R : Room) (Z : gZt) (n : Nat) : Prop := ∀ (i bc bs : Nat) (M : gM), i + 6 ≤ n → 5 ≤ bc → 433 ≤ bs → LK X R Z i (bc - 5) (bs - 433) → Inv M → gW X R Z gNt yL_law cL_law 7 (some .boolean) 364 (lvL i) [] M bc bs
theorem law_sw (hx : gXok X) (hZ : gSt X) (hW : gNw X) (hP : LPe X R Z n) (hS : gSc X n xs) (h6 : i + 6 ≤ n) (hn : n ≤ 3072) (hf : gFit 100 R) (hb : 5 ≤ bc) (hs : 433 ≤ bs) (k : LK X R Z i (bc - 5) (bs - 433)) (hI : Inv M) : ∀ j, j < 64 → gW X R Z gNt yL_law cL_law 7 (some .boolean) 40 (lvL i) [.int (nI j)] M bc bs
  | 0, _ => g_tableIn (off := 176) (tgt := 216) dL_law_40 (by decide) (by decide) rfl rfl (law_0 hx hZ hW hS h6 hn hf hb hs k hI)
  | 1, _ => g_tableIn (off := 249) (tgt := 289) dL_law_40 (by decide) (by decide) rfl rfl (law_1 hx hZ hW hS h6 hn hf hb hs k hI)
  | 2, _ => g_tableIn (off := 274) (tgt := 314) dL_law_40 (by decide) (by decide) rfl rfl (law_2 hx hZ hW hS h6 hn hf hb hs k hI)
  | 3, _ => g_tableIn (off := 299) (tgt := 339) dL_law_40 (by decide) (by decide) rfl rfl (law_3 hx hZ hW hS h6 hn hf hb hs k hI)
  | 4, _ => g_tableIn (off := 324) (tgt := 364) dL_law_40 (by decide) (by decide) rfl rfl (hP i bc bs M h6 hb hs k hI)
  | 5, _ => g_tableIn (off := 392) (tgt := 432) dL_law_40 (by decide) (by decide) rfl rfl (law_5 hx hZ hW hS h6 hn hf hb hs k hI)
  | 6, _ => g_tableIn (off := 429) (tgt := 469) dL_law_40 (by decide) (by decide) rfl rfl (law_6 hx hZ hW hS h6 hn hf hb hs k hI)
  | 7, _ => g_tableIn (off := 466) (tgt := 506) dL_law_40 (by decide) (by decide) rfl rfl (law_7 hx hZ hW hS h6 hn hf hb hs k hI)
  | 8, _ => g_tableIn (off := 491) (tgt := 531) dL_law_40 (by decide) (by decide) rfl rfl (law_8 hx hZ hW hS h6 hn hf hb hs k hI)
  | 9, _ => g_tableIn (off := 516) (tgt := 556) dL_law_40 (by decide) (by decide) rfl rfl (law_9 hx hZ hW hS h6 hn hf hb hs k hI)
  | 10, _ => g_tableIn (off := 553) (tgt := 593) dL_law_40 (by decide) (by decide) rfl rfl (law_10 hx hZ hW hS h6 hn hf hb hs k hI)
  | 11, _ => g_tableIn (off := 602) (tgt := 642) dL_law_40 (by decide) (by decide) rfl rfl (law_11 hx hZ hW hS h6 hn hf hb hs k hI)
  | 12, _ => g_tableIn (off := 639) (tgt := 679) dL_law_40 (by decide) (by decide) rfl rfl (law_12 hx hZ hW hS h6 hn hf hb hs k hI)
  | 13, _ => g_tableIn (off := 664) (tgt := 704) dL_law_40 (by decide) (by decide) rfl rfl (law_13 hx hZ hW hS h6 hn hf hb hs k hI)
  | 14, _ => g_tableIn (off := 689) (tgt := 729) dL_law_40 (by decide) (by decide) rfl rfl (law_14 hx hZ hW hS h6 hn hf hb hs k hI)
  | 15, _ => g_tableIn (off := 702) (tgt := 742) dL_law_40 (by decide) (by decide) rfl rfl (law_15 hx hZ hW hS h6 hn hf hb hs k hI)
  | 16, _ => g_tableIn (off := 771) (tgt := 811) dL_law_40 (by decide) (by decide) rfl rfl (law_16 hx hZ hW hS h6 hn hf hb hs k hI)
  | 17, _ => g_tableIn (off := 784) (tgt := 824) dL_law_40 (by decide) (by decide) rfl rfl (law_17 hx hZ hW hS h6 hn hf hb hs k hI)
  | 18, _ => g_tableIn (off := 821) (tgt := 861) dL_law_40 (by decide) (by decide) rfl rfl (law_18 hx hZ hW hS h6 hn hf hb hs k hI)
  | 19, _ => g_tableIn (off := 870) (tgt := 910) dL_law_40 (by decide) (by decide) rfl rfl (law_19 hx hZ hW hS h6 hn hf hb hs k hI)
  | 20, _ => g_tableIn (off := 907) (tgt := 947) dL_law_40 (by decide) (by decide) rfl rfl (law_20 hx hZ hW hS h6 hn hf hb hs k hI)
  | 21, _ => g_tableIn (off := 932) (tgt := 972) dL_law_40 (by decide) (by decide) rfl rfl (law_21 hx hZ hW hS h6 hn hf hb hs k hI)
  | 22, _ => g_tableIn (off := 969) (tgt := 1009) dL_law_40 (by decide) (by decide) rfl rfl (law_22 hx hZ hW hS h6 hn hf hb hs k hI)
  | 23, _ => g_tableIn (off := 1006) (tgt := 1046) dL_law_40 (by decide) (by decide) rfl rfl (law_23 hx hZ hW hS h6 hn hf hb hs k hI)
  | 24, _ => g_tableIn (off := 1043) (tgt := 1083) dL_law_40 (by decide) (by decide) rfl rfl (law_24 hx hZ hW hS h6 hn hf hb hs k hI)
  | 25, _ => g_tableIn (off := 1068) (tgt := 1108) dL_law_40 (by decide) (by decide) rfl rfl (law_25 hx hZ hW hS h6 hn hf hb hs k hI)
  | 26, _ => g_tableIn (off := 1081) (tgt := 1121) dL_law_40 (by decide) (by decide) rfl rfl (law_26 hx hZ hW hS h6 hn hf hb hs k hI)
  | 27, _ => g_tableIn (off := 1118) (tgt := 1158) dL_law_40 (by decide) (by decide) rfl rfl (law_27 hx hZ hW hS h6 hn hf hb hs k hI)
  | 28, _ => g_tableIn (off := 1183) (tgt := 1223) dL_law_40 (by decide) (by decide) rfl rfl (law_28 hx hZ hW hS h6 hn hf hb hs k hI)
  | 29, _ => g_tableIn (off := 1220) (tgt := 1260) dL_law_40 (by decide) (by decide) rfl rfl (law_29 hx hZ hW hS h6 hn hf hb hs k hI)
  | 30, _ => g_tableIn (off := 1245) (tgt := 1285) dL_law_40 (by decide) (by decide) rfl rfl (law_30 hx hZ hW hS h6 hn hf hb hs k hI)
  | 31, _ => g_tableIn (off := 1306) (tgt := 1346) dL_law_40 (by decide) (by decide) rfl rfl (law_31 hx hZ hW hS h6 hn hf hb hs k hI)
  | 32, _ => g_tableIn (off := 1343) (tgt := 1383) dL_law_40 (by decide) (by decide) rfl rfl (law_32 hx hZ hW hS h6 hn hf hb hs k hI)
  | 33, _ => g_tableIn (off := 1380) (tgt := 1420) dL_law_40 (by decide) (by decide) rfl rfl (law_33 hx hZ hW hS h6 hn hf hb hs k hI)
  | 34, _ => g_tableIn (off := 1417) (tgt := 1457) dL_law_40 (by decide) (by decide) rfl rfl (law_34 hx hZ hW hS h6 hn hf hb hs k hI)
  | 35, _ => g_tableIn (off := 1442) (tgt := 1482) dL_law_40 (by decide) (by decide) rfl rfl (law_35 hx hZ hW hS h6 hn hf hb hs k hI)
  | 36, _ => g_tableIn (off := 1467) (tgt := 1507) dL_law_40 (by decide) (by decide) rfl rfl (law_36 hx hZ hW hS h6 hn hf hb hs k hI)
  | 37, _ => g_tableIn (off := 1492) (tgt := 1532) dL_law_40 (by decide) (by decide) rfl rfl (law_37 hx hZ hW hS h6 hn hf hb hs k hI)
  | 38, _ => g_tableIn (off := 1505) (tgt := 1545) dL_law_40 (by decide) (by decide) rfl rfl (law_38 hx hZ hW hS h6 hn hf hb hs k hI)
  | 39, _ => g_tableIn (off := 1518) (tgt := 1558) dL_law_40 (by decide) (by decide) rfl rfl (law_39 hx hZ hW hS h6 hn hf hb hs k hI)
  | j + 40, h => g_tableOut (tgt := 1583) dL_law_40 (Or.inr (by rw [nI_toInt (by omega)]; omega)) rfl (g_less (by omega) (by omega) (k M hI))
theorem law_loop (hx : gXok X) (hZ : gSt X) (hW : gNw X) (hP : LPe X R Z n) (hS : gSc X n xs) (hn : n ≤ 3072) (hf : gFit 100 R) (he : ∀ (i bc bs : Nat) (M : gM), gW X R Z gNt yL_law cL_law 7 (some .boolean) 1590 (lvL i) [.int 1] M bc bs) : ∀ (t i : Nat) (M : gM), Inv M → i ≤ 3078 → n < i + 6 + 6 * t → gW X R Z gNt yL_law cL_law 7 (some .boolean) 23 (lvL i) [] M (5 * t) (433 * t) := by
  intro t
  induction t with
  | zero =>
    intro i M hI hi ht
    refine g_iload (x := nI i) dL_law_23 rfl rfl ?_
    refine g_aload_n (i := 0) (x := 5030) dL_law_25 rfl rfl rfl ?_
    refine g_tlen (v := nI n) dL_law_26 hS (by decide) rfl rfl ?_
    refine g_bipush (v := 6) dL_law_27 rfl rfl ?_
    refine g_isub dL_law_29 rfl ?_
    refine g_icmp_gt (tgt := 1589) dL_law_30 rfl rfl (fun _ => ?_) (fun h => absurd (sub6 hn hi |>.mp h) (by omega))
    refine g_iconst dL_law_1589 rfl rfl ?_
    exact he i _ _ M
  | succ t ih =>
    intro i M hI hi ht
    refine g_iload (x := nI i) dL_law_23 rfl rfl ?_
    refine g_aload_n (i := 0) (x := 5030) dL_law_25 rfl rfl rfl ?_
    refine g_tlen (v := nI n) dL_law_26 hS (by decide) rfl rfl ?_
    refine g_bipush (v := 6) dL_law_27 rfl rfl ?_
    refine g_isub dL_law_29 rfl ?_
    refine g_icmp_gt (tgt := 1589) dL_law_30 rfl rfl (fun _ => ?_) (fun h => ?_)
    · refine g_iconst dL_law_1589 rfl rfl ?_
      exact he i _ _ M
    · have h6 : i + 6 ≤ n := (sub6 hn hi).mp h
      refine g_aload_n (i := 0) (x := 5030) dL_law_33 rfl rfl rfl ?_
      refine g_iload (x := nI i) dL_law_34 rfl rfl ?_
      refine g_tald (v := xs i) dL_law_36 hS (by decide) (nI_toInt (by omega)) (by omega) rfl rfl ?_
      refine g_bipush (v := 63) dL_law_37 rfl rfl ?_
      refine g_iand dL_law_39 rfl ?_
      obtain ⟨j, hj, ej⟩ := and63 (xs i)
      rw [ej]
      refine law_sw hx hZ hW hP hS h6 hn hf (by omega) (by omega) (fun M2 hI2 => ?_) hI j hj
      refine g_iinc (x := nI i) (v := nI (i + 6)) dL_law_1583 rfl (by rw [show Int32.ofInt 6 = nI 6 from rfl, nI_add]) (by decide) rfl ?_
      refine g_goto (tgt := 23) dL_law_1586 rfl ?_
      exact g_lv (lvL (i + 6)) ⟨rfl, rfl, rfl, rfl, rfl, trivial⟩ (g_less (by omega) (by omega) (ih (i + 6) M2 hI2 (by omega) (by omega)))
end K2
