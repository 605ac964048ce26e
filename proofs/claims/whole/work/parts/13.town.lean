section T0
variable {X : gX} {R : Room} {Z : gZt} {N : Nat → Prop} {y : MethodName} {cc : ByteArray} {nL : Nat} {ret : Option FieldType} {pc : Nat} {lv : List (Nat × Value)} {st : List Value} {M : gM} {bc bs d : Nat}
theorem g_go {lv2 : List (Nat × Value)} (k : gW X R Z N y cc nL ret pc lv2 st M bc bs) (h : gLs lv lv2) : gW X R Z N y cc nL ret pc lv st M bc bs := g_lv lv2 h k
theorem g_for (P : Nat → Prop) (n : Nat) (hn : P n) (hs : ∀ i, i < n → P (i + 1) → P i) : ∀ k i, i + k = n → P i
  | 0, i, h => by rw [show i = n by omega]; exact hn
  | k + 1, i, h => hs i (by omega) (g_for P n hn hs k (i + 1) (by omega))
/-- a loop that counts from i0 to n: its locals and its memory at each count -/
theorem g_loop (LV : Nat → List (Nat × Value)) (MM : Nat → gM) (n i0 : Nat) (h0 : i0 ≤ n) (hlv : gLs lv (LV i0)) (hM : MM i0 = M) (hx : gW X R Z N y cc nL ret pc (LV n) st (MM n) bc bs) (hs : ∀ i, i0 ≤ i → i < n → gW X R Z N y cc nL ret pc (LV (i + 1)) st (MM (i + 1)) bc bs → gW X R Z N y cc nL ret pc (LV i) st (MM i) bc bs) : gW X R Z N y cc nL ret pc lv st M bc bs := by
  refine g_lv (LV i0) hlv ?_
  rw [← hM]
  have h := g_for (fun i => i0 ≤ i → gW X R Z N y cc nL ret pc (LV i) st (MM i) bc bs) n (fun _ => hx) (fun i hi ih h => hs i h hi (ih (by omega))) (n - i0) i0 (by omega)
  exact h (Nat.le_refl _)
set_option maxRecDepth 20000 in
theorem c_hasDeed (hx : gXok X) (hL : gLay M) {x : Int32} : gDet X (d + 0) yX8_hasDeed cX8_hasDeed 2 (some .boolean) [.ref 3, .int x] M (some (.int (if 0 ≤ x ∧ x < gmi M 3 8 then 1 else 0))) M := by
  refine gMet.of hx (by decide) (Nat.le_of_ble_eq_true rfl) ?_
  refine g_iload_n dX8_hasDeed_0 rfl rfl rfl ?_
  refine g_if_lt (tgt := 16) dX8_hasDeed_1 (by decide) rfl (fun h1 => ?_) (fun h1 => ?_)
  · refine g_iconst (v := 0) dX8_hasDeed_16 (by decide) rfl ?_
    exact g_iret dX8_hasDeed_17 rfl rfl ⟨by rw [if_neg (fun q => Int32.not_le.mpr h1 q.1)], rfl⟩
  · refine g_iload_n dX8_hasDeed_4 rfl rfl rfl ?_
    refine g_aload_n dX8_hasDeed_5 rfl rfl rfl ?_
    refine g_getI dX8_hasDeed_6 ff_X8_37 rfl (k3 hL) rfl ?_
    refine g_icmp_ge (tgt := 16) dX8_hasDeed_9 (by decide) rfl (fun h9 => ?_) (fun h9 => ?_)
    · refine g_iconst (v := 0) dX8_hasDeed_16 (by decide) rfl ?_
      exact g_iret dX8_hasDeed_17 rfl rfl ⟨by rw [if_neg (fun q => Int32.not_lt.mpr h9 q.2)], rfl⟩
    · refine g_iconst (v := 1) dX8_hasDeed_12 (by decide) rfl ?_
      refine g_goto (tgt := 17) dX8_hasDeed_13 (by decide) ?_
      exact g_iret dX8_hasDeed_17 rfl rfl ⟨by rw [if_pos ⟨Int32.not_lt.mp h1, Int32.not_le.mp h9⟩], rfl⟩
set_option maxRecDepth 20000 in
theorem c_weightOf (hx : gXok X) (hL : gLay M) {b : Nat} (hb : b < 256) (hD : okv M 3 8 8) (hh : ∀ k, k < 8 → okv M 7 k 9) : gDet X (d + 0) yX8_weightOf cX8_weightOf 4 (some .int) [.ref 3, .int (nI b)] M (some (.int (nI (ssum b (tv M 7) (tv M 3 8))))) M := by
  have h8 := hD.2
  refine gMet.of hx (by decide) (Nat.le_of_ble_eq_true rfl) ?_
  refine g_iconst (v := 0) dX8_weightOf_0 (by decide) rfl ?_
  refine g_istore_n dX8_weightOf_1 rfl (by decide) rfl ?_
  refine g_iconst (v := 0) dX8_weightOf_2 (by decide) rfl ?_
  refine g_istore_n dX8_weightOf_3 rfl (by decide) rfl ?_
  refine g_loop (fun i => [(0, .ref 3), (1, .int (nI b)), (2, .int (nI (ssum b (tv M 7) i))), (3, .int (nI i))]) (fun _ => M) (tv M 3 8) 0 (by omega) ⟨rfl, rfl, rfl, rfl, trivial⟩ rfl ?_ (fun i _ hi ih => ?_)
  · refine g_iload_n dX8_weightOf_4 rfl rfl rfl ?_
    refine g_aload_n dX8_weightOf_5 rfl rfl rfl ?_
    refine g_getI dX8_weightOf_6 ff_X8_37 rfl (k3 hL) rfl ?_
    refine g_icmp_ge (tgt := 36) dX8_weightOf_9 (by decide) rfl (fun _ => ?_) (fun h => absurd (by rw [hD.1]; exact nI_le (by omega) (by omega)) h)
    refine g_iload_n dX8_weightOf_36 rfl rfl rfl ?_
    exact g_iret dX8_weightOf_37 rfl rfl ⟨rfl, rfl⟩
  · refine g_iload_n dX8_weightOf_4 rfl rfl rfl ?_
    refine g_aload_n dX8_weightOf_5 rfl rfl rfl ?_
    refine g_getI dX8_weightOf_6 ff_X8_37 rfl (k3 hL) rfl ?_
    refine g_icmp_ge (tgt := 36) dX8_weightOf_9 (by decide) rfl (fun h => absurd h (by rw [hD.1]; exact nI_ge (by omega) (by omega))) (fun _ => ?_)
    refine g_iload_n dX8_weightOf_12 rfl rfl rfl ?_
    refine g_iload_n dX8_weightOf_13 rfl rfl rfl ?_
    refine g_ishr dX8_weightOf_14 rfl ?_
    refine g_iconst (v := 1) dX8_weightOf_15 (by decide) rfl ?_
    refine g_iand dX8_weightOf_16 rfl ?_
    refine g_iconst (v := 1) dX8_weightOf_17 (by decide) rfl ?_
    refine g_icmp_ne (tgt := 30) dX8_weightOf_18 (by decide) rfl (fun h18 => ?_) (fun h18 => ?_)
    · refine g_iincV (c := 1) dX8_weightOf_30 rfl (by decide) (by decide) rfl ?_
      refine g_goto (tgt := 4) dX8_weightOf_33 (by decide) ?_
      have hbt : b.testBit i = false := by
        cases hq : b.testBit i with
        | false => rfl
        | true => exact absurd ((bt_is1 (by omega) (by omega)).mpr hq) h18
      refine g_go ih ⟨rfl, rfl, ?_, by rw [← nI_1]; rfl, trivial⟩
      show some (Value.int (nI (ssum b (tv M 7) i))) = some (Value.int (nI (ssum b (tv M 7) i + (if b.testBit i then tv M 7 i else 0))))
      rw [hbt]
      rfl
    · have hbt : b.testBit i = true := (bt_is1 (by omega) (by omega)).mp h18
      refine g_iload_n dX8_weightOf_21 rfl rfl rfl ?_
      refine g_aload_n dX8_weightOf_22 rfl rfl rfl ?_
      refine g_getR dX8_weightOf_23 ff_X8_21 rfl (k3 hL) (r3_3 hL) rfl ?_
      refine g_iload_n dX8_weightOf_26 rfl rfl rfl ?_
      refine g_iald (i := i) dX8_weightOf_27 (k7 hL) (l7 hL) (nI_toInt (by omega)) (by omega) rfl ?_
      rw [(hh i (by omega)).1]
      refine g_iadd dX8_weightOf_28 rfl ?_
      refine g_istore_n dX8_weightOf_29 rfl (by decide) rfl ?_
      refine g_iincV (c := 1) dX8_weightOf_30 rfl (by decide) (by decide) rfl ?_
      refine g_goto (tgt := 4) dX8_weightOf_33 (by decide) ?_
      refine g_go ih ⟨rfl, rfl, ?_, by rw [← nI_1]; rfl, trivial⟩
      show some (Value.int (nI (ssum b (tv M 7) i) + nI (tv M 7 i))) = some (Value.int (nI (ssum b (tv M 7) i + (if b.testBit i then tv M 7 i else 0))))
      rw [hbt, nI_add]
      rfl
set_option maxRecDepth 20000 in
theorem c_harmOf (hx : gXok X) (hL : gLay M) {b : Nat} (hb : b < 256) (hD : okv M 3 8 8) (hh : ∀ k, k < 8 → okv M 8 k 9) : gDet X (d + 0) yX8_harmOf cX8_harmOf 4 (some .int) [.ref 3, .int (nI b)] M (some (.int (nI (ssum b (tv M 8) (tv M 3 8))))) M := by
  have h8 := hD.2
  refine gMet.of hx (by decide) (Nat.le_of_ble_eq_true rfl) ?_
  refine g_iconst (v := 0) dX8_harmOf_0 (by decide) rfl ?_
  refine g_istore_n dX8_harmOf_1 rfl (by decide) rfl ?_
  refine g_iconst (v := 0) dX8_harmOf_2 (by decide) rfl ?_
  refine g_istore_n dX8_harmOf_3 rfl (by decide) rfl ?_
  refine g_loop (fun i => [(0, .ref 3), (1, .int (nI b)), (2, .int (nI (ssum b (tv M 8) i))), (3, .int (nI i))]) (fun _ => M) (tv M 3 8) 0 (by omega) ⟨rfl, rfl, rfl, rfl, trivial⟩ rfl ?_ (fun i _ hi ih => ?_)
  · refine g_iload_n dX8_harmOf_4 rfl rfl rfl ?_
    refine g_aload_n dX8_harmOf_5 rfl rfl rfl ?_
    refine g_getI dX8_harmOf_6 ff_X8_37 rfl (k3 hL) rfl ?_
    refine g_icmp_ge (tgt := 36) dX8_harmOf_9 (by decide) rfl (fun _ => ?_) (fun h => absurd (by rw [hD.1]; exact nI_le (by omega) (by omega)) h)
    refine g_iload_n dX8_harmOf_36 rfl rfl rfl ?_
    exact g_iret dX8_harmOf_37 rfl rfl ⟨rfl, rfl⟩
  · refine g_iload_n dX8_harmOf_4 rfl rfl rfl ?_
    refine g_aload_n dX8_harmOf_5 rfl rfl rfl ?_
    refine g_getI dX8_harmOf_6 ff_X8_37 rfl (k3 hL) rfl ?_
    refine g_icmp_ge (tgt := 36) dX8_harmOf_9 (by decide) rfl (fun h => absurd h (by rw [hD.1]; exact nI_ge (by omega) (by omega))) (fun _ => ?_)
    refine g_iload_n dX8_harmOf_12 rfl rfl rfl ?_
    refine g_iload_n dX8_harmOf_13 rfl rfl rfl ?_
    refine g_ishr dX8_harmOf_14 rfl ?_
    refine g_iconst (v := 1) dX8_harmOf_15 (by decide) rfl ?_
    refine g_iand dX8_harmOf_16 rfl ?_
    refine g_iconst (v := 1) dX8_harmOf_17 (by decide) rfl ?_
    refine g_icmp_ne (tgt := 30) dX8_harmOf_18 (by decide) rfl (fun h18 => ?_) (fun h18 => ?_)
    · refine g_iincV (c := 1) dX8_harmOf_30 rfl (by decide) (by decide) rfl ?_
      refine g_goto (tgt := 4) dX8_harmOf_33 (by decide) ?_
      have hbt : b.testBit i = false := by
        cases hq : b.testBit i with
        | false => rfl
        | true => exact absurd ((bt_is1 (by omega) (by omega)).mpr hq) h18
      refine g_go ih ⟨rfl, rfl, ?_, by rw [← nI_1]; rfl, trivial⟩
      show some (Value.int (nI (ssum b (tv M 8) i))) = some (Value.int (nI (ssum b (tv M 8) i + (if b.testBit i then tv M 8 i else 0))))
      rw [hbt]
      rfl
    · have hbt : b.testBit i = true := (bt_is1 (by omega) (by omega)).mp h18
      refine g_iload_n dX8_harmOf_21 rfl rfl rfl ?_
      refine g_aload_n dX8_harmOf_22 rfl rfl rfl ?_
      refine g_getR dX8_harmOf_23 ff_X8_24 rfl (k3 hL) (r3_4 hL) rfl ?_
      refine g_iload_n dX8_harmOf_26 rfl rfl rfl ?_
      refine g_iald (i := i) dX8_harmOf_27 (k8 hL) (l8 hL) (nI_toInt (by omega)) (by omega) rfl ?_
      rw [(hh i (by omega)).1]
      refine g_iadd dX8_harmOf_28 rfl ?_
      refine g_istore_n dX8_harmOf_29 rfl (by decide) rfl ?_
      refine g_iincV (c := 1) dX8_harmOf_30 rfl (by decide) (by decide) rfl ?_
      refine g_goto (tgt := 4) dX8_harmOf_33 (by decide) ?_
      refine g_go ih ⟨rfl, rfl, ?_, by rw [← nI_1]; rfl, trivial⟩
      show some (Value.int (nI (ssum b (tv M 8) i) + nI (tv M 8 i))) = some (Value.int (nI (ssum b (tv M 8) i + (if b.testBit i then tv M 8 i else 0))))
      rw [hbt, nI_add]
      rfl
end T0
