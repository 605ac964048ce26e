section F0
variable {X : gX} {M : gM} {d : Nat}
theorem b01 {c : Prop} [Decidable c] : narrow .boolean (.int (if c then 1 else 0)) = .int (if c then 1 else 0) := by by_cases h : c <;> simp [h] <;> rfl
def ib (c : Prop) [Decidable c] : Int32 := if c then 1 else 0
theorem ib_t {c : Prop} [Decidable c] (h : c) : ib c = 1 := if_pos h
theorem ib_f {c : Prop} [Decidable c] (h : ¬ c) : ib c = 0 := if_neg h
theorem ib_eq0 {c : Prop} [Decidable c] : ib c = 0 ↔ ¬ c := by unfold ib; by_cases h : c <;> simp [h]
theorem ib_iff {c e : Prop} [Decidable c] [Decidable e] (h : c ↔ e) : ib c = ib e := by unfold ib; by_cases hc : c <;> simp [hc, h.mp, show (e ↔ c) from h.symm]
set_option maxRecDepth 20000 in
theorem c_hasBoth (hx : gXok X) (hL : gLay M) {x z : Int32} : gDet X (d + 1) yX8_hasBoth cX8_hasBoth 3 (some .boolean) [.ref 3, .int x, .int z] M (some (.int (ib ((0 ≤ x ∧ x < gmi M 3 7) ∧ (0 ≤ z ∧ z < gmi M 3 8))))) M := by
  refine gMet.of hx (by decide) (Nat.le_of_ble_eq_true rfl) ?_
  refine g_aload_n dX8_hasBoth_0 rfl rfl rfl ?_
  refine g_iload_n dX8_hasBoth_1 rfl rfl rfl ?_
  refine g_callVdi (ci := 8) dX8_hasBoth_2 lm_X8_40 mv_X8_hasPerson (c_hasPerson (d := d) hx hL) rfl rfl (k3 hL) rfl rfl (Nat.le_of_ble_eq_true rfl) (gFit_room (by omega)) rfl ?_
  refine g_if_eq (tgt := 20) dX8_hasBoth_5 (by decide) rfl (fun h5 => ?_) (fun h5 => ?_)
  · have h5 := ib_eq0.mp h5
    refine g_iconst (v := 0) dX8_hasBoth_20 (by decide) rfl ?_
    exact g_iret dX8_hasBoth_21 rfl rfl ⟨by rw [ib_f (fun q => h5 q.1)], rfl⟩
  · have h5 := Classical.not_not.mp (fun q => h5 (ib_eq0.mpr q))
    refine g_aload_n dX8_hasBoth_8 rfl rfl rfl ?_
    refine g_iload_n dX8_hasBoth_9 rfl rfl rfl ?_
    refine g_callVdi (ci := 8) dX8_hasBoth_10 lm_X8_44 mv_X8_hasDeed (c_hasDeed (d := d) hx hL) rfl rfl (k3 hL) rfl rfl (Nat.le_of_ble_eq_true rfl) (gFit_room (by omega)) rfl ?_
    refine g_if_eq (tgt := 20) dX8_hasBoth_13 (by decide) rfl (fun h13 => ?_) (fun h13 => ?_)
    · have h13 := ib_eq0.mp h13
      refine g_iconst (v := 0) dX8_hasBoth_20 (by decide) rfl ?_
      exact g_iret dX8_hasBoth_21 rfl rfl ⟨by rw [ib_f (fun q => h13 q.2)], rfl⟩
    · have h13 := Classical.not_not.mp (fun q => h13 (ib_eq0.mpr q))
      refine g_iconst (v := 1) dX8_hasBoth_16 (by decide) rfl ?_
      refine g_goto (tgt := 21) dX8_hasBoth_17 (by decide) ?_
      exact g_iret dX8_hasBoth_21 rfl rfl ⟨by rw [ib_t ⟨h5, h13⟩], rfl⟩
set_option maxRecDepth 20000 in
theorem c_get_now (hx : gXok X) (hL : gLay M) {i : Nat} (hi : i < 67) : gDet X (d + 0) yX4_get cX4_get 2 (some .int) [.ref 24, .int (nI i)] M (some (.int (gmi M 25 i))) M := by
  refine gMet.of hx (by decide) (Nat.le_of_ble_eq_true rfl) ?_
  refine g_aload_n dX4_get_0 rfl rfl rfl ?_
  refine g_getR dX4_get_1 ff_X4_11 rfl (k24 hL) (r24_1 hL) rfl ?_
  refine g_iload_n dX4_get_4 rfl rfl rfl ?_
  refine g_iald (i := i) dX4_get_5 (k25 hL) (l25 hL) (by (try simp only [nI_lit, pk_mul, nI_add, Nat.zero_add]); exact nI_toInt (by omega)) (by omega) rfl ?_
  exact g_iret dX4_get_6 rfl rfl ⟨rfl, rfl⟩
set_option maxRecDepth 20000 in
theorem c_beardOf_now (hx : gXok X) (hL : gLay M) {p : Nat} (hp : p < 6) : gDet X (d + 0) yX4_beardOf cX4_beardOf 2 (some .int) [.ref 24, .int (nI p)] M (some (.int (gmi M 25 p))) M := by
  refine gMet.of hx (by decide) (Nat.le_of_ble_eq_true rfl) ?_
  refine g_aload_n dX4_beardOf_0 rfl rfl rfl ?_
  refine g_getR dX4_beardOf_1 ff_X4_11 rfl (k24 hL) (r24_1 hL) rfl ?_
  refine g_iconst (v := 0) dX4_beardOf_4 (by decide) rfl ?_
  refine g_iload_n dX4_beardOf_5 rfl rfl rfl ?_
  refine g_iadd dX4_beardOf_6 rfl ?_
  refine g_iald (i := p) dX4_beardOf_7 (k25 hL) (l25 hL) (by (try simp only [nI_lit, pk_mul, nI_add, Nat.zero_add]); exact nI_toInt (by omega)) (by omega) rfl ?_
  exact g_iret dX4_beardOf_8 rfl rfl ⟨rfl, rfl⟩
set_option maxRecDepth 20000 in
theorem c_shavedOf_now (hx : gXok X) (hL : gLay M) {p : Nat} (hp : p < 6) : gDet X (d + 0) yX4_shavedOf cX4_shavedOf 2 (some .int) [.ref 24, .int (nI p)] M (some (.int (gmi M 25 (6 + p)))) M := by
  refine gMet.of hx (by decide) (Nat.le_of_ble_eq_true rfl) ?_
  refine g_aload_n dX4_shavedOf_0 rfl rfl rfl ?_
  refine g_getR dX4_shavedOf_1 ff_X4_11 rfl (k24 hL) (r24_1 hL) rfl ?_
  refine g_bipush (v := 6) dX4_shavedOf_4 (by decide) rfl ?_
  refine g_iload_n dX4_shavedOf_6 rfl rfl rfl ?_
  refine g_iadd dX4_shavedOf_7 rfl ?_
  refine g_iald (i := (6 + p)) dX4_shavedOf_8 (k25 hL) (l25 hL) (by (try simp only [nI_lit, pk_mul, nI_add, Nat.zero_add]); exact nI_toInt (by omega)) (by omega) rfl ?_
  exact g_iret dX4_shavedOf_9 rfl rfl ⟨rfl, rfl⟩
set_option maxRecDepth 20000 in
theorem c_setLeft_now (hx : gXok X) (hL : gLay M) {p e : Nat} (hp : p < 6) (he : e < 8) {v : Int32} : gDet X (d + 0) yX4_setLeft cX4_setLeft 4 none [.ref 24, .int (nI p), .int (nI e), .int v] M none (gwI M 25 (12 + p * 8 + e) v) := by
  refine gMet.of hx (by decide) (Nat.le_of_ble_eq_true rfl) ?_
  refine g_aload_n dX4_setLeft_0 rfl rfl rfl ?_
  refine g_getR dX4_setLeft_1 ff_X4_11 rfl (k24 hL) (r24_1 hL) rfl ?_
  refine g_bipush (v := 12) dX4_setLeft_4 (by decide) rfl ?_
  refine g_iload_n dX4_setLeft_6 rfl rfl rfl ?_
  refine g_bipush (v := 8) dX4_setLeft_7 (by decide) rfl ?_
  refine g_imul dX4_setLeft_9 rfl ?_
  refine g_iadd dX4_setLeft_10 rfl ?_
  refine g_iload_n dX4_setLeft_11 rfl rfl rfl ?_
  refine g_iadd dX4_setLeft_12 rfl ?_
  refine g_iload_n dX4_setLeft_13 rfl rfl rfl ?_
  refine g_iast (i := ((12 + (p * 8)) + e)) dX4_setLeft_14 (k25 hL) (l25 hL) (by (try simp only [nI_lit, pk_mul, nI_add, Nat.zero_add]); exact nI_toInt (by omega)) (by omega) rfl ?_
  exact g_vret dX4_setLeft_15 rfl ⟨rfl, rfl⟩
set_option maxRecDepth 20000 in
theorem c_went_now (hx : gXok X) (hL : gLay M) {x : Int32} : gDet X (d + 0) yX4_went cX4_went 2 (some .boolean) [.ref 24, .int x] M (some (.int (ib (gmi M 25 60 >>> (x &&& 31) &&& 1 = 1)))) M := by
  refine gMet.of hx (by decide) (Nat.le_of_ble_eq_true rfl) ?_
  refine g_aload_n dX4_went_0 rfl rfl rfl ?_
  refine g_getR dX4_went_1 ff_X4_11 rfl (k24 hL) (r24_1 hL) rfl ?_
  refine g_bipush (v := 60) dX4_went_4 (by decide) rfl ?_
  refine g_iald (i := 60) dX4_went_6 (k25 hL) (l25 hL) (by (try simp only [nI_lit, pk_mul, nI_add, Nat.zero_add]); exact nI_toInt (by omega)) (by omega) rfl ?_
  refine g_iload_n dX4_went_7 rfl rfl rfl ?_
  refine g_ishr dX4_went_8 rfl ?_
  refine g_iconst (v := 1) dX4_went_9 (by decide) rfl ?_
  refine g_iand dX4_went_10 rfl ?_
  refine g_iconst (v := 1) dX4_went_11 (by decide) rfl ?_
  refine g_icmp_ne (tgt := 19) dX4_went_12 (by decide) rfl (fun h12 => ?_) (fun h12 => ?_)
  · refine g_iconst (v := 0) dX4_went_19 (by decide) rfl ?_
    exact g_iret dX4_went_20 rfl rfl ⟨by rw [ib_f h12], rfl⟩
  · refine g_iconst (v := 1) dX4_went_15 (by decide) rfl ?_
    refine g_goto (tgt := 20) dX4_went_16 (by decide) ?_
    exact g_iret dX4_went_20 rfl rfl ⟨by rw [ib_t h12], rfl⟩
set_option maxRecDepth 20000 in
theorem c_deedsIn_now (hx : gXok X) (hL : gLay M) {p n : Nat} (hp : p < 6) (hn : n < 2 ^ 30) (hD : okv M 3 8 8) (hl : ∀ e, e < 8 → okv M 25 (12 + p * 8 + e) 9) : gDet X (d + 1) yX4_deedsIn cX4_deedsIn 5 (some .int) [.ref 24, .int (nI p), .int (nI n)] M (some (.int (nI (bsum (fun e => decide (n < tv M 25 (12 + p * 8 + e))) (tv M 3 8))))) M := by
  have h8 := hD.2
  refine gMet.of hx (by decide) (Nat.le_of_ble_eq_true rfl) ?_
  refine g_iconst (v := 0) dX4_deedsIn_0 (by decide) rfl ?_
  refine g_istore_n dX4_deedsIn_1 rfl (by decide) rfl ?_
  refine g_iconst (v := 0) dX4_deedsIn_2 (by decide) rfl ?_
  refine g_istore dX4_deedsIn_3 (by decide) rfl ?_
  refine g_loop (fun i => [(0, .ref 24), (1, .int (nI p)), (2, .int (nI n)), (3, .int (nI (bsum (fun e => decide (n < tv M 25 (12 + p * 8 + e))) i))), (4, .int (nI i))]) (fun _ => M) (tv M 3 8) 0 (by omega) ⟨rfl, rfl, rfl, rfl, rfl, trivial⟩ rfl ?_ (fun i _ hi ih => ?_)
  · refine g_iload dX4_deedsIn_5 rfl rfl ?_
    refine g_aload_n dX4_deedsIn_7 rfl rfl rfl ?_
    refine g_getR dX4_deedsIn_8 ff_X4_18 rfl (k24 hL) (r24_0 hL) rfl ?_
    refine g_getI dX4_deedsIn_11 ff_X4_50 rfl (k3 hL) rfl ?_
    refine g_icmp_ge (tgt := 41) dX4_deedsIn_14 (by decide) rfl (fun _ => ?_) (fun h => absurd (by rw [hD.1]; exact nI_le (by omega) (by omega)) h)
    refine g_iload_n dX4_deedsIn_41 rfl rfl rfl ?_
    exact g_iret dX4_deedsIn_42 rfl rfl ⟨rfl, rfl⟩
  · have hv := hl i (by omega)
    have hv2 := hv.2
    refine g_iload dX4_deedsIn_5 rfl rfl ?_
    refine g_aload_n dX4_deedsIn_7 rfl rfl rfl ?_
    refine g_getR dX4_deedsIn_8 ff_X4_18 rfl (k24 hL) (r24_0 hL) rfl ?_
    refine g_getI dX4_deedsIn_11 ff_X4_50 rfl (k3 hL) rfl ?_
    refine g_icmp_ge (tgt := 41) dX4_deedsIn_14 (by decide) rfl (fun h => absurd h (by rw [hD.1]; exact nI_ge (by omega) (by omega))) (fun _ => ?_)
    refine g_aload_n dX4_deedsIn_17 rfl rfl rfl ?_
    refine g_iload_n dX4_deedsIn_18 rfl rfl rfl ?_
    refine g_iload dX4_deedsIn_19 rfl rfl ?_
    refine g_callVdi (ci := 4) dX4_deedsIn_21 lm_X4_53 mv_X4_leftOf (c_leftOf_now (d := d) hx hL hp (show i < 8 by omega)) rfl rfl (k24 hL) rfl rfl (Nat.le_of_ble_eq_true rfl) (gFit_room (by omega)) rfl ?_
    rw [hv.1]
    refine g_iload_n dX4_deedsIn_24 rfl rfl rfl ?_
    refine g_icmp_le (tgt := 35) dX4_deedsIn_25 (by decide) rfl (fun h25 => ?_) (fun h25 => ?_)
    · refine g_iincV (c := 1) dX4_deedsIn_35 rfl (by decide) (by decide) rfl ?_
      refine g_goto (tgt := 5) dX4_deedsIn_38 (by decide) ?_
      refine g_go ih ⟨rfl, rfl, rfl, ?_, by rw [← nI_1]; rfl, trivial⟩
      have h25 := (nI_leI (by omega) (by omega)).mp h25
      have e : decide (n < tv M 25 (12 + p * 8 + i)) = false := decide_eq_false (by omega)
      show some (Value.int (nI (bsum _ i))) = some (Value.int (nI (bsum (fun e => decide (n < tv M 25 (12 + p * 8 + e))) i + (if decide (n < tv M 25 (12 + p * 8 + i)) then 2 ^ i else 0))))
      rw [e]
      rfl
    · refine g_iload_n dX4_deedsIn_28 rfl rfl rfl ?_
      refine g_iconst (v := 1) dX4_deedsIn_29 (by decide) rfl ?_
      refine g_iload dX4_deedsIn_30 rfl rfl ?_
      refine g_ishl dX4_deedsIn_32 rfl ?_
      refine g_ior dX4_deedsIn_33 rfl ?_
      refine g_istore_n dX4_deedsIn_34 rfl (by decide) rfl ?_
      refine g_iincV (c := 1) dX4_deedsIn_35 rfl (by decide) (by decide) rfl ?_
      refine g_goto (tgt := 5) dX4_deedsIn_38 (by decide) ?_
      refine g_go ih ⟨rfl, rfl, rfl, ?_, by rw [← nI_1]; rfl, trivial⟩
      have h25 : n < tv M 25 (12 + p * 8 + i) := Nat.not_le.mp (fun q => h25 ((nI_leI (by omega) (by omega)).mpr q))
      have e : decide (n < tv M 25 (12 + p * 8 + i)) = true := decide_eq_true h25
      show some (Value.int (nI (bsum (fun e => decide (n < tv M 25 (12 + p * 8 + e))) i) ||| ((1 : Int32) <<< (nI i &&& 31)))) = some (Value.int (nI (bsum (fun e => decide (n < tv M 25 (12 + p * 8 + e))) i + (if decide (n < tv M 25 (12 + p * 8 + i)) then 2 ^ i else 0))))
      rw [bt_or (bsum_lt _ i) (by omega), e]
      rfl
set_option maxRecDepth 20000 in
theorem c_get_trial (hx : gXok X) (hL : gLay M) {i : Nat} (hi : i < 67) : gDet X (d + 0) yX4_get cX4_get 2 (some .int) [.ref 27, .int (nI i)] M (some (.int (gmi M 28 i))) M := by
  refine gMet.of hx (by decide) (Nat.le_of_ble_eq_true rfl) ?_
  refine g_aload_n dX4_get_0 rfl rfl rfl ?_
  refine g_getR dX4_get_1 ff_X4_11 rfl (k27 hL) (r27_1 hL) rfl ?_
  refine g_iload_n dX4_get_4 rfl rfl rfl ?_
  refine g_iald (i := i) dX4_get_5 (k28 hL) (l28 hL) (by (try simp only [nI_lit, pk_mul, nI_add, Nat.zero_add]); exact nI_toInt (by omega)) (by omega) rfl ?_
  exact g_iret dX4_get_6 rfl rfl ⟨rfl, rfl⟩
set_option maxRecDepth 20000 in
theorem c_beardOf_trial (hx : gXok X) (hL : gLay M) {p : Nat} (hp : p < 6) : gDet X (d + 0) yX4_beardOf cX4_beardOf 2 (some .int) [.ref 27, .int (nI p)] M (some (.int (gmi M 28 p))) M := by
  refine gMet.of hx (by decide) (Nat.le_of_ble_eq_true rfl) ?_
  refine g_aload_n dX4_beardOf_0 rfl rfl rfl ?_
  refine g_getR dX4_beardOf_1 ff_X4_11 rfl (k27 hL) (r27_1 hL) rfl ?_
  refine g_iconst (v := 0) dX4_beardOf_4 (by decide) rfl ?_
  refine g_iload_n dX4_beardOf_5 rfl rfl rfl ?_
  refine g_iadd dX4_beardOf_6 rfl ?_
  refine g_iald (i := p) dX4_beardOf_7 (k28 hL) (l28 hL) (by (try simp only [nI_lit, pk_mul, nI_add, Nat.zero_add]); exact nI_toInt (by omega)) (by omega) rfl ?_
  exact g_iret dX4_beardOf_8 rfl rfl ⟨rfl, rfl⟩
set_option maxRecDepth 20000 in
theorem c_shavedOf_trial (hx : gXok X) (hL : gLay M) {p : Nat} (hp : p < 6) : gDet X (d + 0) yX4_shavedOf cX4_shavedOf 2 (some .int) [.ref 27, .int (nI p)] M (some (.int (gmi M 28 (6 + p)))) M := by
  refine gMet.of hx (by decide) (Nat.le_of_ble_eq_true rfl) ?_
  refine g_aload_n dX4_shavedOf_0 rfl rfl rfl ?_
  refine g_getR dX4_shavedOf_1 ff_X4_11 rfl (k27 hL) (r27_1 hL) rfl ?_
  refine g_bipush (v := 6) dX4_shavedOf_4 (by decide) rfl ?_
  refine g_iload_n dX4_shavedOf_6 rfl rfl rfl ?_
  refine g_iadd dX4_shavedOf_7 rfl ?_
  refine g_iald (i := (6 + p)) dX4_shavedOf_8 (k28 hL) (l28 hL) (by (try simp only [nI_lit, pk_mul, nI_add, Nat.zero_add]); exact nI_toInt (by omega)) (by omega) rfl ?_
  exact g_iret dX4_shavedOf_9 rfl rfl ⟨rfl, rfl⟩
set_option maxRecDepth 20000 in
theorem c_setLeft_trial (hx : gXok X) (hL : gLay M) {p e : Nat} (hp : p < 6) (he : e < 8) {v : Int32} : gDet X (d + 0) yX4_setLeft cX4_setLeft 4 none [.ref 27, .int (nI p), .int (nI e), .int v] M none (gwI M 28 (12 + p * 8 + e) v) := by
  refine gMet.of hx (by decide) (Nat.le_of_ble_eq_true rfl) ?_
  refine g_aload_n dX4_setLeft_0 rfl rfl rfl ?_
  refine g_getR dX4_setLeft_1 ff_X4_11 rfl (k27 hL) (r27_1 hL) rfl ?_
  refine g_bipush (v := 12) dX4_setLeft_4 (by decide) rfl ?_
  refine g_iload_n dX4_setLeft_6 rfl rfl rfl ?_
  refine g_bipush (v := 8) dX4_setLeft_7 (by decide) rfl ?_
  refine g_imul dX4_setLeft_9 rfl ?_
  refine g_iadd dX4_setLeft_10 rfl ?_
  refine g_iload_n dX4_setLeft_11 rfl rfl rfl ?_
  refine g_iadd dX4_setLeft_12 rfl ?_
  refine g_iload_n dX4_setLeft_13 rfl rfl rfl ?_
  refine g_iast (i := ((12 + (p * 8)) + e)) dX4_setLeft_14 (k28 hL) (l28 hL) (by (try simp only [nI_lit, pk_mul, nI_add, Nat.zero_add]); exact nI_toInt (by omega)) (by omega) rfl ?_
  exact g_vret dX4_setLeft_15 rfl ⟨rfl, rfl⟩
set_option maxRecDepth 20000 in
theorem c_went_trial (hx : gXok X) (hL : gLay M) {x : Int32} : gDet X (d + 0) yX4_went cX4_went 2 (some .boolean) [.ref 27, .int x] M (some (.int (ib (gmi M 28 60 >>> (x &&& 31) &&& 1 = 1)))) M := by
  refine gMet.of hx (by decide) (Nat.le_of_ble_eq_true rfl) ?_
  refine g_aload_n dX4_went_0 rfl rfl rfl ?_
  refine g_getR dX4_went_1 ff_X4_11 rfl (k27 hL) (r27_1 hL) rfl ?_
  refine g_bipush (v := 60) dX4_went_4 (by decide) rfl ?_
  refine g_iald (i := 60) dX4_went_6 (k28 hL) (l28 hL) (by (try simp only [nI_lit, pk_mul, nI_add, Nat.zero_add]); exact nI_toInt (by omega)) (by omega) rfl ?_
  refine g_iload_n dX4_went_7 rfl rfl rfl ?_
  refine g_ishr dX4_went_8 rfl ?_
  refine g_iconst (v := 1) dX4_went_9 (by decide) rfl ?_
  refine g_iand dX4_went_10 rfl ?_
  refine g_iconst (v := 1) dX4_went_11 (by decide) rfl ?_
  refine g_icmp_ne (tgt := 19) dX4_went_12 (by decide) rfl (fun h12 => ?_) (fun h12 => ?_)
  · refine g_iconst (v := 0) dX4_went_19 (by decide) rfl ?_
    exact g_iret dX4_went_20 rfl rfl ⟨by rw [ib_f h12], rfl⟩
  · refine g_iconst (v := 1) dX4_went_15 (by decide) rfl ?_
    refine g_goto (tgt := 20) dX4_went_16 (by decide) ?_
    exact g_iret dX4_went_20 rfl rfl ⟨by rw [ib_t h12], rfl⟩
set_option maxRecDepth 20000 in
theorem c_deedsIn_trial (hx : gXok X) (hL : gLay M) {p n : Nat} (hp : p < 6) (hn : n < 2 ^ 30) (hD : okv M 3 8 8) (hl : ∀ e, e < 8 → okv M 28 (12 + p * 8 + e) 9) : gDet X (d + 1) yX4_deedsIn cX4_deedsIn 5 (some .int) [.ref 27, .int (nI p), .int (nI n)] M (some (.int (nI (bsum (fun e => decide (n < tv M 28 (12 + p * 8 + e))) (tv M 3 8))))) M := by
  have h8 := hD.2
  refine gMet.of hx (by decide) (Nat.le_of_ble_eq_true rfl) ?_
  refine g_iconst (v := 0) dX4_deedsIn_0 (by decide) rfl ?_
  refine g_istore_n dX4_deedsIn_1 rfl (by decide) rfl ?_
  refine g_iconst (v := 0) dX4_deedsIn_2 (by decide) rfl ?_
  refine g_istore dX4_deedsIn_3 (by decide) rfl ?_
  refine g_loop (fun i => [(0, .ref 27), (1, .int (nI p)), (2, .int (nI n)), (3, .int (nI (bsum (fun e => decide (n < tv M 28 (12 + p * 8 + e))) i))), (4, .int (nI i))]) (fun _ => M) (tv M 3 8) 0 (by omega) ⟨rfl, rfl, rfl, rfl, rfl, trivial⟩ rfl ?_ (fun i _ hi ih => ?_)
  · refine g_iload dX4_deedsIn_5 rfl rfl ?_
    refine g_aload_n dX4_deedsIn_7 rfl rfl rfl ?_
    refine g_getR dX4_deedsIn_8 ff_X4_18 rfl (k27 hL) (r27_0 hL) rfl ?_
    refine g_getI dX4_deedsIn_11 ff_X4_50 rfl (k3 hL) rfl ?_
    refine g_icmp_ge (tgt := 41) dX4_deedsIn_14 (by decide) rfl (fun _ => ?_) (fun h => absurd (by rw [hD.1]; exact nI_le (by omega) (by omega)) h)
    refine g_iload_n dX4_deedsIn_41 rfl rfl rfl ?_
    exact g_iret dX4_deedsIn_42 rfl rfl ⟨rfl, rfl⟩
  · have hv := hl i (by omega)
    have hv2 := hv.2
    refine g_iload dX4_deedsIn_5 rfl rfl ?_
    refine g_aload_n dX4_deedsIn_7 rfl rfl rfl ?_
    refine g_getR dX4_deedsIn_8 ff_X4_18 rfl (k27 hL) (r27_0 hL) rfl ?_
    refine g_getI dX4_deedsIn_11 ff_X4_50 rfl (k3 hL) rfl ?_
    refine g_icmp_ge (tgt := 41) dX4_deedsIn_14 (by decide) rfl (fun h => absurd h (by rw [hD.1]; exact nI_ge (by omega) (by omega))) (fun _ => ?_)
    refine g_aload_n dX4_deedsIn_17 rfl rfl rfl ?_
    refine g_iload_n dX4_deedsIn_18 rfl rfl rfl ?_
    refine g_iload dX4_deedsIn_19 rfl rfl ?_
    refine g_callVdi (ci := 4) dX4_deedsIn_21 lm_X4_53 mv_X4_leftOf (c_leftOf_trial (d := d) hx hL hp (show i < 8 by omega)) rfl rfl (k27 hL) rfl rfl (Nat.le_of_ble_eq_true rfl) (gFit_room (by omega)) rfl ?_
    rw [hv.1]
    refine g_iload_n dX4_deedsIn_24 rfl rfl rfl ?_
    refine g_icmp_le (tgt := 35) dX4_deedsIn_25 (by decide) rfl (fun h25 => ?_) (fun h25 => ?_)
    · refine g_iincV (c := 1) dX4_deedsIn_35 rfl (by decide) (by decide) rfl ?_
      refine g_goto (tgt := 5) dX4_deedsIn_38 (by decide) ?_
      refine g_go ih ⟨rfl, rfl, rfl, ?_, by rw [← nI_1]; rfl, trivial⟩
      have h25 := (nI_leI (by omega) (by omega)).mp h25
      have e : decide (n < tv M 28 (12 + p * 8 + i)) = false := decide_eq_false (by omega)
      show some (Value.int (nI (bsum _ i))) = some (Value.int (nI (bsum (fun e => decide (n < tv M 28 (12 + p * 8 + e))) i + (if decide (n < tv M 28 (12 + p * 8 + i)) then 2 ^ i else 0))))
      rw [e]
      rfl
    · refine g_iload_n dX4_deedsIn_28 rfl rfl rfl ?_
      refine g_iconst (v := 1) dX4_deedsIn_29 (by decide) rfl ?_
      refine g_iload dX4_deedsIn_30 rfl rfl ?_
      refine g_ishl dX4_deedsIn_32 rfl ?_
      refine g_ior dX4_deedsIn_33 rfl ?_
      refine g_istore_n dX4_deedsIn_34 rfl (by decide) rfl ?_
      refine g_iincV (c := 1) dX4_deedsIn_35 rfl (by decide) (by decide) rfl ?_
      refine g_goto (tgt := 5) dX4_deedsIn_38 (by decide) ?_
      refine g_go ih ⟨rfl, rfl, rfl, ?_, by rw [← nI_1]; rfl, trivial⟩
      have h25 : n < tv M 28 (12 + p * 8 + i) := Nat.not_le.mp (fun q => h25 ((nI_leI (by omega) (by omega)).mpr q))
      have e : decide (n < tv M 28 (12 + p * 8 + i)) = true := decide_eq_true h25
      show some (Value.int (nI (bsum (fun e => decide (n < tv M 28 (12 + p * 8 + e))) i) ||| ((1 : Int32) <<< (nI i &&& 31)))) = some (Value.int (nI (bsum (fun e => decide (n < tv M 28 (12 + p * 8 + e))) i + (if decide (n < tv M 28 (12 + p * 8 + i)) then 2 ^ i else 0))))
      rw [bt_or (bsum_lt _ i) (by omega), e]
      rfl
end F0
