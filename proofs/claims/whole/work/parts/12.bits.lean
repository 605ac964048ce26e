/-! plain facts: bits, sets of numbers as sums of powers -/
theorem bt_sm : ∀ k, k < 32 → ((nI k &&& 31).toBitVec.smod 32).toNat = k := by decide +kernel
theorem bt_one : ∀ k, k < 31 → (1 : Int32) <<< (nI k &&& 31) = nI (2 ^ k) := by decide +kernel
def bsum (P : Nat → Bool) : Nat → Nat
  | 0 => 0
  | n + 1 => bsum P n + (if P n then 2 ^ n else 0)
theorem bsum_lt (P : Nat → Bool) : ∀ n, bsum P n < 2 ^ n
  | 0 => by simp [bsum]
  | n + 1 => by
    have ih := bsum_lt P n
    show bsum P n + (if P n then 2 ^ n else 0) < 2 ^ (n + 1)
    rw [Nat.pow_succ]
    by_cases h : P n <;> simp [h] <;> omega
theorem bsum_cong {P Q : Nat → Bool} : ∀ {n : Nat}, (∀ k, k < n → P k = Q k) → bsum P n = bsum Q n
  | 0, _ => rfl
  | n + 1, h => by
    show bsum P n + (if P n then 2 ^ n else 0) = bsum Q n + (if Q n then 2 ^ n else 0)
    rw [bsum_cong (fun k hk => h k (by omega)), h n (by omega)]
theorem bt_pow {a b : Nat} (h : a ≤ b) : 2 ^ a ≤ 2 ^ b := Nat.pow_le_pow_right (by decide) h
theorem bt_p31 {k : Nat} (h : k < 31) : 2 ^ k < 2 ^ 31 := Nat.pow_lt_pow_right (by decide) h
theorem bt_or {a k : Nat} (h : a < 2 ^ k) (hk : k < 31) : nI a ||| ((1 : Int32) <<< (nI k &&& 31)) = nI (a + 2 ^ k) := by
  rw [bt_one k hk, fa_or, Nat.or_comm]
  have e := Nat.two_pow_add_eq_or_of_lt h 1
  rw [Nat.mul_one] at e
  rw [← e, Nat.add_comm]
theorem bt_shr {b k : Nat} (hb : b < 2 ^ 31) (hk : k < 32) : nI b >>> (nI k &&& 31) = nI (b / 2 ^ k) := pk_shrN hb _ k (bt_sm k hk)
theorem bt_and1 {b : Nat} (hb : b < 2 ^ 32) : nI b &&& 1 = nI (b % 2) := by
  have e := pk_andN hb (m := 1) 1 (by decide)
  simpa using e
theorem bt_get {b k : Nat} (hb : b < 2 ^ 31) (hk : k < 32) : nI b >>> (nI k &&& 31) &&& 1 = nI (b / 2 ^ k % 2) := by
  rw [bt_shr hb hk, bt_and1 (Nat.lt_of_le_of_lt (Nat.div_le_self _ _) (by omega))]
theorem bt_test (b k : Nat) : b.testBit k = decide (b / 2 ^ k % 2 = 1) := Nat.testBit_eq_decide_div_mod_eq
theorem bt_is1 {b k : Nat} (hb : b < 2 ^ 31) (hk : k < 32) : (nI b >>> (nI k &&& 31) &&& 1 = 1) ↔ b.testBit k = true := by
  rw [bt_get hb hk, bt_test, show (1 : Int32) = nI 1 from rfl, nI_eq (by omega) (by decide)]
  simp
theorem bsum_test (P : Nat → Bool) : ∀ n k, (bsum P n).testBit k = (decide (k < n) && P k)
  | 0, k => by simp [bsum]
  | n + 1, k => by
    have ih := bsum_test P n k
    have hl := bsum_lt P n
    show (bsum P n + (if P n then 2 ^ n else 0)).testBit k = _
    by_cases h : P n
    · rw [if_pos h, Nat.add_comm]
      have e := Nat.two_pow_add_eq_or_of_lt hl 1
      rw [Nat.mul_one] at e
      rw [e, Nat.testBit_or, Nat.testBit_two_pow, ih]
      by_cases hk : n = k
      · subst hk; simp [h]
      · by_cases hk2 : k < n
        · simp [hk, hk2, show k < n + 1 by omega]
        · simp [hk, hk2, show ¬ k < n + 1 by omega]
    · rw [if_neg h, Nat.add_zero, ih]
      by_cases hk : k = n
      · subst hk; simp [h]
      · by_cases hk2 : k < n
        · simp [hk2, show k < n + 1 by omega]
        · simp [hk2, show ¬ k < n + 1 by omega]
/-- sums over the members of a set -/
def ssum (b : Nat) (f : Nat → Nat) : Nat → Nat
  | 0 => 0
  | n + 1 => ssum b f n + (if b.testBit n then f n else 0)
theorem ssum_le {b : Nat} {f : Nat → Nat} {m : Nat} : ∀ {n : Nat}, (∀ k, k < n → f k ≤ m) → ssum b f n ≤ n * m
  | 0, _ => by simp [ssum]
  | n + 1, h => by
    have ih := ssum_le (b := b) (n := n) (fun k hk => h k (by omega))
    have h1 := h n (by omega)
    show ssum b f n + (if b.testBit n then f n else 0) ≤ (n + 1) * m
    rw [Nat.succ_mul]
    by_cases hb : b.testBit n <;> simp [hb] <;> omega
theorem ssum_cong {b c : Nat} {f g : Nat → Nat} : ∀ {n : Nat}, (∀ k, k < n → b.testBit k = c.testBit k ∧ f k = g k) → ssum b f n = ssum c g n
  | 0, _ => rfl
  | n + 1, h => by
    show ssum b f n + (if b.testBit n then f n else 0) = ssum c g n + (if c.testBit n then g n else 0)
    rw [ssum_cong (fun k hk => h k (by omega)), (h n (by omega)).1, (h n (by omega)).2]
/-- a whole number's view, and that it is one of at most b -/
def tv (M : gM) (c i : Nat) : Nat := (gmi M c i).toNatClampNeg
def okv (M : gM) (c i b : Nat) : Prop := gmi M c i = nI (tv M c i) ∧ tv M c i ≤ b
theorem okv_of {M : gM} {c i b n : Nat} (h : gmi M c i = nI n) (hn : n ≤ b) (hb : b < 2 ^ 31) : okv M c i b ∧ tv M c i = n := by
  have e : tv M c i = n := by unfold tv; rw [h, nI_clamp (by omega)]
  exact ⟨⟨by rw [e]; exact h, by rw [e]; exact hn⟩, e⟩
theorem nI_lit (n : Nat) : (OfNat.ofNat n : Int32) = nI n := rfl
