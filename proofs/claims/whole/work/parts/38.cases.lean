/-! sums over cases -/
def qsum (Q : Nat → Bool) (h : Nat → Nat) : Nat → Nat
  | 0 => 0
  | i + 1 => qsum Q h i + (if Q i then h i else 0)
theorem qsum_cong {Q R : Nat → Bool} {h k : Nat → Nat} : ∀ {n : Nat}, (∀ t, t < n → (if Q t then h t else 0) = (if R t then k t else 0)) → qsum Q h n = qsum R k n
  | 0, _ => rfl
  | n + 1, e => by
    show qsum Q h n + _ = qsum R k n + _
    rw [qsum_cong (fun t ht => e t (by omega)), e n (by omega)]
theorem qsum_add {Q : Nat → Bool} {h k : Nat → Nat} : ∀ {n : Nat}, qsum Q (fun t => h t + k t) n = qsum Q h n + qsum Q k n
  | 0 => rfl
  | n + 1 => by
    show qsum Q (fun t => h t + k t) n + (if Q n then h n + k n else 0) = (qsum Q h n + (if Q n then h n else 0)) + (qsum Q k n + (if Q n then k n else 0))
    rw [qsum_add]
    split <;> omega
theorem qsum_zero {Q : Nat → Bool} : ∀ {n : Nat}, qsum Q (fun _ => 0) n = 0
  | 0 => rfl
  | n + 1 => by
    show qsum Q (fun _ => 0) n + (if Q n then 0 else 0) = 0
    rw [qsum_zero]
    split <;> rfl
theorem qsum_one {Q : Nat → Bool} {a : Nat} : ∀ {n : Nat}, qsum Q (fun t => if a = t then 1 else 0) n = if Q a = true ∧ a < n then 1 else 0
  | 0 => by rw [if_neg (by omega)]; rfl
  | n + 1 => by
    show qsum Q (fun t => if a = t then 1 else 0) n + (if Q n then (if a = n then 1 else 0) else 0) = _
    rw [qsum_one]
    by_cases e : a = n
    · subst e
      rw [if_neg (by omega), if_pos rfl]
      by_cases q : Q a = true
      · rw [if_pos q, if_pos ⟨q, by omega⟩]
      · rw [if_neg q, if_neg (fun z => q z.1)]
    · rw [if_neg e]
      by_cases q : Q a = true ∧ a < n
      · rw [if_pos q, if_pos (show Q a = true ∧ a < n + 1 from ⟨q.1, by omega⟩)]; split <;> rfl
      · rw [if_neg q, if_neg (show ¬ (Q a = true ∧ a < n + 1) from fun z => q ⟨z.1, by omega⟩)]; split <;> rfl
theorem qsum_ct {R : Nat → Bool} {key : Nat → Nat} {B : Nat} : ∀ {N : Nat}, (∀ s, s < N → key s < B) → qsum R (fun t => fb_ct (fun s => decide (key s = t)) N) B = fb_ct (fun s => R (key s)) N
  | 0, _ => qsum_zero
  | N + 1, h => by
    rw [show (fun t => fb_ct (fun s => decide (key s = t)) (N + 1)) = (fun t => fb_ct (fun s => decide (key s = t)) N + (if key N = t then 1 else 0)) from by
      funext t
      rw [fb_ct_succ]
      by_cases e : key N = t
      · rw [if_pos e, if_pos (decide_eq_true e)]
      · rw [if_neg e, if_neg (by rw [decide_eq_false e]; decide)]]
    rw [qsum_add, qsum_ct (fun s hs => h s (by omega)), qsum_one, fb_ct_succ]
    have hb := h N (by omega)
    by_cases q : R (key N) = true
    · rw [if_pos ⟨q, hb⟩, if_pos q]
    · rw [if_neg (fun z => q z.1), if_neg q]
/-- the j-th of Q below B -/
def nthQ (Q : Nat → Bool) : Nat → Nat → Nat
  | 0, _ => 0
  | B + 1, j => if Q B = true ∧ fb_ct Q B = j then B else nthQ Q B j
theorem nthQ_at {Q : Nat → Bool} {t : Nat} (h : Q t = true) : ∀ {B : Nat}, t < B → nthQ Q B (fb_ct Q t) = t
  | 0, ht => absurd ht (by omega)
  | B + 1, ht => by
    unfold nthQ
    by_cases e : t = B
    · subst e; rw [if_pos ⟨h, rfl⟩]
    · have h1 : fb_ct Q t < fb_ct Q B := by
        have := fb_ct_mono Q (show t + 1 ≤ B by omega)
        rw [fb_ct_succ, if_pos h] at this
        omega
      rw [if_neg (by omega), nthQ_at h (by omega)]
theorem nthQ_ok {Q : Nat → Bool} : ∀ {B j : Nat}, j < fb_ct Q B → Q (nthQ Q B j) = true ∧ nthQ Q B j < B ∧ fb_ct Q (nthQ Q B j) = j
  | 0, j, h => absurd h (by show ¬ j < 0; omega)
  | B + 1, j, h => by
    unfold nthQ
    by_cases e : Q B = true ∧ fb_ct Q B = j
    · rw [if_pos e]; exact ⟨e.1, by omega, e.2⟩
    · rw [if_neg e]
      rw [fb_ct_succ] at h
      have h2 : j < fb_ct Q B := by
        by_cases q : Q B = true
        · rw [if_pos q] at h
          have : fb_ct Q B ≠ j := fun z => e ⟨q, z⟩
          omega
        · rw [if_neg q] at h; omega
      obtain ⟨a, b, c⟩ := nthQ_ok h2
      exact ⟨a, by omega, c⟩
theorem qsum_nth {Q : Nat → Bool} {h : Nat → Nat} {B : Nat} : ∀ {i : Nat}, i ≤ B → qsum (fun _ => true) (fun j => h (nthQ Q B j)) (fb_ct Q i) = qsum Q h i
  | 0, _ => rfl
  | i + 1, hi => by
    rw [fb_ct_succ]
    by_cases q : Q i = true
    · rw [if_pos q]
      show qsum (fun _ => true) (fun j => h (nthQ Q B j)) (fb_ct Q i) + h (nthQ Q B (fb_ct Q i)) = qsum Q h i + (if Q i then h i else 0)
      rw [qsum_nth (by omega), nthQ_at q (by omega), if_pos q]
    · rw [if_neg q]
      show qsum (fun _ => true) (fun j => h (nthQ Q B j)) (fb_ct Q i) = qsum Q h i + (if Q i then h i else 0)
      rw [qsum_nth (by omega), if_neg q]
      rfl
theorem ct_le_qsum {Q : Nat → Bool} {h : Nat → Nat} : ∀ {n : Nat}, (∀ t, t < n → Q t = true → 1 ≤ h t) → fb_ct Q n ≤ qsum Q h n
  | 0, _ => Nat.le_refl _
  | n + 1, e => by
    have ih := ct_le_qsum (n := n) (fun t ht => e t (by omega))
    rw [fb_ct_succ]
    show _ ≤ qsum Q h n + (if Q n then h n else 0)
    by_cases q : Q n = true
    · rw [if_pos q, if_pos q]; have := e n (by omega) q; omega
    · rw [if_neg q, if_neg q]; omega
theorem qsum_mono {Q : Nat → Bool} {h : Nat → Nat} {m : Nat} : ∀ {n : Nat}, m ≤ n → qsum Q h m ≤ qsum Q h n
  | 0, e => by rw [show m = 0 by omega]; exact Nat.le_refl _
  | n + 1, e => by
    by_cases q : m = n + 1
    · rw [q]; exact Nat.le_refl _
    · exact Nat.le_trans (qsum_mono (show m ≤ n by omega)) (Nat.le_add_right _ _)
theorem ssum_mono {b c : Nat} {f : Nat → Nat} : ∀ {n : Nat}, (∀ k, k < n → b.testBit k = true → c.testBit k = true) → ssum b f n ≤ ssum c f n
  | 0, _ => Nat.le_refl _
  | n + 1, h => by
    have ih := ssum_mono (f := f) (n := n) (fun k hk => h k (by omega))
    show ssum b f n + (if b.testBit n then f n else 0) ≤ ssum c f n + (if c.testBit n then f n else 0)
    by_cases q : b.testBit n = true
    · rw [if_pos q, if_pos (h n (by omega) q)]; omega
    · rw [if_neg q]; omega
/-- the first of the least -/
def am (f : Nat → Nat) : Nat → Nat
  | 0 => 0
  | n + 1 => if f (n + 1) < f (am f n) then n + 1 else am f n
theorem am_le {f : Nat → Nat} : ∀ n, f (am f n) ≤ f n
  | 0 => Nat.le_refl _
  | n + 1 => by
    unfold am
    split
    · exact Nat.le_refl _
    · omega
theorem am_stop {f : Nat → Nat} {k : Nat} (h : ∀ b, f (am f k) ≤ f b) : ∀ n, k ≤ n → am f n = am f k
  | 0, hn => by rw [show k = 0 by omega]
  | n + 1, hn => by
    by_cases e : k = n + 1
    · rw [e]
    · show (if f (n + 1) < f (am f n) then n + 1 else am f n) = _
      rw [am_stop h n (by omega), if_neg (by have := h (n + 1); omega)]
