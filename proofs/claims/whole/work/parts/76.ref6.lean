section F6
variable {X : gX} {M : gM} {b nb off : Nat} {T : Nat → Nat} {L i : Nat} {lt : Nat → Int32}
theorem r_parts (hx : gXok X) (hZ : gSt X) {E : LE} : ∀ n, n ≤ 6 → ∀ d, SmOK X (d + 3 * n + 7) b nb off T L (6 - n) lt (smP T L (loP T L n)) ∧ CdOK X (d + 3 * n + 11) b nb off T L (6 - n) lt 0 0 (cdB T L (loP T L n) none) ∧ UnOK X (d + 3 * n + 9) b nb off T L (6 - n) lt (unP T L (loP T L n)) ∧ CdOK X (d + 3 * n + 11) b nb off T L (6 - n) lt 1 (E lt) (cdB T L (loP T L n) (some E)) := by
  have step : ∀ (n w : Nat), (loP T L n = none → w = 6) → (∀ d q, loP T L n = some q → w < 6 ∧ SmOK X (d + 3 * n + 4) b nb off T L (w + 1) lt q.1 ∧ CdOK X (d + 3 * n + 8) b nb off T L (w + 1) lt 0 0 q.2.1 ∧ UnOK X (d + 3 * n + 8) b nb off T L (w + 1) lt q.2.2) → ∀ d, SmOK X (d + 3 * n + 7) b nb off T L w lt (smP T L (loP T L n)) ∧ CdOK X (d + 3 * n + 11) b nb off T L w lt 0 0 (cdB T L (loP T L n) none) ∧ UnOK X (d + 3 * n + 9) b nb off T L w lt (unP T L (loP T L n)) ∧ CdOK X (d + 3 * n + 11) b nb off T L w lt 1 (E lt) (cdB T L (loP T L n) (some E)) := by
    intro n w h6 hin
    have ho : SanO L (loP T L n) := loP_san n
    have hB : BolO (loP T L n) := loP_bol n
    have hSm : ∀ d, SmOK X (d + 3 * n + 7) b nb off T L w lt (smP T L (loP T L n)) := by
      intro d
      have hA : AtOK X (d + 3 * n + 5) b nb off T L w lt (atP T L (loP T L n)) := r_atom (d := d + 3 * n) hx hZ ho h6 (fun q hq => ⟨(hin d q hq).1, (hin d q hq).2.1⟩)
      have hT : TmOK X (d + 3 * n + 6) b nb off T L w lt (tmP T L (loP T L n)) := r_term (d := d + 3 * n + 3) hx (atP_san ho) hA
      have hQ : SmOK X (d + 3 * n + 7) b nb off T L w lt (fun i => sqP T L (tmP T L (loP T L n)) 3 (tmP T L (loP T L n) i)) := r_sum (d := d + 3 * n + 4) hx (tmP_san ho) hT
      exact @hQ
    have hC0 : ∀ d, CmOK X (d + 3 * n + 8) b nb off T L w lt 0 0 (fun i => thP (smP T L (loP T L n) i) (cmP T L (loP T L n) (smP T L (loP T L n) i).2.2.2 (smP T L (loP T L n) i).2.1)) := fun d => r_cmp0 (d := d + 3 * n + 5) hx ho (hSm d)
    have hC1 : ∀ d, CmOK X (d + 3 * n + 9) b nb off T L w lt 1 (E lt) (cmP T L (loP T L n) E) := by
      intro d
      have e : d + 1 + 3 * n + 7 = d + 3 * n + 8 := by omega
      have hS8 : SmOK X (d + 3 * n + 8) b nb off T L w lt (smP T L (loP T L n)) := by rw [← e]; exact @hSm (d + 1)
      have hq : CmOK X (d + 3 * n + 9) b nb off T L w lt 1 (E lt) (cmP T L (loP T L n) E) := r_cmp1 (d := d + 3 * n + 6) hx ho hS8
      exact @hq
    have hU : ∀ d, UnOK X (d + 3 * n + 9) b nb off T L w lt (unP T L (loP T L n)) := fun d => r_unit (d := d + 3 * n + 5) hx ho hB h6 (hC0 d) (fun q hq => ⟨(hin d q hq).1, (hin d q hq).2.2.1, (hin d q hq).2.2.2⟩)
    have hP0 : ∀ d y, PaOK X (d + 3 * n + 10) b nb off T L w lt 0 y (trB T L (loP T L n) none) := fun d y => r_part0 (d := d + 3 * n + 7) hx (unP_san ho) (unP_bol hB) (hU d)
    have hP1 : ∀ d, PaOK X (d + 3 * n + 10) b nb off T L w lt 1 (E lt) (trB T L (loP T L n) (some E)) := fun d => r_part1 (d := d + 3 * n + 7) hx (unP_san ho) (unP_bol hB) (fun i => cmP_bol i) (hU d) (hC1 d)
    intro d
    exact ⟨hSm d, r_cond (d := d + 3 * n + 8) hx (trB_san ho) (trB_bol hB none) (trB_bol hB none) (hP0 d 0) (hP0 d 0), hU d, r_cond (d := d + 3 * n + 8) hx (trB_san ho) (trB_bol hB none) (trB_bol hB (some E)) (hP0 d 0) (hP1 d)⟩
  intro n
  induction n with
  | zero =>
    intro hn
    exact step 0 6 (fun _ => rfl) (fun d q hq => by cases hq)
  | succ n ih =>
    intro hn
    have hlo : ∃ q, loP T L (n + 1) = some q ∧ q.1 = smP T L (loP T L n) ∧ q.2.1 = cdB T L (loP T L n) none ∧ q.2.2 = unP T L (loP T L n) := by
      cases n with
      | zero => exact ⟨_, rfl, rfl, rfl, rfl⟩
      | succ n => exact ⟨_, rfl, rfl, rfl, rfl⟩
    obtain ⟨q, hq, q1, q2, q3⟩ := hlo
    have hw : 6 - n = 6 - (n + 1) + 1 := by omega
    rw [hw] at ih
    refine step (n + 1) (6 - (n + 1)) (fun z => by rw [hq] at z; cases z) (fun d q' hq' => ?_)
    rw [hq] at hq'
    cases hq'
    obtain ⟨i1, -⟩ := ih (by omega) d
    obtain ⟨-, i2, -⟩ := ih (by omega) d
    obtain ⟨-, -, i3, -⟩ := ih (by omega) (d + 2)
    rw [show d + 3 * n + 7 = d + 3 * (n + 1) + 4 by omega, ← q1] at i1
    rw [show d + 3 * n + 11 = d + 3 * (n + 1) + 8 by omega, ← q2] at i2
    rw [show d + 2 + 3 * n + 9 = d + 3 * (n + 1) + 8 by omega, ← q3] at i3
    exact ⟨by omega, i1, i2, i3⟩
end F6
