/-! what a law that was read says -/
def ClOK (c : CL) : Prop := (∀ s ∈ c.1 ++ c.2.1, s < 20000) ∧ (c.1 = [] ∧ (∀ lt, c.2.2.1 lt = 1) ∨ c.1 ≠ [] ∧ ∀ lt, Psh lt none c.1 (c.2.2.1 lt) 24) ∧ ∀ lt, Psh lt none c.2.1 (c.2.2.2 lt) 24
section S0
variable {T : Nat → Nat} {L : Nat}
theorem Psh_ne {lt : Nat → Int32} {cs : List Nat} {v : Int32} {K : Nat} (hK : K ≤ 64) (h : Psh lt none cs v K) : cs ≠ [] := by
  intro e
  rw [e] at h
  have := (h 0 (fun _ => 0, 0) (by omega) rfl).1.1
  exact absurd this (by show ¬ 0 = 0 + 1; decide)
theorem cnP_ok {pre : List Nat} {r : PR} {i : Nat} (hr : SanB L i r) (h1 : r.1 = true → (∀ lt, Psh lt none (pre ++ r.2.2.1) (r.2.2.2 lt) 24)) (hpre : ∀ s ∈ pre, s < 20000) (h : (cnP T L pre r).1 = true) : ClOK (cnP T L pre r).2.2 := by
  unfold cnP at h ⊢
  by_cases q1 : r.1 = true
  · rw [if_pos q1] at h ⊢
    by_cases q2 : isS T L r.2.1 63 = true
    · rw [if_pos q2] at h ⊢
      have hz := (isS_in q2).1
      have hs := smP_san (T := T) (loP_san (T := T) (L := L) 6) (nxt T L r.2.1 + 1) hz
      have hp := fun lt => smP_psh (lt := lt) (T := T) (L := L) (loP_psh (lt := lt) (T := T) (L := L) 6) (by decide) (nxt T L r.2.1 + 1)
      generalize smP T L (loP T L 6) (nxt T L r.2.1 + 1) = v at *
      by_cases q3 : v.1 = true
      · rw [if_pos q3] at h ⊢
        refine ⟨fun s hs2 => ?_, Or.inr ⟨Psh_ne (by decide) (h1 q1 (fun _ => 0)), h1 q1⟩, fun lt => (hp lt q3).mono (by decide)⟩
        rcases List.mem_append.mp hs2 with z | z
        · rcases List.mem_append.mp z with z | z
          · exact hpre s z
          · exact (hr.2 q1).2.2 s z
        · exact (hs.2 q3).2.2 s z
      · rw [if_neg q3] at h
        exact absurd h Bool.false_ne_true
    · rw [if_neg q2] at h
      exact absurd h Bool.false_ne_true
  · rw [if_neg q1] at h
    exact absurd h Bool.false_ne_true
theorem ccP_ok {i : Nat} (hi : i ≤ L) (h : (ccP T L i).1 = true) : ClOK (ccP T L i).2.2 := by
  unfold ccP at h ⊢
  have ho := loP_san (T := T) (L := L) 6
  have hO := fun lt => loP_psh (lt := lt) (T := T) (L := L) 6
  by_cases h1 : isS T L i 33 = true ∨ isS T L i 40 = true
  · rw [if_pos h1] at h ⊢
    exact cnP_ok (cdB_san ho i hi).b (fun q lt => (cdB_psh (hO lt) (by decide) none i q).mono (by decide)) (fun s hs => absurd hs List.not_mem_nil) h
  · rw [if_neg h1] at h ⊢
    have hs := smP_san (T := T) ho i hi
    have hp := fun lt => smP_psh (lt := lt) (T := T) (L := L) (hO lt) (by decide) i
    generalize smP T L (loP T L 6) i = r at *
    by_cases h2 : r.1 = true
    · rw [if_pos h2] at h ⊢
      by_cases h4 : jnP T L 2 (nxt T L r.2.1) = 0
      · rw [if_pos h4] at h ⊢
        exact ⟨fun s z => (hs.2 h2).2.2 s z, Or.inl ⟨rfl, fun _ => rfl⟩, fun lt => (hp lt h2).mono (by decide)⟩
      · rw [if_neg h4] at h ⊢
        exact cnP_ok (cdB_san ho r.2.1 hs.1).b (fun q lt => Psh.seq ((hp lt h2).mono (by decide)) ((cdB_psh (hO lt) (by decide) (some r.2.2.2) r.2.1 q).mono (by decide))) (hs.2 h2).2.2 h
    · rw [if_neg h2] at h
      exact absurd h Bool.false_ne_true
theorem yP_ok {i : Nat} (h : (yP T L i).1 = true) : ClOK (yP T L i).2.2 := by
  unfold yP at h ⊢
  by_cases h1 : isS T L i 121 = true
  · rw [if_pos h1] at h ⊢
    by_cases h2 : isS T L (nxt T L i + 1) 58 = true
    · rw [if_pos h2] at h ⊢
      exact ccP_ok (isS_in h2).1 h
    · rw [if_neg h2] at h
      exact absurd h Bool.false_ne_true
  · rw [if_neg h1] at h
    exact absurd h Bool.false_ne_true
theorem lwP_ok : ∀ (n i : Nat), (lwP T L n i).1 = true → ∀ c ∈ (lwP T L n i).2.2, ClOK c
  | 0, i, _ => fun c hc => absurd hc List.not_mem_nil
  | n + 1, i, h => by
    unfold lwP at h ⊢
    by_cases h1 : (yP T L i).1 = true
    · rw [if_pos h1] at h ⊢
      by_cases h2 : isS T L (yP T L i).2.1 59 = true
      · rw [if_pos h2] at h ⊢
        intro c hc
        rcases List.mem_cons.mp hc with q | q
        · rw [q]; exact yP_ok h1
        · exact lwP_ok n _ h c q
      · rw [if_neg h2]
        intro c hc
        rw [List.mem_singleton.mp hc]
        exact yP_ok h1
    · rw [if_neg h1] at h
      exact absurd h Bool.false_ne_true
end S0
def clZ : CL := ([], [], fun _ => 0, fun _ => 0)
theorem coF_succ : ∀ {cs : List CL} {j : Nat}, j < cs.length → coF cs (j + 1) = coF cs j + clN (cs.getD j clZ)
  | [], j, h => absurd h (by show ¬ j < 0; omega)
  | [c], 0, _ => by show clN c + 0 = 0 + clN c; omega
  | c :: d :: r, 0, _ => by show clN c + coF (d :: r) 0 = 0 + clN c; show clN c + 0 = _; omega
  | c :: r, j + 1, h => by
    show clN c + coF r (j + 1) = clN c + coF r j + clN (r.getD j clZ)
    rw [coF_succ (cs := r) (Nat.lt_of_succ_lt_succ h)]
    omega
theorem clG_get : ∀ {cs : List CL} {j i : Nat}, j < cs.length → i < clN (cs.getD j clZ) → (clG cs).getD (coF cs j + i) 0 = ((cs.getD j clZ).1 ++ (cs.getD j clZ).2.1).getD i 0
  | [], j, i, h, _ => absurd h (by show ¬ j < 0; omega)
  | c :: r, 0, i, _, hi => by
    show ((c.1 ++ c.2.1) ++ clG r).getD (0 + i) 0 = (c.1 ++ c.2.1).getD i 0
    have hi2 : i < clN c := hi
    rw [Nat.zero_add, List.getD_eq_getElem?_getD, List.getD_eq_getElem?_getD, List.getElem?_append_left (by rw [List.length_append]; exact hi2)]
  | c :: r, j + 1, i, h, hi => by
    show ((c.1 ++ c.2.1) ++ clG r).getD (clN c + coF r j + i) 0 = ((r.getD j clZ).1 ++ (r.getD j clZ).2.1).getD i 0
    rw [← clG_get (cs := r) (Nat.lt_of_succ_lt_succ h) hi, List.getD_eq_getElem?_getD, List.getD_eq_getElem?_getD]
    have e : (c.1 ++ c.2.1).length = clN c := List.length_append
    rw [List.getElem?_append_right (by omega), e, show clN c + coF r j + i - clN c = coF r j + i by omega]
theorem coF_le : ∀ {cs : List CL} {j : Nat}, j ≤ cs.length → coF cs j ≤ (clG cs).length
  | [], j, _ => Nat.zero_le _
  | _ :: _, 0, _ => Nat.zero_le _
  | c :: r, j + 1, h => by
    show clN c + coF r j ≤ ((c.1 ++ c.2.1) ++ clG r).length
    have := coF_le (cs := r) (Nat.le_of_succ_le_succ h)
    rw [List.length_append, List.length_append]
    unfold clN
    omega
theorem wfrom_clE {c : Nat → Bool} {sv : Nat → Int32} {lt : Nat → Int32} : ∀ (l : List CL) (k : Nat), (∀ j, j < l.length → c (k + j) = decide ((l.getD j clZ).2.2.1 lt ≠ 0) ∧ sv (k + j) = (l.getD j clZ).2.2.2 lt) → wfrom c sv l.length k = clE l lt
  | [], k, _ => rfl
  | b :: r, k, h => by
    show (if c k then sv k else wfrom c sv r.length (k + 1)) = if b.2.2.1 lt ≠ 0 then b.2.2.2 lt else clE r lt
    have h0 := h 0 (Nat.succ_pos _)
    have e1 : c k = decide (b.2.2.1 lt ≠ 0) := h0.1
    have e2 : sv k = b.2.2.2 lt := h0.2
    rw [e1, e2, wfrom_clE r (k + 1) (fun j hj => by have := h (j + 1) (Nat.succ_lt_succ hj); rw [show k + 1 + j = k + (j + 1) by omega]; exact this)]
    by_cases q : b.2.2.1 lt ≠ 0
    · rw [if_pos q, decide_eq_true q, if_pos rfl]
    · rw [if_neg q, decide_eq_false q, if_neg Bool.false_ne_true]
theorem getD_mem {l : List CL} {j : Nat} (h : j < l.length) : l.getD j clZ ∈ l := by
  rw [List.getD_eq_getElem?_getD, List.getElem?_eq_getElem h]
  exact List.getElem_mem h
theorem clG_mem {cs : List CL} {c : CL} {s : Nat} (hc : c ∈ cs) (hs : s ∈ c.1 ++ c.2.1) : s ∈ clG cs := List.mem_flatMap.mpr ⟨c, hc, hs⟩
theorem DrC_sem {M : gM} {a : Nat} {cs : List CL} (hD : DrC M a cs) (h240 : (clG cs).length ≤ 240) (hP : ∀ c ∈ cs, ClOK c) : LawSem M a (clE cs) := by
  obtain ⟨⟨h1, h2, h3, h4, h5, h6⟩, h7, h8⟩ := hD
  have hen : ∀ j, j < cs.length → enOf cs.length (clG cs).length (coF cs) j = coF cs j + clN (cs.getD j clZ) := by
    intro j hj
    rw [← coF_succ hj]
    unfold enOf
    by_cases e : j + 1 < cs.length
    · rw [if_pos e]
    · rw [if_neg e, show j + 1 = cs.length by omega, coF_all]
  have hsu : ∀ j, suF cs j = coF cs j + (cs.getD j clZ).1.length := fun j => rfl
  refine ⟨cs.length, (clG cs).length, coF cs, suF cs, fun i => (clG cs).getD i 0, ⟨h1, ⟨h5, h7⟩, ⟨h3, h240⟩, fun j hj => ⟨(h8 j hj).1, (h8 j hj).2, ?_, ?_, ?_⟩, fun i hi => ⟨h4 i hi, ?_⟩⟩, fun lt => ⟨fun j => (cs.getD j clZ).2.2.1 lt, fun j => (cs.getD j clZ).2.2.2 lt, fun j hj hne w => ?_, fun j hj w => ?_, ?_⟩⟩
  · rw [hsu]; omega
  · rw [hsu, hen j hj]; unfold clN; omega
  · rw [hen j hj, ← coF_succ hj]; exact coF_le hj
  · dsimp only
    rw [List.getD_eq_getElem?_getD, List.getElem?_eq_getElem hi]
    have hm : (clG cs)[i] ∈ clG cs := List.getElem_mem hi
    obtain ⟨c, hc, hs⟩ := List.mem_flatMap.mp hm
    exact (hP c hc).1 _ hs
  · have hc := hP _ (getD_mem hj)
    have hlen : suF cs j - coF cs j = (cs.getD j clZ).1.length := by rw [hsu]; omega
    rw [hlen]
    rcases hc.2.1 with ⟨q, _⟩ | ⟨_, q⟩
    · exact absurd (by rw [hsu, q]; rfl) hne
    · refine vval_of (by decide) (q lt) (fun i hi => ?_)
      rw [clG_get hj (by unfold clN; omega)]
      generalize cs.getD j clZ = c at hi ⊢
      rw [List.getD_eq_getElem?_getD, List.getD_eq_getElem?_getD, List.getElem?_append_left hi]
  · have hc := hP _ (getD_mem hj)
    have hlen : enOf cs.length (clG cs).length (coF cs) j - suF cs j = (cs.getD j clZ).2.1.length := by rw [hsu, hen j hj]; unfold clN; omega
    rw [hlen]
    refine vval_of (by decide) (hc.2.2 lt) (fun i hi => ?_)
    rw [hsu, Nat.add_assoc, clG_get hj (by unfold clN; omega)]
    generalize cs.getD j clZ = c at hi ⊢
    rw [List.getD_eq_getElem?_getD, List.getD_eq_getElem?_getD, List.getElem?_append_right (by omega), Nat.add_sub_cancel_left]
  · refine wfrom_clE cs 0 (fun j hj => ⟨?_, by rw [Nat.zero_add]⟩)
    rw [Nat.zero_add]
    have hc := hP _ (getD_mem hj)
    rcases hc.2.1 with ⟨q, q2⟩ | ⟨q, _⟩
    · rw [decide_eq_true (show coF cs j = suF cs j ∨ _ from Or.inl (by rw [hsu, q]; rfl)), decide_eq_true (by rw [q2]; decide)]
    · have hne : ¬ coF cs j = suF cs j := fun z => q (List.eq_nil_of_length_eq_zero (by rw [hsu] at z; omega))
      by_cases z : (cs.getD j clZ).2.2.1 lt ≠ 0
      · rw [decide_eq_true z, decide_eq_true (Or.inr z)]
      · rw [decide_eq_false z, decide_eq_false (fun y => y.elim hne z)]
theorem clE_congr {lt lt2 : Nat → Int32} : ∀ {cs : List CL}, (∀ c ∈ cs, ClOK c) → (∀ s ∈ clG cs, s < 6 → lt s = lt2 s) → clE cs lt = clE cs lt2
  | [], _, _ => rfl
  | c :: r, hP, h => by
    have hc := hP c List.mem_cons_self
    have hs : ∀ s ∈ c.1 ++ c.2.1, s < 6 → lt s = lt2 s := fun s hs => h s (clG_mem List.mem_cons_self hs)
    have e2 : c.2.2.2 lt = c.2.2.2 lt2 := Psh_congr (by decide) (hc.2.2 lt) (hc.2.2 lt2) (fun s z => hs s (List.mem_append.mpr (Or.inr z)))
    have e1 : c.2.2.1 lt = c.2.2.1 lt2 := by
      rcases hc.2.1 with ⟨_, q⟩ | ⟨_, q⟩
      · rw [q, q]
      · exact Psh_congr (by decide) (q lt) (q lt2) (fun s z => hs s (List.mem_append.mpr (Or.inl z)))
    show (if c.2.2.1 lt ≠ 0 then c.2.2.2 lt else clE r lt) = if c.2.2.1 lt2 ≠ 0 then c.2.2.2 lt2 else clE r lt2
    rw [e1, e2, clE_congr (fun b hb => hP b (List.mem_cons_of_mem _ hb)) (fun s hs => h s (by show s ∈ (c.1 ++ c.2.1) ++ clG r; exact List.mem_append.mpr (Or.inr hs)))]
