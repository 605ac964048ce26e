/-! what the signs of a part are worth on the row of those that wait -/
def StK (b : Option Int32) (h : Nat) (q : (Nat → Int32) × Nat) : Prop := match b with
  | none => q.2 = h
  | some u => q.2 = h + 1 ∧ q.1 h = u
def vrl (lt : Nat → Int32) (q : (Nat → Int32) × Nat) (cs : List Nat) : (Nat → Int32) × Nat := cs.foldl (vstep lt) q
def Psh (lt : Nat → Int32) (b : Option Int32) (cs : List Nat) (v : Int32) (K : Nat) : Prop :=
  ∀ (h : Nat) (q : (Nat → Int32) × Nat), h + K ≤ 64 → StK b h q → StK (some v) h (vrl lt q cs) ∧ ∀ i, i < h → (vrl lt q cs).1 i = q.1 i
section V0
variable {lt : Nat → Int32} {b : Option Int32} {K : Nat}
theorem vrl_app {q : (Nat → Int32) × Nat} {a c : List Nat} : vrl lt q (a ++ c) = vrl lt (vrl lt q a) c := List.foldl_append
theorem Psh.seq {c1 c2 : List Nat} {v1 v2 : Int32} (h1 : Psh lt b c1 v1 K) (h2 : Psh lt (some v1) c2 v2 K) : Psh lt b (c1 ++ c2) v2 K := by
  intro h q hK hS
  obtain ⟨s1, e1⟩ := h1 h q hK hS
  obtain ⟨s2, e2⟩ := h2 h _ hK s1
  rw [vrl_app]
  exact ⟨s2, fun i hi => (e2 i hi).trans (e1 i hi)⟩
theorem Psh.mono {c : List Nat} {v : Int32} {K2 : Nat} (h1 : Psh lt b c v K) (hk : K ≤ K2) : Psh lt b c v K2 := fun h q hK hS => h1 h q (by omega) hS
theorem Psh.nil {v : Int32} : Psh lt (some v) [] v K := fun h q _ hS => ⟨hS, fun _ _ => rfl⟩
theorem Psh.le {s : Nat} (hs : s < 6) (hK : 1 ≤ K) : Psh lt none [s] (lt s) K := by
  intro h q hk hS
  have h2 : q.2 = h := hS
  have e : vrl lt q [s] = (va_up q.1 q.2 (lt s), q.2 + 1) := by
    show vstep lt q s = _
    unfold vstep
    rw [if_neg (show ¬ 16 ≤ s by omega), if_pos hs, if_pos (by omega)]
  rw [e]
  exact ⟨⟨by rw [h2], by rw [h2]; exact va_up_self _ _ _⟩, fun i hi => va_up_ne _ _ (by omega)⟩
theorem Psh.nu {n : Nat} (hn : n < 10000) (hK : 1 ≤ K) : Psh lt none [16 + n] (nI n) K := by
  intro h q hk hS
  have h2 : q.2 = h := hS
  have e : vrl lt q [16 + n] = (va_up q.1 q.2 (nI n), q.2 + 1) := by
    show vstep lt q (16 + n) = _
    unfold vstep
    rw [if_pos (show 16 ≤ 16 + n by omega), if_pos (by omega), show (16 : Int32) = nI 16 from rfl, pk_sub (by omega), Nat.add_sub_cancel_left]
  rw [e]
  exact ⟨⟨by rw [h2], by rw [h2]; exact va_up_self _ _ _⟩, fun i hi => va_up_ne _ _ (by omega)⟩
theorem Psh.nt {c : List Nat} {v : Int32} (h1 : Psh lt b c v K) : Psh lt b (c ++ [8]) (1 - v) K := by
  refine Psh.seq h1 (fun h q hk hS => ?_)
  obtain ⟨h2, h3⟩ : q.2 = h + 1 ∧ q.1 h = v := hS
  have e : vrl lt q [8] = (va_up q.1 (q.2 - 1) (1 - q.1 (q.2 - 1)), q.2) := by
    show vstep lt q 8 = _
    unfold vstep
    rw [if_neg (by decide), if_neg (by decide), if_pos rfl, if_pos (by omega)]
  rw [e]
  exact ⟨⟨h2, by rw [show q.2 - 1 = h by omega, h3]; exact va_up_self _ _ _⟩, fun i hi => va_up_ne _ _ (by omega)⟩
theorem Psh.bin {c : List Nat} {v1 v2 : Int32} {s : Nat} (h1 : Psh lt none c v2 K) (hs : 6 ≤ s) (hs2 : s < 16) (hs3 : s ≠ 8) : Psh lt (some v1) (c ++ [s]) (clampL (jv s v1.toInt64 v2.toInt64)) (K + 1) := by
  intro h q hk hS
  obtain ⟨h2, h3⟩ : q.2 = h + 1 ∧ q.1 h = v1 := hS
  obtain ⟨⟨a1, a2⟩, a3⟩ := h1 (h + 1) q (by omega) h2
  rw [vrl_app]
  generalize vrl lt q c = q2 at a1 a2 a3 ⊢
  have e : vrl lt q2 [s] = (va_up q2.1 (q2.2 - 2) (clampL (jv s (q2.1 (q2.2 - 2)).toInt64 (q2.1 (q2.2 - 1)).toInt64)), q2.2 - 1) := by
    show vstep lt q2 s = _
    unfold vstep
    rw [if_neg (show ¬ 16 ≤ s by omega), if_neg (show ¬ s < 6 by omega), if_neg hs3, if_pos (by omega)]
  rw [e]
  have e1 : q2.2 - 2 = h := by omega
  have e2 : q2.2 - 1 = h + 1 := by omega
  rw [e1, e2]
  refine ⟨⟨rfl, ?_⟩, fun i hi => ?_⟩
  · rw [a2]
    show va_up q2.1 h _ h = _
    rw [va_up_self, a3 h (by omega), h3]
  · show va_up q2.1 h _ i = _
    rw [va_up_ne _ _ (by omega), a3 i (by omega)]
def PshR (lt : Nat → Int32) (K : Nat) (b : Option Int32) (r : PR) : Prop := r.1 = true → Psh lt b r.2.2.1 (r.2.2.2 lt) K
theorem PshR_fl {p : Nat} : PshR lt K b (flP p) := fun q => absurd q Bool.false_ne_true
theorem PshR.mono {r : PR} {K2 : Nat} (h : PshR lt K b r) (hk : K ≤ K2) : PshR lt K2 b r := fun q => (h q).mono hk
theorem jof_j {lv c : Nat} (h : jof lv c ≠ 0) : 6 ≤ jof lv c ∧ jof lv c < 16 ∧ jof lv c ≠ 8 := by
  unfold jof at h ⊢
  repeat' split
  all_goals first | decide | (exfalso; simp_all)
variable {T : Nat → Nat} {L : Nat}
theorem jnP_j {lv p : Nat} (h : jnP T L lv p ≠ 0) : 6 ≤ jnP T L lv p ∧ jnP T L lv p < 16 ∧ jnP T L lv p ≠ 8 := by
  unfold jnP at h ⊢
  split
  · rename_i q; rw [if_pos q] at h; exact jof_j h
  · rename_i q; rw [if_neg q] at h; exact absurd rfl h
theorem lpP_psh {f : Nat → PR} (hf : ∀ i, PshR lt K none (f i)) {lv : Nat} : ∀ (n i : Nat) (E : LE), PshR lt (K + 1) (some (E lt)) (lpP T L f lv n i E)
  | 0, i, E => fun _ => Psh.nil
  | n + 1, i, E => by
    unfold lpP
    by_cases h0 : jnP T L lv (nxt T L i) = 0
    · rw [if_pos h0]
      exact fun _ => Psh.nil
    · rw [if_neg h0]
      have hj := jnP_j h0
      by_cases h1 : (f (nxt T L i + 1)).1 = true
      · rw [if_pos h1]
        intro q
        have h2 := (hf _ h1).bin (v1 := E lt) hj.1 hj.2.1 hj.2.2
        have h3 := lpP_psh hf (lv := lv) n (f (nxt T L i + 1)).2.1 (jnE (jnP T L lv (nxt T L i)) E (f (nxt T L i + 1)).2.2.2) q
        have h4 := Psh.seq h2 h3
        rw [List.append_assoc] at h4
        exact h4
      · rw [if_neg h1]
        exact PshR_fl
theorem sqP_psh {f : Nat → PR} (hf : ∀ i, PshR lt K none (f i)) {lv : Nat} {r : PR} (hr : PshR lt (K + 1) b r) : PshR lt (K + 1) b (sqP T L f lv r) := by
  unfold sqP
  by_cases h1 : r.1 = true
  · rw [if_pos h1]
    exact fun q => Psh.seq (hr h1) (lpP_psh hf 240 r.2.1 r.2.2.2 q)
  · rw [if_neg h1]
    exact PshR_fl
theorem clP_psh {c : Nat} {r : PR} (hr : PshR lt K b r) : PshR lt K b (clP T L c r) := by
  unfold clP
  by_cases h1 : r.1 = true
  · rw [if_pos h1]
    split
    · exact fun _ => hr h1
    · exact PshR_fl
  · rw [if_neg h1]
    exact PshR_fl
theorem ntP_psh {r : PR} (hr : PshR lt K b r) : PshR lt K b (ntP r) := by
  unfold ntP
  by_cases h1 : r.1 = true
  · rw [if_pos h1]
    exact fun _ => (hr h1).nt
  · rw [if_neg h1]
    exact PshR_fl
/-- what those within need -/
def PshO (lt : Nat → Int32) (K : Nat) (o : LO) : Prop := ∀ q, o = some q → ∀ i, PshR lt K none (q.1 i) ∧ PshR lt (K + 3) none (q.2.1 i) ∧ PshR lt (K + 1) none (q.2.2 i)
theorem atP_psh {o : LO} (ho : PshO lt K o) (hK : 1 ≤ K) (hi : Nat) : PshR lt K none (atP T L o hi) := by
  unfold atP
  split
  · rename_i h; exact fun _ => Psh.le h hK
  · split
    · unfold iqP
      cases o with
      | none => exact PshR_fl
      | some q => exact clP_psh (ho q rfl _).1
    · split
      · rename_i h
        intro _
        by_cases hl : hi ≤ L
        · exact Psh.nu (((numP_san hl (by decide)).2 h).2) hK
        · exact absurd h (by
            have hn : nxt T L hi = hi := nxt_e (fun q => hl (Nat.le_of_lt q.1))
            unfold numP
            rw [if_neg (fun q => by have := (dig_lt q).1; omega)]
            exact Bool.false_ne_true)
      · exact PshR_fl
theorem tmP_psh {o : LO} (ho : PshO lt K o) (hK : 1 ≤ K) (i : Nat) : PshR lt (K + 1) none (tmP T L o i) := sqP_psh (atP_psh ho hK) ((atP_psh ho hK i).mono (by omega))
theorem smP_psh {o : LO} (ho : PshO lt K o) (hK : 1 ≤ K) (i : Nat) : PshR lt (K + 2) none (smP T L o i) := sqP_psh (tmP_psh ho hK) ((tmP_psh ho hK i).mono (by omega))
theorem cmP_psh {o : LO} (ho : PshO lt K o) (hK : 1 ≤ K) (E : LE) (i : Nat) : PshR lt (K + 3) (some (E lt)) (cmP T L o E i) := by
  unfold cmP
  split
  · exact PshR_fl
  · rename_i h0
    have hj := jnP_j h0
    split
    · rename_i h1
      exact fun _ => (smP_psh ho hK _ h1).bin hj.1 hj.2.1 hj.2.2
    · exact PshR_fl
theorem unP_psh {o : LO} (ho : PshO lt K o) (hK : 1 ≤ K) (i : Nat) : PshR lt (K + 3) none (unP T L o i) := by
  unfold unP
  split
  · unfold iqP
    cases o with
    | none => exact PshR_fl
    | some q =>
      dsimp only
      repeat' split
      · exact clP_psh (ho q rfl _).2.1
      · exact clP_psh ((ho q rfl _).1.mono (by omega))
      · exact ntP_psh ((ho q rfl _).2.2.mono (by omega))
  · unfold thP
    split
    · rename_i h1
      exact fun q => Psh.seq ((smP_psh ho hK i h1).mono (by omega)) (cmP_psh ho hK _ _ q)
    · exact PshR_fl
theorem unB_psh {o : LO} (ho : PshO lt K o) (hK : 1 ≤ K) (e : Option LE) (i : Nat) : PshR lt (K + 3) (e.map (fun E => E lt)) (unB T L o e i) := by
  cases e with
  | none => exact unP_psh ho hK i
  | some E => exact cmP_psh ho hK E i
theorem trB_psh {o : LO} (ho : PshO lt K o) (hK : 1 ≤ K) (e : Option LE) (i : Nat) : PshR lt (K + 4) (e.map (fun E => E lt)) (trB T L o e i) := sqP_psh (unP_psh ho hK) ((unB_psh ho hK e i).mono (by omega))
theorem cdB_psh {o : LO} (ho : PshO lt K o) (hK : 1 ≤ K) (e : Option LE) (i : Nat) : PshR lt (K + 5) (e.map (fun E => E lt)) (cdB T L o e i) := sqP_psh (trB_psh ho hK none) ((trB_psh ho hK e i).mono (by omega))
theorem loP_psh : ∀ n, PshO lt (2 * n + 1) (loP T L n)
  | 0 => fun q h => by cases h
  | n + 1 => fun q h i => by
    have ih := loP_psh n
    have hK : 1 ≤ 2 * n + 1 := by omega
    cases h
    cases n with
    | zero => exact ⟨smP_psh ih hK i, cdB_psh ih hK none i, unP_psh ih hK i⟩
    | succ n => exact ⟨smP_psh ih hK i, cdB_psh ih hK none i, unP_psh ih hK i⟩
/-! nought and one -/
def Bol (r : PR) : Prop := r.1 = true → ∀ lt, r.2.2.2 lt = 0 ∨ r.2.2.2 lt = 1
theorem Bol_fl {p : Nat} : Bol (flP p) := fun q => absurd q Bool.false_ne_true
theorem jn67 {s : Nat} (hs : s = 6 ∨ s = 7) {a c : Int32} (ha : a = 0 ∨ a = 1) (hc : c = 0 ∨ c = 1) : clampL (jv s a.toInt64 c.toInt64) = 0 ∨ clampL (jv s a.toInt64 c.toInt64) = 1 := by
  rcases hs with rfl | rfl <;> rcases ha with rfl | rfl <;> rcases hc with rfl | rfl <;> decide
theorem jnc {s : Nat} (hs : s = 9 ∨ s = 10 ∨ s = 11) {a c : Int64} : clampL (jv s a c) = 0 ∨ clampL (jv s a c) = 1 := by
  unfold jv
  rcases hs with rfl | rfl | rfl
  · rw [if_neg (by decide), if_neg (by decide), if_pos rfl]; split; exact Or.inr (by decide); exact Or.inl (by decide)
  · rw [if_neg (by decide), if_neg (by decide), if_neg (by decide), if_pos rfl]; split; exact Or.inr (by decide); exact Or.inl (by decide)
  · rw [if_neg (by decide), if_neg (by decide), if_neg (by decide), if_neg (by decide), if_pos rfl]; split; exact Or.inr (by decide); exact Or.inl (by decide)
theorem jnP01 {lv p : Nat} (hl : lv = 0 ∨ lv = 1) (h : jnP T L lv p ≠ 0) : jnP T L lv p = 6 ∨ jnP T L lv p = 7 := by
  unfold jnP at h ⊢
  split
  · rename_i q
    rw [if_pos q] at h
    rcases hl with rfl | rfl
    · unfold jof at h ⊢
      rw [if_pos rfl] at h ⊢
      split
      · exact Or.inl rfl
      · rename_i q2; rw [if_neg q2] at h; exact absurd rfl h
    · unfold jof at h ⊢
      rw [if_neg (by decide), if_pos rfl] at h ⊢
      split
      · exact Or.inr rfl
      · rename_i q2; rw [if_neg q2] at h; exact absurd rfl h
  · rename_i q
    rw [if_neg q] at h; exact absurd rfl h
theorem jnP2 {p : Nat} (h : jnP T L 2 p ≠ 0) : jnP T L 2 p = 9 ∨ jnP T L 2 p = 10 ∨ jnP T L 2 p = 11 := by
  unfold jnP at h ⊢
  split
  · rename_i q
    rw [if_pos q] at h
    unfold jof at h ⊢
    rw [if_neg (by decide), if_neg (by decide), if_pos rfl] at h ⊢
    repeat' split
    · exact Or.inl rfl
    · exact Or.inr (Or.inl rfl)
    · exact Or.inr (Or.inr rfl)
    · rename_i q1 q2 q3; rw [if_neg q1, if_neg q2, if_neg q3] at h; exact absurd rfl h
  · rename_i q
    rw [if_neg q] at h; exact absurd rfl h
theorem lpP_bol {f : Nat → PR} (hf : ∀ i, Bol (f i)) {lv : Nat} (hl : lv = 0 ∨ lv = 1) : ∀ (n i : Nat) (E : LE), (∀ lt, E lt = 0 ∨ E lt = 1) → Bol (lpP T L f lv n i E)
  | 0, i, E, hE => fun _ => hE
  | n + 1, i, E, hE => by
    unfold lpP
    split
    · exact fun _ => hE
    · rename_i h0
      split
      · rename_i h1
        have h2 := hf _ h1
        exact lpP_bol hf hl n _ _ (fun lt => jn67 (jnP01 hl h0) (hE lt) (h2 lt))
      · exact Bol_fl
theorem sqP_bol {f : Nat → PR} (hf : ∀ i, Bol (f i)) {lv : Nat} (hl : lv = 0 ∨ lv = 1) {r : PR} (hr : Bol r) : Bol (sqP T L f lv r) := by
  unfold sqP
  split
  · rename_i h1
    exact lpP_bol hf hl 240 _ _ (hr h1)
  · exact Bol_fl
theorem clP_bol {c : Nat} {r : PR} (hr : Bol r) : Bol (clP T L c r) := by
  unfold clP
  split
  · rename_i h1
    split
    · exact fun _ => hr h1
    · exact Bol_fl
  · exact Bol_fl
theorem ntP_bol {r : PR} (hr : Bol r) : Bol (ntP r) := by
  unfold ntP
  split
  · rename_i h1
    exact fun _ lt => (hr h1 lt).elim (fun q => Or.inr (by show 1 - r.2.2.2 lt = 1; rw [q]; decide)) (fun q => Or.inl (by show 1 - r.2.2.2 lt = 0; rw [q]; decide))
  · exact Bol_fl
def BolO (o : LO) : Prop := ∀ q, o = some q → ∀ i, Bol (q.2.1 i) ∧ Bol (q.2.2 i)
theorem cmP_bol {o : LO} {E : LE} (i : Nat) : Bol (cmP T L o E i) := by
  unfold cmP
  split
  · exact Bol_fl
  · rename_i h0
    split
    · exact fun _ lt => jnc (jnP2 h0)
    · exact Bol_fl
theorem unP_bol {o : LO} (ho : BolO o) (i : Nat) : Bol (unP T L o i) := by
  unfold unP
  split
  · rename_i h1
    unfold iqP
    cases o with
    | none => exact Bol_fl
    | some q =>
      dsimp only
      split
      · exact clP_bol (ho q rfl _).1
      · rename_i h40
        rw [if_neg (fun q => h1.elim (fun a => by have := (isS_in a).2; omega) (fun a => by have := (isS_in a).2; omega))]
        exact ntP_bol (ho q rfl _).2
  · unfold thP
    split
    · exact cmP_bol _
    · exact Bol_fl
theorem unB_bol {o : LO} (ho : BolO o) (e : Option LE) (i : Nat) : Bol (unB T L o e i) := by
  cases e with
  | none => exact unP_bol ho i
  | some E => exact cmP_bol i
theorem trB_bol {o : LO} (ho : BolO o) (e : Option LE) (i : Nat) : Bol (trB T L o e i) := sqP_bol (unP_bol ho) (Or.inr rfl) (unB_bol ho e i)
theorem cdB_bol {o : LO} (ho : BolO o) (e : Option LE) (i : Nat) : Bol (cdB T L o e i) := sqP_bol (trB_bol ho none) (Or.inl rfl) (trB_bol ho e i)
theorem loP_bol : ∀ n, BolO (loP T L n)
  | 0 => fun q h => by cases h
  | n + 1 => fun q h i => by
    have ih := loP_bol n
    cases h
    cases n with
    | zero => exact ⟨cdB_bol ih none i, unP_bol ih i⟩
    | succ n => exact ⟨cdB_bol ih none i, unP_bol ih i⟩
end V0
/-- only letters that are read count -/
theorem vrl_congr {lt lt2 : Nat → Int32} : ∀ {cs : List Nat} {q : (Nat → Int32) × Nat}, (∀ s ∈ cs, s < 6 → lt s = lt2 s) → vrl lt q cs = vrl lt2 q cs
  | [], q, _ => rfl
  | s :: cs, q, h => by
    show vrl lt (vstep lt q s) cs = vrl lt2 (vstep lt2 q s) cs
    have e : vstep lt q s = vstep lt2 q s := by
      unfold vstep
      by_cases h6 : s < 6
      · rw [h s (List.mem_cons_self) h6]
      · rw [if_neg h6, if_neg h6]
    rw [e]
    exact vrl_congr (fun t ht => h t (List.mem_cons_of_mem _ ht))
theorem Psh_congr {lt lt2 : Nat → Int32} {cs : List Nat} {v v2 : Int32} {K : Nat} (hK : K ≤ 64) (h1 : Psh lt none cs v K) (h2 : Psh lt2 none cs v2 K) (h : ∀ s ∈ cs, s < 6 → lt s = lt2 s) : v = v2 := by
  have a := (h1 0 (fun _ => 0, 0) (by omega) rfl).1.2
  have c := (h2 0 (fun _ => 0, 0) (by omega) rfl).1.2
  rw [← a, ← c, vrl_congr h]
/-- the signs in a row -/
theorem vrun_vrl {lt : Nat → Int32} {sg : Nat → Nat} {b : Nat} {q : (Nat → Int32) × Nat} {cs : List Nat} : ∀ n, n ≤ cs.length → (∀ i, i < n → sg (b + i) = cs.getD i 0) → vrun lt sg b q n = vrl lt q (cs.take n)
  | 0, _, _ => by rw [List.take_zero]; rfl
  | n + 1, hn, h => by
    show vstep lt (vrun lt sg b q n) (sg (b + n)) = _
    rw [vrun_vrl n (by omega) (fun i hi => h i (by omega)), h n (by omega), List.take_succ_eq_append_getElem (by omega), vrl_app]
    show _ = vstep lt _ cs[n]
    rw [List.getD_eq_getElem?_getD, List.getElem?_eq_getElem (by omega)]; rfl
theorem vval_of {lt : Nat → Int32} {sg : Nat → Nat} {w : Nat → Int32} {b K : Nat} {cs : List Nat} {v : Int32} (hK : K ≤ 64) (hp : Psh lt none cs v K) (h : ∀ i, i < cs.length → sg (b + i) = cs.getD i 0) : vval lt sg w b cs.length = v := by
  unfold vval
  rw [vrun_vrl _ (Nat.le_refl _) h, List.take_length]
  obtain ⟨⟨a1, a2⟩, _⟩ := hp 0 (w, 0) (by omega) rfl
  rw [if_pos (by omega)]
  exact a2
