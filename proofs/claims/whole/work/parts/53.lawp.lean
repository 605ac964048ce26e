/-! the law's text: whether a part stands there, the place behind it or of its fault, its signs, its worth by the letters -/
abbrev LE := (Nat → Int32) → Int32
abbrev PR := Bool × Nat × List Nat × LE
def flP (p : Nat) : PR := (false, p, [], fun _ => 0)
/-- what joins at a level, by its sign; 0: nothing -/
def jof (lv c : Nat) : Nat :=
  if lv = 0 then (if c = 124 then 6 else 0)
  else if lv = 1 then (if c = 38 then 7 else 0)
  else if lv = 2 then (if c = 61 then 9 else if c = 60 then 10 else if c = 62 then 11 else 0)
  else if lv = 3 then (if c = 43 then 12 else if c = 45 then 13 else 0)
  else if lv = 4 then (if c = 42 then 14 else if c = 47 then 15 else 0)
  else 0
def lof (c : Nat) : Nat := if c = 103 then 0 else if c = 115 then 1 else if c = 98 then 2 else if c = 110 then 3 else if c = 119 then 4 else if c = 116 then 5 else 6
def jnP (T : Nat → Nat) (L lv p : Nat) : Nat := if p < L then jof lv (T p) else 0
def leP (T : Nat → Nat) (L p : Nat) : Nat := if p < L then lof (T p) else 6
def jnE (s : Nat) (a b : LE) : LE := fun lt => clampL (jv s (a lt).toInt64 (b lt).toInt64)
section P0
variable (T : Nat → Nat) (L : Nat)
def lpP (f : Nat → PR) (lv : Nat) : Nat → Nat → LE → PR
  | 0, i, E => (true, nxt T L i, [], E)
  | n + 1, i, E =>
    if jnP T L lv (nxt T L i) = 0 then (true, nxt T L i, [], E)
    else if (f (nxt T L i + 1)).1 then
      ((lpP f lv n (f (nxt T L i + 1)).2.1 (jnE (jnP T L lv (nxt T L i)) E (f (nxt T L i + 1)).2.2.2)).1,
       (lpP f lv n (f (nxt T L i + 1)).2.1 (jnE (jnP T L lv (nxt T L i)) E (f (nxt T L i + 1)).2.2.2)).2.1,
       (f (nxt T L i + 1)).2.2.1 ++ jnP T L lv (nxt T L i) :: (lpP f lv n (f (nxt T L i + 1)).2.1 (jnE (jnP T L lv (nxt T L i)) E (f (nxt T L i + 1)).2.2.2)).2.2.1,
       (lpP f lv n (f (nxt T L i + 1)).2.1 (jnE (jnP T L lv (nxt T L i)) E (f (nxt T L i + 1)).2.2.2)).2.2.2)
    else flP (f (nxt T L i + 1)).2.1
/-- a first part r, and what is joined to it -/
def sqP (f : Nat → PR) (lv : Nat) (r : PR) : PR :=
  if r.1 then ((lpP T L f lv 240 r.2.1 r.2.2.2).1, (lpP T L f lv 240 r.2.1 r.2.2.2).2.1, r.2.2.1 ++ (lpP T L f lv 240 r.2.1 r.2.2.2).2.2.1, (lpP T L f lv 240 r.2.1 r.2.2.2).2.2.2) else flP r.2.1
/-- a part r that a sign closes -/
def clP (c : Nat) (r : PR) : PR := if r.1 then (if isS T L r.2.1 c then (true, nxt T L r.2.1 + 1, r.2.2.1, r.2.2.2) else flP (nxt T L r.2.1)) else flP r.2.1
def ntP (r : PR) : PR := if r.1 then (true, r.2.1, r.2.2.1 ++ [8], fun lt => 1 - r.2.2.2 lt) else flP r.2.1
/-- within: the SUM, the CONDITION and the UNIT a level deeper; none: too deep -/
abbrev LO := Option ((Nat → PR) × (Nat → PR) × (Nat → PR))
def iqP (o : LO) (c p : Nat) : PR := match o with
  | none => flP p
  | some q => if c = 40 then clP T L 41 (q.2.1 (p + 1)) else if c = 91 then clP T L 93 (q.1 (p + 1)) else ntP (q.2.2 (p + 1))
def atP (o : LO) (i : Nat) : PR :=
  if leP T L (nxt T L i) < 6 then (true, nxt T L i + 1, [leP T L (nxt T L i)], fun lt => lt (leP T L (nxt T L i)))
  else if isS T L i 91 then iqP T L o 91 (nxt T L i)
  else if (numP T L 4 0 9999 i).1 then (true, (numP T L 4 0 9999 i).2.1, [16 + (numP T L 4 0 9999 i).2.2], fun _ => nI (numP T L 4 0 9999 i).2.2)
  else flP (numP T L 4 0 9999 i).2.1
def tmP (o : LO) (i : Nat) : PR := sqP T L (atP T L o) 4 (atP T L o i)
def smP (o : LO) (i : Nat) : PR := sqP T L (tmP T L o) 3 (tmP T L o i)
/-- what is compared with a first SUM worth E -/
def cmP (o : LO) (E : LE) (i : Nat) : PR :=
  if jnP T L 2 (nxt T L i) = 0 then flP (nxt T L i)
  else if (smP T L o (nxt T L i + 1)).1 then (true, (smP T L o (nxt T L i + 1)).2.1, (smP T L o (nxt T L i + 1)).2.2.1 ++ [jnP T L 2 (nxt T L i)], jnE (jnP T L 2 (nxt T L i)) E (smP T L o (nxt T L i + 1)).2.2.2)
  else flP (smP T L o (nxt T L i + 1)).2.1
/-- r, and then q -/
def thP (r q : PR) : PR := if r.1 then (q.1, q.2.1, r.2.2.1 ++ q.2.2.1, q.2.2.2) else flP r.2.1
def unP (o : LO) (i : Nat) : PR :=
  if isS T L i 33 ∨ isS T L i 40 then iqP T L o (T (nxt T L i)) (nxt T L i)
  else thP (smP T L o i) (cmP T L o (smP T L o i).2.2.2 (smP T L o i).2.1)
def unB (o : LO) (b : Option LE) (i : Nat) : PR := match b with
  | none => unP T L o i
  | some E => cmP T L o E i
def trB (o : LO) (b : Option LE) (i : Nat) : PR := sqP T L (unP T L o) 1 (unB T L o b i)
def cdB (o : LO) (b : Option LE) (i : Nat) : PR := sqP T L (trB T L o none) 0 (trB T L o b i)
def lvP : Nat → (Nat → PR) × (Nat → PR) × (Nat → PR)
  | 0 => (smP T L none, cdB T L none none, unP T L none)
  | n + 1 => (smP T L (some (lvP n)), cdB T L (some (lvP n)) none, unP T L (some (lvP n)))
def loP : Nat → LO
  | 0 => none
  | n + 1 => some (lvP T L n)
end P0
/-! places and bounds -/
def San (L i : Nat) (r : PR) : Prop := r.2.1 ≤ L ∧ (r.1 = true → i + 1 ≤ r.2.1 ∧ i + r.2.2.1.length ≤ r.2.1 ∧ ∀ s ∈ r.2.2.1, s < 20000)
def SanB (L i : Nat) (r : PR) : Prop := r.2.1 ≤ L ∧ (r.1 = true → i ≤ r.2.1 ∧ i + r.2.2.1.length ≤ r.2.1 ∧ ∀ s ∈ r.2.2.1, s < 20000)
def SanF (L : Nat) (f : Nat → PR) : Prop := ∀ i, i ≤ L → San L i (f i)
section P1
variable {T : Nat → Nat} {L : Nat}
theorem San.b {i : Nat} {r : PR} (h : San L i r) : SanB L i r := ⟨h.1, fun q => ⟨by have := (h.2 q).1; omega, (h.2 q).2⟩⟩
theorem San_fl {p i : Nat} (h : p ≤ L) : San L i (flP p) := ⟨h, fun q => absurd q Bool.false_ne_true⟩
theorem SanB_fl {p i : Nat} (h : p ≤ L) : SanB L i (flP p) := ⟨h, fun q => absurd q Bool.false_ne_true⟩
theorem jof_lt {lv c : Nat} : jof lv c < 16 := by unfold jof; (repeat' split) <;> decide
theorem jnP_lt {lv p : Nat} : jnP T L lv p < 16 := by unfold jnP; split; exact jof_lt; decide
theorem jnP_in {lv p : Nat} (h : jnP T L lv p ≠ 0) : p < L := by
  unfold jnP at h
  split at h
  · assumption
  · exact absurd rfl h
theorem leP_in {p : Nat} (h : leP T L p < 6) : p < L := by
  unfold leP at h
  split at h
  · assumption
  · exact absurd h (by decide)
theorem isS_in {i c : Nat} (h : isS T L i c = true) : nxt T L i < L ∧ T (nxt T L i) = c := by
  unfold isS at h
  rw [Bool.and_eq_true, decide_eq_true_iff, decide_eq_true_iff] at h
  exact h
theorem lpP_san {f : Nat → PR} (hf : SanF L f) {lv : Nat} : ∀ (n i : Nat) (E : LE), i ≤ L → SanB L i (lpP T L f lv n i E)
  | 0, i, E, hi => ⟨nxt_le hi, fun _ => ⟨nxt_ge, nxt_ge, fun s hs => absurd hs (List.not_mem_nil)⟩⟩
  | n + 1, i, E, hi => by
    unfold lpP
    have hg := nxt_ge (T := T) (L := L) (i := i)
    by_cases h0 : jnP T L lv (nxt T L i) = 0
    · rw [if_pos h0]
      exact ⟨nxt_le hi, fun _ => ⟨nxt_ge, nxt_ge, fun s hs => absurd hs (List.not_mem_nil)⟩⟩
    · rw [if_neg h0]
      have hp := jnP_in h0
      have hs := hf (nxt T L i + 1) hp
      by_cases h1 : (f (nxt T L i + 1)).1 = true
      · rw [if_pos h1]
        have h2 := hs.2 h1
        have h3 := lpP_san hf (lv := lv) n (f (nxt T L i + 1)).2.1 (jnE (jnP T L lv (nxt T L i)) E (f (nxt T L i + 1)).2.2.2) hs.1
        refine ⟨h3.1, fun q => ?_⟩
        have h4 := h3.2 q
        refine ⟨by dsimp only; omega, by rw [List.length_append, List.length_cons]; dsimp only; omega, fun s hs => ?_⟩
        rcases List.mem_append.mp hs with q | q
        · exact h2.2.2 s q
        · rcases List.mem_cons.mp q with q | q
          · rw [q]; have := jnP_lt (T := T) (L := L) (lv := lv) (p := nxt T L i); omega
          · exact h4.2.2 s q
      · rw [if_neg h1]
        exact SanB_fl hs.1
theorem sqP_san {f : Nat → PR} (hf : SanF L f) {lv i : Nat} {r : PR} (hr : San L i r) : San L i (sqP T L f lv r) := by
  unfold sqP
  by_cases h1 : r.1 = true
  · rw [if_pos h1]
    have h2 := hr.2 h1
    have h3 := lpP_san (T := T) hf (lv := lv) 240 r.2.1 r.2.2.2 hr.1
    refine ⟨h3.1, fun q => ?_⟩
    have h4 := h3.2 q
    refine ⟨by dsimp only; omega, by rw [List.length_append]; dsimp only; omega, fun s hs => ?_⟩
    rcases List.mem_append.mp hs with q | q
    · exact h2.2.2 s q
    · exact h4.2.2 s q
  · rw [if_neg h1]
    exact San_fl hr.1
theorem clP_san {c i : Nat} {r : PR} (hr : San L i r) : San L i (clP T L c r) := by
  unfold clP
  by_cases h1 : r.1 = true
  · rw [if_pos h1]
    by_cases h2 : isS T L r.2.1 c = true
    · rw [if_pos h2]
      have h3 := isS_in h2
      have h4 := nxt_ge (T := T) (L := L) (i := r.2.1)
      have h5 := hr.2 h1
      exact ⟨h3.1, fun _ => ⟨by dsimp only; omega, by dsimp only; omega, h5.2.2⟩⟩
    · rw [if_neg h2]
      exact San_fl (nxt_le hr.1)
  · rw [if_neg h1]
    exact San_fl hr.1
theorem ntP_san {i p : Nat} {r : PR} (hr : San L p r) (hi : i + 1 ≤ p) : San L i (ntP r) := by
  unfold ntP
  by_cases h1 : r.1 = true
  · rw [if_pos h1]
    have h5 := hr.2 h1
    refine ⟨hr.1, fun _ => ⟨by dsimp only; omega, by rw [List.length_append]; show i + (_ + 1) ≤ _; dsimp only; omega, fun s hs => ?_⟩⟩
    rcases List.mem_append.mp hs with q | q
    · exact h5.2.2 s q
    · rw [List.mem_singleton.mp q]; decide
  · rw [if_neg h1]
    exact San_fl hr.1
def SanO (L : Nat) (o : LO) : Prop := ∀ q, o = some q → SanF L q.1 ∧ SanF L q.2.1 ∧ SanF L q.2.2
theorem San.le {i p : Nat} {r : PR} (h : San L p r) (hi : i ≤ p) : San L i r := ⟨h.1, fun q => ⟨by have := (h.2 q).1; omega, by have := (h.2 q).2.1; omega, (h.2 q).2.2⟩⟩
theorem iqP_san {o : LO} (ho : SanO L o) {c i p : Nat} (hp : p < L) (hi : i ≤ p) : San L i (iqP T L o c p) := by
  unfold iqP
  cases o with
  | none => exact San_fl (by omega)
  | some q =>
    obtain ⟨h1, h2, h3⟩ := ho q rfl
    dsimp only
    repeat' split
    · exact clP_san ((h2 (p + 1) hp).le (by omega))
    · exact clP_san ((h1 (p + 1) hp).le (by omega))
    · exact ntP_san (h3 (p + 1) hp) (by omega)
theorem numP_san {i mx lo hi : Nat} (hi2 : i ≤ L) (hm : 1 ≤ mx) : (numP T L mx lo hi i).2.1 ≤ L ∧ ((numP T L mx lo hi i).1 = true → i + 1 ≤ (numP T L mx lo hi i).2.1 ∧ (numP T L mx lo hi i).2.2 < 10 ^ mx) := by
  have h1 := nxt_le (T := T) hi2
  have h2 := nxt_ge (T := T) (L := L) (i := i)
  have h3 := (dgs_le (T := T) (L := L) (n := mx) (p := nxt T L i) (v := 0)).2 h1
  have h5 := dgs_v (T := T) (L := L) (n := mx) (p := nxt T L i) (v := 0)
  unfold numP
  by_cases hd : dig T L (nxt T L i) = true
  · rw [if_pos hd]
    have h4 : nxt T L i + 1 ≤ (dgs T L mx (nxt T L i) 0).1 := by
      obtain ⟨m, rfl⟩ : ∃ m, mx = m + 1 := ⟨mx - 1, by omega⟩
      unfold dgs
      rw [if_pos hd]
      exact dgs_le.1
    repeat' split
    · exact ⟨h3, fun q => absurd q Bool.false_ne_true⟩
    · exact ⟨by dsimp only; omega, fun q => absurd q Bool.false_ne_true⟩
    · exact ⟨h3, fun _ => ⟨by dsimp only; omega, by dsimp only; omega⟩⟩
  · rw [if_neg hd]
    exact ⟨h1, fun q => absurd q Bool.false_ne_true⟩
theorem atP_san {o : LO} (ho : SanO L o) : SanF L (atP T L o) := by
  intro i hi
  have hg := nxt_ge (T := T) (L := L) (i := i)
  unfold atP
  by_cases h1 : leP T L (nxt T L i) < 6
  · rw [if_pos h1]
    have := leP_in h1
    exact ⟨this, fun _ => ⟨by dsimp only; omega, by show i + 1 ≤ _; dsimp only; omega, fun s hs => by rw [List.mem_singleton.mp hs]; omega⟩⟩
  · rw [if_neg h1]
    by_cases h2 : isS T L i 91 = true
    · rw [if_pos h2]
      exact iqP_san ho (isS_in h2).1 hg
    · rw [if_neg h2]
      have hn := numP_san (T := T) (lo := 0) (hi := 9999) hi (show 1 ≤ 4 by decide)
      by_cases h3 : (numP T L 4 0 9999 i).1 = true
      · rw [if_pos h3]
        have h4 := hn.2 h3
        exact ⟨hn.1, fun _ => ⟨h4.1, h4.1, fun s hs => by rw [List.mem_singleton.mp hs]; have := h4.2; omega⟩⟩
      · rw [if_neg h3]
        exact San_fl hn.1
theorem tmP_san {o : LO} (ho : SanO L o) : SanF L (tmP T L o) := fun i hi => sqP_san (atP_san ho) (atP_san ho i hi)
theorem smP_san {o : LO} (ho : SanO L o) : SanF L (smP T L o) := fun i hi => sqP_san (tmP_san ho) (tmP_san ho i hi)
theorem cmP_san {o : LO} (ho : SanO L o) {E : LE} : SanF L (cmP T L o E) := by
  intro i hi
  have hg := nxt_ge (T := T) (L := L) (i := i)
  unfold cmP
  by_cases h0 : jnP T L 2 (nxt T L i) = 0
  · rw [if_pos h0]
    exact San_fl (nxt_le hi)
  · rw [if_neg h0]
    have hp := jnP_in h0
    have hs := smP_san (T := T) ho (nxt T L i + 1) hp
    by_cases h1 : (smP T L o (nxt T L i + 1)).1 = true
    · rw [if_pos h1]
      have h2 := hs.2 h1
      refine ⟨hs.1, fun _ => ⟨by dsimp only; omega, by rw [List.length_append]; show i + (_ + 1) ≤ _; dsimp only; omega, fun s hs => ?_⟩⟩
      rcases List.mem_append.mp hs with q | q
      · exact h2.2.2 s q
      · rw [List.mem_singleton.mp q]; have := jnP_lt (T := T) (L := L) (lv := 2) (p := nxt T L i); omega
    · rw [if_neg h1]
      exact San_fl hs.1
theorem unP_san {o : LO} (ho : SanO L o) : SanF L (unP T L o) := by
  intro i hi
  have hg := nxt_ge (T := T) (L := L) (i := i)
  unfold unP
  by_cases h1 : isS T L i 33 = true ∨ isS T L i 40 = true
  · rw [if_pos h1]
    exact iqP_san ho (h1.elim (fun q => (isS_in q).1) (fun q => (isS_in q).1)) hg
  · rw [if_neg h1]
    have hs := smP_san (T := T) ho i hi
    unfold thP
    by_cases h2 : (smP T L o i).1 = true
    · rw [if_pos h2]
      have h3 := hs.2 h2
      have h4 := cmP_san (T := T) ho (E := (smP T L o i).2.2.2) (smP T L o i).2.1 hs.1
      refine ⟨h4.1, fun q => ?_⟩
      have h5 := h4.2 q
      refine ⟨by dsimp only; omega, by rw [List.length_append]; dsimp only; omega, fun s hs => ?_⟩
      rcases List.mem_append.mp hs with q | q
      · exact h3.2.2 s q
      · exact h5.2.2 s q
    · rw [if_neg h2]
      exact San_fl hs.1
theorem unB_san {o : LO} (ho : SanO L o) {b : Option LE} : SanF L (unB T L o b) := by
  cases b with
  | none => exact unP_san ho
  | some E => exact cmP_san ho
theorem trB_san {o : LO} (ho : SanO L o) {b : Option LE} : SanF L (trB T L o b) := fun i hi => sqP_san (unP_san ho) (unB_san ho i hi)
theorem cdB_san {o : LO} (ho : SanO L o) {b : Option LE} : SanF L (cdB T L o b) := fun i hi => sqP_san (trB_san ho) (trB_san ho i hi)
theorem loP_san : ∀ n, SanO L (loP T L n)
  | 0 => fun q h => by cases h
  | n + 1 => fun q h => by
    have ih := loP_san n
    cases h
    cases n with
    | zero => exact ⟨smP_san ih, cdB_san ih, unP_san ih⟩
    | succ n => exact ⟨smP_san ih, cdB_san ih, unP_san ih⟩
end P1
