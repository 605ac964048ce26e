section I1
variable {X : gX} {Mc M M2 M3 : gM} {d n A N c w L : Nat} {E : Nat → LE} {EV : EVt} {T : Nat → Nat} {S : Nat → Prop}
theorem scQQ_n : QN scQQ := ⟨fun c a b e q => by rcases q with q | q | q | q | q <;> omega, fun j a b c' e f q => by rcases q with q | q | q | q | q <;> omega⟩
theorem scQQ_c : ∀ c, ccl c → ¬ scQQ c := fun c h q => by
  rcases h with h | h <;> rcases q with q | q | q | q | q <;> omega
theorem Sim.q {y1 y2 : MethodName} {c1 c2 : ByteArray} {n1 n2 : Nat} {ret : Option FieldType} {as : List Value} (h : ∀ {M : gM} {n : Nat} {E : Nat → LE} {EV : EVt} {N A c w : Nat} {T : Nat → Nat} {L : Nat}, KL M n E w T L → ZL M M n E EV N A c T L → ∃ r : Int32, gMet X 100 y1 c1 n1 ret (.ref 0 :: as) M gN0 0 0 (fun v M2 => v = some (.int r) ∧ gFr scA M M2 ∧ gmi M2 75 5 = gmi M 75 5) ∧ ∀ M2, ZL M M2 n E EV N A c T L → gMet X 100 y2 c2 n2 ret (.ref 100 :: as) M2 gN0 0 0 (fun v M3 => v = some (.int r) ∧ xFr scQQ M2 M3 ∧ RQ M3 n E EV)) : Sim X y1 c1 n1 y2 c2 n2 ret as := by
  rintro M ⟨n, E, EV, N, A, c, w, T, L, hC, hR⟩
  obtain ⟨r, h1, h2⟩ := h hC hR
  refine ⟨gN0, 0, 0, _, ⟨Nat.zero_le _, Nat.zero_le _, fun c hc => hc.elim⟩, h1, fun v1 M2 hq1 => ?_⟩
  obtain ⟨rfl, hf, h75⟩ := hq1
  have hm := IV.mid hC hR hf
  refine ⟨hm.1.1.1.1, _, h2 M2 hm, fun v2 M3 hq2 => ?_⟩
  obtain ⟨rfl, hx3, hrq⟩ := hq2
  exact ⟨hrq.1, ⟨r, rfl, rfl⟩, IV.ques hC hm hf h75 scQQ_n scQQ_c hx3 hrq⟩
theorem cq0 {v V : Option Value} (h : v = V ∧ gFr scr0 M M2) : v = V ∧ gFr scA M M2 ∧ gmi M2 75 5 = gmi M 75 5 := ⟨h.1, h.2.mono (fun c q => Or.inl q), by rw [h.2.2.2.2 75 (scr0_lo (by decide) (by decide))]⟩
theorem cqD {v V : Option Value} (h : v = V ∧ M2 = M) : v = V ∧ gFr scA M M2 ∧ gmi M2 75 5 = gmi M 75 5 := by rw [h.2]; exact ⟨h.1, gFr.rf, rfl⟩
theorem rqD {v V : Option Value} (h0 : R0 Mc M2 n E EV) (h : v = V ∧ M3 = gwI M2 100 0 0) : v = V ∧ xFr scQQ M2 M3 ∧ RQ M3 n E EV := by rw [h.2]; exact ⟨h.1, xFr.wf (Or.inr (Or.inl rfl)), h0.th.1⟩
theorem rqS {v V : Option Value} (hs : ∀ c, S c → scQQ c) (h : v = V ∧ xFr S M2 M3 ∧ RQ M3 n E EV) : v = V ∧ xFr scQQ M2 M3 ∧ RQ M3 n E EV := ⟨h.1, h.2.1.mono hs, h.2.2⟩
theorem s1000 : ∀ c, c = 1000 → scQQ c := fun c h => Or.inr (Or.inl h)
theorem s114 : ∀ c, c = 114 ∨ c = 1000 → scQQ c := fun c h => h.elim Or.inl (fun q => Or.inr (Or.inl q))
theorem sBB : ∀ c, scB c → scQQ c := fun c h => by
  rcases h with h | h | h
  · exact Or.inr (Or.inl h)
  · exact Or.inr (Or.inr (Or.inl h))
  · exact Or.inr (Or.inr (Or.inr (Or.inl h)))
theorem q_deed (hx : gXok X) (x z : Int32) : Sim X yX10_deed cX10_deed 3 yX11_deed cX11_deed 3 (some .int) [.int x, .int z] := Sim.q (fun hC hR => ⟨_, gMet.mono (c_deed (d := 99) hx hC.1 hR.1.1.2.1) (fun _ _ => cqD), fun M2 hm => gMet.mono (r_deed (d := 99) hx hm.1.1) (fun _ _ => rqD hm.1.1)⟩)
theorem q_left (hx : gXok X) (x z : Int32) : Sim X yX10_left cX10_left 3 yX11_left cX11_left 3 (some .int) [.int x, .int z] := Sim.q (fun hC hR => ⟨_, gMet.mono (c_left (d := 98) hx hC.1 hR.1.1.2.1) (fun _ _ => cqD), fun M2 hm => gMet.mono (r_left (d := 99) hx hm.1.1 hm.1.2.1.1) (fun _ _ => rqD hm.1.1)⟩)
theorem q_owners (hx : gXok X) (x : Int32) : Sim X yX10_owners cX10_owners 4 yX11_owners cX11_owners 4 (some .int) [.int x] := Sim.q (fun hC hR => ⟨_, gMet.mono (c_owners (d := 99) hx hC.1 hR.1.1.2.1) (fun _ _ => cqD), fun M2 hm => gMet.mono (r_owners (d := 99) hx hm.1.1 hm.1.2.1.1) (fun _ _ => rqD hm.1.1)⟩)
theorem q_wish (hx : gXok X) (x : Int32) : Sim X yX10_wish cX10_wish 2 yX11_wish cX11_wish 2 (some .int) [.int x] := Sim.q (fun {M n E EV N A c w T L} hC hR => by
  have hT := hR.1.1.2.1
  have hd := IV.day hR
  refine ⟨_, gMet.mono (c_wish (d := 98) hx hC.1 hT) (fun _ _ => cqD), fun M2 hm => gMet.mono (r_wish (d := 99) hx hm.1.1 hm.1.2.1.1 hd.1 (by have := hd.2; omega)) (fun v M3 q => ?_)⟩
  obtain ⟨q1, q2, q3⟩ := rqD hm.1.1 q
  refine ⟨?_, q2, q3⟩
  rw [q1]
  by_cases hi : inP M x
  · rw [if_pos hi, if_pos hi, wishD_eq hT hd (inP_row hT hi)]
    rfl
  · rw [if_neg hi, if_neg hi])
theorem q_clean (hx : gXok X) : Sim X yX10_clean cX10_clean 4 yX11_clean cX11_clean 4 (some .int) [] := Sim.q (fun {M n E EV N A c w T L} hC hR => by
  refine ⟨_, gMet.mono (c_clean (d := 99) hx hC.1 hR.1.1.2.1) (fun _ _ => cqD), fun M2 hm => gMet.mono (r_clean (d := 99) hx hm.1.1 hm.1.2.1.1) (fun v M3 q => ?_)⟩
  obtain ⟨q1, q2, q3⟩ := rqD hm.1.1 q
  refine ⟨?_, q2, q3⟩
  rw [q1, mxP_F])
theorem q_shares (hx : gXok X) (x z : Int32) : Sim X yX10_shares cX10_shares 5 yX11_shares cX11_shares 5 (some .int) [.int x, .int z] := Sim.q (fun {M n E EV N A c w T L} hC hR => by
  refine ⟨_, gMet.mono (c_shares (d := 96) hx hC.1 hR.1.1.2.1 (IV.left hR)) (fun _ _ => cqD), fun M2 hm => gMet.mono (r_shares (d := 97) hx hm.1.1 hm.1.2.1.1 hm.1.2.1.2.2.2.1) (fun v M3 q => ?_)⟩
  obtain ⟨q1, q2, q3⟩ := rqD hm.1.1 q
  refine ⟨?_, q2, q3⟩
  rw [q1, guAll_F]
  rfl)
theorem q_log (hx : gXok X) (x z : Int32) : Sim X yX10_log cX10_log 3 yX11_log cX11_log 3 (some .int) [.int x, .int z] := Sim.q (fun {M n E EV N A c w T L} hC hR => by
  have hd := IV.day hR
  exact ⟨_, gMet.mono (c_log (d := 98) hx hC.1 hd.1 hd.2) (fun _ _ => cqD), fun M2 hm => gMet.mono (r_log (d := 99) hx hm.1.1.1.1 hm.1.2.1.2.1) (fun _ _ => rqD hm.1.1)⟩)
theorem q_step (hx : gXok X) (x i z : Int32) : Sim X yX10_step cX10_step 5 yX11_step cX11_step 4 (some .int) [.int x, .int i, .int z] := Sim.q (fun hC hR => ⟨_, gMet.mono (c_stepT (d := 99) hx hC.1 hC.2.2.2.1.1) (fun _ _ => cqD), fun M2 hm => gMet.mono (r_step (d := 99) hx hm.1.1.1.1 hm.2.1) (fun _ _ => rqD hm.1.1)⟩)
theorem q_run (hx : gXok X) (hZ : gSt X) (x z : Int32) : Sim X yX10_run cX10_run 5 yX11_run cX11_run 4 (some .int) [.int x, .int z] := Sim.q (fun {M n E EV N A c w T L} hC hR => ⟨_, gMet.mono (c_run (d := 93) hx hC.1 hR.1.1.2.1 (IV.left hR) (IV.day hR) hC.2.2.2.1.1 (IV.court hC hR)) (fun _ M2 q => ⟨q.1, q.2.mono (fun c h => h.elim Or.inl (fun y => y.elim (fun z => Or.inr (Or.inl z)) (fun z => Or.inr (Or.inr (Or.inl z))))), by rw [q.2.2.2.2 75 (fun h => h.elim (scr0_lo (by decide) (by decide)) (by decide))]⟩), fun M2 hm => gMet.mono (r_run (d := 62) hx hZ hm.1.1 hm.1.2.1 hm.2.1) (fun _ _ => rqS s114)⟩)
theorem q_skin (hx : gXok X) (hZ : gSt X) (x z : Int32) : Sim X yX10_skin cX10_skin 4 yX11_skin cX11_skin 4 (some .int) [.int x, .int z] := Sim.q (fun {M n E EV N A c w T L} hC hR => by
  have hT := hR.1.1.2.1
  refine ⟨_, gMet.mono (c_skin (d := 95) hx hC.1 hT (IV.left hR) (IV.court hC hR)) (fun _ _ => cq0), fun M2 hm => gMet.mono (r_skin (d := 65) hx hZ hm.1.1 hm.1.2.1) (fun v M3 q => ?_)⟩
  obtain ⟨q1, q2, q3⟩ := rqS s1000 q
  refine ⟨?_, q2, q3⟩
  rw [q1]
  by_cases hi : inP M x
  · rw [if_pos hi, if_pos hi, RngF.mn hR.1.2.1.2.2.1 (inP_row hT hi), Int32.add_zero]
  · rw [if_neg hi, if_neg hi])
theorem q_least (hx : gXok X) (hZ : gSt X) (x z : Int32) : Sim X yX10_least cX10_least 3 yX11_least cX11_least 5 (some .int) [.int x, .int z] := Sim.q (fun {M n E EV N A c w T L} hC hR => ⟨_, gMet.mono (c_least (d := 93) hx hC.1 hR.1.1.2.1 (IV.left hR) (IV.court hC hR)) (fun _ _ => cq0), fun M2 hm => gMet.mono (r_least (d := 64) hx hZ hm.1.1 hm.1.2.1) (fun _ _ => rqS sBB)⟩)
theorem q_cover (hx : gXok X) (hZ : gSt X) (x z : Int32) : Sim X yX10_cover cX10_cover 3 yX11_cover cX11_cover 4 (some .int) [.int x, .int z] := Sim.q (fun {M n E EV N A c w T L} hC hR => ⟨_, gMet.mono (c_cover (d := 93) hx hC.1 hR.1.1.2.1 (IV.left hR) (IV.court hC hR)) (fun _ _ => cq0), fun M2 hm => gMet.mono (r_cover (d := 64) hx hZ hm.1.1 hm.1.2.1) (fun _ _ => rqS sBB)⟩)
theorem q_soon (hx : gXok X) (hZ : gSt X) (x : Int32) : Sim X yX10_soon cX10_soon 3 yX11_soon cX11_soon 3 (some .int) [.int x] := Sim.q (fun {M n E EV N A c w T L} hC hR => ⟨_, gMet.mono (c_soon (d := 94) hx hC.1 hR.1.1.2.1 (IV.left hR) (IV.court hC hR)) (fun _ _ => cq0), fun M2 hm => gMet.mono (r_soon (d := 64) hx hZ hm.1.1 hm.1.2.1) (fun _ _ => rqS s114)⟩)
theorem q_bargain (hx : gXok X) (hZ : gSt X) (x z : Int32) : Sim X yX10_bargain cX10_bargain 7 yX11_bargain cX11_bargain 6 (some .int) [.int x, .int z] := Sim.q (fun {M n E EV N A c w T L} hC hR => ⟨_, gMet.mono (c_bargain (d := 95) hx hC.1 hR.1.1.2.1 (IV.left hR) (IV.court hC hR)) (fun _ _ => cq0), fun M2 hm => gMet.mono (r_bargain (d := 65) hx hZ hm.1.1 hm.1.2.1) (fun _ _ => rqS s1000)⟩)
theorem q_sets (hx : gXok X) (hZ : gSt X) (x z : Int32) : Sim X yX10_sets cX10_sets 3 yX11_sets cX11_sets 5 (some .int) [.int x, .int z] := Sim.q (fun {M n E EV N A c w T L} hC hR => ⟨_, gMet.mono (c_sets (d := 94) hx hC.1 hR.1.1.2.1 (IV.court hC hR) hR.2.2.1.2.1 hR.2.2.1.2.2.1) (fun _ _ => cq0), fun M2 hm => gMet.mono (r_sets (d := 64) hx hZ hm.1.1 hm.2.2.1) (fun _ _ => rqS s1000)⟩)
theorem q_ask (hx : gXok X) (hZ : gSt X) (x : Int32) : Sim X yX10_ask cX10_ask 2 yX11_ask cX11_ask 8 (some .int) [.int x] := Sim.q (fun {M n E EV N A c w T L} hC hR => ⟨_, gMet.mono (c_ask3 (d := 93) hx hC.1 hR.1.1.2.1 (IV.court hC hR) (IV.beard hC hR) hR.2.2.1.2.1 hR.2.2.1.2.2.1) (fun _ M2 q => ⟨q.1, q.2.1.mono (fun c h => h.elim Or.inl (fun y => Or.inr (Or.inr (Or.inr y)))), q.2.2⟩), fun M2 hm => gMet.mono (r_ask (d := 64) hx hZ hm.1.1 hm.2.2.1) (fun _ _ => rqS s1000)⟩)
theorem in4 {x : Int32} : (0 ≤ x ∧ x ≤ 3) ↔ (0 ≤ x ∧ x < 4) := by
  rw [Int32.le_iff_toInt_le, Int32.le_iff_toInt_le, Int32.lt_iff_toInt_lt, show (3 : Int32).toInt = 3 from rfl, show (4 : Int32).toInt = 4 from rfl]
  omega
theorem in3 {x : Int32} : (0 ≤ x ∧ x ≤ 2) ↔ (0 ≤ x ∧ x < 3) := by
  rw [Int32.le_iff_toInt_le, Int32.le_iff_toInt_le, Int32.lt_iff_toInt_lt, show (2 : Int32).toInt = 2 from rfl, show (3 : Int32).toInt = 3 from rfl]
  omega
theorem q_game (hx : gXok X) (hZ : gSt X) (x a b z : Int32) : Sim X yX10_game cX10_game 6 yX11_game cX11_game 5 (some .int) [.int x, .int a, .int b, .int z] := Sim.q (fun {M n E EV N A c w T L} hC hR => by
  refine ⟨_, gMet.mono (c_game (d := 94) hx hC.1 hR.1.1.2.1 (IV.left hR) (IV.court hC hR)) (fun _ _ => cq0), fun M2 hm => gMet.mono (r_game (d := 64) hx hZ hm.1.1 hm.1.2.1) (fun v M3 q => ?_)⟩
  obtain ⟨q1, q2, q3⟩ := rqS s1000 q
  refine ⟨?_, q2, q3⟩
  rw [q1]
  by_cases hi : inG M x a b z
  · rw [if_pos hi, if_pos ⟨hi.1, in4.mpr hi.2.1, in3.mpr hi.2.2.1, Int32.not_lt.mp hi.2.2.2.1, hi.2.2.2.2⟩]
  · rw [if_neg hi, if_neg (fun y => hi ⟨y.1, in4.mp y.2.1, in3.mp y.2.2.1, Int32.not_lt.mpr y.2.2.2.1, y.2.2.2.2⟩)])
theorem fsV_no {P : Nat → Bool} {val : Nat → Int32} {x : Int32} (h1 : ¬ x = -1) (h2 : ∀ f, f < 100 → ¬ nI f = x) : ∀ n b f, f + n ≤ 100 → fsV P val x n b f = -1
  | 0, _, _, _ => if_neg h1
  | n + 1, b, f, h => by
    rw [fsV_s]
    cases P b
    · rw [if_neg Bool.false_ne_true]; exact fsV_no h1 h2 n (b + 1) f (by omega)
    · rw [if_pos rfl, if_neg (h2 f (by omega))]; exact fsV_no h1 h2 n (b + 1) (f + 1) (by omega)
theorem q_rests (hx : gXok X) (hZ : gSt X) (x z : Int32) : Sim X yX10_rests cX10_rests 7 yX11_rests cX11_rests 8 (some .int) [.int x, .int z] := Sim.q (fun {M n E EV N A c w T L} hC hR => by
  refine ⟨_, gMet.mono (c_rests (d := 94) hx hC.1 hR.1.1.2.1 (IV.left hR) (IV.court hC hR)) (fun _ _ => cq0), fun M2 hm => gMet.mono (r_rests (d := 64) hx hZ hm.1.1 hm.1.2.1) (fun v M3 q => ?_)⟩
  obtain ⟨q1, q2, q3⟩ := rqS s1000 q
  refine ⟨?_, q2, q3⟩
  rw [q1]
  by_cases hi : inP M x
  · by_cases hz : -1 ≤ z
    · rw [if_pos hi, if_pos ⟨hi, hz⟩]
    · rw [if_pos hi, if_neg (fun y => hz y.2), fsV_no (fun y => hz (by rw [y]; exact Int32.le_refl _)) (fun f hf y => hz (by rw [← y]; exact Int32.le_trans (by decide) (nI_nn (by omega)))) 12 0 0 (by decide)]
  · rw [if_neg hi, if_neg (fun y => hi y.1)])
theorem q_odds (hx : gXok X) (hZ : gSt X) (x z : Int32) : Sim X yX10_odds cX10_odds 10 yX11_odds cX11_odds 3 (some .int) [.int x, .int z] := Sim.q (fun {M n E EV N A c w T L} hC hR => ⟨_, gMet.mono (c_odds (d := 95) hx hC.1 hR.1.1.2.1 (IV.left hR) (IV.court hC hR)) (fun _ _ => cq0), fun M2 hm => gMet.mono (r_odds (d := 55) hx hZ hm.1.1 hm.1.2.1) (fun _ _ => rqS s1000)⟩)
theorem q_all (hx : gXok X) (hZ : gSt X) (z : Int32) : Sim X yX10_all cX10_all 2 yX11_all cX11_all 4 (some .int) [.int z] := Sim.q (fun {M n E EV N A c w T L} hC hR => ⟨_, gMet.mono (c_all (d := 93) hx hC.1 hR.1.1.2.1 (IV.left hR) (IV.day hR) hC.2.2.2.2.2.2 (IV.court hC hR)) (fun _ _ => cq0), fun M2 hm => gMet.mono (r_all (d := 63) hx hZ hm.1.1 hm.1.2.1 hC.2.2.2.2.2.2) (fun _ _ => rqS s114)⟩)
theorem q_count (hx : gXok X) (z : Int32) : Sim X yX10_count cX10_count 2 yX11_count cX11_count 2 (some .int) [.int z] := Sim.q (fun {M n E EV N A c w T L} hC hR => ⟨_, gMet.mono (c_count (d := 97) hx hC.1) (fun _ _ => cqD), fun M2 hm => gMet.mono (r_count (d := 100) hx hm.1.1 hm.1.2.1 hm.2.2.2.2.1) (fun _ _ => rqD hm.1.1)⟩)
end I1
