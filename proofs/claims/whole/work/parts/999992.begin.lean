section Q3
abbrev fl : List Cond := flatC (Jvm.Cond.and given_1 narrow_1)
variable {args : Array Value} {s : State} {A : Nat → Prop}
theorem e_row {C nm : String} {n : Nat} {t : List Int32} (hn : n < 2 ^ 31) (h1 : (Cond.arrayOf (.static C nm "[I") .int).before args s = true) (h2 : (Cond.eq (.length (.static C nm "[I")) (.int (Int32.ofNat n))).before args s = true) (h3 : ∀ j : Nat, j < n → (Cond.eq (.elem (.static C nm "[I") (.int (Int32.ofNat j))) (.int (t.getD j 0))).before args s = true) (h4 : (Cond.laysStatic C nm "[I").before args s = true) (h5 : (Cond.initialized C).before args s = true) (hA : ∀ a : Nat, a < s.heap.size → ¬ A a) : ∃ a : Nat, va_Z C nm "[I" (.ref a) A s s.heap ∧ va_T .int a n (fun j => .int (t.getD j 0)) A s s.heap := by
  obtain ⟨a, ha, hT⟩ := va_Tof (f := fun j => .int (t.getD j 0)) (A := A) hn h1 (va_eqt h2) (fun j hj => va_eqt (h3 j hj)) hA
  exact ⟨a, va_Zof h4 h5 ha hA, hT⟩
theorem e_arr {ty : FieldType} (h : (Cond.arrayClass ty).before args s = true) : ∃ c : ClassId, ArrOfT s c ty ∧ s.vm.findClass ("[" ++ ty.toString) = some c := by
  obtain ⟨c, k, comp, h1, h2, h3⟩ := Cond.arrayClass_spec h
  exact ⟨c, fun n z => ⟨fun k h => (by cases h), k, h2, comp, h3⟩, h1⟩
theorem e_obj {C : String} (h : va_AO C s) : ∃ c : ClassId, ArrOfT s c (.object C) ∧ va_RA s c (.object C) := by
  obtain ⟨comp, c, k, h1, h2, h3, h4, h5⟩ := Cond.arrayOver_spec h
  exact ⟨c, fun n z => ⟨fun k h => (by cases h), k, h3, comp, h4⟩, k, comp, h3, h4, h1, h5⟩
theorem e_aa (h : gAOA s) : ∃ c : ClassId, ArrOfT s c (.array .int) ∧ va_RA s c (.array .int) := by
  obtain ⟨comp, c, k, co2, h1, h2, h3, h4, h5⟩ := AOA_spec h
  exact ⟨c, fun n z => ⟨fun k h => (by cases h), k, h3, co2, h4⟩, h5⟩
theorem e_ins : ∀ (ci : Nat) (q : vw_C), vwCl[ci]? = some q → Cond.instantiable q.1 q.2.2 ∈ gws := by
  intro ci q h
  match ci, h with
  | 0, h => cases h; exact lt_X0
  | 1, h => cases h; exact lt_X1
  | 2, h => cases h; exact lt_X2
  | 3, h => cases h; exact lt_X3
  | 4, h => cases h; exact lt_X4
  | 5, h => cases h; exact lt_X5
  | 6, h => cases h; exact lt_X6
  | 7, h => cases h; exact lt_X7
  | 8, h => cases h; exact lt_X8
  | 9, h => cases h; exact lt_X9
  | 10, h => cases h; exact lt_X10
  | 11, h => cases h; exact lt_X11
  | n + 12, h => simp [vwCl] at h
theorem e_kn (ht : ∀ w ∈ gws, w.before args s = true) : ∃ D : va_G, ∀ (ci : Nat) (q : vw_C), vwCl[ci]? = some q → u_Kn s q.1 q.2.1 q.2.2 (D.1 ci) (D.2 ci) := by
  have h0 : ∀ ci : Nat, ∃ r : ClassId × (Nat → Nat), ∀ q, vwCl[ci]? = some q → u_Kn s q.1 q.2.1 q.2.2 r.1 r.2 := by
    intro ci
    by_cases h : ∃ q, vwCl[ci]? = some q
    · obtain ⟨q, hq⟩ := h
      obtain ⟨a, b, hk⟩ := u_known ht (gcl ci q hq).1 (ht _ (e_ins ci q hq))
      exact ⟨(a, b), fun q2 h2 => by cases Option.some.inj (hq.symm.trans h2); exact hk⟩
    · exact ⟨(0, fun _ => 0), fun q hq => absurd ⟨q, hq⟩ h⟩
  obtain ⟨f, hf⟩ := Classical.axiomOfChoice h0
  exact ⟨(fun ci => (f ci).1, fun ci => (f ci).2), fun ci q h => hf ci q h⟩
def tmL : List (String × Nat) := [("GuiltyShave$Town", 115), ("GuiltyShave$LawReader", 73), ("GuiltyShave$LawReader", 92), ("GuiltyShave$Week", 46), ("GuiltyShaveModel", 26), ("GuiltyShaveModel", 245), ("GuiltyShaveModel", 251), ("GuiltyShaveModel", 253)]
def tmS (i : Nat) : Term := .string (tmL.getD i ("", 0)).1 (tmL.getD i ("", 0)).2
theorem m_len : ∀ i, i < 8 → sLen.getD i 0 < 2 ^ 31 := by decide +kernel
theorem m_ex : ∀ i, i < 8 → Cond.exactly (tmS i) "java/lang/String" ∈ fl := by decide +kernel
theorem m_co : ∀ i, i < 8 → Cond.eq (.field (tmS i) "java/lang/String" "coder" "B") (.int 0) ∈ fl := by decide +kernel
theorem m_ar : ∀ i, i < 8 → Cond.arrayOf (.field (tmS i) "java/lang/String" "value" "[B") .byte ∈ fl := by decide +kernel
theorem m_le : ∀ i, i < 8 → Cond.eq (.length (.field (tmS i) "java/lang/String" "value" "[B")) (.int (Int32.ofNat (sLen.getD i 0))) ∈ fl := by decide +kernel
theorem m_el : ∀ i, i < 8 → ∀ j, j < sLen.getD i 0 → Cond.eq (.elem (.field (tmS i) "java/lang/String" "value" "[B") (.int (Int32.ofNat j))) (.int ((sByt.getD i []).getD j 0)) ∈ fl := by decide +kernel
theorem m_ne : ∀ i, i < 8 → ∀ j, j < 8 → i ≠ j → (Cond.not (Cond.eq (tmS i) (tmS j)) ∈ fl ∨ Cond.not (Cond.eq (tmS j) (tmS i)) ∈ fl) := by decide +kernel
theorem m_sr : ∀ q ∈ sOwn, Cond.stringRef q.1 q.2.1 q.2.2.1 ∈ tables_1 := by decide +kernel
theorem m_e1 : Cond.eq (.string "GuiltyShave$LawReader" 92) (.string "GuiltyShaveModel" 32) ∈ fl ∧ Cond.eq (.string "GuiltyShave$Week" 46) (.string "GuiltyShaveModel" 258) ∈ fl := by decide +kernel
theorem m_st : Cond.laysStatic "GuiltyShave$Town" "UNTOLD" "[I" ∈ tables_1 ∧ Cond.laysStatic "GuiltyShave$Town" "LOWEST" "[I" ∈ tables_1 ∧ Cond.laysStatic "GuiltyShave$Town" "HIGHEST" "[I" ∈ tables_1 ∧ Cond.laysStatic "GuiltyShave$LawReader" "JOINS_IN" "[I" ∈ tables_1 ∧ Cond.laysStatic "java/lang/String" "COMPACT_STRINGS" "Z" ∈ tables_1 ∧ Cond.laysStatic "jdk/internal/util/Preconditions" "SIOOBE_FORMATTER" "Ljava/util/function/BiFunction;" ∈ tables_1 ∧ Cond.laysStatic Bundle.tN "UNASSIGNED_STACK" Bundle.steD ∈ tables_1 ∧ Cond.laysStatic Bundle.tN "SUPPRESSED_SENTINEL" Bundle.listD ∈ tables_1 := by decide +kernel
theorem m_in : Cond.initialized "GuiltyShave$Town" ∈ tables_1 ∧ Cond.initialized "GuiltyShave$LawReader" ∈ tables_1 ∧ Cond.initialized "java/lang/String" ∈ tables_1 ∧ Cond.initialized "jdk/internal/util/Preconditions" ∈ tables_1 ∧ Cond.initialized Bundle.tN ∈ tables_1 := by decide +kernel
theorem m_fl : Cond.eq (.static "java/lang/String" "COMPACT_STRINGS" "Z") (.int 1) ∈ fl ∧ Cond.isRef (.static "jdk/internal/util/Preconditions" "SIOOBE_FORMATTER" "Ljava/util/function/BiFunction;") ∈ fl ∧ Cond.isRef (.static Bundle.tN "UNASSIGNED_STACK" Bundle.steD) ∈ fl ∧ Cond.isRef (.static Bundle.tN "SUPPRESSED_SENTINEL" Bundle.listD) ∈ fl := by decide +kernel
def rwL : List (String × String × Nat × List Int32) := [("GuiltyShave$Town", "UNTOLD", 9, tUnt), ("GuiltyShave$Town", "LOWEST", 9, tLow), ("GuiltyShave$Town", "HIGHEST", 9, tHigh), ("GuiltyShave$LawReader", "JOINS_IN", 10, tJoin)]
theorem m_rw : ∀ q ∈ rwL, Cond.arrayOf (.static q.1 q.2.1 "[I") .int ∈ fl ∧ Cond.eq (.length (.static q.1 q.2.1 "[I")) (.int (Int32.ofNat q.2.2.1)) ∈ fl ∧ ∀ j, j < q.2.2.1 → Cond.eq (.elem (.static q.1 q.2.1 "[I") (.int (Int32.ofNat j))) (.int (q.2.2.2.getD j 0)) ∈ fl := by decide +kernel
theorem m_nw : ∀ q ∈ nwL, Cond.methodLinkNest q.1 q.2.1 q.2.2 "GuiltyShave" ∈ tables_1 := by decide +kernel
theorem m_ao : Cond.arrayOver (.object "GuiltyShave$Law") ∈ tables_1 ∧ Cond.arrayOver (.object "GuiltyShave$Week") ∈ tables_1 ∧ Cond.arrayOver (.array .int) ∈ tables_1 ∧ Cond.castable NSE NSE ∈ tables_1 := by decide +kernel
end Q3
