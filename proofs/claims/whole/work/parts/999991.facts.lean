section Q2
theorem AOA_spec {U : State} (h : gAOA U) : ∃ comp c k co2, U.vm.findClass (FieldType.array .int).toString = some comp ∧ (U.vm.classes.findIdx? fun (x : Class) => match x.kind with | .array component _ => component == comp | _ => false) = some c ∧ U.vm.classes[c]? = some k ∧ k.kind = .array co2 (.array .int) ∧ U.vm.findClass ("[" ++ (FieldType.array .int).toString) = some c := by
  unfold gAOA Cond.before Cond.holds at h
  simp only [Cond.value] at h
  have h := eq_of_beq h
  obtain ⟨comp, h1, h⟩ := Option.bind_eq_some_iff.mp h
  obtain ⟨c, h2, h⟩ := Option.bind_eq_some_iff.mp h
  obtain ⟨k, h3, h⟩ := Option.map_eq_some_iff.mp h
  cases hk : k.kind with
  | array co2 ty =>
    rw [hk] at h
    have h := Bool.and_eq_true_iff.mp h
    exact ⟨comp, c, k, co2, h1, h2, h3, by rw [hk, of_decide_eq_true h.1], of_decide_eq_true h.2⟩
  | _ => rw [hk] at h; exact absurd h Bool.false_ne_true
theorem gAOA_moved {u U : State} (hvm : u.vm.Alike U.vm) (h : gAOA u) : gAOA U := by
  obtain ⟨comp, c, k, co2, h1, h2, h3, h4, h5⟩ := AOA_spec h
  obtain ⟨k', hk', he⟩ := hvm.2.2 _ _ h3
  have hi : (U.vm.classes.findIdx? fun (x : Class) => match x.kind with | .array component _ => component == comp | _ => false) = some c := by
    have hb : U.vm.bare = u.vm.bare := by first | exact hvm.bare_eq | exact hvm.bare_eq.symm
    have e1 := va_idx_bare U.vm comp
    have e2 := va_idx_bare u.vm comp
    rw [hb] at e1
    exact (e1.symm.trans e2).trans h2
  have hkind : k'.kind = .array co2 (.array .int) := by rw [he]; exact h4
  have f1 : U.vm.findClass (FieldType.array .int).toString = some comp := by rw [hvm.findClass]; exact h1
  have f2 : U.vm.findClass ("[" ++ (FieldType.array .int).toString) = some c := by rw [hvm.findClass]; exact h5
  unfold gAOA Cond.before Cond.holds
  simp only [Cond.value]
  rw [f1, Option.bind_some]
  refine (congrArg (fun o : Option Nat => (o.bind (fun c => (U.vm.classes[c]?).map fun (k : Class) => match k.kind with | .array _ ty => decide (ty = FieldType.array .int) && decide (U.vm.findClass ("[" ++ (FieldType.array .int).toString) = some c) | _ => false) == some true)) hi).trans ?_
  simp [hk', hkind, f2]
/-- all that stays as it was at the start -/
def FxP (X : gX) (n : Nat) (xs : Nat → Int32) (U : State) : Prop := StF X U ∧ ((∀ q ∈ nwL, va_Nw (.methodLinkNest q.1 q.2.1 q.2.2 "GuiltyShave") U) ∧ va_AO "GuiltyShave$Law" U ∧ va_AO "GuiltyShave$Week" U) ∧ gAOA U ∧ ((∀ w ∈ Cond.castable NSE NSE :: ngL, va_Nw w U) ∧ vx_Zq Bundle.tN "UNASSIGNED_STACK" Bundle.steD (gA X) U U.heap ∧ vx_Zq Bundle.tN "SUPPRESSED_SENTINEL" Bundle.listD (gA X) U U.heap) ∧ va_T .int (X.2.2.2.2.1 5030) n (fun j => .int (xs j)) (gA X) U U.heap
def mkX (l : Launch) (D : va_G) (cl : Nat → ClassId) (sz : Nat) (adr : Nat → Nat) (n : Nat) (xs : Nat → Int32) : gX := (l, D, cl, sz, adr, FxP (l, D, cl, sz, adr, fun _ => True) n xs)
theorem zk {C nm d : String} {v : Value} {A : Nat → Prop} {u U : State} (hvm : u.vm.Alike U.vm) (hq : ∀ a : Nat, a < u.heap.size → ¬ A a → U.heap[a]? = u.heap[a]?) (h : va_Z C nm d v A u u.heap) : va_Z C nm d v A U U.heap := (h.moved hvm).kept hq
theorem tk {ty : FieldType} {t N : Nat} {f : Nat → Value} {A : Nat → Prop} {u U : State} (hvm : u.vm.Alike U.vm) (hq : ∀ a : Nat, a < u.heap.size → ¬ A a → U.heap[a]? = u.heap[a]?) (h : va_T ty t N f A u u.heap) : va_T ty t N f A U U.heap := (h.moved hvm).kept hq
theorem dc_warm {w : Cond} (hd : dcW w = true) {u U : State} (hW : u.WarmedH U.vm) (h : va_Nw w u) : va_Nw w U := by
  cases w <;> first | exact va_Nw.warmD hW h | exact va_Nw.warmC hW h | exact absurd hd Bool.false_ne_true
theorem mkX_ok (l : Launch) (D : va_G) (cl : Nat → ClassId) (sz : Nat) (adr : Nat → Nat) (n : Nat) (xs : Nat → Int32) : gXok (mkX l D cl sz adr n xs) := by
  intro u U hW hz hq h
  have hvm := hW.alike
  obtain ⟨⟨⟨a1, b1⟩, ⟨a2, b2⟩, ⟨a3, b3⟩, ⟨a4, b4⟩, a5, a6, a7, a8⟩, ⟨c1, c2, c3⟩, c4, ⟨c5, c6, c7⟩, c8⟩ := h
  exact ⟨⟨⟨zk hvm hq a1, tk hvm hq b1⟩, ⟨zk hvm hq a2, tk hvm hq b2⟩, ⟨zk hvm hq a3, tk hvm hq b3⟩, ⟨zk hvm hq a4, tk hvm hq b4⟩, zk hvm hq a5, a6.elim (fun z => Or.inl (zk hvm hq z)) (fun z => Or.inr (zk hvm hq z)), (a7.moved hvm).kept hq, fun q hq2 => (a8 q hq2).warm hW⟩, ⟨fun q hq2 => va_Nw.warmM hW (c1 q hq2), c2.moved hvm, c3.moved hvm⟩, gAOA_moved hvm c4, ⟨fun w hw => dc_warm (ng_dc w hw) hW (c5 w hw), (c6.moved hvm).kept hq, (c7.moved hvm).kept hq⟩, tk hvm hq c8⟩
variable {l : Launch} {D : va_G} {cl : Nat → ClassId} {sz : Nat} {adr : Nat → Nat} {n : Nat} {xs : Nat → Int32}
theorem mkX_st : gSt (mkX l D cl sz adr n xs) := fun U h => h.1
theorem mkX_nw : gNw (mkX l D cl sz adr n xs) := fun U h => h.2.1
theorem mkX_ao : ∀ U, (mkX l D cl sz adr n xs).2.2.2.2.2 U → gAOA U := fun U h => h.2.2.1
theorem mkX_th (hf : l.stackTraces = false) : gTh (mkX l D cl sz adr n xs) := ⟨hf, fun U h => h.2.2.2.1⟩
theorem mkX_sc : gSc (mkX l D cl sz adr n xs) n xs := fun U h => h.2.2.2.2
theorem no_tr {l : Launch} (h : l.flags = flags0) : l.stackTraces = false := by
  unfold Launch.stackTraces
  rw [h]
  decide +kernel
end Q2
