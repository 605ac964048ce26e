/-! A MACHINE OF NAMED CELLS over the kit's rows: cells by numbers that are no addresses; a memory says each cell's kind, length, whole numbers, references, longs. gW: the method comes to its end from here. -/
abbrev gM : Type := (Nat → Nat) × (Nat → Nat) × (Nat → Nat → Int32) × (Nat → Nat → Option Nat) × (Nat → Nat → Int64)
def gkd (M : gM) (a : Nat) : Nat := M.1 a
def gln (M : gM) (a : Nat) : Nat := M.2.1 a
def gmi (M : gM) (a : Nat) : Nat → Int32 := M.2.2.1 a
def gmr (M : gM) (a : Nat) : Nat → Option Nat := M.2.2.2.1 a
def gml (M : gM) (a : Nat) : Nat → Int64 := M.2.2.2.2 a
def gwF (M : gM) (a : Nat) (f : Nat → Int32) : gM := (M.1, M.2.1, va_up M.2.2.1 a f, M.2.2.2.1, M.2.2.2.2)
def gwI (M : gM) (a i : Nat) (v : Int32) : gM := gwF M a (va_up (gmi M a) i v)
def gwR (M : gM) (a i : Nat) (v : Option Nat) : gM := (M.1, M.2.1, M.2.2.1, va_up M.2.2.2.1 a (va_up (gmr M a) i v), M.2.2.2.2)
def gwL (M : gM) (a i : Nat) (v : Int64) : gM := (M.1, M.2.1, M.2.2.1, M.2.2.2.1, va_up M.2.2.2.2 a (va_up (gml M a) i v))
def gwN (M : gM) (a k n : Nat) : gM := (va_up M.1 a k, va_up M.2.1 a n, va_up M.2.2.1 a (fun _ => 0), va_up M.2.2.2.1 a (fun _ => none), va_up M.2.2.2.2 a (fun _ => 0))
abbrev gX : Type := Launch × va_G × (Nat → ClassId) × Nat × (Nat → Nat) × (State → Prop)
def gA (X : gX) : Nat → Prop := fun q => X.2.2.2.1 ≤ q
def gtys (X : gX) : List (ClassId × FieldType) := [(X.2.2.1 0, .int), (X.2.2.1 1, .byte), (X.2.2.1 2, .char), (X.2.2.1 3, .boolean), (X.2.2.1 4, .long), (X.2.2.1 5, .object "GuiltyShave$Law"), (X.2.2.1 6, .object "GuiltyShave$Week"), (X.2.2.1 7, .array .int)]
def gXok (X : gX) : Prop := ∀ u U : State, u.WarmedH U.vm → u.heap.size ≤ U.heap.size → (∀ a : Nat, a < u.heap.size → ¬ gA X a → U.heap[a]? = u.heap[a]?) → X.2.2.2.2.2 u → X.2.2.2.2.2 U
def gK (X : gX) (U : State) : Prop := va_K X.2.1 vwCl (gtys X) U ∧ X.2.2.2.2.2 U
def gSort : FieldType → Nat
  | .long => 2
  | .object _ => 1
  | .array _ => 1
  | _ => 0
def gTyL : List (Nat → FieldType) := [tyX0, tyX1, tyX2, tyX3, tyX4, tyX5, tyX6, tyX7, tyX8, tyX9, tyX10, tyX11]
def gTy (ci k : Nat) : FieldType := (gTyL.getD ci tyX0) k
def gFV (ad : Nat → Nat) (ci : Nat) (fi : Nat → Int32) (fr : Nat → Option Nat) (fl : Nat → Int64) (k : Nat) : Value :=
  if gSort (gTy ci k) = 1 then va_re ad (fr k) else if gSort (gTy ci k) = 2 then .long (fl k) else .int (fi k)
def gEV (ad : Nat → Nat) (j : Nat) (fi : Nat → Int32) (fr : Nat → Option Nat) (fl : Nat → Int64) (k : Nat) : Value :=
  if j = 4 then .long (fl k) else if j < 4 then .int (fi k) else va_re ad (fr k)
def gCell (X : gX) (ad : Nat → Nat) (a k n : Nat) (fi : Nat → Int32) (fr : Nat → Option Nat) (fl : Nat → Int64) (H : Heap) : Prop :=
  if k < 32 then ∃ r : vw_C, vwCl[k - 1]? = some r ∧ t_OB (ad a) (X.2.1.1 (k - 1)) r.2.2 (X.2.1.2 (k - 1)) H (gFV ad (k - 1) fi fr fl)
  else H[ad a]? = some (arrV (X.2.2.1 (k - 32)) n (gEV ad (k - 32) fi fr fl))
/-- references lead to cells that are there -/
def gClo (M : gM) : Prop := ∀ a, gkd M a ≠ 0 → ∀ i b, gmr M a i = some b → gkd M b ≠ 0 ∨ 5000 ≤ b
def gRep (X : gX) (ad : Nat → Nat) (M : gM) (H : Heap) : Prop :=
  (∀ a, gkd M a ≠ 0 → gA X (ad a) ∧ a < 5000 ∧ gCell X ad a (gkd M a) (gln M a) (gmi M a) (gmr M a) (gml M a) H) ∧ (∀ a b, gkd M a ≠ 0 → gkd M b ≠ 0 → ad a = ad b → a = b) ∧ (∀ a, 5000 ≤ a → ad a = X.2.2.2.2.1 a) ∧ gClo M
def gT (ad : Nat → Nat) : Value → Value
  | .ref a => .ref (ad a)
  | v => v
def gmv (ad : Nat → Nat) (lv : List (Nat × Value)) : List (Nat × Value) := lv.map (fun q => (q.1, gT ad q.2))
def gQ (X : gX) (ad0 : Nat → Nat) (N : Nat → Prop) (Q : Option Value → gM → Prop) : Array Value → State → Outcome → State → Prop := fun _ st oc t =>
  (∃ (v : Option Value) (M : gM) (ad : Nat → Nat), oc = .returned (v.map (gT ad)) ∧ Q v M ∧ (∀ a, ¬ N a → ad a = ad0 a) ∧ gRep X ad M t.heap ∧ gK X t) ∧ va_F (gA X) st t
def gRoom (d mc ms : Nat) : Room := { frames := d, cells := mc, slots := ms, locals := 64 * d }
abbrev gZt : Type := (Nat → Nat) → List Frame → Array Value → State → State → Prop
def gZ (X : gX) (N : Nat → Prop) (mc ms : Nat) (Q : Option Value → gM → Prop) : gZt := fun ad0 below args s => MQ below (gQ X ad0 N Q) args s mc ms (gA X)
def gF (X : gX) (y : MethodName) (cc : ByteArray) (nL : Nat) (ret : Option FieldType) (p : Program) (s : State) (m : MethodId) (args : Array Value) (meth : Method) (c : Code) : Prop :=
  p.tables.exec = Jvm.exec ∧ c.code = cc ∧ c.maxLocals = nL ∧ s.vm.findClass y.cls = some m.cls ∧ (∀ w ∈ gws, w.before args s = true) ∧ meth.locks = false ∧ meth.sig.returnType = ret ∧ meth.name = y.name ∧ gK X s ∧ (∀ q : Nat, s.heap.size ≤ q → gA X q) ∧ gXok X
def gW (X : gX) (R : Room) (Z : gZt) (N : Nat → Prop) (y : MethodName) (cc : ByteArray) (nL : Nat) (ret : Option FieldType) (pc : Nat) (lv : List (Nat × Value)) (st : List Value) (M : gM) (bc bs : Nat) : Prop :=
  ∀ (ad0 ad : Nat → Nat) (p : Program) (e : Env) (s : State) (m : MethodId) (args : Array Value) (below : List Frame) (meth : Method) (c : Code) (H : Heap) (locs : List Loc) (cells slots : Nat) (ls : Array Slot),
    gF X y cc nL ret p s m args meth c → gRep X ad M H → va_S (gA X) s.heap H locs → (∀ a, ¬ N a → ad a = ad0 a) → cells + bc ≤ R.cells → slots + bs ≤ R.slots → lv_has ls nL (gmv ad lv) →
    W p X.1 e R s m args below meth c H locs cells slots (Z ad0 below args s) (F0 m pc ls (st.map (gT ad)))
/-- a method's contract at depth d -/
def gMet (X : gX) (d : Nat) (y : MethodName) (cc : ByteArray) (nL : Nat) (ret : Option FieldType) (av : List Value) (M : gM) (N : Nat → Prop) (mc ms : Nat) (Q : Option Value → gM → Prop) : Prop :=
  ∀ ad0 : Nat → Nat, Met X.1 y (Cond.code y cc nL ret :: gws) (gRoom d mc ms) (va_Pc (av.map (gT ad0)) (fun U => gRep X ad0 M U.heap ∧ gK X U ∧ ∀ q : Nat, U.heap.size ≤ q → gA X q)) (gQ X ad0 N Q) mc ms (gA X)
theorem gT_cat (ad : Nat → Nat) (v : Value) : (gT ad v).category = v.category := by cases v <;> rfl
theorem gT_rf (ad : Nat → Nat) (r : Option Nat) : gT ad (va_rf r) = va_re ad r := by cases r <;> rfl
def gLk : List (Nat × Value) → Nat → Option Value
  | [], _ => none
  | q :: l, i => match Nat.beq q.1 i with
    | true => some q.2
    | false => gLk l i
theorem gLk_mem : ∀ (lv : List (Nat × Value)) (i : Nat) (v : Value), gLk lv i = some v → (i, v) ∈ lv
  | [], _, _, h => by cases h
  | q :: l, i, v, h => by
    unfold gLk at h
    cases hb : Nat.beq q.1 i with
    | true =>
      rw [hb] at h
      have h1 : q.2 = v := Option.some.inj h
      have h2 : q.1 = i := Nat.eq_of_beq_eq_true hb
      rw [← h1, ← h2]
      exact List.mem_cons_self
    | false =>
      rw [hb] at h
      exact List.mem_cons_of_mem _ (gLk_mem l i v h)
theorem g_loc {ls : Array Slot} {nL : Nat} {ad : Nat → Nat} {lv : List (Nat × Value)} (h : lv_has ls nL (gmv ad lv)) {i : Nat} {v : Value} (hk : gLk lv i = some v) : ls[i]? = some (.val (gT ad v)) :=
  h.2.2 (i, gT ad v) (List.mem_map.mpr ⟨(i, v), gLk_mem lv i v hk, rfl⟩)
def gS1 (lv : List (Nat × Value)) (i : Nat) (v : Value) : List (Nat × Value) := (i, v) :: lv.filter (fun q => !(q.1 == i) && !(q.1 + 1 == i && q.2.category == 2))
def gS2 (lv : List (Nat × Value)) (i : Nat) (v : Value) : List (Nat × Value) := (i, v) :: lv.filter (fun q => !(q.1 == i) && (!(q.1 == i + 1) && !(q.1 + 1 == i && q.2.category == 2)))
theorem g_filt (ad : Nat → Nat) (f : Nat → Nat → Bool) : ∀ lv : List (Nat × Value), (gmv ad lv).filter (fun q => f q.1 q.2.category) = gmv ad (lv.filter (fun q => f q.1 q.2.category))
  | [] => rfl
  | q :: l => by
    have ih := g_filt ad f l
    unfold gmv at ih ⊢
    rw [List.map_cons, List.filter_cons, List.filter_cons, ih]
    have e : f (q.1, gT ad q.2).1 (q.1, gT ad q.2).2.category = f q.1 q.2.category := by rw [gT_cat]
    rw [e]
    cases f q.1 q.2.category <;> rfl
theorem g_s1 (ad : Nat → Nat) (lv : List (Nat × Value)) (i : Nat) (v : Value) : (i, gT ad v) :: (gmv ad lv).filter (fun q => !(q.1 == i) && !(q.1 + 1 == i && q.2.category == 2)) = gmv ad (gS1 lv i v) := by
  rw [g_filt ad (fun a b => !(a == i) && !(a + 1 == i && b == 2)) lv]
  rfl
theorem g_s2 (ad : Nat → Nat) (lv : List (Nat × Value)) (i : Nat) (v : Value) : (i, gT ad v) :: (gmv ad lv).filter (fun q => !(q.1 == i) && (!(q.1 == i + 1) && !(q.1 + 1 == i && q.2.category == 2))) = gmv ad (gS2 lv i v) := by
  rw [g_filt ad (fun a b => !(a == i) && (!(a == i + 1) && !(a + 1 == i && b == 2))) lv]
  rfl
/-- M2 differs from M in the cell a alone -/
def gEx (M M2 : gM) (a : Nat) : Prop := (∀ b, gkd M2 b = gkd M b ∧ gln M2 b = gln M b) ∧ ∀ b, b ≠ a → gmi M2 b = gmi M b ∧ gmr M2 b = gmr M b ∧ gml M2 b = gml M b
theorem gEx_I (M : gM) (a i : Nat) (v : Int32) : gEx M (gwI M a i v) a := ⟨fun _ => ⟨rfl, rfl⟩, fun b h => ⟨va_up_ne _ _ h, rfl, rfl⟩⟩
theorem gEx_F (M : gM) (a : Nat) (f : Nat → Int32) : gEx M (gwF M a f) a := ⟨fun _ => ⟨rfl, rfl⟩, fun b h => ⟨va_up_ne _ _ h, rfl, rfl⟩⟩
theorem gEx_R (M : gM) (a i : Nat) (v : Option Nat) : gEx M (gwR M a i v) a := ⟨fun _ => ⟨rfl, rfl⟩, fun b h => ⟨rfl, va_up_ne _ _ h, rfl⟩⟩
theorem gEx_L (M : gM) (a i : Nat) (v : Int64) : gEx M (gwL M a i v) a := ⟨fun _ => ⟨rfl, rfl⟩, fun b h => ⟨rfl, rfl, va_up_ne _ _ h⟩⟩
theorem gCell.kept {X : gX} {ad : Nat → Nat} {a k n : Nat} {fi : Nat → Int32} {fr : Nat → Option Nat} {fl : Nat → Int64} {H H1 : Heap} (h : gCell X ad a k n fi fr fl H) (hq : H1[ad a]? = H[ad a]?) : gCell X ad a k n fi fr fl H1 := by
  unfold gCell at h ⊢
  by_cases hk : k < 32
  · rw [if_pos hk] at h ⊢
    obtain ⟨r, h1, h2⟩ := h
    exact ⟨r, h1, h2.kept hq⟩
  · rw [if_neg hk] at h ⊢
    rw [hq]
    exact h
theorem gRep.upd {X : gX} {ad : Nat → Nat} {M M2 : gM} {H H1 : Heap} {a : Nat} (hR : gRep X ad M H) (hx : gEx M M2 a) (hk : gkd M a ≠ 0) (hc : gCell X ad a (gkd M a) (gln M a) (gmi M2 a) (gmr M2 a) (gml M2 a) H1) (oq : ∀ q : Nat, q ≠ ad a → H1[q]? = H[q]?) (hm : gClo M2) : gRep X ad M2 H1 := by
  refine ⟨fun b hb => ?_, fun b d hb hd => ?_, hR.2.2.1, hm⟩
  · rw [(hx.1 b).1] at hb
    obtain ⟨h1, h2, h3⟩ := hR.1 b hb
    refine ⟨h1, h2, ?_⟩
    rw [(hx.1 b).1, (hx.1 b).2]
    by_cases e : b = a
    · subst e
      exact hc
    · rw [(hx.2 b e).1, (hx.2 b e).2.1, (hx.2 b e).2.2]
      exact h3.kept (oq _ (fun z => e (hR.2.1 b a hb hk z)))
  · rw [(hx.1 b).1] at hb
    rw [(hx.1 d).1] at hd
    exact hR.2.1 b d hb hd
theorem gS_put {X : gX} {H0 H H1 : Heap} {locs : List Loc} {q k : Nat} (h : va_S (gA X) H0 H locs) (z : H1.size = H.size) (oq : ∀ x : Nat, x ≠ q → H1[x]? = H[x]?) (ha : gA X q) : va_S (gA X) H0 H1 (locs ++ [⟨q, k⟩]) := h.put z oq ha
theorem gcl : ∀ (ci : Nat) (q : vw_C), vwCl[ci]? = some q → (∀ w ∈ u_ws q.1 q.2.1 q.2.2, w ∈ gws) ∧ (∀ k, k < q.2.2 → parseFieldDescriptor (q.2.1 k).2.2.1 = some (gTy ci k)) ∧ (∀ a, a < q.2.2 → ∀ b, b < q.2.2 → a ≠ b → (q.2.1 a).2.1 ≠ (q.2.1 b).2.1) := by
  intro ci q h
  match ci, h with
  | 0, h => cases h; exact ⟨inlX0, tyX0_ok, nmX0⟩
  | 1, h => cases h; exact ⟨inlX1, tyX1_ok, nmX1⟩
  | 2, h => cases h; exact ⟨inlX2, tyX2_ok, nmX2⟩
  | 3, h => cases h; exact ⟨inlX3, tyX3_ok, nmX3⟩
  | 4, h => cases h; exact ⟨inlX4, tyX4_ok, nmX4⟩
  | 5, h => cases h; exact ⟨inlX5, tyX5_ok, nmX5⟩
  | 6, h => cases h; exact ⟨inlX6, tyX6_ok, nmX6⟩
  | 7, h => cases h; exact ⟨inlX7, tyX7_ok, nmX7⟩
  | 8, h => cases h; exact ⟨inlX8, tyX8_ok, nmX8⟩
  | 9, h => cases h; exact ⟨inlX9, tyX9_ok, nmX9⟩
  | 10, h => cases h; exact ⟨inlX10, tyX10_ok, nmX10⟩
  | 11, h => cases h; exact ⟨inlX11, tyX11_ok, nmX11⟩
  | n + 12, h => simp [vwCl] at h
theorem gcl_lt {ci : Nat} {q : vw_C} (h : vwCl[ci]? = some q) : ci < 12 := (List.getElem?_eq_some_iff.mp h).1
/-- the pool entry ix of the class own is the field k of class ci -/
def gFld (own : String) (ix ci k : Nat) : Prop := ∃ q : vw_C, vwCl[ci]? = some q ∧ k < q.2.2 ∧ Cond.fieldLink own ix (q.2.1 k).1 (q.2.1 k).2.1 (q.2.1 k).2.2.1 ∈ gws
def gPut (own : String) (ix ci k : Nat) : Prop := ∃ q : vw_C, vwCl[ci]? = some q ∧ k < q.2.2 ∧ Cond.fieldLink own ix (q.2.1 k).1 (q.2.1 k).2.1 (q.2.1 k).2.2.1 ∈ gws ∧ (q.2.1 k).2.2.2 = false
def gPutF (own : String) (ix ci k : Nat) : Prop := ∃ q : vw_C, vwCl[ci]? = some q ∧ k < q.2.2 ∧ Cond.fieldLink own ix (q.2.1 k).1 (q.2.1 k).2.1 (q.2.1 k).2.2.1 ∈ gws ∧ (q.2.1 k).2.2.2 = true ∧ (q.2.1 k).1 = own
