section K0
variable {X : gX} {R : Room} {Z : gZt} {N : Nat → Prop} {y : MethodName} {cc : ByteArray} {nL : Nat} {ret : Option FieldType} {pc pc' : Nat} {lv : List (Nat × Value)} {st : List Value} {M : gM} {bc bs d : Nat}
theorem gRep.many {ad ad2 : Nat → Nat} {M2 : gM} {H H1 : Heap} (hR : gRep X ad M H) (o1 : ∀ q : Nat, q < H.size → H1[q]? = H[q]?) (hA : ∀ q : Nat, H.size ≤ q → gA X q) (hold : ∀ a, gkd M a ≠ 0 → gSm M M2 a ∧ ad2 a = ad a) (hnew : ∀ a, gkd M a = 0 → gkd M2 a ≠ 0 → H.size ≤ ad2 a ∧ a < 5000 ∧ gCell X ad2 a (gkd M2 a) (gln M2 a) (gmi M2 a) (gmr M2 a) (gml M2 a) H1 ∧ ∀ i b, gmr M2 a i = some b → gkd M2 b ≠ 0 ∨ 5000 ≤ b) (hinj : ∀ a b, gkd M a = 0 → gkd M2 a ≠ 0 → gkd M b = 0 → gkd M2 b ≠ 0 → ad2 a = ad2 b → a = b) (h5 : ∀ a, 5000 ≤ a → ad2 a = ad a) : gRep X ad2 M2 H1 := by
  have hlt := hR.lt
  refine ⟨fun a ha => ?_, fun a b ha hb e => ?_, fun a ha => (h5 a ha).trans (hR.2.2.1 a ha), fun a ha i b hb => ?_⟩
  · by_cases h0 : gkd M a = 0
    · obtain ⟨h1, h2, h3, -⟩ := hnew a h0 ha
      exact ⟨hA _ h1, h2, h3⟩
    · obtain ⟨hs, had⟩ := hold a h0
      obtain ⟨g1, g2, g3⟩ := hR.1 a h0
      rw [had]
      refine ⟨g1, g2, ?_⟩
      rw [hs.1, hs.2.1, hs.2.2.1, hs.2.2.2.1, hs.2.2.2.2]
      have g4 := g3.kept (o1 _ (hlt a h0))
      have hre : ∀ i, va_re ad2 (gmr M a i) = va_re ad (gmr M a i) := fun i => by
        cases hz : gmr M a i with
        | none => rfl
        | some z =>
          show Value.ref (ad2 z) = Value.ref (ad z)
          rcases hR.2.2.2 a h0 i z hz with h | h
          · rw [(hold z h).2]
          · rw [h5 z h]
      unfold gCell at g4 ⊢
      rw [had]
      by_cases hk2 : gkd M a < 32
      · rw [if_pos hk2] at g4 ⊢
        obtain ⟨r, q1, q2⟩ := g4
        refine ⟨r, q1, q2.to (fun j _ => ?_)⟩
        unfold gFV
        rw [hre]
      · rw [if_neg hk2] at g4 ⊢
        rw [g4]
        refine congrArg (fun f => some (arrV _ _ f)) (funext fun j => ?_)
        unfold gEV
        rw [hre]
  · by_cases h1 : gkd M a = 0 <;> by_cases h2 : gkd M b = 0
    · exact hinj a b h1 ha h2 hb e
    · have g1 := (hnew a h1 ha).1
      rw [(hold b h2).2] at e
      have := hlt b h2
      omega
    · have g1 := (hnew b h2 hb).1
      rw [(hold a h1).2] at e
      have := hlt a h1
      omega
    · rw [(hold a h1).2, (hold b h2).2] at e
      exact hR.2.1 a b h1 h2 e
  · by_cases h0 : gkd M a = 0
    · exact (hnew a h0 ha).2.2.2 i b hb
    · have hs := (hold a h0).1
      rw [hs.2.2.2.1] at hb
      rcases hR.2.2.2 a h0 i b hb with h | h
      · left; rw [(hold b h).1.1]; exact h
      · exact Or.inr h
/-- rows in a row of rows -/
def gwMM (M : gM) (b n k : Nat) : gM := (fun a => if a = b then 39 else if b < a ∧ a ≤ b + n then 32 else M.1 a, fun a => if a = b then n else if b < a ∧ a ≤ b + n then k else M.2.1 a, fun a => if b ≤ a ∧ a ≤ b + n then (fun _ => 0) else M.2.2.1 a, fun a => if a = b then (fun i => if i < n then some (b + 1 + i) else none) else if b < a ∧ a ≤ b + n then (fun _ => none) else M.2.2.2.1 a, fun a => if b ≤ a ∧ a ≤ b + n then (fun _ => 0) else M.2.2.2.2 a)
theorem k_outer (c : ClassId) (n h0 : Nat) : ∀ i : Nat, Jvm.Free.Multi.outerC c n h0 i = arrV c n (fun j => va_rf (if j < i then some (h0 + 1 + j) else none))
  | 0 => by
    show ({ cls := c, slots := Array.replicate n .null, vm := .none } : Cell) = _
    rw [arrV_new]
    refine congrArg (arrV c n) (funext fun j => ?_)
    simp [va_rf]
  | i + 1 => by
    show (Jvm.Free.Multi.outerC c n h0 i).setSlot i (.ref (h0 + 1 + i)) = _
    rw [k_outer c n h0 i, arrV_store]
    refine congrArg (arrV c n) (funext fun j => ?_)
    by_cases e : j = i
    · subst e
      simp [updV, va_rf]
    · by_cases h : j < i
      · simp [updV, e, h, Nat.lt_succ_of_lt h]
      · simp [updV, e, h, show ¬ j < i + 1 by omega]
def gAOA (U : State) : Prop := (Cond.arrayOver (.array .int)).before #[] U = true
set_option maxHeartbeats 1000000 in
theorem g_mna {ix b n k : Nat} {x z : Int32} (hd : decode cc pc = .ok (.multianewarray ix 2, 4)) (hcl : Cond.classLink y.cls ix "[[I" ∈ gws) (hov : ∀ U, X.2.2.2.2.2 U → gAOA U) (harr : Cond.arrayClass .int ∈ gws) (hx : x.toInt = (n : Int)) (hz : z.toInt = (k : Int)) (hn : n ≤ 1000) (hk : k ≤ 1000) (h0 : ∀ c, b ≤ c → c ≤ b + n → gkd M c = 0) (hb5 : b + n < 5000) (hbN : ∀ c, b ≤ c → c ≤ b + n → N c) (hlv : ∀ q ∈ lv, ∀ c : Nat, q.2 = .ref c → c < b) (hst : ∀ v ∈ st, ∀ c : Nat, v = .ref c → c < b) (hb1 : 1 + n ≤ bc) (hb2 : n + n * k ≤ bs) (hp : pc + 4 = pc') (kk : gW X R Z N y cc nL ret pc' lv (.ref b :: st) (gwMM M b n k) (bc - (1 + n)) (bs - (n + n * k))) : gW X R Z N y cc nL ret pc lv (.int z :: .int x :: st) M bc bs := by
  subst hp
  intro ad0 ad p e s m args below meth c H locs cells slots ls hF hR hS hN h1 h2 hl
  have hts := hF.2.2.2.2.1
  have hK := hF.2.2.2.2.2.2.2.2.1
  have hAA := hF.2.2.2.2.2.2.2.2.2.1
  have nn : ∀ (u : Int32) (j : Nat), u.toInt = (j : Int) → u.toNatClampNeg = j ∧ ¬ u < 0 := fun u j hu => by
    refine ⟨by show u.toInt.toNat = j; omega, fun h => ?_⟩
    have := Int32.lt_iff_toInt_lt.mp h
    rw [hu] at this
    have e0 : (0 : Int32).toInt = 0 := rfl
    omega
  obtain ⟨ex, hx0⟩ := nn x n hx
  obtain ⟨ez, hz0⟩ := nn z k hz
  intro T hT Y
  obtain ⟨vm₁, cA, comp, -, fA, fC, -, -, Y', step⟩ := Y.multianewarray2F hF.1 hF.2.2.2.1 (ty := .int) (index := ix) (hts _ hcl) (hov s hK.2) (hts _ harr) (g := F0 m pc ls ((Value.int z :: Value.int x :: st).map (gT ad))) rfl (by rw [hF.2.1]; exact hd) (n := x) (k := z) (rest := st.map (gT ad)) rfl hx0 hz0 (by rw [ex]; omega) (by rw [ez]; show k * 4 ≤ _; omega) (by rw [ez]; omega) rfl rfl (by rw [ex]; omega) (by rw [ex, ez]; omega)
  rw [ex, ez] at Y' step
  have ecA : cA = X.2.2.1 7 := Option.some.inj (fA.symm.trans (hK.1.2 7 _ rfl).2)
  have ecC : comp = X.2.2.1 0 := Option.some.inj (fC.symm.trans (hK.1.2 0 _ rfl).2)
  subst ecA
  subst ecC
  have hTh : (T.setVm vm₁).heap = H := hT
  generalize hG : Jvm.Free.Multi.fill (T.setVm vm₁) (X.2.2.1 7) (X.2.2.1 0) n k (defaultValue .int) n = G at Y' step
  obtain ⟨f1, f2, -, -⟩ := Jvm.Free.Multi.fill_facts (T.setVm vm₁) (X.2.2.1 7) (X.2.2.1 0) n k (defaultValue .int) n
  rw [hG, hTh] at f1 f2
  have o1 : ∀ q : Nat, q < H.size → G.heap[q]? = H[q]? := fun q hq => by
    have := Jvm.Free.Multi.fill_old (T.setVm vm₁) (X.2.2.1 7) (X.2.2.1 0) n k (defaultValue .int) (a := q) (by rw [hTh]; exact hq) n
    rw [hG, hTh] at this
    exact this
  have hrow : ∀ j : Nat, j < n → G.heap[H.size + 1 + j]? = some (arrV (X.2.2.1 0) k (fun _ => .int 0)) := fun j hj => by
    have := Jvm.Free.Multi.fill_inner (T.setVm vm₁) (X.2.2.1 7) (X.2.2.1 0) n k (defaultValue .int) n j hj
    rw [hG, hTh] at this
    rw [this]
    show some ({ cls := X.2.2.1 0, slots := Array.replicate k (.int 0), vm := .none } : Cell) = _
    rw [arrV_new]
  rw [k_outer] at f2
  generalize hd2 : (fun a => if b ≤ a ∧ a ≤ b + n then H.size + (a - b) else ad a) = ad2
  have ad_i : ∀ a, b ≤ a → a ≤ b + n → ad2 a = H.size + (a - b) := fun a q1 q2 => by rw [← hd2]; exact if_pos ⟨q1, q2⟩
  have ad_o : ∀ a, ¬ (b ≤ a ∧ a ≤ b + n) → ad2 a = ad a := fun a q => by rw [← hd2]; exact if_neg q
  have kd_b : gkd (gwMM M b n k) b = 39 := if_pos rfl
  have kd_i : ∀ a, b < a → a ≤ b + n → gkd (gwMM M b n k) a = 32 := fun a q1 q2 => by
    show (if a = b then 39 else if b < a ∧ a ≤ b + n then 32 else M.1 a) = 32
    rw [if_neg (by omega), if_pos ⟨q1, q2⟩]
  have kd_o : ∀ a, ¬ (b ≤ a ∧ a ≤ b + n) → gSm M (gwMM M b n k) a := fun a q => by
    refine ⟨?_, ?_, ?_, ?_, ?_⟩
    · show (if a = b then 39 else if b < a ∧ a ≤ b + n then 32 else M.1 a) = M.1 a
      rw [if_neg (by omega), if_neg (by omega)]
    · show (if a = b then n else if b < a ∧ a ≤ b + n then k else M.2.1 a) = M.2.1 a
      rw [if_neg (by omega), if_neg (by omega)]
    · show (if b ≤ a ∧ a ≤ b + n then (fun _ => (0 : Int32)) else M.2.2.1 a) = M.2.2.1 a
      rw [if_neg q]
    · show (if a = b then (fun i => if i < n then some (b + 1 + i) else none) else if b < a ∧ a ≤ b + n then (fun _ => none) else M.2.2.2.1 a) = M.2.2.2.1 a
      rw [if_neg (by omega), if_neg (by omega)]
    · show (if b ≤ a ∧ a ≤ b + n then (fun _ => (0 : Int64)) else M.2.2.2.2 a) = M.2.2.2.2 a
      rw [if_neg q]
  have hR2 : gRep X ad2 (gwMM M b n k) G.heap := by
    refine hR.many o1 (fun q hq => hAA q (Nat.le_trans hS.1 hq)) (fun a ha => ?_) (fun a ha hka => ?_) (fun a a' ha hka ha' hka' e9 => ?_) (fun a ha => ad_o a (by omega))
    · have hno : ¬ (b ≤ a ∧ a ≤ b + n) := fun q => ha (h0 a q.1 q.2)
      exact ⟨kd_o a hno, ad_o a hno⟩
    · have hin : b ≤ a ∧ a ≤ b + n := Decidable.by_contra (fun q => by rw [(kd_o a q).1] at hka; exact hka ha)
      rw [ad_i a hin.1 hin.2]
      refine ⟨by omega, by omega, ?_, fun i z' hz' => ?_⟩
      · by_cases e1 : a = b
        · subst e1
          unfold gCell
          rw [kd_b, if_neg (by decide), ad_i a (Nat.le_refl _) (by omega), Nat.sub_self, Nat.add_zero, f2]
          show some (arrV (X.2.2.1 7) n _) = some (arrV (X.2.2.1 7) (gln (gwMM M a n k) a) _)
          rw [show gln (gwMM M a n k) a = n from if_pos rfl]
          refine congrArg (fun f => some (arrV (X.2.2.1 7) n f)) (funext fun j => ?_)
          show va_rf (if j < n then some (H.size + 1 + j) else none) = gEV ad2 7 _ (gmr (gwMM M a n k) a) _ j
          rw [show gmr (gwMM M a n k) a = (fun i => if i < n then some (a + 1 + i) else none) from if_pos rfl]
          show va_rf (if j < n then some (H.size + 1 + j) else none) = va_re ad2 (if j < n then some (a + 1 + j) else none)
          by_cases hj : j < n
          · rw [if_pos hj, if_pos hj]
            show Value.ref (H.size + 1 + j) = Value.ref (ad2 (a + 1 + j))
            rw [ad_i (a + 1 + j) (by omega) (by omega)]
            exact congrArg Value.ref (show H.size + 1 + j = H.size + (a + 1 + j - a) by omega)
          · rw [if_neg hj, if_neg hj]
            rfl
        · unfold gCell
          rw [kd_i a (by omega) hin.2, if_neg (by decide), ad_i a hin.1 hin.2]
          have hr := hrow (a - b - 1) (by omega)
          rw [show H.size + 1 + (a - b - 1) = H.size + (a - b) by omega] at hr
          rw [hr, show gln (gwMM M b n k) a = k from by
            show (if a = b then n else if b < a ∧ a ≤ b + n then k else M.2.1 a) = k
            rw [if_neg e1, if_pos ⟨by omega, hin.2⟩], show gmi (gwMM M b n k) a = (fun _ => 0) from if_pos hin]
          rfl
      · by_cases e1 : a = b
        · subst e1
          rw [show gmr (gwMM M a n k) a = (fun i => if i < n then some (a + 1 + i) else none) from if_pos rfl] at hz'
          dsimp only at hz'
          by_cases hi : i < n
          · rw [if_pos hi] at hz'
            cases hz'
            left
            rw [kd_i (a + 1 + i) (by omega) (by omega)]
            decide
          · rw [if_neg hi] at hz'
            cases hz'
        · rw [show gmr (gwMM M b n k) a = (fun _ => none) from by
            show (if a = b then _ else if b < a ∧ a ≤ b + n then (fun _ => none) else M.2.2.2.1 a) = _
            rw [if_neg e1, if_pos ⟨by omega, hin.2⟩]] at hz'
          cases hz'
    · have hin : b ≤ a ∧ a ≤ b + n := Decidable.by_contra (fun q => by rw [(kd_o a q).1] at hka; exact hka ha)
      have hin' : b ≤ a' ∧ a' ≤ b + n := Decidable.by_contra (fun q => by rw [(kd_o a' q).1] at hka'; exact hka' ha')
      rw [ad_i a hin.1 hin.2, ad_i a' hin'.1 hin'.2] at e9
      omega
  have hlt2 : ∀ v : Value, (∀ q : Nat, v = .ref q → q < b) → gT ad2 v = gT ad v := fun v hv => by
    cases v with
    | ref q =>
      show Value.ref (ad2 q) = Value.ref (ad q)
      rw [ad_o q (fun z9 => absurd (hv q rfl) (Nat.not_lt.mpr z9.1))]
    | _ => rfl
  have k9 := kk ad0 ad2 p e s m args below meth c G.heap locs (cells + 1 + n) (slots + n + n * k) ls hF hR2 ⟨Nat.le_trans hS.1 (by rw [f1]; omega), fun q g1 g2 => (o1 q (Nat.lt_of_lt_of_le g1 hS.1)).trans (hS.2.1 q g1 g2), hS.2.2⟩ (fun a ha => by
    rw [ad_o a (fun q => ha (hbN a q.1 q.2))]
    exact hN a ha) (by omega) (by omega) (by
    have : gmv ad2 lv = gmv ad lv := List.map_congr_left (fun w hw => by rw [hlt2 w.2 (hlv w hw)])
    rw [this]
    exact hl)
  have es : (Value.ref b :: st).map (gT ad2) = .ref H.size :: st.map (gT ad) := by
    show Value.ref (ad2 b) :: st.map (gT ad2) = _
    rw [ad_i b (Nat.le_refl _) (by omega), Nat.sub_self, Nat.add_zero]
    congr 1
    exact List.map_congr_left (fun w hw => hlt2 w (hst w hw))
  rw [es] at k9
  obtain ⟨t, a1, b1⟩ := k9 G rfl Y'
  refine ⟨t, step t ?_, b1⟩
  rw [hT]
  exact a1
end K0
