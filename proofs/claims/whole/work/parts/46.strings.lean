/-! what stands at the start and stays: static rows, String constants -/
def sLen : List Nat := [9, 10, 6, 4, 1, 2, 3, 3]
def sByt : List (List Int32) := [[110, 99, 32, 98, 115, 119, 107, 104, 108], [124, 38, 33, 61, 60, 62, 43, 45, 42, 47], [103, 115, 98, 110, 119, 116], [100, 115, 97, 110], [121], [110, 99], [98, 115, 119], [107, 104, 108]]
def tUnt : List Int32 := [1, 20, 0, 0, 3, 0, 3, 2, 5]
def tLow : List Int32 := [0, 0, 0, 0, 0, 0, 1, 0, 1]
def tHigh : List Int32 := [9, 99, 0, 99, 9, 6, 9, 9, 9]
def tJoin : List Int32 := [0, 1, -1, 2, 2, 2, 3, 3, 4, 4]
def sOwn : List (String × Nat × String × Nat) := [("GuiltyShave$Town", 115, "nc bswkhl", 0), ("GuiltyShave$LawReader", 73, "|&!=<>+-*/", 1), ("GuiltyShave$LawReader", 92, "gsbnwt", 2), ("GuiltyShave$Week", 46, "dsan", 3), ("GuiltyShaveModel", 26, "y", 4), ("GuiltyShaveModel", 32, "gsbnwt", 2), ("GuiltyShaveModel", 245, "nc", 5), ("GuiltyShaveModel", 251, "bsw", 6), ("GuiltyShaveModel", 253, "khl", 7), ("GuiltyShaveModel", 258, "dsan", 3)]
def tRow (X : gX) (U : State) (C nm : String) (b n : Nat) (t : List Int32) : Prop := va_Z C nm "[I" (.ref (X.2.2.2.2.1 b)) (gA X) U U.heap ∧ va_T .int (X.2.2.2.2.1 b) n (fun j => .int (t.getD j 0)) (gA X) U U.heap
def StF (X : gX) (U : State) : Prop := tRow X U "GuiltyShave$Town" "UNTOLD" 5000 9 tUnt ∧ tRow X U "GuiltyShave$Town" "LOWEST" 5001 9 tLow ∧ tRow X U "GuiltyShave$Town" "HIGHEST" 5002 9 tHigh ∧ tRow X U "GuiltyShave$LawReader" "JOINS_IN" 5003 10 tJoin ∧ va_Z "java/lang/String" "COMPACT_STRINGS" "Z" (.int 1) (gA X) U U.heap ∧ (va_Z "jdk/internal/util/Preconditions" "SIOOBE_FORMATTER" "Ljava/util/function/BiFunction;" .null (gA X) U U.heap ∨ va_Z "jdk/internal/util/Preconditions" "SIOOBE_FORMATTER" "Ljava/util/function/BiFunction;" (.ref (X.2.2.2.2.1 5004)) (gA X) U U.heap) ∧ vk_S 8 sLen sByt (fun i => X.2.2.2.2.1 (5010 + i)) (fun i => X.2.2.2.2.1 (5020 + i)) (gA X) U U.heap ∧ ∀ q ∈ sOwn, vk_R q.1 q.2.1 q.2.2.1 (X.2.2.2.2.1 (5010 + q.2.2.2)) U
def gSt (X : gX) : Prop := ∀ U, X.2.2.2.2.2 U → StF X U
section ST
variable {X : gX} {R : Room} {Z : gZt} {N : Nat → Prop} {y : MethodName} {cc : ByteArray} {nL : Nat} {ret : Option FieldType} {pc pc' tgt : Nat} {lv : List (Nat × Value)} {st : List Value} {M : gM} {bc bs d : Nat}
theorem g_ldcS {ix i : Nat} {tx : String} (hd : decode cc pc = .ok (.ldc ix, 2)) (hZ : gSt X) (hq : (y.cls, ix, tx, i) ∈ sOwn) (hp : pc + 2 = pc') (k : gW X R Z N y cc nL ret pc' lv (.ref (5010 + i) :: st) M bc bs) : gW X R Z N y cc nL ret pc lv st M bc bs := by
  subst hp
  intro ad0 ad p e s m args below meth c H locs cells slots ls hF hR hS hN h1 h2 hl
  have kk := k ad0 ad p e s m args below meth c H locs cells slots ls hF hR hS hN h1 h2 hl
  have es : (Value.ref (5010 + i) :: st).map (gT ad) = .ref (X.2.2.2.2.1 (5010 + i)) :: st.map (gT ad) := by
    show Value.ref (ad (5010 + i)) :: _ = _
    rw [hR.2.2.1 _ (by omega)]
  rw [es] at kk
  exact va_ldcS hF.1 hF.2.1 hF.2.2.2.1 ((hZ s hF.2.2.2.2.2.2.2.2.1.2).2.2.2.2.2.2.2 _ hq) hd kk
theorem g_strF {ix i : Nat} {nm ds : String} {v : Value} {w : Value} (hd : decode cc pc = .ok (.getfield ix, 3)) (hlk : Cond.fieldLink y.cls ix "java/lang/String" nm ds ∈ gws) (hE : ∀ U, X.2.2.2.2.2 U → va_OF "java/lang/String" nm ds w (X.2.2.2.2.1 (5010 + i)) (gA X) U U.heap) (hw : ∀ ad : Nat → Nat, (∀ a, 5000 ≤ a → ad a = X.2.2.2.2.1 a) → gT ad v = w) (hp : pc + 3 = pc') (k : gW X R Z N y cc nL ret pc' lv (v :: st) M bc bs) : gW X R Z N y cc nL ret pc lv (.ref (5010 + i) :: st) M bc bs := by
  subst hp
  intro ad0 ad p e s m args below meth c H locs cells slots ls hF hR hS hN h1 h2 hl
  have kk := k ad0 ad p e s m args below meth c H locs cells slots ls hF hR hS hN h1 h2 hl
  have es : (v :: st).map (gT ad) = w :: st.map (gT ad) := by show gT ad v :: _ = _; rw [hw ad hR.2.2.1]
  rw [es] at kk
  have es2 : (Value.ref (5010 + i) :: st).map (gT ad) = .ref (X.2.2.2.2.1 (5010 + i)) :: st.map (gT ad) := by
    show Value.ref (ad (5010 + i)) :: _ = _
    rw [hR.2.2.1 _ (by omega)]
  rw [es2]
  exact vk_getf hF.1 hF.2.1 (hE s hF.2.2.2.2.2.2.2.2.1.2) hS hF.2.2.2.1 (hF.2.2.2.2.1 _ hlk) (fun _ h => h) hd kk
theorem g_strV {ix i : Nat} (hd : decode cc pc = .ok (.getfield ix, 3)) (hlk : Cond.fieldLink y.cls ix "java/lang/String" "value" "[B" ∈ gws) (hZ : gSt X) (hi : i < 8) (hp : pc + 3 = pc') (k : gW X R Z N y cc nL ret pc' lv (.ref (5020 + i) :: st) M bc bs) : gW X R Z N y cc nL ret pc lv (.ref (5010 + i) :: st) M bc bs :=
  g_strF (v := .ref (5020 + i)) (w := .ref (X.2.2.2.2.1 (5020 + i))) hd hlk (fun U hU => ((hZ U hU).2.2.2.2.2.2.1.1 i hi).2.2.1) (fun ad h => by show Value.ref (ad (5020 + i)) = _; rw [h _ (by omega)]) hp k
theorem g_strC {ix i : Nat} (hd : decode cc pc = .ok (.getfield ix, 3)) (hlk : Cond.fieldLink y.cls ix "java/lang/String" "coder" "B" ∈ gws) (hZ : gSt X) (hi : i < 8) (hp : pc + 3 = pc') (k : gW X R Z N y cc nL ret pc' lv (.int 0 :: st) M bc bs) : gW X R Z N y cc nL ret pc lv (.ref (5010 + i) :: st) M bc bs :=
  g_strF (v := .int 0) (w := .int 0) hd hlk (fun U hU => ((hZ U hU).2.2.2.2.2.2.1.1 i hi).2.1) (fun ad h => rfl) hp k
theorem g_strL {i : Nat} (hd : decode cc pc = .ok (.arraylength, 1)) (hZ : gSt X) (hi : i < 8) (hp : pc + 1 = pc') (k : gW X R Z N y cc nL ret pc' lv (.int (nI (sLen.getD i 0)) :: st) M bc bs) : gW X R Z N y cc nL ret pc lv (.ref (5020 + i) :: st) M bc bs := by
  subst hp
  intro ad0 ad p e s m args below meth c H locs cells slots ls hF hR hS hN h1 h2 hl
  have kk := k ad0 ad p e s m args below meth c H locs cells slots ls hF hR hS hN h1 h2 hl
  have es2 : (Value.ref (5020 + i) :: st).map (gT ad) = .ref (X.2.2.2.2.1 (5020 + i)) :: st.map (gT ad) := by
    show Value.ref (ad (5020 + i)) :: _ = _
    rw [hR.2.2.1 _ (by omega)]
  rw [es2]
  exact va_tlen hF.1 hF.2.1 (((hZ s hF.2.2.2.2.2.2.2.2.1.2).2.2.2.2.2.2.1.1 i hi).2.2.2) hS rfl hd kk
theorem g_strB {i j : Nat} {x : Int32} (hd : decode cc pc = .ok (.baload, 1)) (hZ : gSt X) (hi : i < 8) (hx : x.toInt = (j : Int)) (hj : j < sLen.getD i 0) (hp : pc + 1 = pc') (k : gW X R Z N y cc nL ret pc' lv (.int ((sByt.getD i []).getD j 0) :: st) M bc bs) : gW X R Z N y cc nL ret pc lv (.int x :: .ref (5020 + i) :: st) M bc bs := by
  subst hp
  intro ad0 ad p e s m args below meth c H locs cells slots ls hF hR hS hN h1 h2 hl
  have kk := k ad0 ad p e s m args below meth c H locs cells slots ls hF hR hS hN h1 h2 hl
  obtain ⟨hin, ei⟩ := g_ix hx hj
  have es2 : (Value.int x :: .ref (5020 + i) :: st).map (gT ad) = .int x :: .ref (X.2.2.2.2.1 (5020 + i)) :: st.map (gT ad) := by
    show Value.int x :: Value.ref (ad (5020 + i)) :: _ = _
    rw [hR.2.2.1 _ (by omega)]
  rw [es2]
  exact va_tb hF.1 hF.2.1 (((hZ s hF.2.2.2.2.2.2.2.2.1.2).2.2.2.2.2.2.1.1 i hi).2.2.2) hS hin (by rw [ei]; rfl) hd kk
/-- a method of a String constant -/
theorem g_callU {ix d2 i n : Nat} {y2 : MethodName} {cc2 : ByteArray} {nL2 : Nat} {ret2 : Option FieldType} {As rest : List Value} {M2 : gM} {r : Int32}
    (hd : decode cc pc = .ok (.invokevirtual ix, 3)) (hlk : Cond.methodLink y.cls ix y2 ∈ gws) (hw : gMv y2 cc2 nL2 ret2 n) (hM : gDet X d2 y2 cc2 nL2 ret2 (.ref (5010 + i) :: As) M (some (.int r)) M2) (hZ : gSt X) (hi : i < 8) (hqc : y2.cls = "java/lang/String")
    (hst : st = As.reverse ++ .ref (5010 + i) :: rest) (hn : As.length = n) (hcat : (rest.map fun v => v.category).sum ≤ 8) (hfit : gFit d2 R) (hp : pc + 3 = pc')
    (k : gW X R Z N y cc nL ret pc' lv (.int r :: rest) M2 bc bs) : gW X R Z N y cc nL ret pc lv st M bc bs := by
  subst hp
  subst hst
  intro ad0 ad p e s m args below meth c H locs cells slots ls hF hR hS hN h1 h2 hl
  have hts := hF.2.2.2.2.1
  have hK := hF.2.2.2.2.2.2.2.2.1
  have hx := hF.2.2.2.2.2.2.2.2.2.2
  obtain ⟨w1, w2, w3, w4, w5, w6⟩ := hw
  obtain ⟨cell, q1, q2, q3⟩ := vk_recv (hZ s hK.2).2.2.2.2.2.2.1 hi hS
  rw [← hR.2.2.1 _ (by omega)] at q1
  rw [g_rev]
  refine g_after (N2 := gN0) (Q2 := fun v M' => v = some (.int r) ∧ M' = M2) (mc2 := 0) (ms2 := 0) (rest := rest) (va_runV (As := As.map (gT ad)) (b := ad (5010 + i)) (C := y2.cls) ⟨hF.1, hF.2.1, hF.2.2.1, hF.2.2.2.1, hts⟩ (hM ad) ⟨callB_of n hts (gGood w1) rfl rfl rfl (hts _ w4) (hts _ hlk) w5 ⟨hfit.1, by have := hfit.2; show 8 + (nL2 + 11) + 64 * d2 ≤ R.locals; omega⟩, hts _ w2, hts _ w3⟩
    ⟨gBlind hx, ⟨cell, q1, q2, by rw [hqc]; exact q3⟩, fun U hU hW => ⟨rfl, by rw [hU]; exact hR, hK.moved hx hW hS hU, fun x hx2 => hF.2.2.2.2.2.2.2.2.2.1 x (Nat.le_trans hS.1 (by rw [hU] at hx2; exact hx2))⟩⟩
    rfl (by rw [List.length_map]; exact hn) hl.1 rfl (lv_room (by rw [g_cat]; exact hcat)) hd ⟨by omega, by omega⟩) hF hS hN h1 h2 hl (Nat.zero_le _) (Nat.zero_le _) (fun _ h => h.elim) (fun _ _ _ _ h => h) (fun _ _ _ _ h => h) (fun v M3 h => by obtain ⟨rfl, rfl⟩ := h; exact k)
/-- a static field that is null or a reference of the start -/
theorem g_getsQ {ix b : Nat} {C nm ds : String} (hd : decode cc pc = .ok (.getstatic ix, 3)) (hlk : Cond.fieldLink y.cls ix C nm ds ∈ gws) (hZ : ∀ U, X.2.2.2.2.2 U → va_Z C nm ds .null (gA X) U U.heap ∨ va_Z C nm ds (.ref (X.2.2.2.2.1 b)) (gA X) U U.heap) (hb : 5000 ≤ b) (hp : pc + 3 = pc') (k : ∀ v, v = .null ∨ v = .ref b → gW X R Z N y cc nL ret pc' lv (v :: st) M bc bs) : gW X R Z N y cc nL ret pc lv st M bc bs := by
  subst hp
  intro ad0 ad p e s m args below meth c H locs cells slots ls hF hR hS hN h1 h2 hl
  rcases hZ s hF.2.2.2.2.2.2.2.2.1.2 with h | h
  · exact va_gets hF.1 hF.2.1 h hS hF.2.2.2.1 (hF.2.2.2.2.1 _ hlk) (fun _ h => h) hd (k .null (Or.inl rfl) ad0 ad p e s m args below meth c H locs cells slots ls hF hR hS hN h1 h2 hl)
  · have kk := k (.ref b) (Or.inr rfl) ad0 ad p e s m args below meth c H locs cells slots ls hF hR hS hN h1 h2 hl
    have es : (Value.ref b :: st).map (gT ad) = .ref (X.2.2.2.2.1 b) :: st.map (gT ad) := by
      show Value.ref (ad b) :: _ = _
      rw [hR.2.2.1 b hb]
    rw [es] at kk
    exact va_gets hF.1 hF.2.1 h hS hF.2.2.2.1 (hF.2.2.2.2.1 _ hlk) (fun _ h => h) hd kk
end ST
