section GW3
variable {X : gX} {R : Room} {Z : gZt} {N : Nat → Prop} {y : MethodName} {cc : ByteArray} {nL : Nat} {ret : Option FieldType} {pc pc' tgt : Nat} {lv : List (Nat × Value)} {st : List Value} {M : gM} {bc bs : Nat}
/-- a static field that holds an array of the start -/
theorem g_gets {ix b : Nat} {C nm d : String} (hd : decode cc pc = .ok (.getstatic ix, 3)) (hlk : Cond.fieldLink y.cls ix C nm d ∈ gws) (hZ : ∀ U, X.2.2.2.2.2 U → va_Z C nm d (.ref (X.2.2.2.2.1 b)) (gA X) U U.heap) (hb : 5000 ≤ b) (hp : pc + 3 = pc') (k : gW X R Z N y cc nL ret pc' lv (.ref b :: st) M bc bs) : gW X R Z N y cc nL ret pc lv st M bc bs := by
  subst hp
  intro ad0 ad p e s m args below meth c H locs cells slots ls hF hR hS hN h1 h2 hl
  have kk := k ad0 ad p e s m args below meth c H locs cells slots ls hF hR hS hN h1 h2 hl
  have es : (Value.ref b :: st).map (gT ad) = .ref (X.2.2.2.2.1 b) :: st.map (gT ad) := by
    show Value.ref (ad b) :: _ = _
    rw [hR.2.2.1 b hb]
  rw [es] at kk
  exact va_gets hF.1 hF.2.1 (hZ s hF.2.2.2.2.2.2.2.2.1.2) hS hF.2.2.2.1 (hF.2.2.2.2.1 _ hlk) (fun _ h => h) hd kk
/-- a static field that holds a whole number -/
theorem g_getsI {ix : Nat} {v : Int32} {C nm d : String} (hd : decode cc pc = .ok (.getstatic ix, 3)) (hlk : Cond.fieldLink y.cls ix C nm d ∈ gws) (hZ : ∀ U, X.2.2.2.2.2 U → va_Z C nm d (.int v) (gA X) U U.heap) (hp : pc + 3 = pc') (k : gW X R Z N y cc nL ret pc' lv (.int v :: st) M bc bs) : gW X R Z N y cc nL ret pc lv st M bc bs := by
  subst hp
  intro ad0 ad p e s m args below meth c H locs cells slots ls hF hR hS hN h1 h2 hl
  exact va_gets hF.1 hF.2.1 (hZ s hF.2.2.2.2.2.2.2.2.1.2) hS hF.2.2.2.1 (hF.2.2.2.2.1 _ hlk) (fun _ h => h) hd (k ad0 ad p e s m args below meth c H locs cells slots ls hF hR hS hN h1 h2 hl)
/-- a place of such an array -/
theorem g_tald {b n i : Nat} {x v : Int32} {f : Nat → Value} (hd : decode cc pc = .ok (.iaload, 1)) (hT : ∀ U, X.2.2.2.2.2 U → va_T .int (X.2.2.2.2.1 b) n f (gA X) U U.heap) (hb : 5000 ≤ b) (hx : x.toInt = (i : Int)) (hi : i < n) (hv : f i = .int v) (hp : pc + 1 = pc') (k : gW X R Z N y cc nL ret pc' lv (.int v :: st) M bc bs) : gW X R Z N y cc nL ret pc lv (.int x :: .ref b :: st) M bc bs := by
  subst hp
  intro ad0 ad p e s m args below meth c H locs cells slots ls hF hR hS hN h1 h2 hl
  obtain ⟨hin, ei⟩ := g_ix hx hi
  have es : (Value.int x :: .ref b :: st).map (gT ad) = .int x :: .ref (X.2.2.2.2.1 b) :: st.map (gT ad) := by
    show Value.int x :: Value.ref (ad b) :: _ = _
    rw [hR.2.2.1 b hb]
  rw [es]
  exact va_ti hF.1 hF.2.1 (hT s hF.2.2.2.2.2.2.2.2.1.2) hS hin (by rw [ei]; exact hv) hd (k ad0 ad p e s m args below meth c H locs cells slots ls hF hR hS hN h1 h2 hl)
/-- System.arraycopy between arrays of ints -/
theorem g_copy {ix a b na nb i j n : Nat} {sp dp len : Int32} (hd : decode cc pc = .ok (.invokestatic ix, 3)) (hlk : Cond.methodLink y.cls ix arraycopyName ∈ gws) (hka : gkd M a = 32) (hkb : gkd M b = 32) (hna : gln M a = na) (hnb : gln M b = nb) (hsp : sp.toInt = (i : Int)) (hdp : dp.toInt = (j : Int)) (hlen : len.toInt = (n : Int)) (hi : i + n ≤ na) (hj : j + n ≤ nb) (hcat : (st.map fun v => v.category).sum ≤ 8) (hfit : gFit 0 R) (hp : pc + 3 = pc') (k : gW X R Z N y cc nL ret pc' lv st (gwF M b (va_cpy (gmi M a) (gmi M b) i j n)) bc bs) : gW X R Z N y cc nL ret pc lv (.int len :: .int dp :: .ref b :: .int sp :: .ref a :: st) M bc bs := by
  subst hp
  intro ad0 ad p e s m args below meth c H locs cells slots ls hF hR hS hN h1 h2 hl
  have hts := hF.2.2.2.2.1
  have hK := hF.2.2.2.2.2.2.2.2.1
  obtain ⟨hAa, hca⟩ := g_arr (j := 0) hR hka hna
  obtain ⟨hAb, hcb⟩ := g_arr (j := 0) hR hkb hnb
  have n0 : ∀ (z : Int32) (t : Nat), z.toInt = (t : Int) → ¬ z < 0 := fun z t hz h => by
    have := Int32.lt_iff_toInt_lt.mp h
    have e0 : (0 : Int32).toInt = 0 := rfl
    omega
  have c0 : ∀ (z : Int32) (t : Nat), z.toInt = (t : Int) → z.toNatClampNeg = t := fun z t hz => by
    show z.toInt.toNat = t
    omega
  have hca' : H[ad a]? = some (arrV (X.2.2.1 0) na (fun t => .int (gmi M a t))) := hca
  have hcb' : H[ad b]? = some (arrV (X.2.2.1 0) nb (fun t => .int (gmi M b t))) := hcb
  obtain ⟨-, k0, hk0, cm0, hkk0⟩ := (hK.1.2 0 _ rfl).1 na (fun t => .int (gmi M a t))
  obtain ⟨-, k1, hk1, cm1, hkk1⟩ := (hK.1.2 0 _ rfl).1 nb (fun t => .int (gmi M b t))
  intro T hT Xs
  obtain ⟨vm', X', step⟩ := Xs.arraycopy hF.1 hF.2.2.2.1 (hts _ hlk) (hts _ lna_copy) (hts _ lst_copy) (hts _ ln_J10) (src := ad a) (dst := ad b) (cs := arrV (X.2.2.1 0) na (fun t => .int (gmi M a t))) (cd := arrV (X.2.2.1 0) nb (fun t => .int (gmi M b t))) (srcPos := sp) (destPos := dp) (n := len) (by rw [hT]; exact hca') (by rw [hT]; exact hcb')
    (fun _ h => by cases h) (fun _ h => by cases h) (fun h => by cases h) (fun h => by cases h) hk0 hk1 hkk0 hkk1 (by simp [refKind]) (n0 sp i hsp) (n0 dp j hdp) (n0 len n hlen)
    (by rw [hsp, hlen, arrV_size]; omega)
    (by rw [hdp, hlen, arrV_size]; omega)
    (fun vm₁ _ t ht => by
      rw [c0 len n hlen] at ht
      have e : (arrV (X.2.2.1 0) na (fun t => .int (gmi M a t))).slots.getD (sp.toNatClampNeg + t) .null = .int (gmi M a (sp.toNatClampNeg + t)) := by
        rw [Array.getD_eq_getD_getElem?, arrV_read _ _ (by rw [c0 sp i hsp]; omega)]
        rfl
      refine ⟨?_, ?_⟩
      · rw [e]
        rfl
      · rw [e]
        exact trivial)
    (g := F0 m pc ls (.int len :: .int dp :: .ref (ad b) :: .int sp :: .ref (ad a) :: st.map (gT ad))) rfl (by rw [hF.2.2.1]; exact hl.1) (rest := st.map (gT ad)) rfl (by rw [hF.2.1]; exact hd) (by have := hfit.1; omega) (by rw [g_cat]; have := hfit.2; have e9 : nativeFrameWords "java/lang/System" "arraycopy" 5 ≤ 20 := (by decide); show 2 * 0 + _ + _ ≤ _; omega)
  have e1 : copied (arrV (X.2.2.1 0) na (fun t => .int (gmi M a t))) (arrV (X.2.2.1 0) nb (fun t => .int (gmi M b t))) sp dp len = arrV (X.2.2.1 0) nb (fun t => .int (va_cpy (gmi M a) (gmi M b) i j n t)) := by
    rw [← c0 sp i hsp, ← c0 dp j hdp, ← c0 len n hlen]
    exact va_copied (fun z => .int z) _ _ (gmi M a) (gmi M b) (by rw [c0 sp i hsp, c0 len n hlen]; exact hi)
  rw [e1] at X' step
  generalize hcell : arrV (X.2.2.1 0) nb (fun t => .int (va_cpy (gmi M a) (gmi M b) i j n t)) = cell at X' step
  have hlt : ad b < H.size := (Array.getElem?_eq_some_iff.mp hcb').1
  have hheap : ((T.setVm vm').setCell (ad b) cell).heap = H.setIfInBounds (ad b) cell := by rw [← hT]; rfl
  have oq : ∀ q : Nat, q ≠ ad b → (H.setIfInBounds (ad b) cell)[q]? = H[q]? := fun q hq => by simp [Array.getElem?_setIfInBounds, Ne.symm hq]
  obtain ⟨t, a1, b1⟩ := k ad0 ad p e s m args below meth c (H.setIfInBounds (ad b) cell) _ cells slots ls hF (hR.upd (gEx_F M b (va_cpy (gmi M a) (gmi M b) i j n)) (by omega) (by
      rw [hkb, hnb]
      unfold gCell
      rw [if_neg (by omega)]
      have eu : gmi (gwF M b (va_cpy (gmi M a) (gmi M b) i j n)) b = va_cpy (gmi M a) (gmi M b) i j n := va_up_self _ _ _
      rw [eu]
      show (H.setIfInBounds (ad b) cell)[ad b]? = some (arrV (X.2.2.1 0) nb (fun t => .int (va_cpy (gmi M a) (gmi M b) i j n t)))
      rw [hcell]
      simp [Array.getElem?_setIfInBounds, hlt]) oq hR.2.2.2) ⟨by simp; exact hS.1, fun q g1 g2 => by
      rw [oq q (fun e => g2 (by rw [e]; exact hAb))]
      exact hS.2.1 q g1 g2, fun q hq => by
      rcases List.mem_append.mp hq with h | h
      · exact hS.2.2 q h
      · obtain ⟨z, -, hz⟩ := List.mem_map.mp h
        rw [← hz]
        exact hAb⟩ hN h1 h2 hl _ hheap X'
  exact ⟨t, step t a1, b1⟩
end GW3
