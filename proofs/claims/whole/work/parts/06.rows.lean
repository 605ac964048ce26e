section GW
variable {X : gX} {R : Room} {Z : gZt} {N : Nat → Prop} {y : MethodName} {cc : ByteArray} {nL : Nat} {ret : Option FieldType} {pc pc' tgt : Nat} {lv : List (Nat × Value)} {st : List Value} {M : gM} {bc bs : Nat}
theorem g_iconst {n : Int} {v : Int32} (hd : decode cc pc = .ok (.iconst n, 1)) (hv : Int32.ofInt n = v) (hp : pc + 1 = pc') (k : gW X R Z N y cc nL ret pc' lv (.int v :: st) M bc bs) : gW X R Z N y cc nL ret pc lv (st) M bc bs := by
  subst hp
  intro ad0 ad p e s m args below meth c H locs cells slots ls hF hR hS hN h1 h2 hl
  exact lv_iconst hF.1 hF.2.1 hd hv (k ad0 ad p e s m args below meth c H locs cells slots ls hF hR hS hN h1 h2 hl)
theorem g_bipush {n : Int} {v : Int32} (hd : decode cc pc = .ok (.bipush n, 2)) (hv : (Int8.ofInt n).toInt32 = v) (hp : pc + 2 = pc') (k : gW X R Z N y cc nL ret pc' lv (.int v :: st) M bc bs) : gW X R Z N y cc nL ret pc lv (st) M bc bs := by
  subst hp
  intro ad0 ad p e s m args below meth c H locs cells slots ls hF hR hS hN h1 h2 hl
  exact lv_bipush hF.1 hF.2.1 hd hv (k ad0 ad p e s m args below meth c H locs cells slots ls hF hR hS hN h1 h2 hl)
theorem g_sipush {n : Int} {v : Int32} (hd : decode cc pc = .ok (.sipush n, 3)) (hv : (Int16.ofInt n).toInt32 = v) (hp : pc + 3 = pc') (k : gW X R Z N y cc nL ret pc' lv (.int v :: st) M bc bs) : gW X R Z N y cc nL ret pc lv (st) M bc bs := by
  subst hp
  intro ad0 ad p e s m args below meth c H locs cells slots ls hF hR hS hN h1 h2 hl
  exact lv_sipush hF.1 hF.2.1 hd hv (k ad0 ad p e s m args below meth c H locs cells slots ls hF hR hS hN h1 h2 hl)
theorem g_lconst {n : Fin 2} {v : Int64} (hd : decode cc pc = .ok (.lconst n, 1)) (hv : Int64.ofNat (n : Nat) = v) (hp : pc + 1 = pc') (k : gW X R Z N y cc nL ret pc' lv (.long v :: st) M bc bs) : gW X R Z N y cc nL ret pc lv (st) M bc bs := by
  subst hp
  intro ad0 ad p e s m args below meth c H locs cells slots ls hF hR hS hN h1 h2 hl
  exact lv_lconst hF.1 hF.2.1 hd hv (k ad0 ad p e s m args below meth c H locs cells slots ls hF hR hS hN h1 h2 hl)
theorem g_null  (hd : decode cc pc = .ok (.aconst_null, 1)) (hp : pc + 1 = pc') (k : gW X R Z N y cc nL ret pc' lv (.null :: st) M bc bs) : gW X R Z N y cc nL ret pc lv (st) M bc bs := by
  subst hp
  intro ad0 ad p e s m args below meth c H locs cells slots ls hF hR hS hN h1 h2 hl
  exact lv_null hF.1 hF.2.1 hd (k ad0 ad p e s m args below meth c H locs cells slots ls hF hR hS hN h1 h2 hl)
theorem g_ldc {ix : Nat} {v : Int32} (hd : decode cc pc = .ok (.ldc ix, 2)) (hc : Cond.constant y.cls ix v ∈ gws) (hp : pc + 2 = pc') (k : gW X R Z N y cc nL ret pc' lv (.int v :: st) M bc bs) : gW X R Z N y cc nL ret pc lv (st) M bc bs := by
  subst hp
  intro ad0 ad p e s m args below meth c H locs cells slots ls hF hR hS hN h1 h2 hl
  exact lv_ldc hF.1 hF.2.1 hF.2.2.2.1 (hF.2.2.2.2.1 _ hc) hd (k ad0 ad p e s m args below meth c H locs cells slots ls hF hR hS hN h1 h2 hl)
theorem g_ldcw {ix : Nat} {v : Int32} (hd : decode cc pc = .ok (.ldc_w ix, 3)) (hc : Cond.constant y.cls ix v ∈ gws) (hp : pc + 3 = pc') (k : gW X R Z N y cc nL ret pc' lv (.int v :: st) M bc bs) : gW X R Z N y cc nL ret pc lv (st) M bc bs := by
  subst hp
  intro ad0 ad p e s m args below meth c H locs cells slots ls hF hR hS hN h1 h2 hl
  exact lv_ldcw hF.1 hF.2.1 hF.2.2.2.1 (hF.2.2.2.2.1 _ hc) hd (k ad0 ad p e s m args below meth c H locs cells slots ls hF hR hS hN h1 h2 hl)
theorem g_ldc2 {ix : Nat} {v : Int64} (hd : decode cc pc = .ok (.ldc2_w ix, 3)) (hc : Cond.constantLong y.cls ix v ∈ gws) (hp : pc + 3 = pc') (k : gW X R Z N y cc nL ret pc' lv (.long v :: st) M bc bs) : gW X R Z N y cc nL ret pc lv (st) M bc bs := by
  subst hp
  intro ad0 ad p e s m args below meth c H locs cells slots ls hF hR hS hN h1 h2 hl
  exact lv_ldc2 hF.1 hF.2.1 hF.2.2.2.1 (hF.2.2.2.2.1 _ hc) hd (k ad0 ad p e s m args below meth c H locs cells slots ls hF hR hS hN h1 h2 hl)
theorem g_iload_n {j : Fin 4} {i : Nat} {x : Int32} (hd : decode cc pc = .ok (.iload_n j, 1)) (hi : (j : Nat) = i) (hk : gLk lv i = some (.int x)) (hp : pc + 1 = pc') (k : gW X R Z N y cc nL ret pc' lv (.int x :: st) M bc bs) : gW X R Z N y cc nL ret pc lv (st) M bc bs := by
  subst hp
  intro ad0 ad p e s m args below meth c H locs cells slots ls hF hR hS hN h1 h2 hl
  exact lv_iload_n hF.1 hF.2.1 hd hi (g_loc hl hk) (k ad0 ad p e s m args below meth c H locs cells slots ls hF hR hS hN h1 h2 hl)
theorem g_iload {i : Nat} {x : Int32} (hd : decode cc pc = .ok (.iload i, 2)) (hk : gLk lv i = some (.int x)) (hp : pc + 2 = pc') (k : gW X R Z N y cc nL ret pc' lv (.int x :: st) M bc bs) : gW X R Z N y cc nL ret pc lv (st) M bc bs := by
  subst hp
  intro ad0 ad p e s m args below meth c H locs cells slots ls hF hR hS hN h1 h2 hl
  exact lv_iload hF.1 hF.2.1 hd (g_loc hl hk) (k ad0 ad p e s m args below meth c H locs cells slots ls hF hR hS hN h1 h2 hl)
theorem g_lload_n {j : Fin 4} {i : Nat} {x : Int64} (hd : decode cc pc = .ok (.lload_n j, 1)) (hi : (j : Nat) = i) (hk : gLk lv i = some (.long x)) (hp : pc + 1 = pc') (k : gW X R Z N y cc nL ret pc' lv (.long x :: st) M bc bs) : gW X R Z N y cc nL ret pc lv (st) M bc bs := by
  subst hp
  intro ad0 ad p e s m args below meth c H locs cells slots ls hF hR hS hN h1 h2 hl
  exact lv_lload_n hF.1 hF.2.1 hd hi (g_loc hl hk) (k ad0 ad p e s m args below meth c H locs cells slots ls hF hR hS hN h1 h2 hl)
theorem g_lload {i : Nat} {x : Int64} (hd : decode cc pc = .ok (.lload i, 2)) (hk : gLk lv i = some (.long x)) (hp : pc + 2 = pc') (k : gW X R Z N y cc nL ret pc' lv (.long x :: st) M bc bs) : gW X R Z N y cc nL ret pc lv (st) M bc bs := by
  subst hp
  intro ad0 ad p e s m args below meth c H locs cells slots ls hF hR hS hN h1 h2 hl
  exact lv_lload hF.1 hF.2.1 hd (g_loc hl hk) (k ad0 ad p e s m args below meth c H locs cells slots ls hF hR hS hN h1 h2 hl)
theorem g_aload_n {j : Fin 4} {i : Nat} {x : Nat} (hd : decode cc pc = .ok (.aload_n j, 1)) (hi : (j : Nat) = i) (hk : gLk lv i = some (.ref x)) (hp : pc + 1 = pc') (k : gW X R Z N y cc nL ret pc' lv (.ref x :: st) M bc bs) : gW X R Z N y cc nL ret pc lv (st) M bc bs := by
  subst hp
  intro ad0 ad p e s m args below meth c H locs cells slots ls hF hR hS hN h1 h2 hl
  exact lv_aload_n hF.1 hF.2.1 hd hi (g_loc hl hk) (k ad0 ad p e s m args below meth c H locs cells slots ls hF hR hS hN h1 h2 hl)
theorem g_aload {i : Nat} {x : Nat} (hd : decode cc pc = .ok (.aload i, 2)) (hk : gLk lv i = some (.ref x)) (hp : pc + 2 = pc') (k : gW X R Z N y cc nL ret pc' lv (.ref x :: st) M bc bs) : gW X R Z N y cc nL ret pc lv (st) M bc bs := by
  subst hp
  intro ad0 ad p e s m args below meth c H locs cells slots ls hF hR hS hN h1 h2 hl
  exact lv_aload hF.1 hF.2.1 hd (g_loc hl hk) (k ad0 ad p e s m args below meth c H locs cells slots ls hF hR hS hN h1 h2 hl)
theorem g_aload_nN {j : Fin 4} {i : Nat} (hd : decode cc pc = .ok (.aload_n j, 1)) (hi : (j : Nat) = i) (hk : gLk lv i = some .null) (hp : pc + 1 = pc') (k : gW X R Z N y cc nL ret pc' lv (.null :: st) M bc bs) : gW X R Z N y cc nL ret pc lv (st) M bc bs := by
  subst hp
  intro ad0 ad p e s m args below meth c H locs cells slots ls hF hR hS hN h1 h2 hl
  exact lv_aload_nN hF.1 hF.2.1 hd hi (g_loc hl hk) (k ad0 ad p e s m args below meth c H locs cells slots ls hF hR hS hN h1 h2 hl)
theorem g_aloadN {i : Nat} (hd : decode cc pc = .ok (.aload i, 2)) (hk : gLk lv i = some .null) (hp : pc + 2 = pc') (k : gW X R Z N y cc nL ret pc' lv (.null :: st) M bc bs) : gW X R Z N y cc nL ret pc lv (st) M bc bs := by
  subst hp
  intro ad0 ad p e s m args below meth c H locs cells slots ls hF hR hS hN h1 h2 hl
  exact lv_aloadN hF.1 hF.2.1 hd (g_loc hl hk) (k ad0 ad p e s m args below meth c H locs cells slots ls hF hR hS hN h1 h2 hl)
theorem g_istore_n {j : Fin 4} {i : Nat} {x : Int32} (hd : decode cc pc = .ok (.istore_n j, 1)) (hi : (j : Nat) = i) (hn : i < nL) (hp : pc + 1 = pc') (k : gW X R Z N y cc nL ret pc' (gS1 lv i (.int x)) st M bc bs) : gW X R Z N y cc nL ret pc lv (.int x :: st) M bc bs := by
  subst hp
  intro ad0 ad p e s m args below meth c H locs cells slots ls hF hR hS hN h1 h2 hl
  exact lv_istore_n hF.1 hF.2.1 hd hi hl hn (g_s1 ad lv i (.int x)) (fun ls hl => k ad0 ad p e s m args below meth c H locs cells slots ls hF hR hS hN h1 h2 hl)
theorem g_istore {i : Nat} {x : Int32} (hd : decode cc pc = .ok (.istore i, 2)) (hn : i < nL) (hp : pc + 2 = pc') (k : gW X R Z N y cc nL ret pc' (gS1 lv i (.int x)) st M bc bs) : gW X R Z N y cc nL ret pc lv (.int x :: st) M bc bs := by
  subst hp
  intro ad0 ad p e s m args below meth c H locs cells slots ls hF hR hS hN h1 h2 hl
  exact lv_istore hF.1 hF.2.1 hd hl hn (g_s1 ad lv i (.int x)) (fun ls hl => k ad0 ad p e s m args below meth c H locs cells slots ls hF hR hS hN h1 h2 hl)
theorem g_lstore_n {j : Fin 4} {i : Nat} {x : Int64} (hd : decode cc pc = .ok (.lstore_n j, 1)) (hi : (j : Nat) = i) (hn : i + 1 < nL) (hp : pc + 1 = pc') (k : gW X R Z N y cc nL ret pc' (gS2 lv i (.long x)) st M bc bs) : gW X R Z N y cc nL ret pc lv (.long x :: st) M bc bs := by
  subst hp
  intro ad0 ad p e s m args below meth c H locs cells slots ls hF hR hS hN h1 h2 hl
  exact lv_lstore_n hF.1 hF.2.1 hd hi hl hn (g_s2 ad lv i (.long x)) (fun ls hl => k ad0 ad p e s m args below meth c H locs cells slots ls hF hR hS hN h1 h2 hl)
theorem g_lstore {i : Nat} {x : Int64} (hd : decode cc pc = .ok (.lstore i, 2)) (hn : i + 1 < nL) (hp : pc + 2 = pc') (k : gW X R Z N y cc nL ret pc' (gS2 lv i (.long x)) st M bc bs) : gW X R Z N y cc nL ret pc lv (.long x :: st) M bc bs := by
  subst hp
  intro ad0 ad p e s m args below meth c H locs cells slots ls hF hR hS hN h1 h2 hl
  exact lv_lstore hF.1 hF.2.1 hd hl hn (g_s2 ad lv i (.long x)) (fun ls hl => k ad0 ad p e s m args below meth c H locs cells slots ls hF hR hS hN h1 h2 hl)
theorem g_astore_n {j : Fin 4} {i : Nat} {x : Nat} (hd : decode cc pc = .ok (.astore_n j, 1)) (hi : (j : Nat) = i) (hn : i < nL) (hp : pc + 1 = pc') (k : gW X R Z N y cc nL ret pc' (gS1 lv i (.ref x)) st M bc bs) : gW X R Z N y cc nL ret pc lv (.ref x :: st) M bc bs := by
  subst hp
  intro ad0 ad p e s m args below meth c H locs cells slots ls hF hR hS hN h1 h2 hl
  exact lv_astore_n hF.1 hF.2.1 hd hi hl hn (g_s1 ad lv i (.ref x)) (fun ls hl => k ad0 ad p e s m args below meth c H locs cells slots ls hF hR hS hN h1 h2 hl)
theorem g_astore {i : Nat} {x : Nat} (hd : decode cc pc = .ok (.astore i, 2)) (hn : i < nL) (hp : pc + 2 = pc') (k : gW X R Z N y cc nL ret pc' (gS1 lv i (.ref x)) st M bc bs) : gW X R Z N y cc nL ret pc lv (.ref x :: st) M bc bs := by
  subst hp
  intro ad0 ad p e s m args below meth c H locs cells slots ls hF hR hS hN h1 h2 hl
  exact lv_astore hF.1 hF.2.1 hd hl hn (g_s1 ad lv i (.ref x)) (fun ls hl => k ad0 ad p e s m args below meth c H locs cells slots ls hF hR hS hN h1 h2 hl)
theorem g_astore_nN {j : Fin 4} {i : Nat} (hd : decode cc pc = .ok (.astore_n j, 1)) (hi : (j : Nat) = i) (hn : i < nL) (hp : pc + 1 = pc') (k : gW X R Z N y cc nL ret pc' (gS1 lv i (.null)) st M bc bs) : gW X R Z N y cc nL ret pc lv (.null :: st) M bc bs := by
  subst hp
  intro ad0 ad p e s m args below meth c H locs cells slots ls hF hR hS hN h1 h2 hl
  exact lv_astore_nN hF.1 hF.2.1 hd hi hl hn (g_s1 ad lv i .null) (fun ls hl => k ad0 ad p e s m args below meth c H locs cells slots ls hF hR hS hN h1 h2 hl)
theorem g_astoreN {i : Nat} (hd : decode cc pc = .ok (.astore i, 2)) (hn : i < nL) (hp : pc + 2 = pc') (k : gW X R Z N y cc nL ret pc' (gS1 lv i (.null)) st M bc bs) : gW X R Z N y cc nL ret pc lv (.null :: st) M bc bs := by
  subst hp
  intro ad0 ad p e s m args below meth c H locs cells slots ls hF hR hS hN h1 h2 hl
  exact lv_astoreN hF.1 hF.2.1 hd hl hn (g_s1 ad lv i .null) (fun ls hl => k ad0 ad p e s m args below meth c H locs cells slots ls hF hR hS hN h1 h2 hl)
theorem g_iinc {i : Nat} {n : Int} {x v : Int32} (hd : decode cc pc = .ok (.iinc i n, 3)) (hk : gLk lv i = some (.int x)) (hv : x + Int32.ofInt n = v) (hn : i < nL) (hp : pc + 3 = pc') (k : gW X R Z N y cc nL ret pc' (gS1 lv i (.int v)) st M bc bs) : gW X R Z N y cc nL ret pc lv st M bc bs := by
  subst hp
  intro ad0 ad p e s m args below meth c H locs cells slots ls hF hR hS hN h1 h2 hl
  obtain ⟨w, hw⟩ := List.getElem?_of_mem (List.mem_map.mpr ⟨(i, Value.int x), gLk_mem lv i _ hk, rfl⟩ : (i, gT ad (.int x)) ∈ gmv ad lv)
  exact lv_iinc hF.1 hF.2.1 hd hl hw hv hn (g_s1 ad lv i (.int v)) (fun ls hl => k ad0 ad p e s m args below meth c H locs cells slots ls hF hR hS hN h1 h2 hl)
theorem g_iadd {x z : Int32} (hd : decode cc pc = .ok (.iadd, 1)) (hp : pc + 1 = pc') (k : gW X R Z N y cc nL ret pc' lv (.int (x + z) :: st) M bc bs) : gW X R Z N y cc nL ret pc lv (.int z :: .int x :: st) M bc bs := by
  subst hp
  intro ad0 ad p e s m args below meth c H locs cells slots ls hF hR hS hN h1 h2 hl
  exact lv_iadd hF.1 hF.2.1 hd (k ad0 ad p e s m args below meth c H locs cells slots ls hF hR hS hN h1 h2 hl)
theorem g_isub {x z : Int32} (hd : decode cc pc = .ok (.isub, 1)) (hp : pc + 1 = pc') (k : gW X R Z N y cc nL ret pc' lv (.int (x - z) :: st) M bc bs) : gW X R Z N y cc nL ret pc lv (.int z :: .int x :: st) M bc bs := by
  subst hp
  intro ad0 ad p e s m args below meth c H locs cells slots ls hF hR hS hN h1 h2 hl
  exact lv_isub hF.1 hF.2.1 hd (k ad0 ad p e s m args below meth c H locs cells slots ls hF hR hS hN h1 h2 hl)
theorem g_imul {x z : Int32} (hd : decode cc pc = .ok (.imul, 1)) (hp : pc + 1 = pc') (k : gW X R Z N y cc nL ret pc' lv (.int (x * z) :: st) M bc bs) : gW X R Z N y cc nL ret pc lv (.int z :: .int x :: st) M bc bs := by
  subst hp
  intro ad0 ad p e s m args below meth c H locs cells slots ls hF hR hS hN h1 h2 hl
  exact lv_imul hF.1 hF.2.1 hd (k ad0 ad p e s m args below meth c H locs cells slots ls hF hR hS hN h1 h2 hl)
theorem g_iand {x z : Int32} (hd : decode cc pc = .ok (.iand, 1)) (hp : pc + 1 = pc') (k : gW X R Z N y cc nL ret pc' lv (.int (x &&& z) :: st) M bc bs) : gW X R Z N y cc nL ret pc lv (.int z :: .int x :: st) M bc bs := by
  subst hp
  intro ad0 ad p e s m args below meth c H locs cells slots ls hF hR hS hN h1 h2 hl
  exact lv_iand hF.1 hF.2.1 hd (k ad0 ad p e s m args below meth c H locs cells slots ls hF hR hS hN h1 h2 hl)
theorem g_ior {x z : Int32} (hd : decode cc pc = .ok (.ior, 1)) (hp : pc + 1 = pc') (k : gW X R Z N y cc nL ret pc' lv (.int (x ||| z) :: st) M bc bs) : gW X R Z N y cc nL ret pc lv (.int z :: .int x :: st) M bc bs := by
  subst hp
  intro ad0 ad p e s m args below meth c H locs cells slots ls hF hR hS hN h1 h2 hl
  exact lv_ior hF.1 hF.2.1 hd (k ad0 ad p e s m args below meth c H locs cells slots ls hF hR hS hN h1 h2 hl)
theorem g_ixor {x z : Int32} (hd : decode cc pc = .ok (.ixor, 1)) (hp : pc + 1 = pc') (k : gW X R Z N y cc nL ret pc' lv (.int (x ^^^ z) :: st) M bc bs) : gW X R Z N y cc nL ret pc lv (.int z :: .int x :: st) M bc bs := by
  subst hp
  intro ad0 ad p e s m args below meth c H locs cells slots ls hF hR hS hN h1 h2 hl
  exact lv_ixor hF.1 hF.2.1 hd (k ad0 ad p e s m args below meth c H locs cells slots ls hF hR hS hN h1 h2 hl)
theorem g_ishl {x z : Int32} (hd : decode cc pc = .ok (.ishl, 1)) (hp : pc + 1 = pc') (k : gW X R Z N y cc nL ret pc' lv (.int (x <<< (z &&& 31)) :: st) M bc bs) : gW X R Z N y cc nL ret pc lv (.int z :: .int x :: st) M bc bs := by
  subst hp
  intro ad0 ad p e s m args below meth c H locs cells slots ls hF hR hS hN h1 h2 hl
  exact lv_ishl hF.1 hF.2.1 hd (k ad0 ad p e s m args below meth c H locs cells slots ls hF hR hS hN h1 h2 hl)
theorem g_ishr {x z : Int32} (hd : decode cc pc = .ok (.ishr, 1)) (hp : pc + 1 = pc') (k : gW X R Z N y cc nL ret pc' lv (.int (x >>> (z &&& 31)) :: st) M bc bs) : gW X R Z N y cc nL ret pc lv (.int z :: .int x :: st) M bc bs := by
  subst hp
  intro ad0 ad p e s m args below meth c H locs cells slots ls hF hR hS hN h1 h2 hl
  exact lv_ishr hF.1 hF.2.1 hd (k ad0 ad p e s m args below meth c H locs cells slots ls hF hR hS hN h1 h2 hl)
theorem g_idiv {x z : Int32} (hd : decode cc pc = .ok (.idiv, 1)) (hne : ¬ z = 0) (hp : pc + 1 = pc') (k : gW X R Z N y cc nL ret pc' lv (.int (x / z) :: st) M bc bs) : gW X R Z N y cc nL ret pc lv (.int z :: .int x :: st) M bc bs := by
  subst hp
  intro ad0 ad p e s m args below meth c H locs cells slots ls hF hR hS hN h1 h2 hl
  exact lv_idiv hF.1 hF.2.1 hd hne (k ad0 ad p e s m args below meth c H locs cells slots ls hF hR hS hN h1 h2 hl)
theorem g_irem {x z : Int32} (hd : decode cc pc = .ok (.irem, 1)) (hne : ¬ z = 0) (hp : pc + 1 = pc') (k : gW X R Z N y cc nL ret pc' lv (.int (x - x / z * z) :: st) M bc bs) : gW X R Z N y cc nL ret pc lv (.int z :: .int x :: st) M bc bs := by
  subst hp
  intro ad0 ad p e s m args below meth c H locs cells slots ls hF hR hS hN h1 h2 hl
  exact lv_irem hF.1 hF.2.1 hd hne (k ad0 ad p e s m args below meth c H locs cells slots ls hF hR hS hN h1 h2 hl)
theorem g_ineg {x : Int32} (hd : decode cc pc = .ok (.ineg, 1)) (hp : pc + 1 = pc') (k : gW X R Z N y cc nL ret pc' lv (.int (-x) :: st) M bc bs) : gW X R Z N y cc nL ret pc lv (.int x :: st) M bc bs := by
  subst hp
  intro ad0 ad p e s m args below meth c H locs cells slots ls hF hR hS hN h1 h2 hl
  exact lv_ineg hF.1 hF.2.1 hd (k ad0 ad p e s m args below meth c H locs cells slots ls hF hR hS hN h1 h2 hl)
theorem g_iushr {x z : Int32} (hd : decode cc pc = .ok (.iushr, 1)) (hp : pc + 1 = pc') (k : gW X R Z N y cc nL ret pc' lv (.int (x.toUInt32 >>> (z.toUInt32 &&& Int32.toUInt32 31)).toInt32 :: st) M bc bs) : gW X R Z N y cc nL ret pc lv (.int z :: .int x :: st) M bc bs := by
  subst hp
  intro ad0 ad p e s m args below meth c H locs cells slots ls hF hR hS hN h1 h2 hl
  exact lv_iushr hF.1 hF.2.1 hd rfl (k ad0 ad p e s m args below meth c H locs cells slots ls hF hR hS hN h1 h2 hl)
theorem g_ladd {x z : Int64} (hd : decode cc pc = .ok (.ladd, 1)) (hp : pc + 1 = pc') (k : gW X R Z N y cc nL ret pc' lv (.long (x + z) :: st) M bc bs) : gW X R Z N y cc nL ret pc lv (.long z :: .long x :: st) M bc bs := by
  subst hp
  intro ad0 ad p e s m args below meth c H locs cells slots ls hF hR hS hN h1 h2 hl
  exact lv_ladd hF.1 hF.2.1 hd (k ad0 ad p e s m args below meth c H locs cells slots ls hF hR hS hN h1 h2 hl)
theorem g_lsub {x z : Int64} (hd : decode cc pc = .ok (.lsub, 1)) (hp : pc + 1 = pc') (k : gW X R Z N y cc nL ret pc' lv (.long (x - z) :: st) M bc bs) : gW X R Z N y cc nL ret pc lv (.long z :: .long x :: st) M bc bs := by
  subst hp
  intro ad0 ad p e s m args below meth c H locs cells slots ls hF hR hS hN h1 h2 hl
  exact lv_lsub hF.1 hF.2.1 hd (k ad0 ad p e s m args below meth c H locs cells slots ls hF hR hS hN h1 h2 hl)
theorem g_lmul {x z : Int64} (hd : decode cc pc = .ok (.lmul, 1)) (hp : pc + 1 = pc') (k : gW X R Z N y cc nL ret pc' lv (.long (x * z) :: st) M bc bs) : gW X R Z N y cc nL ret pc lv (.long z :: .long x :: st) M bc bs := by
  subst hp
  intro ad0 ad p e s m args below meth c H locs cells slots ls hF hR hS hN h1 h2 hl
  exact lv_lmul hF.1 hF.2.1 hd (k ad0 ad p e s m args below meth c H locs cells slots ls hF hR hS hN h1 h2 hl)
theorem g_land {x z : Int64} (hd : decode cc pc = .ok (.land, 1)) (hp : pc + 1 = pc') (k : gW X R Z N y cc nL ret pc' lv (.long (x &&& z) :: st) M bc bs) : gW X R Z N y cc nL ret pc lv (.long z :: .long x :: st) M bc bs := by
  subst hp
  intro ad0 ad p e s m args below meth c H locs cells slots ls hF hR hS hN h1 h2 hl
  exact lv_land hF.1 hF.2.1 hd (k ad0 ad p e s m args below meth c H locs cells slots ls hF hR hS hN h1 h2 hl)
theorem g_lor {x z : Int64} (hd : decode cc pc = .ok (.lor, 1)) (hp : pc + 1 = pc') (k : gW X R Z N y cc nL ret pc' lv (.long (x ||| z) :: st) M bc bs) : gW X R Z N y cc nL ret pc lv (.long z :: .long x :: st) M bc bs := by
  subst hp
  intro ad0 ad p e s m args below meth c H locs cells slots ls hF hR hS hN h1 h2 hl
  exact lv_lor hF.1 hF.2.1 hd (k ad0 ad p e s m args below meth c H locs cells slots ls hF hR hS hN h1 h2 hl)
theorem g_lxor {x z : Int64} (hd : decode cc pc = .ok (.lxor, 1)) (hp : pc + 1 = pc') (k : gW X R Z N y cc nL ret pc' lv (.long (x ^^^ z) :: st) M bc bs) : gW X R Z N y cc nL ret pc lv (.long z :: .long x :: st) M bc bs := by
  subst hp
  intro ad0 ad p e s m args below meth c H locs cells slots ls hF hR hS hN h1 h2 hl
  exact lv_lxor hF.1 hF.2.1 hd (k ad0 ad p e s m args below meth c H locs cells slots ls hF hR hS hN h1 h2 hl)
theorem g_ldiv {x z : Int64} (hd : decode cc pc = .ok (.ldiv, 1)) (hne : ¬ z = 0) (hp : pc + 1 = pc') (k : gW X R Z N y cc nL ret pc' lv (.long (x / z) :: st) M bc bs) : gW X R Z N y cc nL ret pc lv (.long z :: .long x :: st) M bc bs := by
  subst hp
  intro ad0 ad p e s m args below meth c H locs cells slots ls hF hR hS hN h1 h2 hl
  exact lv_ldiv hF.1 hF.2.1 hd hne (k ad0 ad p e s m args below meth c H locs cells slots ls hF hR hS hN h1 h2 hl)
theorem g_lrem {x z : Int64} (hd : decode cc pc = .ok (.lrem, 1)) (hne : ¬ z = 0) (hp : pc + 1 = pc') (k : gW X R Z N y cc nL ret pc' lv (.long (x - x / z * z) :: st) M bc bs) : gW X R Z N y cc nL ret pc lv (.long z :: .long x :: st) M bc bs := by
  subst hp
  intro ad0 ad p e s m args below meth c H locs cells slots ls hF hR hS hN h1 h2 hl
  exact lv_lrem hF.1 hF.2.1 hd hne (k ad0 ad p e s m args below meth c H locs cells slots ls hF hR hS hN h1 h2 hl)
theorem g_lushr {x : Int64} {z : Int32} (hd : decode cc pc = .ok (.lushr, 1)) (hp : pc + 1 = pc') (k : gW X R Z N y cc nL ret pc' lv (.long (x.toUInt64 >>> (z.toInt64.toUInt64 &&& Int64.toUInt64 63)).toInt64 :: st) M bc bs) : gW X R Z N y cc nL ret pc lv (.int z :: .long x :: st) M bc bs := by
  subst hp
  intro ad0 ad p e s m args below meth c H locs cells slots ls hF hR hS hN h1 h2 hl
  exact lv_lushr hF.1 hF.2.1 hd rfl (k ad0 ad p e s m args below meth c H locs cells slots ls hF hR hS hN h1 h2 hl)
theorem g_lshl {x : Int64} {z : Int32} (hd : decode cc pc = .ok (.lshl, 1)) (hp : pc + 1 = pc') (k : gW X R Z N y cc nL ret pc' lv (.long (x <<< (z.toInt64 &&& 63)) :: st) M bc bs) : gW X R Z N y cc nL ret pc lv (.int z :: .long x :: st) M bc bs := by
  subst hp
  intro ad0 ad p e s m args below meth c H locs cells slots ls hF hR hS hN h1 h2 hl
  exact lv_lshl hF.1 hF.2.1 hd rfl (k ad0 ad p e s m args below meth c H locs cells slots ls hF hR hS hN h1 h2 hl)
theorem g_i2l {x : Int32} (hd : decode cc pc = .ok (.i2l, 1)) (hp : pc + 1 = pc') (k : gW X R Z N y cc nL ret pc' lv (.long x.toInt64 :: st) M bc bs) : gW X R Z N y cc nL ret pc lv (.int x :: st) M bc bs := by
  subst hp
  intro ad0 ad p e s m args below meth c H locs cells slots ls hF hR hS hN h1 h2 hl
  exact lv_i2l hF.1 hF.2.1 hd rfl (k ad0 ad p e s m args below meth c H locs cells slots ls hF hR hS hN h1 h2 hl)
theorem g_l2i {x : Int64} (hd : decode cc pc = .ok (.l2i, 1)) (hp : pc + 1 = pc') (k : gW X R Z N y cc nL ret pc' lv (.int x.toInt32 :: st) M bc bs) : gW X R Z N y cc nL ret pc lv (.long x :: st) M bc bs := by
  subst hp
  intro ad0 ad p e s m args below meth c H locs cells slots ls hF hR hS hN h1 h2 hl
  exact lv_l2i hF.1 hF.2.1 hd rfl (k ad0 ad p e s m args below meth c H locs cells slots ls hF hR hS hN h1 h2 hl)
theorem g_i2b {x : Int32} (hd : decode cc pc = .ok (.i2b, 1)) (hp : pc + 1 = pc') (k : gW X R Z N y cc nL ret pc' lv (.int x.toInt8.toInt32 :: st) M bc bs) : gW X R Z N y cc nL ret pc lv (.int x :: st) M bc bs := by
  subst hp
  intro ad0 ad p e s m args below meth c H locs cells slots ls hF hR hS hN h1 h2 hl
  exact lv_i2b hF.1 hF.2.1 hd rfl (k ad0 ad p e s m args below meth c H locs cells slots ls hF hR hS hN h1 h2 hl)
theorem g_i2c {x : Int32} (hd : decode cc pc = .ok (.i2c, 1)) (hp : pc + 1 = pc') (k : gW X R Z N y cc nL ret pc' lv (.int (x.toUInt32 % 65536).toInt32 :: st) M bc bs) : gW X R Z N y cc nL ret pc lv (.int x :: st) M bc bs := by
  subst hp
  intro ad0 ad p e s m args below meth c H locs cells slots ls hF hR hS hN h1 h2 hl
  exact lv_i2c hF.1 hF.2.1 hd rfl (k ad0 ad p e s m args below meth c H locs cells slots ls hF hR hS hN h1 h2 hl)
theorem g_lcmp {x z : Int64} (hd : decode cc pc = .ok (.lcmp, 1)) (hp : pc + 1 = pc') (k : gW X R Z N y cc nL ret pc' lv (.int (lg_cmp x z) :: st) M bc bs) : gW X R Z N y cc nL ret pc lv (.long z :: .long x :: st) M bc bs := by
  subst hp
  intro ad0 ad p e s m args below meth c H locs cells slots ls hF hR hS hN h1 h2 hl
  exact W.lcmp hF.1 hF.2.1 hd (k ad0 ad p e s m args below meth c H locs cells slots ls hF hR hS hN h1 h2 hl)
theorem g_dup {v : Value} (hd : decode cc pc = .ok (.dup, 1)) (hv : v.category = 1) (hp : pc + 1 = pc') (k : gW X R Z N y cc nL ret pc' lv (v :: v :: st) M bc bs) : gW X R Z N y cc nL ret pc lv (v :: st) M bc bs := by
  subst hp
  intro ad0 ad p e s m args below meth c H locs cells slots ls hF hR hS hN h1 h2 hl
  exact lv_dup hF.1 hF.2.1 hd (by rw [gT_cat]; exact hv) (k ad0 ad p e s m args below meth c H locs cells slots ls hF hR hS hN h1 h2 hl)
theorem g_pop {v : Value} (hd : decode cc pc = .ok (.pop, 1)) (hv : v.category = 1) (hp : pc + 1 = pc') (k : gW X R Z N y cc nL ret pc' lv (st) M bc bs) : gW X R Z N y cc nL ret pc lv (v :: st) M bc bs := by
  subst hp
  intro ad0 ad p e s m args below meth c H locs cells slots ls hF hR hS hN h1 h2 hl
  exact lv_pop hF.1 hF.2.1 hd (by rw [gT_cat]; exact hv) (k ad0 ad p e s m args below meth c H locs cells slots ls hF hR hS hN h1 h2 hl)
theorem g_dup2 {v w : Value} (hd : decode cc pc = .ok (.dup2, 1)) (hv : v.category = 1) (hw : w.category = 1) (hp : pc + 1 = pc') (k : gW X R Z N y cc nL ret pc' lv (v :: w :: v :: w :: st) M bc bs) : gW X R Z N y cc nL ret pc lv (v :: w :: st) M bc bs := by
  subst hp
  intro ad0 ad p e s m args below meth c H locs cells slots ls hF hR hS hN h1 h2 hl
  exact lv_dup2_11 hF.1 hF.2.1 hd (by rw [gT_cat]; exact hv) (by rw [gT_cat]; exact hw) (k ad0 ad p e s m args below meth c H locs cells slots ls hF hR hS hN h1 h2 hl)
theorem g_if_eq {x : Int32} {off : Int} (hd : decode cc pc = .ok (.ifCond .eq off, 3)) (ht : (pc : Int) + off = (tgt : Int)) (hp : pc + 3 = pc') (kt : (x = 0) → gW X R Z N y cc nL ret tgt lv st M bc bs) (kf : ¬ (x = 0) → gW X R Z N y cc nL ret pc' lv st M bc bs) : gW X R Z N y cc nL ret pc lv (.int x :: st) M bc bs := by
  subst hp
  intro ad0 ad p e s m args below meth c H locs cells slots ls hF hR hS hN h1 h2 hl
  exact lv_if_eq hF.1 hF.2.1 hd ht (fun q => kt q ad0 ad p e s m args below meth c H locs cells slots ls hF hR hS hN h1 h2 hl) (fun q => kf q ad0 ad p e s m args below meth c H locs cells slots ls hF hR hS hN h1 h2 hl)
theorem g_icmp_eq {x z : Int32} {off : Int} (hd : decode cc pc = .ok (.if_icmp .eq off, 3)) (ht : (pc : Int) + off = (tgt : Int)) (hp : pc + 3 = pc') (kt : (x = z) → gW X R Z N y cc nL ret tgt lv st M bc bs) (kf : ¬ (x = z) → gW X R Z N y cc nL ret pc' lv st M bc bs) : gW X R Z N y cc nL ret pc lv (.int z :: .int x :: st) M bc bs := by
  subst hp
  intro ad0 ad p e s m args below meth c H locs cells slots ls hF hR hS hN h1 h2 hl
  exact lv_icmp_eq hF.1 hF.2.1 hd ht (fun q => kt q ad0 ad p e s m args below meth c H locs cells slots ls hF hR hS hN h1 h2 hl) (fun q => kf q ad0 ad p e s m args below meth c H locs cells slots ls hF hR hS hN h1 h2 hl)
theorem g_if_ne {x : Int32} {off : Int} (hd : decode cc pc = .ok (.ifCond .ne off, 3)) (ht : (pc : Int) + off = (tgt : Int)) (hp : pc + 3 = pc') (kt : ¬ x = 0 → gW X R Z N y cc nL ret tgt lv st M bc bs) (kf : x = 0 → gW X R Z N y cc nL ret pc' lv st M bc bs) : gW X R Z N y cc nL ret pc lv (.int x :: st) M bc bs := by
  subst hp
  intro ad0 ad p e s m args below meth c H locs cells slots ls hF hR hS hN h1 h2 hl
  exact lv_if_ne hF.1 hF.2.1 hd ht (fun q => kt q ad0 ad p e s m args below meth c H locs cells slots ls hF hR hS hN h1 h2 hl) (fun q => kf q ad0 ad p e s m args below meth c H locs cells slots ls hF hR hS hN h1 h2 hl)
theorem g_icmp_ne {x z : Int32} {off : Int} (hd : decode cc pc = .ok (.if_icmp .ne off, 3)) (ht : (pc : Int) + off = (tgt : Int)) (hp : pc + 3 = pc') (kt : ¬ x = z → gW X R Z N y cc nL ret tgt lv st M bc bs) (kf : x = z → gW X R Z N y cc nL ret pc' lv st M bc bs) : gW X R Z N y cc nL ret pc lv (.int z :: .int x :: st) M bc bs := by
  subst hp
  intro ad0 ad p e s m args below meth c H locs cells slots ls hF hR hS hN h1 h2 hl
  exact lv_icmp_ne hF.1 hF.2.1 hd ht (fun q => kt q ad0 ad p e s m args below meth c H locs cells slots ls hF hR hS hN h1 h2 hl) (fun q => kf q ad0 ad p e s m args below meth c H locs cells slots ls hF hR hS hN h1 h2 hl)
theorem g_if_lt {x : Int32} {off : Int} (hd : decode cc pc = .ok (.ifCond .lt off, 3)) (ht : (pc : Int) + off = (tgt : Int)) (hp : pc + 3 = pc') (kt : (x < 0) → gW X R Z N y cc nL ret tgt lv st M bc bs) (kf : ¬ (x < 0) → gW X R Z N y cc nL ret pc' lv st M bc bs) : gW X R Z N y cc nL ret pc lv (.int x :: st) M bc bs := by
  subst hp
  intro ad0 ad p e s m args below meth c H locs cells slots ls hF hR hS hN h1 h2 hl
  exact lv_if_lt hF.1 hF.2.1 hd ht (fun q => kt q ad0 ad p e s m args below meth c H locs cells slots ls hF hR hS hN h1 h2 hl) (fun q => kf q ad0 ad p e s m args below meth c H locs cells slots ls hF hR hS hN h1 h2 hl)
theorem g_icmp_lt {x z : Int32} {off : Int} (hd : decode cc pc = .ok (.if_icmp .lt off, 3)) (ht : (pc : Int) + off = (tgt : Int)) (hp : pc + 3 = pc') (kt : (x < z) → gW X R Z N y cc nL ret tgt lv st M bc bs) (kf : ¬ (x < z) → gW X R Z N y cc nL ret pc' lv st M bc bs) : gW X R Z N y cc nL ret pc lv (.int z :: .int x :: st) M bc bs := by
  subst hp
  intro ad0 ad p e s m args below meth c H locs cells slots ls hF hR hS hN h1 h2 hl
  exact lv_icmp_lt hF.1 hF.2.1 hd ht (fun q => kt q ad0 ad p e s m args below meth c H locs cells slots ls hF hR hS hN h1 h2 hl) (fun q => kf q ad0 ad p e s m args below meth c H locs cells slots ls hF hR hS hN h1 h2 hl)
theorem g_if_ge {x : Int32} {off : Int} (hd : decode cc pc = .ok (.ifCond .ge off, 3)) (ht : (pc : Int) + off = (tgt : Int)) (hp : pc + 3 = pc') (kt : (0 ≤ x) → gW X R Z N y cc nL ret tgt lv st M bc bs) (kf : ¬ (0 ≤ x) → gW X R Z N y cc nL ret pc' lv st M bc bs) : gW X R Z N y cc nL ret pc lv (.int x :: st) M bc bs := by
  subst hp
  intro ad0 ad p e s m args below meth c H locs cells slots ls hF hR hS hN h1 h2 hl
  exact lv_if_ge hF.1 hF.2.1 hd ht (fun q => kt q ad0 ad p e s m args below meth c H locs cells slots ls hF hR hS hN h1 h2 hl) (fun q => kf q ad0 ad p e s m args below meth c H locs cells slots ls hF hR hS hN h1 h2 hl)
theorem g_icmp_ge {x z : Int32} {off : Int} (hd : decode cc pc = .ok (.if_icmp .ge off, 3)) (ht : (pc : Int) + off = (tgt : Int)) (hp : pc + 3 = pc') (kt : (z ≤ x) → gW X R Z N y cc nL ret tgt lv st M bc bs) (kf : ¬ (z ≤ x) → gW X R Z N y cc nL ret pc' lv st M bc bs) : gW X R Z N y cc nL ret pc lv (.int z :: .int x :: st) M bc bs := by
  subst hp
  intro ad0 ad p e s m args below meth c H locs cells slots ls hF hR hS hN h1 h2 hl
  exact lv_icmp_ge hF.1 hF.2.1 hd ht (fun q => kt q ad0 ad p e s m args below meth c H locs cells slots ls hF hR hS hN h1 h2 hl) (fun q => kf q ad0 ad p e s m args below meth c H locs cells slots ls hF hR hS hN h1 h2 hl)
theorem g_if_gt {x : Int32} {off : Int} (hd : decode cc pc = .ok (.ifCond .gt off, 3)) (ht : (pc : Int) + off = (tgt : Int)) (hp : pc + 3 = pc') (kt : (0 < x) → gW X R Z N y cc nL ret tgt lv st M bc bs) (kf : ¬ (0 < x) → gW X R Z N y cc nL ret pc' lv st M bc bs) : gW X R Z N y cc nL ret pc lv (.int x :: st) M bc bs := by
  subst hp
  intro ad0 ad p e s m args below meth c H locs cells slots ls hF hR hS hN h1 h2 hl
  exact lv_if_gt hF.1 hF.2.1 hd ht (fun q => kt q ad0 ad p e s m args below meth c H locs cells slots ls hF hR hS hN h1 h2 hl) (fun q => kf q ad0 ad p e s m args below meth c H locs cells slots ls hF hR hS hN h1 h2 hl)
theorem g_icmp_gt {x z : Int32} {off : Int} (hd : decode cc pc = .ok (.if_icmp .gt off, 3)) (ht : (pc : Int) + off = (tgt : Int)) (hp : pc + 3 = pc') (kt : (z < x) → gW X R Z N y cc nL ret tgt lv st M bc bs) (kf : ¬ (z < x) → gW X R Z N y cc nL ret pc' lv st M bc bs) : gW X R Z N y cc nL ret pc lv (.int z :: .int x :: st) M bc bs := by
  subst hp
  intro ad0 ad p e s m args below meth c H locs cells slots ls hF hR hS hN h1 h2 hl
  exact lv_icmp_gt hF.1 hF.2.1 hd ht (fun q => kt q ad0 ad p e s m args below meth c H locs cells slots ls hF hR hS hN h1 h2 hl) (fun q => kf q ad0 ad p e s m args below meth c H locs cells slots ls hF hR hS hN h1 h2 hl)
theorem g_if_le {x : Int32} {off : Int} (hd : decode cc pc = .ok (.ifCond .le off, 3)) (ht : (pc : Int) + off = (tgt : Int)) (hp : pc + 3 = pc') (kt : (x ≤ 0) → gW X R Z N y cc nL ret tgt lv st M bc bs) (kf : ¬ (x ≤ 0) → gW X R Z N y cc nL ret pc' lv st M bc bs) : gW X R Z N y cc nL ret pc lv (.int x :: st) M bc bs := by
  subst hp
  intro ad0 ad p e s m args below meth c H locs cells slots ls hF hR hS hN h1 h2 hl
  exact lv_if_le hF.1 hF.2.1 hd ht (fun q => kt q ad0 ad p e s m args below meth c H locs cells slots ls hF hR hS hN h1 h2 hl) (fun q => kf q ad0 ad p e s m args below meth c H locs cells slots ls hF hR hS hN h1 h2 hl)
theorem g_icmp_le {x z : Int32} {off : Int} (hd : decode cc pc = .ok (.if_icmp .le off, 3)) (ht : (pc : Int) + off = (tgt : Int)) (hp : pc + 3 = pc') (kt : (x ≤ z) → gW X R Z N y cc nL ret tgt lv st M bc bs) (kf : ¬ (x ≤ z) → gW X R Z N y cc nL ret pc' lv st M bc bs) : gW X R Z N y cc nL ret pc lv (.int z :: .int x :: st) M bc bs := by
  subst hp
  intro ad0 ad p e s m args below meth c H locs cells slots ls hF hR hS hN h1 h2 hl
  exact lv_icmp_le hF.1 hF.2.1 hd ht (fun q => kt q ad0 ad p e s m args below meth c H locs cells slots ls hF hR hS hN h1 h2 hl) (fun q => kf q ad0 ad p e s m args below meth c H locs cells slots ls hF hR hS hN h1 h2 hl)
theorem g_goto {off : Int} (hd : decode cc pc = .ok (.goto off, 3)) (ht : (pc : Int) + off = (tgt : Int)) (k : gW X R Z N y cc nL ret tgt lv st M bc bs) : gW X R Z N y cc nL ret pc lv st M bc bs := by
  intro ad0 ad p e s m args below meth c H locs cells slots ls hF hR hS hN h1 h2 hl
  exact lv_goto hF.1 hF.2.1 hd ht (k ad0 ad p e s m args below meth c H locs cells slots ls hF hR hS hN h1 h2 hl)
theorem g_ifnull {off : Int} {a : Nat} (hd : decode cc pc = .ok (.ifnull off, 3)) (hp : pc + 3 = pc') (k : gW X R Z N y cc nL ret pc' lv st M bc bs) : gW X R Z N y cc nL ret pc lv (.ref a :: st) M bc bs := by
  subst hp
  intro ad0 ad p e s m args below meth c H locs cells slots ls hF hR hS hN h1 h2 hl
  exact lv_ifnull hF.1 hF.2.1 hd (k ad0 ad p e s m args below meth c H locs cells slots ls hF hR hS hN h1 h2 hl)
theorem g_ifnullN {off : Int} (hd : decode cc pc = .ok (.ifnull off, 3)) (ht : (pc : Int) + off = (tgt : Int)) (k : gW X R Z N y cc nL ret tgt lv st M bc bs) : gW X R Z N y cc nL ret pc lv (.null :: st) M bc bs := by
  intro ad0 ad p e s m args below meth c H locs cells slots ls hF hR hS hN h1 h2 hl
  exact lv_ifnullN hF.1 hF.2.1 hd ht (k ad0 ad p e s m args below meth c H locs cells slots ls hF hR hS hN h1 h2 hl)
theorem g_tableOut {dflt lo hi : Int} {offs : Array Int} {len : Nat} {x : Int32} (hd : decode cc pc = .ok (.tableswitch dflt lo hi offs, len)) (h : x.toInt < lo ∨ hi < x.toInt) (ht : (pc : Int) + dflt = (tgt : Int)) (k : gW X R Z N y cc nL ret tgt lv st M bc bs) : gW X R Z N y cc nL ret pc lv (.int x :: st) M bc bs := by
  intro ad0 ad p e s m args below meth c H locs cells slots ls hF hR hS hN h1 h2 hl
  exact lv_tableOut hF.1 hF.2.1 hd h ht (k ad0 ad p e s m args below meth c H locs cells slots ls hF hR hS hN h1 h2 hl)
theorem g_tableIn {dflt lo hi : Int} {offs : Array Int} {len : Nat} {x : Int32} {off : Int} (hd : decode cc pc = .ok (.tableswitch dflt lo hi offs, len)) (hx1 : ¬ x.toInt < lo) (hx2 : ¬ hi < x.toInt) (ho : offs[(x.toInt - lo).toNat]? = some off) (ht : (pc : Int) + off = (tgt : Int)) (k : gW X R Z N y cc nL ret tgt lv st M bc bs) : gW X R Z N y cc nL ret pc lv (.int x :: st) M bc bs := by
  intro ad0 ad p e s m args below meth c H locs cells slots ls hF hR hS hN h1 h2 hl
  exact lv_tableIn hF.1 hF.2.1 hd hx1 hx2 ho ht (k ad0 ad p e s m args below meth c H locs cells slots ls hF hR hS hN h1 h2 hl)
theorem g_lookup {dflt : Int} {ps : Array (Int × Int)} {len : Nat} {x : Int32} {off : Int} (hd : decode cc pc = .ok (.lookupswitch dflt ps, len)) (hq : (ps.toList.zip (ps.toList.drop 1)).all (fun (a, next) => a.1 < next.1) = true) (ho : Op.lookupswitch.offset ps.toList dflt x.toInt = off) (ht : (pc : Int) + off = (tgt : Int)) (k : gW X R Z N y cc nL ret tgt lv st M bc bs) : gW X R Z N y cc nL ret pc lv (.int x :: st) M bc bs := by
  intro ad0 ad p e s m args below meth c H locs cells slots ls hF hR hS hN h1 h2 hl
  exact lv_lookup hF.1 hF.2.1 hd hq ho ht (k ad0 ad p e s m args below meth c H locs cells slots ls hF hR hS hN h1 h2 hl)
theorem g_sub {lv2 : List (Nat × Value)} (h : ∀ q ∈ lv2, gLk lv q.1 = some q.2) (k : gW X R Z N y cc nL ret pc lv2 st M bc bs) : gW X R Z N y cc nL ret pc lv st M bc bs := by
  intro ad0 ad p e s m args below meth c H locs cells slots ls hF hR hS hN h1 h2 hl
  refine k ad0 ad p e s m args below meth c H locs cells slots ls hF hR hS hN h1 h2 ⟨hl.1, hl.2.1, fun q hq => ?_⟩
  obtain ⟨q0, h3, h4⟩ := List.mem_map.mp hq
  rw [← h4]
  exact g_loc hl (h q0 h3)
theorem gK.moved {X : gX} {s t : State} {H : Heap} {locs : List Loc} (hK : gK X s) (hx : gXok X) (hW : s.WarmedH t.vm) (hS : va_S (gA X) s.heap H locs) (ht : t.heap = H) : gK X t :=
  ⟨va_K.moved hW.alike hK.1, hx s t hW (by rw [ht]; exact hS.1) (fun a h1 h2 => by rw [ht]; exact hS.2.1 a h1 h2) hK.2⟩
theorem g_iret {d mc ms : Nat} {Q : Option Value → gM → Prop} {v : Int32} {ty : FieldType} (hd : decode cc pc = .ok (.ireturn, 1)) (hr : ret = some ty) (hn : narrow ty (.int v) = .int v) (hq : Q (some (.int v)) M) : gW X (gRoom d mc ms) (gZ X N mc ms Q) N y cc nL ret pc lv [.int v] M bc bs := by
  intro ad0 ad p e s m args below meth c H locs cells slots ls hF hR hS hN h1 h2 hl
  have h1 : cells + bc ≤ mc := h1
  have h2 : slots + bs ≤ ms := h2
  refine W.widen (k := mc) (n := ms) (by omega) (by omega) ?_
  exact W.zret hF.1 hF.2.1 (hF.2.2.2.2.2.2.1.trans hr) hn (fun t ht hW => ⟨⟨some (.int v), M, ad, rfl, hq, hN, by rw [ht]; exact hR, hF.2.2.2.2.2.2.2.2.1.moved hF.2.2.2.2.2.2.2.2.2.2 hW hS ht⟩, hS.F ht⟩) (fun q hq => hS.2.2 q hq) hd hF.2.2.2.2.2.1
theorem g_lret {d mc ms : Nat} {Q : Option Value → gM → Prop} {v : Int64} (hd : decode cc pc = .ok (.lreturn, 1)) (hr : ret = some .long) (hq : Q (some (.long v)) M) : gW X (gRoom d mc ms) (gZ X N mc ms Q) N y cc nL ret pc lv [.long v] M bc bs := by
  intro ad0 ad p e s m args below meth c H locs cells slots ls hF hR hS hN h1 h2 hl
  have h1 : cells + bc ≤ mc := h1
  have h2 : slots + bs ≤ ms := h2
  refine W.widen (k := mc) (n := ms) (by omega) (by omega) ?_
  exact W.lret hF.1 hF.2.1 (hF.2.2.2.2.2.2.1.trans hr) (fun t ht hW => ⟨⟨some (.long v), M, ad, rfl, hq, hN, by rw [ht]; exact hR, hF.2.2.2.2.2.2.2.2.1.moved hF.2.2.2.2.2.2.2.2.2.2 hW hS ht⟩, hS.F ht⟩) (fun q hq => hS.2.2 q hq) hd hF.2.2.2.2.2.1
theorem g_vret {d mc ms : Nat} {Q : Option Value → gM → Prop} (hd : decode cc pc = .ok (.return_, 1)) (hr : ret = none) (hq : Q none M) : gW X (gRoom d mc ms) (gZ X N mc ms Q) N y cc nL ret pc lv [] M bc bs := by
  intro ad0 ad p e s m args below meth c H locs cells slots ls hF hR hS hN h1 h2 hl
  have h1 : cells + bc ≤ mc := h1
  have h2 : slots + bs ≤ ms := h2
  refine W.widen (k := mc) (n := ms) (by omega) (by omega) ?_
  exact W.vret hF.1 hF.2.1 (hF.2.2.2.2.2.2.1.trans hr) (fun t ht hW => ⟨⟨none, M, ad, rfl, hq, hN, by rw [ht]; exact hR, hF.2.2.2.2.2.2.2.2.1.moved hF.2.2.2.2.2.2.2.2.2.2 hW hS ht⟩, hS.F ht⟩) (fun q hq => hS.2.2 q hq) hd hF.2.2.2.2.2.1
theorem g_aret {d mc ms : Nat} {Q : Option Value → gM → Prop} {v : Value} {rt : FieldType} (hd : decode cc pc = .ok (.areturn, 1)) (hr : ret = some rt) (hrt : (∃ n, rt = .object n) ∨ ∃ t, rt = .array t) (hv : v = .null ∨ ∃ a, v = .ref a) (hq : Q (some v) M) : gW X (gRoom d mc ms) (gZ X N mc ms Q) N y cc nL ret pc lv [v] M bc bs := by
  intro ad0 ad p e s m args below meth c H locs cells slots ls hF hR hS hN h1 h2 hl
  have h1 : cells + bc ≤ mc := h1
  have h2 : slots + bs ≤ ms := h2
  refine W.widen (k := mc) (n := ms) (by omega) (by omega) ?_
  exact W.aret (v := gT ad v) hF.1 hF.2.1 (hF.2.2.2.2.2.2.1.trans hr) hrt (hv.elim (fun h => Or.inl (by rw [h]; rfl)) (fun ⟨a, h⟩ => Or.inr ⟨ad a, by rw [h]; rfl⟩)) (fun t ht hW => ⟨⟨some v, M, ad, rfl, hq, hN, by rw [ht]; exact hR, hF.2.2.2.2.2.2.2.2.1.moved hF.2.2.2.2.2.2.2.2.2.2 hW hS ht⟩, hS.F ht⟩) (fun q hq => hS.2.2 q hq) hd hF.2.2.2.2.2.1
theorem g_args (ad : Nat → Nat) : ∀ (i : Nat) (av : List Value), lv_args i (av.map (gT ad)) = gmv ad (lv_args i av)
  | _, [] => rfl
  | i, v :: vs => by
    show (i, gT ad v) :: lv_args (if (gT ad v).category = 2 then i + 2 else i + 1) (vs.map (gT ad)) = (i, gT ad v) :: gmv ad (lv_args (if v.category = 2 then i + 2 else i + 1) vs)
    rw [gT_cat, g_args ad]
theorem g_sl (ad : Nat → Nat) : ∀ av : List Value, (lg_sl (av.map (gT ad))).length = (lg_sl av).length
  | [] => rfl
  | v :: vs => by
    have ih := g_sl ad vs
    unfold lg_sl at ih ⊢
    rw [List.map_cons, List.flatMap_cons, List.flatMap_cons, List.length_append, List.length_append, ih, gT_cat]
    by_cases h : v.category = 2 <;> simp [h]
theorem gMet.of {d : Nat} {av : List Value} {mc ms : Nat} {Q : Option Value → gM → Prop} (hx : gXok X) (hy : plainName y.cls = true) (hlen : (lg_sl av).length ≤ nL) (k : gW X (gRoom d mc ms) (gZ X N mc ms Q) N y cc nL ret 0 (lv_args 0 av) [] M mc ms) : gMet X d y cc nL ret av M N mc ms Q := by
  intro ad0
  refine Met.ofW (cc := cc) (maxL := nL) (ret := ret) hy rfl ?_
  intro p e s m args below meth c s₁ B hml hv
  obtain ⟨rfl, hR, hK, hz⟩ := hv
  have hts := atoms_spec (ws := Cond.code y cc nL ret :: gws) B.pre
  have hl := lv_entry (av.map (gT ad0)) (n := nL) (by rw [g_sl]; exact hlen)
  rw [lg_entry_eq]
  rw [g_args] at hl
  exact k ad0 ad0 p e s m _ below meth c s.heap [] 0 0 _ ⟨B.exec, B.bytes, hml, findClass_of_methodNamed B.named, fun w hw => hts w (List.mem_cons_of_mem _ hw), B.notSynchronized, B.returns, (name_of_methodNamed B.named B.method).1, hK, hz, hx⟩ hR va_S.rf (fun _ _ => rfl) (by show 0 + mc ≤ mc; omega) (by show 0 + ms ≤ ms; omega) hl
/-! fields -/
theorem g_obj {s : State} {ad : Nat → Nat} {H : Heap} {a ci : Nat} {q : vw_C} (hq : vwCl[ci]? = some q) (hR : gRep X ad M H) (hk : gkd M a = ci + 1) : gA X (ad a) ∧ t_OB (ad a) (X.2.1.1 ci) q.2.2 (X.2.1.2 ci) H (gFV ad ci (gmi M a) (gmr M a) (gml M a)) := by
  have hci := gcl_lt hq
  obtain ⟨h1, -, hc⟩ := hR.1 a (by omega)
  rw [hk] at hc
  unfold gCell at hc
  rw [if_pos (by omega), Nat.add_sub_cancel] at hc
  obtain ⟨r, hr, h3⟩ := hc
  cases hq.symm.trans hr
  exact ⟨h1, h3⟩
theorem g_get0 {ix ci j a : Nat} {v : Value} (hd : decode cc pc = .ok (.getfield ix, 3)) (hf : gFld y.cls ix ci j) (hk : gkd M a = ci + 1) (hp : pc + 3 = pc') (hv : ∀ ad, gFV ad ci (gmi M a) (gmr M a) (gml M a) j = gT ad v) (k : gW X R Z N y cc nL ret pc' lv (v :: st) M bc bs) : gW X R Z N y cc nL ret pc lv (.ref a :: st) M bc bs := by
  subst hp
  intro ad0 ad p e s m args below meth c H locs cells slots ls hF hR hS hN h1 h2 hl
  obtain ⟨q, hq, hj, hlk⟩ := hf
  obtain ⟨-, cell, q1, q2, q3, q4⟩ := g_obj (s := s) hq hR hk
  obtain ⟨hS1, hfc, kC, hkC, hkind⟩ := hF.2.2.2.2.2.2.2.2.1.1.1 ci q hq
  obtain ⟨cf, kf, fi, f, hi, hsl⟩ := hS1 j hj
  refine W.getf hF.1 hF.2.1 hF.2.2.2.1 (hF.2.2.2.2.1 _ hlk) hi (u_facts hfc hkC (u_lays hF.2.2.2.2.1 (gcl ci q hq).1 hj) hi).1 q1 (by rw [q3]; exact fun h => by cases h) (v := gT ad v) ?_ rfl rfl hd (k ad0 ad p e s m args below meth c H locs cells slots ls hF hR hS hN h1 h2 hl)
  rw [hsl, q4 j hj, hv ad]
theorem g_getI {ix ci j a : Nat} (hd : decode cc pc = .ok (.getfield ix, 3)) (hf : gFld y.cls ix ci j) (hs : gSort (gTy ci j) = 0) (hk : gkd M a = ci + 1) (hp : pc + 3 = pc') (k : gW X R Z N y cc nL ret pc' lv (.int (gmi M a j) :: st) M bc bs) : gW X R Z N y cc nL ret pc lv (.ref a :: st) M bc bs :=
  g_get0 hd hf hk hp (fun ad => by unfold gFV; rw [if_neg (by omega), if_neg (by omega)]; rfl) k
theorem g_getL {ix ci j a : Nat} (hd : decode cc pc = .ok (.getfield ix, 3)) (hf : gFld y.cls ix ci j) (hs : gSort (gTy ci j) = 2) (hk : gkd M a = ci + 1) (hp : pc + 3 = pc') (k : gW X R Z N y cc nL ret pc' lv (.long (gml M a j) :: st) M bc bs) : gW X R Z N y cc nL ret pc lv (.ref a :: st) M bc bs :=
  g_get0 hd hf hk hp (fun ad => by unfold gFV; rw [if_neg (by omega), if_pos hs]; rfl) k
theorem g_getR {ix ci j a b : Nat} (hd : decode cc pc = .ok (.getfield ix, 3)) (hf : gFld y.cls ix ci j) (hs : gSort (gTy ci j) = 1) (hk : gkd M a = ci + 1) (hr : gmr M a j = some b) (hp : pc + 3 = pc') (k : gW X R Z N y cc nL ret pc' lv (.ref b :: st) M bc bs) : gW X R Z N y cc nL ret pc lv (.ref a :: st) M bc bs :=
  g_get0 hd hf hk hp (fun ad => by unfold gFV; rw [if_pos hs, hr]; rfl) k
theorem g_getQ {ix ci j a : Nat} (hd : decode cc pc = .ok (.getfield ix, 3)) (hf : gFld y.cls ix ci j) (hs : gSort (gTy ci j) = 1) (hk : gkd M a = ci + 1) (hp : pc + 3 = pc') (k : gW X R Z N y cc nL ret pc' lv (va_rf (gmr M a j) :: st) M bc bs) : gW X R Z N y cc nL ret pc lv (.ref a :: st) M bc bs :=
  g_get0 hd hf hk hp (fun ad => by unfold gFV; rw [if_pos hs, gT_rf]) k
theorem g_apart {s : State} {args : Array Value} {ci : Nat} {q : vw_C} (hts : ∀ w ∈ gws, w.before args s = true) (hK : gK X s) (hq : vwCl[ci]? = some q) : ∀ x z, x < q.2.2 → z < q.2.2 → x ≠ z → (X.2.1.2 ci) x ≠ (X.2.1.2 ci) z :=
  va_apart (own := "") hts (gcl ci q hq).1 (gTy ci) (gcl ci q hq).2.1 (gcl ci q hq).2.2 hK.1 hq
theorem gClo_R {a j b : Nat} (h : gClo M) (hb : gkd M b ≠ 0 ∨ 5000 ≤ b) : gClo (gwR M a j (some b)) := by
  intro x hx i z hz
  by_cases e : x = a
  · subst e
    have e1 : gmr (gwR M x j (some b)) x = va_up (gmr M x) j (some b) := va_up_self _ _ _
    rw [e1] at hz
    by_cases e2 : i = j
    · subst e2
      rw [va_up_self] at hz
      cases hz
      exact hb
    · rw [va_up_ne _ _ e2] at hz
      exact h x hx i z hz
  · have e1 : gmr (gwR M a j (some b)) x = gmr M x := va_up_ne _ _ e
    rw [e1] at hz
    exact h x hx i z hz
theorem g_put0 {ix ci j a : Nat} {v : Value} {M2 : gM} (hd : decode cc pc = .ok (.putfield ix, 3)) (hf : gPut y.cls ix ci j) (hk : gkd M a = ci + 1) (hp : pc + 3 = pc') (hx : gEx M M2 a) (hm : gClo M → gClo M2) (hn : ∀ ad, narrow (gTy ci j) (gT ad v) = gT ad v) (hfit : ∀ ad, fits (gTy ci j) (gT ad v) = true)
    (hv : ∀ ad i, updV (gFV ad ci (gmi M a) (gmr M a) (gml M a)) j (gT ad v) i = gFV ad ci (gmi M2 a) (gmr M2 a) (gml M2 a) i) (k : gW X R Z N y cc nL ret pc' lv st M2 bc bs) : gW X R Z N y cc nL ret pc lv (v :: .ref a :: st) M bc bs := by
  subst hp
  intro ad0 ad p e s m args below meth c H locs cells slots ls hF hR hS hN h1 h2 hl
  obtain ⟨q, hq, hj, hlk, hfin⟩ := hf
  obtain ⟨hA, cell, q1, q2, q3, q4⟩ := g_obj (s := s) hq hR hk
  have hK := hF.2.2.2.2.2.2.2.2.1
  have hts := hF.2.2.2.2.1
  have hap := g_apart hts hK hq
  obtain ⟨hS1, hfc, kC, hkC, hkind⟩ := hK.1.1 ci q hq
  obtain ⟨cf, kf, fi, f, hi, hsl⟩ := hS1 j hj
  have hlay := hts _ ((gcl ci q hq).1 _ (u_in_lay hj))
  unfold u_lay at hlay
  rw [if_neg (by rw [hfin]; decide)] at hlay
  have hst := (u_facts hfc hkC (u_lays hts (gcl ci q hq).1 hj) hi).1
  have h6 := u_store hfc hkC hkind hlay hi ((gcl ci q hq).2.1 j hj) (hn ad) (hfit ad)
  refine W.putK hF.1 hF.2.1 (f := f) ⟨hF.2.2.2.1, hts _ hlk, ⟨_, _, _, hi⟩, hst⟩ (by rw [q2]; exact h6) q1 q3 (by rw [hsl]; exact k2_hasslot (q4 j hj)) rfl rfl hd fun H' e1 e2 e3 => ?_
  rw [hsl] at e1 ⊢
  refine k ad0 ad p e s m args below meth c H' _ cells slots ls hF (hR.upd hx (by omega) ?_ e3 (hm hR.2.2.2)) (hS.put e2 e3 hA) hN h1 h2 hl
  rw [hk]
  unfold gCell
  rw [if_pos (by have := gcl_lt hq; omega), Nat.add_sub_cancel]
  exact ⟨q, hq, t_OB.to ⟨_, e1, q2, q3, t_set q4 hap hj _⟩ (fun i _ => hv ad i)⟩
theorem g_putF0 {ix ci j a : Nat} {v : Value} {M2 : gM} (hd : decode cc pc = .ok (.putfield ix, 3)) (hf : gPutF y.cls ix ci j) (hy : y.name = "<init>") (hk : gkd M a = ci + 1) (hp : pc + 3 = pc') (hx : gEx M M2 a) (hm : gClo M → gClo M2) (hn : ∀ ad, narrow (gTy ci j) (gT ad v) = gT ad v) (hfit : ∀ ad, fits (gTy ci j) (gT ad v) = true)
    (hv : ∀ ad i, updV (gFV ad ci (gmi M a) (gmr M a) (gml M a)) j (gT ad v) i = gFV ad ci (gmi M2 a) (gmr M2 a) (gml M2 a) i) (k : gW X R Z N y cc nL ret pc' lv st M2 bc bs) : gW X R Z N y cc nL ret pc lv (v :: .ref a :: st) M bc bs := by
  subst hp
  intro ad0 ad p e s m args below meth c H locs cells slots ls hF hR hS hN h1 h2 hl
  obtain ⟨q, hq, hj, hlk, hfin, hdecl⟩ := hf
  obtain ⟨hA, cell, q1, q2, q3, q4⟩ := g_obj (s := s) hq hR hk
  have hK := hF.2.2.2.2.2.2.2.2.1
  have hts := hF.2.2.2.2.1
  have hown := hF.2.2.2.1
  have hap := g_apart hts hK hq
  obtain ⟨hS1, hfc, kC, hkC, hkind⟩ := hK.1.1 ci q hq
  obtain ⟨cf, kf, fi, f, hi, hsl⟩ := hS1 j hj
  have hlay := hts _ ((gcl ci q hq).1 _ (u_in_lay hj))
  unfold u_lay at hlay
  rw [if_pos hfin] at hlay
  have hst := (u_facts hfc hkC (u_lays hts (gcl ci q hq).1 hj) hi).1
  have hcf : m.cls = cf := by
    obtain ⟨_, _, c', _, _, _, -, -, hf', -, -, -, hown2, -⟩ := Cond.laysFinal_spec hlay
    have e1 : c' = cf := by have := hi.symm.trans hf'; simp at this; exact this.1.symm
    rw [hdecl] at hown2
    rw [← e1]; exact Option.some.inj (hown.symm.trans hown2)
  have h6 := u_fits hfc hkC hkind (Or.inr hlay) hi ((gcl ci q hq).2.1 j hj) (hn ad) (hfit ad)
  refine W.putFinK hF.1 hF.2.1 hown (hts _ hlk) hi hst hcf (hF.2.2.2.2.2.2.2.1.trans hy) (by rw [q2]; exact h6) q1 q3 (by rw [hsl]; exact k2_hasslot (q4 j hj)) rfl rfl hd fun H' e1 e2 e3 => ?_
  rw [hsl] at e1 ⊢
  refine k ad0 ad p e s m args below meth c H' _ cells slots ls hF (hR.upd hx (by omega) ?_ e3 (hm hR.2.2.2)) (hS.put e2 e3 hA) hN h1 h2 hl
  rw [hk]
  unfold gCell
  rw [if_pos (by have := gcl_lt hq; omega), Nat.add_sub_cancel]
  exact ⟨q, hq, t_OB.to ⟨_, e1, q2, q3, t_set q4 hap hj _⟩ (fun i _ => hv ad i)⟩
theorem gFV_I {ad : Nat → Nat} {ci j a : Nat} {v : Int32} (hs : gSort (gTy ci j) = 0) (i : Nat) : updV (gFV ad ci (gmi M a) (gmr M a) (gml M a)) j (.int v) i = gFV ad ci (gmi (gwI M a j v) a) (gmr (gwI M a j v) a) (gml (gwI M a j v) a) i := by
  have e1 : gmi (gwI M a j v) a = va_up (gmi M a) j v := va_up_self _ _ _
  have e2 : gmr (gwI M a j v) a = gmr M a := rfl
  have e3 : gml (gwI M a j v) a = gml M a := rfl
  rw [e1, e2, e3]
  unfold updV
  by_cases h : i = j
  · subst h
    rw [if_pos rfl]
    unfold gFV
    rw [if_neg (by omega), if_neg (by omega), va_up_self]
  · rw [if_neg h]
    unfold gFV
    rw [va_up_ne _ _ h]
theorem gFV_R {ad : Nat → Nat} {ci j a : Nat} {v : Option Nat} (hs : gSort (gTy ci j) = 1) (i : Nat) : updV (gFV ad ci (gmi M a) (gmr M a) (gml M a)) j (va_re ad v) i = gFV ad ci (gmi (gwR M a j v) a) (gmr (gwR M a j v) a) (gml (gwR M a j v) a) i := by
  have e1 : gmr (gwR M a j v) a = va_up (gmr M a) j v := va_up_self _ _ _
  have e2 : gmi (gwR M a j v) a = gmi M a := rfl
  have e3 : gml (gwR M a j v) a = gml M a := rfl
  rw [e1, e2, e3]
  unfold updV
  by_cases h : i = j
  · subst h
    rw [if_pos rfl]
    unfold gFV
    rw [if_pos hs, va_up_self]
  · rw [if_neg h]
    unfold gFV
    rw [va_up_ne _ _ h]
theorem gFV_L {ad : Nat → Nat} {ci j a : Nat} {v : Int64} (hs : gSort (gTy ci j) = 2) (i : Nat) : updV (gFV ad ci (gmi M a) (gmr M a) (gml M a)) j (.long v) i = gFV ad ci (gmi (gwL M a j v) a) (gmr (gwL M a j v) a) (gml (gwL M a j v) a) i := by
  have e1 : gml (gwL M a j v) a = va_up (gml M a) j v := va_up_self _ _ _
  have e2 : gmi (gwL M a j v) a = gmi M a := rfl
  have e3 : gmr (gwL M a j v) a = gmr M a := rfl
  rw [e1, e2, e3]
  unfold updV
  by_cases h : i = j
  · subst h
    rw [if_pos rfl]
    unfold gFV
    rw [if_neg (by omega), if_pos hs, va_up_self]
  · rw [if_neg h]
    unfold gFV
    rw [va_up_ne _ _ h]
theorem g_putI {ix ci j a : Nat} {v : Int32} (hd : decode cc pc = .ok (.putfield ix, 3)) (hf : gPut y.cls ix ci j) (hs : gSort (gTy ci j) = 0) (hn : narrow (gTy ci j) (.int v) = .int v) (hfit : fits (gTy ci j) (.int v) = true) (hk : gkd M a = ci + 1) (hp : pc + 3 = pc') (k : gW X R Z N y cc nL ret pc' lv st (gwI M a j v) bc bs) : gW X R Z N y cc nL ret pc lv (.int v :: .ref a :: st) M bc bs :=
  g_put0 hd hf hk hp (gEx_I M a j v) id (fun _ => hn) (fun _ => hfit) (fun _ i => gFV_I hs i) k
theorem g_putL {ix ci j a : Nat} {v : Int64} (hd : decode cc pc = .ok (.putfield ix, 3)) (hf : gPut y.cls ix ci j) (hs : gTy ci j = .long) (hk : gkd M a = ci + 1) (hp : pc + 3 = pc') (k : gW X R Z N y cc nL ret pc' lv st (gwL M a j v) bc bs) : gW X R Z N y cc nL ret pc lv (.long v :: .ref a :: st) M bc bs :=
  g_put0 hd hf hk hp (gEx_L M a j v) id (fun _ => by rw [hs]; rfl) (fun _ => by rw [hs]; rfl) (fun _ i => gFV_L (by rw [hs]; rfl) i) k
theorem gT_isR {ad : Nat → Nat} {t : FieldType} (hs : gSort t = 1) (v : Option Nat) : narrow t (va_re ad v) = va_re ad v ∧ fits t (va_re ad v) = true := by
  cases v <;> cases t <;> first | exact ⟨rfl, rfl⟩ | cases hs
theorem g_putR {ix ci j a b : Nat} (hd : decode cc pc = .ok (.putfield ix, 3)) (hf : gPut y.cls ix ci j) (hs : gSort (gTy ci j) = 1) (hk : gkd M a = ci + 1) (hb : gkd M b ≠ 0 ∨ 5000 ≤ b) (hp : pc + 3 = pc') (k : gW X R Z N y cc nL ret pc' lv st (gwR M a j (some b)) bc bs) : gW X R Z N y cc nL ret pc lv (.ref b :: .ref a :: st) M bc bs :=
  g_put0 hd hf hk hp (gEx_R M a j (some b)) (fun h => gClo_R h hb) (fun ad => (gT_isR (ad := ad) hs (some b)).1) (fun ad => (gT_isR (ad := ad) hs (some b)).2) (fun ad i => gFV_R (M := M) (a := a) (v := some b) (ad := ad) hs i) k
theorem g_putFI {ix ci j a : Nat} {v : Int32} (hd : decode cc pc = .ok (.putfield ix, 3)) (hf : gPutF y.cls ix ci j) (hy : y.name = "<init>") (hs : gSort (gTy ci j) = 0) (hn : narrow (gTy ci j) (.int v) = .int v) (hfit : fits (gTy ci j) (.int v) = true) (hk : gkd M a = ci + 1) (hp : pc + 3 = pc') (k : gW X R Z N y cc nL ret pc' lv st (gwI M a j v) bc bs) : gW X R Z N y cc nL ret pc lv (.int v :: .ref a :: st) M bc bs :=
  g_putF0 hd hf hy hk hp (gEx_I M a j v) id (fun _ => hn) (fun _ => hfit) (fun _ i => gFV_I hs i) k
theorem g_putFR {ix ci j a b : Nat} (hd : decode cc pc = .ok (.putfield ix, 3)) (hf : gPutF y.cls ix ci j) (hy : y.name = "<init>") (hs : gSort (gTy ci j) = 1) (hk : gkd M a = ci + 1) (hb : gkd M b ≠ 0 ∨ 5000 ≤ b) (hp : pc + 3 = pc') (k : gW X R Z N y cc nL ret pc' lv st (gwR M a j (some b)) bc bs) : gW X R Z N y cc nL ret pc lv (.ref b :: .ref a :: st) M bc bs :=
  g_putF0 hd hf hy hk hp (gEx_R M a j (some b)) (fun h => gClo_R h hb) (fun ad => (gT_isR (ad := ad) hs (some b)).1) (fun ad => (gT_isR (ad := ad) hs (some b)).2) (fun ad i => gFV_R (M := M) (a := a) (v := some b) (ad := ad) hs i) k
/-! arrays -/
theorem g_arr {ad : Nat → Nat} {H : Heap} {a j n : Nat} (hR : gRep X ad M H) (hk : gkd M a = 32 + j) (hn : gln M a = n) : gA X (ad a) ∧ H[ad a]? = some (arrV (X.2.2.1 j) n (gEV ad j (gmi M a) (gmr M a) (gml M a))) := by
  obtain ⟨h1, -, hc⟩ := hR.1 a (by omega)
  rw [hk, hn] at hc
  unfold gCell at hc
  rw [if_neg (by omega), Nat.add_sub_cancel_left] at hc
  exact ⟨h1, hc⟩
theorem g_ix {x : Int32} {i n : Nat} (hx : x.toInt = (i : Int)) (hi : i < n) : ¬ (x < 0 ∨ n ≤ x.toNatClampNeg) ∧ x.toNatClampNeg = i := by
  have e : x.toNatClampNeg = i := by
    show x.toInt.toNat = i
    omega
  refine ⟨vp_in_iff.mpr ⟨by omega, by omega⟩, e⟩
theorem g_arrT {s : State} (hK : gK X s) {j : Nat} {t : ClassId × FieldType} (ht : (gtys X)[j]? = some t) (n : Nat) (f : Nat → Value) : s.isArrayOf (arrV t.1 n f) t.2 := (hK.1.2 j t ht).1 n f
theorem g_iald {a n i : Nat} {x : Int32} (hd : decode cc pc = .ok (.iaload, 1)) (hk : gkd M a = 32) (hn : gln M a = n) (hx : x.toInt = (i : Int)) (hi : i < n) (hp : pc + 1 = pc') (k : gW X R Z N y cc nL ret pc' lv (.int (gmi M a i) :: st) M bc bs) : gW X R Z N y cc nL ret pc lv (.int x :: .ref a :: st) M bc bs := by
  subst hp
  intro ad0 ad p e s m args below meth c H locs cells slots ls hF hR hS hN h1 h2 hl
  obtain ⟨hA, hc⟩ := g_arr (j := 0) hR hk hn
  obtain ⟨hin, ei⟩ := g_ix hx hi
  refine W.iald (v := .int (gmi M a i)) hF.1 hF.2.1 hc (g_arrT hF.2.2.2.2.2.2.2.2.1 (j := 0) rfl _ _) (fun q => by cases q) (by rw [arrV_size]; exact hin) (by rw [ei, arrV_read _ _ hi]; rfl) rfl rfl hd (k ad0 ad p e s m args below meth c H locs cells slots ls hF hR hS hN h1 h2 hl)
theorem g_bald {a n i : Nat} {x : Int32} (hd : decode cc pc = .ok (.baload, 1)) (hk : gkd M a = 33) (hn : gln M a = n) (hx : x.toInt = (i : Int)) (hi : i < n) (hp : pc + 1 = pc') (k : gW X R Z N y cc nL ret pc' lv (.int (gmi M a i) :: st) M bc bs) : gW X R Z N y cc nL ret pc lv (.int x :: .ref a :: st) M bc bs := by
  subst hp
  intro ad0 ad p e s m args below meth c H locs cells slots ls hF hR hS hN h1 h2 hl
  obtain ⟨hA, hc⟩ := g_arr (j := 1) hR hk hn
  obtain ⟨hin, ei⟩ := g_ix hx hi
  refine W.bald (v := .int (gmi M a i)) hF.1 hF.2.1 hc (g_arrT hF.2.2.2.2.2.2.2.2.1 (j := 1) rfl _ _) (fun q => by cases q) (by rw [arrV_size]; exact hin) (by rw [ei, arrV_read _ _ hi]; rfl) rfl rfl hd (k ad0 ad p e s m args below meth c H locs cells slots ls hF hR hS hN h1 h2 hl)
theorem g_cald {a n i : Nat} {x : Int32} (hd : decode cc pc = .ok (.caload, 1)) (hk : gkd M a = 34) (hn : gln M a = n) (hx : x.toInt = (i : Int)) (hi : i < n) (hp : pc + 1 = pc') (k : gW X R Z N y cc nL ret pc' lv (.int (gmi M a i) :: st) M bc bs) : gW X R Z N y cc nL ret pc lv (.int x :: .ref a :: st) M bc bs := by
  subst hp
  intro ad0 ad p e s m args below meth c H locs cells slots ls hF hR hS hN h1 h2 hl
  obtain ⟨hA, hc⟩ := g_arr (j := 2) hR hk hn
  obtain ⟨hin, ei⟩ := g_ix hx hi
  refine W.cald (v := .int (gmi M a i)) hF.1 hF.2.1 hc (g_arrT hF.2.2.2.2.2.2.2.2.1 (j := 2) rfl _ _) (fun q => by cases q) (by rw [arrV_size]; exact hin) (by rw [ei, arrV_read _ _ hi]; rfl) rfl rfl hd (k ad0 ad p e s m args below meth c H locs cells slots ls hF hR hS hN h1 h2 hl)
theorem g_zald {a n i : Nat} {x : Int32} (hd : decode cc pc = .ok (.baload, 1)) (hk : gkd M a = 35) (hn : gln M a = n) (hx : x.toInt = (i : Int)) (hi : i < n) (hp : pc + 1 = pc') (k : gW X R Z N y cc nL ret pc' lv (.int (gmi M a i) :: st) M bc bs) : gW X R Z N y cc nL ret pc lv (.int x :: .ref a :: st) M bc bs := by
  subst hp
  intro ad0 ad p e s m args below meth c H locs cells slots ls hF hR hS hN h1 h2 hl
  obtain ⟨hA, hc⟩ := g_arr (j := 3) hR hk hn
  obtain ⟨hin, ei⟩ := g_ix hx hi
  refine W.zald (v := .int (gmi M a i)) hF.1 hF.2.1 hc (g_arrT hF.2.2.2.2.2.2.2.2.1 (j := 3) rfl _ _) (fun q => by cases q) (by rw [arrV_size]; exact hin) (by rw [ei, arrV_read _ _ hi]; rfl) rfl rfl hd (k ad0 ad p e s m args below meth c H locs cells slots ls hF hR hS hN h1 h2 hl)
theorem g_lald {a n i : Nat} {x : Int32} (hd : decode cc pc = .ok (.laload, 1)) (hk : gkd M a = 36) (hn : gln M a = n) (hx : x.toInt = (i : Int)) (hi : i < n) (hp : pc + 1 = pc') (k : gW X R Z N y cc nL ret pc' lv (.long (gml M a i) :: st) M bc bs) : gW X R Z N y cc nL ret pc lv (.int x :: .ref a :: st) M bc bs := by
  subst hp
  intro ad0 ad p e s m args below meth c H locs cells slots ls hF hR hS hN h1 h2 hl
  obtain ⟨hA, hc⟩ := g_arr (j := 4) hR hk hn
  obtain ⟨hin, ei⟩ := g_ix hx hi
  refine W.lald (v := .long (gml M a i)) hF.1 hF.2.1 hc (g_arrT hF.2.2.2.2.2.2.2.2.1 (j := 4) rfl _ _) (fun q => by cases q) (by rw [arrV_size]; exact hin) (by rw [ei, arrV_read _ _ hi]; rfl) rfl rfl hd (k ad0 ad p e s m args below meth c H locs cells slots ls hF hR hS hN h1 h2 hl)
theorem g_aald5 {a n i : Nat} {x : Int32} (hd : decode cc pc = .ok (.aaload, 1)) (hk : gkd M a = 37) (hn : gln M a = n) (hx : x.toInt = (i : Int)) (hi : i < n) (hp : pc + 1 = pc') (k : gW X R Z N y cc nL ret pc' lv (va_rf (gmr M a i) :: st) M bc bs) : gW X R Z N y cc nL ret pc lv (.int x :: .ref a :: st) M bc bs := by
  subst hp
  intro ad0 ad p e s m args below meth c H locs cells slots ls hF hR hS hN h1 h2 hl
  obtain ⟨hA, hc⟩ := g_arr (j := 5) hR hk hn
  obtain ⟨hin, ei⟩ := g_ix hx hi
  refine W.aald (v := gT ad (va_rf (gmr M a i))) (ty := .object "GuiltyShave$Law") hF.1 hF.2.1 hc (g_arrT hF.2.2.2.2.2.2.2.2.1 (j := 5) rfl _ _) rfl (fun q => by cases q) (by rw [arrV_size]; exact hin) (by rw [ei, arrV_read _ _ hi, gT_rf]; rfl) rfl rfl hd (k ad0 ad p e s m args below meth c H locs cells slots ls hF hR hS hN h1 h2 hl)
theorem g_aald6 {a n i : Nat} {x : Int32} (hd : decode cc pc = .ok (.aaload, 1)) (hk : gkd M a = 38) (hn : gln M a = n) (hx : x.toInt = (i : Int)) (hi : i < n) (hp : pc + 1 = pc') (k : gW X R Z N y cc nL ret pc' lv (va_rf (gmr M a i) :: st) M bc bs) : gW X R Z N y cc nL ret pc lv (.int x :: .ref a :: st) M bc bs := by
  subst hp
  intro ad0 ad p e s m args below meth c H locs cells slots ls hF hR hS hN h1 h2 hl
  obtain ⟨hA, hc⟩ := g_arr (j := 6) hR hk hn
  obtain ⟨hin, ei⟩ := g_ix hx hi
  refine W.aald (v := gT ad (va_rf (gmr M a i))) (ty := .object "GuiltyShave$Week") hF.1 hF.2.1 hc (g_arrT hF.2.2.2.2.2.2.2.2.1 (j := 6) rfl _ _) rfl (fun q => by cases q) (by rw [arrV_size]; exact hin) (by rw [ei, arrV_read _ _ hi, gT_rf]; rfl) rfl rfl hd (k ad0 ad p e s m args below meth c H locs cells slots ls hF hR hS hN h1 h2 hl)
theorem g_aald7 {a n i : Nat} {x : Int32} (hd : decode cc pc = .ok (.aaload, 1)) (hk : gkd M a = 39) (hn : gln M a = n) (hx : x.toInt = (i : Int)) (hi : i < n) (hp : pc + 1 = pc') (k : gW X R Z N y cc nL ret pc' lv (va_rf (gmr M a i) :: st) M bc bs) : gW X R Z N y cc nL ret pc lv (.int x :: .ref a :: st) M bc bs := by
  subst hp
  intro ad0 ad p e s m args below meth c H locs cells slots ls hF hR hS hN h1 h2 hl
  obtain ⟨hA, hc⟩ := g_arr (j := 7) hR hk hn
  obtain ⟨hin, ei⟩ := g_ix hx hi
  refine W.aald (v := gT ad (va_rf (gmr M a i))) (ty := .array .int) hF.1 hF.2.1 hc (g_arrT hF.2.2.2.2.2.2.2.2.1 (j := 7) rfl _ _) rfl (fun q => by cases q) (by rw [arrV_size]; exact hin) (by rw [ei, arrV_read _ _ hi, gT_rf]; rfl) rfl rfl hd (k ad0 ad p e s m args below meth c H locs cells slots ls hF hR hS hN h1 h2 hl)
theorem g_iast {a n i : Nat} {x : Int32} {v : Int32} (hd : decode cc pc = .ok (.iastore, 1)) (hk : gkd M a = 32) (hn : gln M a = n) (hx : x.toInt = (i : Int)) (hi : i < n) (hp : pc + 1 = pc') (k : gW X R Z N y cc nL ret pc' lv st (gwI M a i v) bc bs) : gW X R Z N y cc nL ret pc lv (.int v :: .int x :: .ref a :: st) M bc bs := by
  subst hp
  intro ad0 ad p e s m args below meth c H locs cells slots ls hF hR hS hN h1 h2 hl
  obtain ⟨hA, hc⟩ := g_arr (j := 0) hR hk hn
  obtain ⟨hin, ei⟩ := g_ix hx hi
  refine W.iast hF.1 hF.2.1 hc (g_arrT hF.2.2.2.2.2.2.2.2.1 (j := 0) rfl _ _) (fun q => by cases q) (by rw [arrV_size]; exact hin) rfl rfl hd fun H' e1 e2 e3 => ?_
  refine k ad0 ad p e s m args below meth c H' _ cells slots ls hF (hR.upd (gEx_I M a i v) (by omega) ?_ e3 hR.2.2.2) (hS.put e2 e3 hA) hN h1 h2 hl
  rw [hk, hn]
  unfold gCell
  rw [if_neg (by omega)]
  show H'[ad a]? = some (arrV (X.2.2.1 0) n (gEV ad 0 _ _ _))
  rw [e1, ei, arrV_store]
  refine congrArg (fun f => some (arrV _ n f)) (funext fun t => ?_)
  have eu : gmi (gwI M a i v) a = va_up (gmi M a) i v := va_up_self _ _ _
  rw [eu]
  by_cases ht : t = i
  · subst ht
    simp [updV, gEV, va_up, vp_nar]
    try rfl
  · simp [updV, gEV, va_up, ht]
    try rfl
theorem g_bast {a n i : Nat} {x : Int32} {v : Int32} (hd : decode cc pc = .ok (.bastore, 1)) (hk : gkd M a = 33) (hn : gln M a = n) (hx : x.toInt = (i : Int)) (hi : i < n) (hp : pc + 1 = pc') (k : gW X R Z N y cc nL ret pc' lv st (gwI M a i (vp_nar .byte v)) bc bs) : gW X R Z N y cc nL ret pc lv (.int v :: .int x :: .ref a :: st) M bc bs := by
  subst hp
  intro ad0 ad p e s m args below meth c H locs cells slots ls hF hR hS hN h1 h2 hl
  obtain ⟨hA, hc⟩ := g_arr (j := 1) hR hk hn
  obtain ⟨hin, ei⟩ := g_ix hx hi
  refine W.bast hF.1 hF.2.1 hc (g_arrT hF.2.2.2.2.2.2.2.2.1 (j := 1) rfl _ _) (fun q => by cases q) (by rw [arrV_size]; exact hin) rfl rfl hd fun H' e1 e2 e3 => ?_
  refine k ad0 ad p e s m args below meth c H' _ cells slots ls hF (hR.upd (gEx_I M a i (vp_nar .byte v)) (by omega) ?_ e3 hR.2.2.2) (hS.put e2 e3 hA) hN h1 h2 hl
  rw [hk, hn]
  unfold gCell
  rw [if_neg (by omega)]
  show H'[ad a]? = some (arrV (X.2.2.1 1) n (gEV ad 1 _ _ _))
  rw [e1, ei, arrV_store]
  refine congrArg (fun f => some (arrV _ n f)) (funext fun t => ?_)
  have eu : gmi (gwI M a i (vp_nar .byte v)) a = va_up (gmi M a) i (vp_nar .byte v) := va_up_self _ _ _
  rw [eu]
  by_cases ht : t = i
  · subst ht
    simp [updV, gEV, va_up, vp_nar]
    try rfl
  · simp [updV, gEV, va_up, ht]
    try rfl
theorem g_cast {a n i : Nat} {x : Int32} {v : Int32} (hd : decode cc pc = .ok (.castore, 1)) (hk : gkd M a = 34) (hn : gln M a = n) (hx : x.toInt = (i : Int)) (hi : i < n) (hp : pc + 1 = pc') (k : gW X R Z N y cc nL ret pc' lv st (gwI M a i (vp_nar .char v)) bc bs) : gW X R Z N y cc nL ret pc lv (.int v :: .int x :: .ref a :: st) M bc bs := by
  subst hp
  intro ad0 ad p e s m args below meth c H locs cells slots ls hF hR hS hN h1 h2 hl
  obtain ⟨hA, hc⟩ := g_arr (j := 2) hR hk hn
  obtain ⟨hin, ei⟩ := g_ix hx hi
  refine W.cast hF.1 hF.2.1 hc (g_arrT hF.2.2.2.2.2.2.2.2.1 (j := 2) rfl _ _) (fun q => by cases q) (by rw [arrV_size]; exact hin) rfl rfl hd fun H' e1 e2 e3 => ?_
  refine k ad0 ad p e s m args below meth c H' _ cells slots ls hF (hR.upd (gEx_I M a i (vp_nar .char v)) (by omega) ?_ e3 hR.2.2.2) (hS.put e2 e3 hA) hN h1 h2 hl
  rw [hk, hn]
  unfold gCell
  rw [if_neg (by omega)]
  show H'[ad a]? = some (arrV (X.2.2.1 2) n (gEV ad 2 _ _ _))
  rw [e1, ei, arrV_store]
  refine congrArg (fun f => some (arrV _ n f)) (funext fun t => ?_)
  have eu : gmi (gwI M a i (vp_nar .char v)) a = va_up (gmi M a) i (vp_nar .char v) := va_up_self _ _ _
  rw [eu]
  by_cases ht : t = i
  · subst ht
    simp [updV, gEV, va_up, vp_nar]
    try rfl
  · simp [updV, gEV, va_up, ht]
    try rfl
theorem g_zast {a n i : Nat} {x : Int32} {v : Int32} (hd : decode cc pc = .ok (.bastore, 1)) (hk : gkd M a = 35) (hn : gln M a = n) (hx : x.toInt = (i : Int)) (hi : i < n) (hp : pc + 1 = pc') (k : gW X R Z N y cc nL ret pc' lv st (gwI M a i (vp_nar .boolean v)) bc bs) : gW X R Z N y cc nL ret pc lv (.int v :: .int x :: .ref a :: st) M bc bs := by
  subst hp
  intro ad0 ad p e s m args below meth c H locs cells slots ls hF hR hS hN h1 h2 hl
  obtain ⟨hA, hc⟩ := g_arr (j := 3) hR hk hn
  obtain ⟨hin, ei⟩ := g_ix hx hi
  refine W.zast hF.1 hF.2.1 hc (g_arrT hF.2.2.2.2.2.2.2.2.1 (j := 3) rfl _ _) (fun q => by cases q) (by rw [arrV_size]; exact hin) rfl rfl hd fun H' e1 e2 e3 => ?_
  refine k ad0 ad p e s m args below meth c H' _ cells slots ls hF (hR.upd (gEx_I M a i (vp_nar .boolean v)) (by omega) ?_ e3 hR.2.2.2) (hS.put e2 e3 hA) hN h1 h2 hl
  rw [hk, hn]
  unfold gCell
  rw [if_neg (by omega)]
  show H'[ad a]? = some (arrV (X.2.2.1 3) n (gEV ad 3 _ _ _))
  rw [e1, ei, arrV_store]
  refine congrArg (fun f => some (arrV _ n f)) (funext fun t => ?_)
  have eu : gmi (gwI M a i (vp_nar .boolean v)) a = va_up (gmi M a) i (vp_nar .boolean v) := va_up_self _ _ _
  rw [eu]
  by_cases ht : t = i
  · subst ht
    simp [updV, gEV, va_up, vp_nar]
    try rfl
  · simp [updV, gEV, va_up, ht]
    try rfl
theorem g_last {a n i : Nat} {x : Int32} {v : Int64} (hd : decode cc pc = .ok (.lastore, 1)) (hk : gkd M a = 36) (hn : gln M a = n) (hx : x.toInt = (i : Int)) (hi : i < n) (hp : pc + 1 = pc') (k : gW X R Z N y cc nL ret pc' lv st (gwL M a i v) bc bs) : gW X R Z N y cc nL ret pc lv (.long v :: .int x :: .ref a :: st) M bc bs := by
  subst hp
  intro ad0 ad p e s m args below meth c H locs cells slots ls hF hR hS hN h1 h2 hl
  obtain ⟨hA, hc⟩ := g_arr (j := 4) hR hk hn
  obtain ⟨hin, ei⟩ := g_ix hx hi
  refine W.last hF.1 hF.2.1 hc (g_arrT hF.2.2.2.2.2.2.2.2.1 (j := 4) rfl _ _) (fun q => by cases q) (by rw [arrV_size]; exact hin) rfl rfl hd fun H' e1 e2 e3 => ?_
  refine k ad0 ad p e s m args below meth c H' _ cells slots ls hF (hR.upd (gEx_L M a i v) (by omega) ?_ e3 hR.2.2.2) (hS.put e2 e3 hA) hN h1 h2 hl
  rw [hk, hn]
  unfold gCell
  rw [if_neg (by omega)]
  show H'[ad a]? = some (arrV (X.2.2.1 4) n (gEV ad 4 _ _ _))
  rw [e1, ei, arrV_store]
  refine congrArg (fun f => some (arrV _ n f)) (funext fun t => ?_)
  have eu : gml (gwL M a i v) a = va_up (gml M a) i v := va_up_self _ _ _
  rw [eu]
  by_cases ht : t = i
  · subst ht
    simp [updV, gEV, va_up, vp_nar]
    try rfl
  · simp [updV, gEV, va_up, ht]
    try rfl
/-! calls -/
theorem gGood {y2 : MethodName} {cc2 : ByteArray} {nL2 : Nat} {ret2 : Option FieldType} (h : Cond.code y2 cc2 nL2 ret2 ∈ gws) : GoodIn gws (Cond.code y2 cc2 nL2 ret2 :: gws) := fun w hw => (List.mem_cons.mp hw).elim (fun e => by rw [e]; exact ⟨h, gws_good h⟩) (fun h => ⟨h, gws_good h⟩)
def gDs (y2 : MethodName) (n : Nat) : Prop := y2.cls ≠ "java/lang/invoke/MethodHandle" ∧ y2.cls ≠ "java/lang/invoke/VarHandle" ∧ (parseMethodDescriptor y2.desc).map (fun d => d.parameters.length) = some n
def gMv (y2 : MethodName) (cc2 : ByteArray) (nL2 : Nat) (ret2 : Option FieldType) (n : Nat) : Prop := Cond.code y2 cc2 nL2 ret2 ∈ gws ∧ Cond.instanceMethod y2 ∈ gws ∧ Cond.selects y2.cls y2 y2 ∈ gws ∧ Cond.initialized y2.cls ∈ gws ∧ gDs y2 n ∧ nL2 ≤ 45
def gMs (y2 : MethodName) (cc2 : ByteArray) (nL2 : Nat) (ret2 : Option FieldType) (n : Nat) : Prop := Cond.code y2 cc2 nL2 ret2 ∈ gws ∧ Cond.static y2 ∈ gws ∧ Cond.initialized y2.cls ∈ gws ∧ gDs y2 n ∧ nL2 ≤ 45
def gMc (y2 : MethodName) (cc2 : ByteArray) (nL2 : Nat) (n : Nat) : Prop := Cond.code y2 cc2 nL2 none ∈ gws ∧ Cond.instanceMethod y2 ∈ gws ∧ y2.name = "<init>" ∧ Cond.initialized y2.cls ∈ gws ∧ gDs y2 n ∧ nL2 ≤ 45
def gFit (d : Nat) (R : Room) : Prop := d + 1 ≤ R.frames ∧ 64 * (d + 1) ≤ R.locals
theorem gFit_room {d d2 mc ms : Nat} (h : d < d2) : gFit d (gRoom d2 mc ms) := ⟨h, by show 64 * (d + 1) ≤ 64 * d2; omega⟩
theorem gBlind (hx : gXok X) {ad : Nat → Nat} {av : List Value} : FrameBlind (va_Pc av (fun U => gRep X ad M U.heap ∧ gK X U ∧ ∀ q : Nat, U.heap.size ≤ q → gA X q)) := fun a U g mk h =>
  ⟨h.1, h.2.1, ⟨va_K.moved (u := U) (U := U.calling g mk a) (Vm.Alike.refl U.vm) h.2.2.1.1, hx U (U.calling g mk a) (State.WarmedH.refl U) (Nat.le_refl _) (fun _ _ _ => rfl) h.2.2.1.2⟩, h.2.2.2⟩
theorem gT_same {ad ad2 : Nat → Nat} {N2 : Nat → Prop} (h : ∀ a, ¬ N2 a → ad2 a = ad a) {v : Value} (hv : ∀ b, v = .ref b → ¬ N2 b) : gT ad2 v = gT ad v := by
  cases v with
  | ref b => show Value.ref (ad2 b) = Value.ref (ad b); rw [h b (hv b rfl)]
  | _ => rfl
theorem g_after {ad0 ad : Nat → Nat} {p : Program} {e : Env} {s : State} {m : MethodId} {args : Array Value} {below : List Frame} {meth : Method} {c : Code} {H : Heap} {locs : List Loc} {cells slots mc2 ms2 : Nat} {ls : Array Slot} {st0 rest : List Value} {N2 : Nat → Prop} {Q2 : Option Value → gM → Prop} {aa : Array Value}
    (hr : va_Run p X.1 e R s m args below meth c H locs cells slots mc2 ms2 (F0 m pc ls st0) (rest.map (gT ad)) (gQ X ad N2 Q2 aa) (gA X)) (hF : gF X y cc nL ret p s m args meth c) (hS : va_S (gA X) s.heap H locs) (hN : ∀ a, ¬ N a → ad a = ad0 a) (h1 : cells + bc ≤ R.cells) (h2 : slots + bs ≤ R.slots) (hl : lv_has ls nL (gmv ad lv))
    (hb1 : mc2 ≤ bc) (hb2 : ms2 ≤ bs) (hsub : ∀ a, N2 a → N a) (hlv : ∀ q ∈ lv, ∀ b, q.2 = .ref b → ¬ N2 b) (hrest : ∀ v ∈ rest, ∀ b, v = .ref b → ¬ N2 b) (k : ∀ v M2, Q2 v M2 → gW X R Z N y cc nL ret (pc + 3) lv (v.toList ++ rest) M2 (bc - mc2) (bs - ms2)) :
    W p X.1 e R s m args below meth c H locs cells slots (Z ad0 below args s) (F0 m pc ls st0) := by
  intro T hT Xs
  obtain ⟨v, st₀, t, T', L, h0, X', hL, e1, e2, ⟨⟨v2, M2, ad2, hv, hq, hN2, hR2, hK2⟩, hz, hk⟩, step⟩ := hr T hT Xs
  have ev : v = v2.map (gT ad2) := Outcome.returned.inj hv
  subst ev
  rw [h0] at hz hk
  have er : rest.map (gT ad2) = rest.map (gT ad) := List.map_congr_left (fun w hw => gT_same hN2 (hrest w hw))
  have el : gmv ad2 lv = gmv ad lv := List.map_congr_left (fun w hw => by rw [gT_same hN2 (hlv w hw)])
  have kk := k v2 M2 hq ad0 ad2 p e s m args below meth c T'.heap (locs ++ L) (cells + mc2) (slots + ms2) ls hF (by rw [e1]; exact hR2)
    ⟨Nat.le_trans hS.1 (by rw [e1]; exact hz), fun q g1 g2 => by rw [e1, hk q (Nat.lt_of_lt_of_le g1 hS.1) g2]; exact hS.2.1 q g1 g2, fun q hq => (List.mem_append.mp hq).elim (hS.2.2 q) (hL q)⟩
    (fun a ha => (hN2 a (fun z => ha (hsub a z))).trans (hN a ha)) (by omega) (by omega) (by rw [el]; exact hl)
  have es : (v2.toList ++ rest).map (gT ad2) = (v2.map (gT ad2)).toList ++ rest.map (gT ad) := by rw [List.map_append, er]; cases v2 <;> rfl
  rw [es] at kk
  obtain ⟨t2, a1, b1⟩ := kk T' rfl X'
  exact ⟨t2, step t2 a1, b1⟩
theorem g_rev (ad : Nat → Nat) (As : List Value) (r : List Value) : (As.reverse ++ r).map (gT ad) = (As.map (gT ad)).reverse ++ r.map (gT ad) := by rw [List.map_append, List.map_reverse]
theorem g_cat (ad : Nat → Nat) (r : List Value) : ((r.map (gT ad)).map fun v => v.category).sum = (r.map fun v => v.category).sum := by
  rw [List.map_map]
  congr 1
  exact List.map_congr_left (fun v _ => gT_cat ad v)
/-- a virtual call -/
theorem g_callV {ix d2 mc2 ms2 a ci n : Nat} {y2 : MethodName} {cc2 : ByteArray} {nL2 : Nat} {ret2 : Option FieldType} {As rest : List Value} {N2 : Nat → Prop} {Q2 : Option Value → gM → Prop} {q : vw_C}
    (hd : decode cc pc = .ok (.invokevirtual ix, 3)) (hlk : Cond.methodLink y.cls ix y2 ∈ gws) (hw : gMv y2 cc2 nL2 ret2 n) (hM : gMet X d2 y2 cc2 nL2 ret2 (.ref a :: As) M N2 mc2 ms2 Q2) (hq : vwCl[ci]? = some q) (hqc : q.1 = y2.cls) (hk : gkd M a = ci + 1)
    (hst : st = As.reverse ++ .ref a :: rest) (hn : As.length = n) (hcat : (rest.map fun v => v.category).sum ≤ 8) (hfit : gFit d2 R) (hb1 : mc2 ≤ bc) (hb2 : ms2 ≤ bs) (hsub : ∀ a, N2 a → N a) (hlv : ∀ q ∈ lv, ∀ b, q.2 = .ref b → ¬ N2 b) (hrest : ∀ v ∈ rest, ∀ b, v = .ref b → ¬ N2 b) (hp : pc + 3 = pc')
    (k : ∀ v M2, Q2 v M2 → gW X R Z N y cc nL ret pc' lv (v.toList ++ rest) M2 (bc - mc2) (bs - ms2)) : gW X R Z N y cc nL ret pc lv st M bc bs := by
  subst hp
  subst hst
  intro ad0 ad p e s m args below meth c H locs cells slots ls hF hR hS hN h1 h2 hl
  have hts := hF.2.2.2.2.1
  have hK := hF.2.2.2.2.2.2.2.2.1
  have hx := hF.2.2.2.2.2.2.2.2.2.2
  obtain ⟨w1, w2, w3, w4, w5, w6⟩ := hw
  obtain ⟨hA, cell, q1, q2, q3, q4⟩ := g_obj (s := s) hq hR hk
  rw [g_rev]
  refine g_after (rest := rest) (va_runV (As := As.map (gT ad)) (b := ad a) (C := y2.cls) ⟨hF.1, hF.2.1, hF.2.2.1, hF.2.2.2.1, hts⟩ (hM ad) ⟨callB_of n hts (gGood w1) rfl rfl rfl (hts _ w4) (hts _ hlk) w5 ⟨hfit.1, by have := hfit.2; show 8 + (nL2 + 11) + 64 * d2 ≤ R.locals; omega⟩, hts _ w2, hts _ w3⟩
    ⟨gBlind hx, ⟨cell, q1, by rw [q3]; rfl, by rw [q2, ← hqc]; exact (hK.1.1 ci q hq).2.1⟩, fun U hU hW => ⟨rfl, by rw [hU]; exact hR, hK.moved hx hW hS hU, fun x hx2 => hF.2.2.2.2.2.2.2.2.2.1 x (Nat.le_trans hS.1 (by rw [hU] at hx2; exact hx2))⟩⟩
    rfl (by rw [List.length_map]; exact hn) hl.1 rfl (lv_room (by rw [g_cat]; exact hcat)) hd ⟨by omega, by omega⟩) hF hS hN h1 h2 hl hb1 hb2 hsub hlv hrest k
/-- a static call -/
theorem g_callS {ix d2 mc2 ms2 n : Nat} {y2 : MethodName} {cc2 : ByteArray} {nL2 : Nat} {ret2 : Option FieldType} {As rest : List Value} {N2 : Nat → Prop} {Q2 : Option Value → gM → Prop}
    (hd : decode cc pc = .ok (.invokestatic ix, 3)) (hlk : Cond.methodLink y.cls ix y2 ∈ gws) (hw : gMs y2 cc2 nL2 ret2 n) (hM : gMet X d2 y2 cc2 nL2 ret2 As M N2 mc2 ms2 Q2)
    (hst : st = As.reverse ++ rest) (hn : As.length = n) (hcat : (rest.map fun v => v.category).sum ≤ 8) (hfit : gFit d2 R) (hb1 : mc2 ≤ bc) (hb2 : ms2 ≤ bs) (hsub : ∀ a, N2 a → N a) (hlv : ∀ q ∈ lv, ∀ b, q.2 = .ref b → ¬ N2 b) (hrest : ∀ v ∈ rest, ∀ b, v = .ref b → ¬ N2 b) (hp : pc + 3 = pc')
    (k : ∀ v M2, Q2 v M2 → gW X R Z N y cc nL ret pc' lv (v.toList ++ rest) M2 (bc - mc2) (bs - ms2)) : gW X R Z N y cc nL ret pc lv st M bc bs := by
  subst hp
  subst hst
  intro ad0 ad p e s m args below meth c H locs cells slots ls hF hR hS hN h1 h2 hl
  have hts := hF.2.2.2.2.1
  have hK := hF.2.2.2.2.2.2.2.2.1
  have hx := hF.2.2.2.2.2.2.2.2.2.2
  obtain ⟨w1, w2, w4, w5, w6⟩ := hw
  rw [g_rev]
  refine g_after (rest := rest) (va_runS (As := As.map (gT ad)) ⟨hF.1, hF.2.1, hF.2.2.1, hF.2.2.2.1, hts⟩ (hM ad) ⟨callB_of n hts (gGood w1) rfl rfl rfl (hts _ w4) (hts _ hlk) w5 ⟨hfit.1, by have := hfit.2; show 8 + (nL2 + 11) + 64 * d2 ≤ R.locals; omega⟩, hts _ w2⟩
    ⟨gBlind hx, fun U hU hW => ⟨rfl, by rw [hU]; exact hR, hK.moved hx hW hS hU, fun x hx2 => hF.2.2.2.2.2.2.2.2.2.1 x (Nat.le_trans hS.1 (by rw [hU] at hx2; exact hx2))⟩⟩
    rfl (by rw [List.length_map]; exact hn) hl.1 rfl (lv_room (by rw [g_cat]; exact hcat)) hd ⟨by omega, by omega⟩) hF hS hN h1 h2 hl hb1 hb2 hsub hlv hrest k
/-- a constructor's call -/
theorem g_callI {ix d2 mc2 ms2 a n : Nat} {y2 : MethodName} {cc2 : ByteArray} {nL2 : Nat} {As rest : List Value} {N2 : Nat → Prop} {Q2 : Option Value → gM → Prop}
    (hd : decode cc pc = .ok (.invokespecial ix, 3)) (hlk : Cond.methodLink y.cls ix y2 ∈ gws) (hw : gMc y2 cc2 nL2 n) (hM : gMet X d2 y2 cc2 nL2 none (.ref a :: As) M N2 mc2 ms2 Q2)
    (hst : st = As.reverse ++ .ref a :: rest) (hn : As.length = n) (hcat : (rest.map fun v => v.category).sum ≤ 8) (hfit : gFit d2 R) (hb1 : mc2 ≤ bc) (hb2 : ms2 ≤ bs) (hsub : ∀ a, N2 a → N a) (hlv : ∀ q ∈ lv, ∀ b, q.2 = .ref b → ¬ N2 b) (hrest : ∀ v ∈ rest, ∀ b, v = .ref b → ¬ N2 b) (hp : pc + 3 = pc')
    (k : ∀ v M2, Q2 v M2 → gW X R Z N y cc nL ret pc' lv (v.toList ++ rest) M2 (bc - mc2) (bs - ms2)) : gW X R Z N y cc nL ret pc lv st M bc bs := by
  subst hp
  subst hst
  intro ad0 ad p e s m args below meth c H locs cells slots ls hF hR hS hN h1 h2 hl
  have hts := hF.2.2.2.2.1
  have hK := hF.2.2.2.2.2.2.2.2.1
  have hx := hF.2.2.2.2.2.2.2.2.2.2
  obtain ⟨w1, w2, w3, w4, w5, w6⟩ := hw
  rw [g_rev]
  refine g_after (rest := rest) (va_runI (As := As.map (gT ad)) (b := ad a) ⟨hF.1, hF.2.1, hF.2.2.1, hF.2.2.2.1, hts⟩ (hM ad) ⟨callB_of n hts (gGood w1) rfl rfl rfl (hts _ w4) (hts _ hlk) w5 ⟨hfit.1, by have := hfit.2; show 8 + (nL2 + 11) + 64 * d2 ≤ R.locals; omega⟩, w3, hts _ w2⟩
    ⟨gBlind hx, fun U hU hW => ⟨rfl, by rw [hU]; exact hR, hK.moved hx hW hS hU, fun x hx2 => hF.2.2.2.2.2.2.2.2.2.1 x (Nat.le_trans hS.1 (by rw [hU] at hx2; exact hx2))⟩⟩
    rfl (by rw [List.length_map]; exact hn) hl.1 rfl (lv_room (by rw [g_cat]; exact hcat)) hd ⟨by omega, by omega⟩) hF hS hN h1 h2 hl hb1 hb2 hsub hlv hrest k
/-- a private constructor's call, of a nest mate -/
theorem g_callIN {ix d2 mc2 ms2 a n : Nat} {host : String} {y2 : MethodName} {cc2 : ByteArray} {nL2 : Nat} {As rest : List Value} {N2 : Nat → Prop} {Q2 : Option Value → gM → Prop}
    (hd : decode cc pc = .ok (.invokespecial ix, 3)) (hlk : ∀ U, X.2.2.2.2.2 U → va_Nw (.methodLinkNest y.cls ix y2 host) U) (hw : gMc y2 cc2 nL2 n) (hM : gMet X d2 y2 cc2 nL2 none (.ref a :: As) M N2 mc2 ms2 Q2)
    (hst : st = As.reverse ++ .ref a :: rest) (hn : As.length = n) (hcat : (rest.map fun v => v.category).sum ≤ 8) (hfit : gFit d2 R) (hb1 : mc2 ≤ bc) (hb2 : ms2 ≤ bs) (hsub : ∀ a, N2 a → N a) (hlv : ∀ q ∈ lv, ∀ b, q.2 = .ref b → ¬ N2 b) (hrest : ∀ v ∈ rest, ∀ b, v = .ref b → ¬ N2 b) (hp : pc + 3 = pc')
    (k : ∀ v M2, Q2 v M2 → gW X R Z N y cc nL ret pc' lv (v.toList ++ rest) M2 (bc - mc2) (bs - ms2)) : gW X R Z N y cc nL ret pc lv st M bc bs := by
  subst hp
  subst hst
  intro ad0 ad p e s m args below meth c H locs cells slots ls hF hR hS hN h1 h2 hl
  have hts := hF.2.2.2.2.1
  have hK := hF.2.2.2.2.2.2.2.2.1
  have hx := hF.2.2.2.2.2.2.2.2.2.2
  obtain ⟨w1, w2, w3, w4, w5, w6⟩ := hw
  rw [g_rev]
  refine g_after (rest := rest) (va_runIN (As := As.map (gT ad)) (b := ad a) ⟨hF.1, hF.2.1, hF.2.2.1, hF.2.2.2.1, hts⟩ (hM ad) ⟨va_cnB n hts (gGood w1) rfl rfl rfl (hlk s hK.2) (hts _ w4) w5 ⟨hfit.1, by have := hfit.2; show 8 + (nL2 + 11) + 64 * d2 ≤ R.locals; omega⟩, w3, hts _ w2⟩
    ⟨gBlind hx, fun U hU hW => ⟨rfl, by rw [hU]; exact hR, hK.moved hx hW hS hU, fun x hx2 => hF.2.2.2.2.2.2.2.2.2.1 x (Nat.le_trans hS.1 (by rw [hU] at hx2; exact hx2))⟩⟩
    rfl (by rw [List.length_map]; exact hn) hl.1 rfl (lv_room (by rw [g_cat]; exact hcat)) hd ⟨by omega, by omega⟩) hF hS hN h1 h2 hl hb1 hb2 hsub hlv hrest k
theorem g_objInit {ix a : Nat} (hd : decode cc pc = .ok (.invokespecial ix, 3)) (hlk : Cond.methodLink y.cls ix objectInit ∈ gws) (hw1 : Cond.instanceMethod objectInit ∈ gws) (hw2 : Cond.code objectInit ⟨#[0xb1]⟩ 1 none ∈ gws) (hcat : (st.map fun v => v.category).sum ≤ 8) (hfit : gFit 0 R) (hp : pc + 3 = pc') (k : gW X R Z N y cc nL ret pc' lv st M bc bs) : gW X R Z N y cc nL ret pc lv (.ref a :: st) M bc bs := by
  subst hp
  intro ad0 ad p e s m args below meth c H locs cells slots ls hF hR hS hN h1 h2 hl
  have hts := hF.2.2.2.2.1
  refine W.objInit (a := ad a) (rest := st.map (gT ad)) hF.1 hF.2.1 hF.2.2.2.1 (hts _ hlk) (hts _ hw1) (hts _ hw2) rfl (by rw [hF.2.2.1]; exact hl.1) rfl hd (by have := hfit.1; omega) (by rw [g_cat]; have := hfit.2; show 2 * 0 + _ + 12 ≤ _; omega) (k ad0 ad p e s m args below meth c H locs cells slots ls hF hR hS hN h1 h2 hl)
end GW
