section GW2
variable {X : gX} {R : Room} {Z : gZt} {N : Nat → Prop} {y : MethodName} {cc : ByteArray} {nL : Nat} {ret : Option FieldType} {pc pc' tgt : Nat} {lv : List (Nat × Value)} {st : List Value} {M : gM} {bc bs : Nat}
def gLs (lv : List (Nat × Value)) : List (Nat × Value) → Prop
  | [] => True
  | q :: l => gLk lv q.1 = some q.2 ∧ gLs lv l
theorem gLs_all {lv : List (Nat × Value)} : ∀ {l : List (Nat × Value)}, gLs lv l → ∀ q ∈ l, gLk lv q.1 = some q.2
  | [], _, q, h => by cases h
  | a :: l, h, q, hq => (List.mem_cons.mp hq).elim (fun e => by rw [e]; exact h.1) (fun hq => gLs_all h.2 q hq)
theorem g_lv (lv2 : List (Nat × Value)) (h : gLs lv lv2) (k : gW X R Z N y cc nL ret pc lv2 st M bc bs) : gW X R Z N y cc nL ret pc lv st M bc bs := g_sub (gLs_all h) k
theorem gdefs : ∀ ci, ci < 12 → ∀ j, j < 47 → gTy ci j ≠ .float ∧ gTy ci j ≠ .double := by decide +kernel
theorem g47 : ∀ (ci : Nat) (q : vw_C), vwCl[ci]? = some q → q.2.2 ≤ 47 := by
  intro ci q h
  match ci, h with
  | 0, h => cases h; decide
  | 1, h => cases h; decide
  | 2, h => cases h; decide
  | 3, h => cases h; decide
  | 4, h => cases h; decide
  | 5, h => cases h; decide
  | 6, h => cases h; decide
  | 7, h => cases h; decide
  | 8, h => cases h; decide
  | 9, h => cases h; decide
  | 10, h => cases h; decide
  | 11, h => cases h; decide
  | n + 12, h => simp [vwCl] at h
theorem gdef {t : FieldType} (h : t ≠ .float ∧ t ≠ .double) (ad : Nat → Nat) : defaultValue t = if gSort t = 1 then va_re ad none else if gSort t = 2 then .long 0 else .int 0 := by
  cases t <;> first | rfl | exact absurd rfl h.1 | exact absurd rfl h.2
/-- the memory with a new cell, at the next address -/
theorem gRep.new {ad : Nat → Nat} {H H1 : Heap} {b k n : Nat} (hR : gRep X ad M H) (hb : gkd M b = 0) (hb5 : b < 5000) (hk : k ≠ 0) (hA : gA X H.size) (hc : gCell X (va_up ad b H.size) b k n (fun _ => 0) (fun _ => none) (fun _ => 0) H1) (o1 : ∀ q : Nat, q < H.size → H1[q]? = H[q]?) (hlt : ∀ a, gkd M a ≠ 0 → ad a < H.size) : gRep X (va_up ad b H.size) (gwN M b k n) H1 := by
  have kd_b : gkd (gwN M b k n) b = k := va_up_self _ _ _
  have kd_n : ∀ a, a ≠ b → gkd (gwN M b k n) a = gkd M a := fun a h => va_up_ne _ _ h
  have ad_b : va_up ad b H.size b = H.size := va_up_self _ _ _
  have ad_n : ∀ a, a ≠ b → va_up ad b H.size a = ad a := fun a h => va_up_ne _ _ h
  refine ⟨fun a ha => ?_, fun a d ha hd e => ?_, fun a ha => ?_, fun a ha i d hd => ?_⟩
  · by_cases e : a = b
    · subst e
      rw [ad_b]
      refine ⟨hA, hb5, ?_⟩
      have e1 : gkd (gwN M a k n) a = k := kd_b
      have e2 : gln (gwN M a k n) a = n := va_up_self _ _ _
      have e3 : gmi (gwN M a k n) a = fun _ => 0 := va_up_self _ _ _
      have e4 : gmr (gwN M a k n) a = fun _ => none := va_up_self _ _ _
      have e5 : gml (gwN M a k n) a = fun _ => 0 := va_up_self _ _ _
      rw [e1, e2, e3, e4, e5]
      exact hc
    · rw [kd_n a e] at ha
      obtain ⟨g1, g2, g3⟩ := hR.1 a ha
      rw [ad_n a e]
      refine ⟨g1, g2, ?_⟩
      have e1 : gkd (gwN M b k n) a = gkd M a := kd_n a e
      have e2 : gln (gwN M b k n) a = gln M a := va_up_ne _ _ e
      have e3 : gmi (gwN M b k n) a = gmi M a := va_up_ne _ _ e
      have e4 : gmr (gwN M b k n) a = gmr M a := va_up_ne _ _ e
      have e5 : gml (gwN M b k n) a = gml M a := va_up_ne _ _ e
      rw [e1, e2, e3, e4, e5]
      have g4 := g3.kept (o1 _ (hlt a ha))
      have hre : ∀ i, va_re (va_up ad b H.size) (gmr M a i) = va_re ad (gmr M a i) := fun i => by
        cases hz : gmr M a i with
        | none => rfl
        | some z =>
          have hzb : z ≠ b := fun q => by
            rcases hR.2.2.2 a ha i z hz with h | h
            · rw [q] at h; exact h hb
            · omega
          show Value.ref (va_up ad b H.size z) = Value.ref (ad z)
          rw [ad_n z hzb]
      unfold gCell at g4 ⊢
      rw [ad_n a e]
      by_cases hk2 : gkd M a < 32
      · rw [if_pos hk2] at g4 ⊢
        obtain ⟨r, h1, h2⟩ := g4
        refine ⟨r, h1, h2.to (fun j _ => ?_)⟩
        unfold gFV
        rw [hre]
      · rw [if_neg hk2] at g4 ⊢
        rw [g4]
        refine congrArg (fun f => some (arrV _ _ f)) (funext fun j => ?_)
        unfold gEV
        rw [hre]
  · by_cases e1 : a = b <;> by_cases e2 : d = b
    · rw [e1, e2]
    · subst e1
      rw [ad_b, ad_n d e2] at e
      rw [kd_n d e2] at hd
      have := hlt d hd
      omega
    · subst e2
      rw [ad_b, ad_n a e1] at e
      rw [kd_n a e1] at ha
      have := hlt a ha
      omega
    · rw [ad_n a e1, ad_n d e2] at e
      rw [kd_n a e1] at ha
      rw [kd_n d e2] at hd
      exact hR.2.1 a d ha hd e
  · rw [ad_n a (by omega)]
    exact hR.2.2.1 a ha
  · by_cases e : a = b
    · subst e
      have e4 : gmr (gwN M a k n) a = fun _ => none := va_up_self _ _ _
      rw [e4] at hd
      cases hd
    · have e4 : gmr (gwN M b k n) a = gmr M a := va_up_ne _ _ e
      rw [e4] at hd
      rw [kd_n a e] at ha
      rcases hR.2.2.2 a ha i d hd with h | h
      · refine Or.inl ?_
        rw [kd_n d (fun q => by rw [q] at h; exact h hb)]
        exact h
      · exact Or.inr h
theorem gRep.lt {ad : Nat → Nat} {H : Heap} (hR : gRep X ad M H) : ∀ a, gkd M a ≠ 0 → ad a < H.size := by
  intro a ha
  obtain ⟨-, -, hc⟩ := hR.1 a ha
  unfold gCell at hc
  by_cases hk : gkd M a < 32
  · rw [if_pos hk] at hc
    obtain ⟨r, h1, cell, h2, -⟩ := hc
    exact (Array.getElem?_eq_some_iff.mp h2).1
  · rw [if_neg hk] at hc
    exact (Array.getElem?_eq_some_iff.mp hc).1
theorem gT_new {ad : Nat → Nat} {b x : Nat} {v : Value} (h : v ≠ .ref b) : gT (va_up ad b x) v = gT ad v := by
  cases v with
  | ref a => show Value.ref (va_up ad b x a) = Value.ref (ad a); rw [va_up_ne _ _ (fun e => h (by rw [e]))]
  | _ => rfl
theorem gmv_new {ad : Nat → Nat} {b x : Nat} (h : ∀ q ∈ lv, q.2 ≠ .ref b) : gmv (va_up ad b x) lv = gmv ad lv := List.map_congr_left (fun w hw => by rw [gT_new (h w hw)])
theorem gst_new {ad : Nat → Nat} {b x : Nat} (h : ∀ v ∈ st, v ≠ .ref b) : st.map (gT (va_up ad b x)) = st.map (gT ad) := List.map_congr_left (fun w hw => gT_new (h w hw))
theorem gS_new {H0 H H1 : Heap} {locs : List Loc} (hS : va_S (gA X) H0 H locs) (z1 : H1.size = H.size + 1) (o1 : ∀ q : Nat, q < H.size → H1[q]? = H[q]?) : va_S (gA X) H0 H1 locs := ⟨Nat.le_trans hS.1 (by omega), fun x g1 g2 => (o1 x (Nat.lt_of_lt_of_le g1 hS.1)).trans (hS.2.1 x g1 g2), hS.2.2⟩
/-- new C -/
theorem g_new {ix ci b : Nat} {q : vw_C} (hd : decode cc pc = .ok (.new ix, 3)) (hq : vwCl[ci]? = some q) (hcl : Cond.classLink y.cls ix q.1 ∈ gws) (hins : Cond.instantiable q.1 q.2.2 ∈ gws) (hini : Cond.initialized q.1 ∈ gws) (hb : gkd M b = 0) (hb5 : b < 5000) (hbN : N b) (hlv : ∀ q ∈ lv, q.2 ≠ .ref b) (hst : ∀ v ∈ st, v ≠ .ref b) (hb1 : 1 ≤ bc) (hb2 : q.2.2 ≤ bs) (hp : pc + 3 = pc') (k : gW X R Z N y cc nL ret pc' lv (.ref b :: st) (gwN M b (ci + 1) 0) (bc - 1) (bs - q.2.2)) : gW X R Z N y cc nL ret pc lv st M bc bs := by
  subst hp
  intro ad0 ad p e s m args below meth c H locs cells slots ls hF hR hS hN h1 h2 hl
  have hts := hF.2.2.2.2.1
  have hK := hF.2.2.2.2.2.2.2.2.1
  have hKn := hK.1.1 ci q hq
  refine W.newcK hF.1 hF.2.1 hF.2.2.2.1 (hts _ hcl) (hts _ hins) (hts _ hini) rfl hd (by omega) (by omega) hKn.2.1 rfl fun H1 kC hkC e1 z1 o1 => ?_
  have kk := k ad0 (va_up ad b H.size) p e s m args below meth c H1 locs (cells + 1) (slots + q.2.2) ls hF (hR.new (k := ci + 1) (n := 0) hb hb5 (by omega) (hF.2.2.2.2.2.2.2.2.2.1 _ hS.1) ?_ o1 hR.lt) (gS_new hS z1 o1) (fun a ha => by rw [va_up_ne _ _ (fun e => ha (by rw [e]; exact hbN))]; exact hN a ha) (by omega) (by omega) (by rw [gmv_new hlv]; exact hl)
  · have es : (Value.ref b :: st).map (gT (va_up ad b H.size)) = .ref H.size :: st.map (gT ad) := by
      show Value.ref (va_up ad b H.size b) :: st.map (gT (va_up ad b H.size)) = _
      rw [va_up_self, gst_new hst]
    rw [es] at kk
    exact kk
  · unfold gCell
    rw [if_pos (by have := gcl_lt hq; omega), Nat.add_sub_cancel, va_up_self]
    refine ⟨q, hq, (u_born (gTy ci) hts (gcl ci q hq).1 hKn hkC e1 (gcl ci q hq).2.1).to (fun j hj => ?_)⟩
    unfold gFV
    exact gdef (gdefs ci (gcl_lt hq) j (Nat.lt_of_lt_of_le hj (g47 ci q hq))) _
theorem g_new_int {b n : Nat} {x : Int32} (hd : decode cc pc = .ok (.newarray .int, 2)) (harr : Cond.arrayClass .int ∈ gws) (hx : x.toInt = (n : Int)) (hn : n ≤ 60000000) (hb : gkd M b = 0) (hb5 : b < 5000) (hbN : N b) (hlv : ∀ q ∈ lv, q.2 ≠ .ref b) (hst : ∀ v ∈ st, v ≠ .ref b) (hb1 : 1 ≤ bc) (hb2 : n ≤ bs) (hp : pc + 2 = pc') (k : gW X R Z N y cc nL ret pc' lv (.ref b :: st) (gwN M b 32 n) (bc - 1) (bs - n)) : gW X R Z N y cc nL ret pc lv (.int x :: st) M bc bs := by
  subst hp
  intro ad0 ad p e s m args below meth c H locs cells slots ls hF hR hS hN h1 h2 hl
  have hts := hF.2.2.2.2.1
  have hK := hF.2.2.2.2.2.2.2.2.1
  have hnn : x.toNatClampNeg = n := by
    show x.toInt.toNat = n
    omega
  have hx0 : ¬ x < 0 := by
    intro h
    have := Int32.lt_iff_toInt_lt.mp h
    rw [hx] at this
    have e0 : (0 : Int32).toInt = 0 := rfl
    omega
  refine va_newaK (atype := .int) hF.1 hF.2.1 (hts _ harr) rfl hd rfl hx0 hnn (by show n * _ ≤ _; simp only [componentBytes, newarray.typeOf]; omega) (by omega) (by omega) rfl fun H1 cA e1 z1 o1 hAr hNm => ?_
  have ecA : cA = X.2.2.1 0 := Option.some.inj (hNm.symm.trans (hK.1.2 0 _ rfl).2)
  subst ecA
  have kk := k ad0 (va_up ad b H.size) p e s m args below meth c H1 locs (cells + 1) (slots + n) ls hF (hR.new (k := 32) (n := n) hb hb5 (by omega) (hF.2.2.2.2.2.2.2.2.2.1 _ hS.1) ?_ o1 hR.lt) (gS_new hS z1 o1) (fun a ha => by rw [va_up_ne _ _ (fun e => ha (by rw [e]; exact hbN))]; exact hN a ha) (by omega) (by omega) (by rw [gmv_new hlv]; exact hl)
  · have es : (Value.ref b :: st).map (gT (va_up ad b H.size)) = .ref H.size :: st.map (gT ad) := by
      show Value.ref (va_up ad b H.size b) :: st.map (gT (va_up ad b H.size)) = _
      rw [va_up_self, gst_new hst]
    rw [es] at kk
    exact kk
  · unfold gCell
    rw [if_neg (by omega), va_up_self]
    show H1[H.size]? = some (arrV (X.2.2.1 0) n (gEV _ 0 _ _ _))
    rw [e1]
    rfl
theorem g_new_byte {b n : Nat} {x : Int32} (hd : decode cc pc = .ok (.newarray .byte, 2)) (harr : Cond.arrayClass .byte ∈ gws) (hx : x.toInt = (n : Int)) (hn : n ≤ 60000000) (hb : gkd M b = 0) (hb5 : b < 5000) (hbN : N b) (hlv : ∀ q ∈ lv, q.2 ≠ .ref b) (hst : ∀ v ∈ st, v ≠ .ref b) (hb1 : 1 ≤ bc) (hb2 : n ≤ bs) (hp : pc + 2 = pc') (k : gW X R Z N y cc nL ret pc' lv (.ref b :: st) (gwN M b 33 n) (bc - 1) (bs - n)) : gW X R Z N y cc nL ret pc lv (.int x :: st) M bc bs := by
  subst hp
  intro ad0 ad p e s m args below meth c H locs cells slots ls hF hR hS hN h1 h2 hl
  have hts := hF.2.2.2.2.1
  have hK := hF.2.2.2.2.2.2.2.2.1
  have hnn : x.toNatClampNeg = n := by
    show x.toInt.toNat = n
    omega
  have hx0 : ¬ x < 0 := by
    intro h
    have := Int32.lt_iff_toInt_lt.mp h
    rw [hx] at this
    have e0 : (0 : Int32).toInt = 0 := rfl
    omega
  refine va_newaK (atype := .byte) hF.1 hF.2.1 (hts _ harr) rfl hd rfl hx0 hnn (by show n * _ ≤ _; simp only [componentBytes, newarray.typeOf]; omega) (by omega) (by omega) rfl fun H1 cA e1 z1 o1 hAr hNm => ?_
  have ecA : cA = X.2.2.1 1 := Option.some.inj (hNm.symm.trans (hK.1.2 1 _ rfl).2)
  subst ecA
  have kk := k ad0 (va_up ad b H.size) p e s m args below meth c H1 locs (cells + 1) (slots + n) ls hF (hR.new (k := 33) (n := n) hb hb5 (by omega) (hF.2.2.2.2.2.2.2.2.2.1 _ hS.1) ?_ o1 hR.lt) (gS_new hS z1 o1) (fun a ha => by rw [va_up_ne _ _ (fun e => ha (by rw [e]; exact hbN))]; exact hN a ha) (by omega) (by omega) (by rw [gmv_new hlv]; exact hl)
  · have es : (Value.ref b :: st).map (gT (va_up ad b H.size)) = .ref H.size :: st.map (gT ad) := by
      show Value.ref (va_up ad b H.size b) :: st.map (gT (va_up ad b H.size)) = _
      rw [va_up_self, gst_new hst]
    rw [es] at kk
    exact kk
  · unfold gCell
    rw [if_neg (by omega), va_up_self]
    show H1[H.size]? = some (arrV (X.2.2.1 1) n (gEV _ 1 _ _ _))
    rw [e1]
    rfl
theorem g_new_char {b n : Nat} {x : Int32} (hd : decode cc pc = .ok (.newarray .char, 2)) (harr : Cond.arrayClass .char ∈ gws) (hx : x.toInt = (n : Int)) (hn : n ≤ 60000000) (hb : gkd M b = 0) (hb5 : b < 5000) (hbN : N b) (hlv : ∀ q ∈ lv, q.2 ≠ .ref b) (hst : ∀ v ∈ st, v ≠ .ref b) (hb1 : 1 ≤ bc) (hb2 : n ≤ bs) (hp : pc + 2 = pc') (k : gW X R Z N y cc nL ret pc' lv (.ref b :: st) (gwN M b 34 n) (bc - 1) (bs - n)) : gW X R Z N y cc nL ret pc lv (.int x :: st) M bc bs := by
  subst hp
  intro ad0 ad p e s m args below meth c H locs cells slots ls hF hR hS hN h1 h2 hl
  have hts := hF.2.2.2.2.1
  have hK := hF.2.2.2.2.2.2.2.2.1
  have hnn : x.toNatClampNeg = n := by
    show x.toInt.toNat = n
    omega
  have hx0 : ¬ x < 0 := by
    intro h
    have := Int32.lt_iff_toInt_lt.mp h
    rw [hx] at this
    have e0 : (0 : Int32).toInt = 0 := rfl
    omega
  refine va_newaK (atype := .char) hF.1 hF.2.1 (hts _ harr) rfl hd rfl hx0 hnn (by show n * _ ≤ _; simp only [componentBytes, newarray.typeOf]; omega) (by omega) (by omega) rfl fun H1 cA e1 z1 o1 hAr hNm => ?_
  have ecA : cA = X.2.2.1 2 := Option.some.inj (hNm.symm.trans (hK.1.2 2 _ rfl).2)
  subst ecA
  have kk := k ad0 (va_up ad b H.size) p e s m args below meth c H1 locs (cells + 1) (slots + n) ls hF (hR.new (k := 34) (n := n) hb hb5 (by omega) (hF.2.2.2.2.2.2.2.2.2.1 _ hS.1) ?_ o1 hR.lt) (gS_new hS z1 o1) (fun a ha => by rw [va_up_ne _ _ (fun e => ha (by rw [e]; exact hbN))]; exact hN a ha) (by omega) (by omega) (by rw [gmv_new hlv]; exact hl)
  · have es : (Value.ref b :: st).map (gT (va_up ad b H.size)) = .ref H.size :: st.map (gT ad) := by
      show Value.ref (va_up ad b H.size b) :: st.map (gT (va_up ad b H.size)) = _
      rw [va_up_self, gst_new hst]
    rw [es] at kk
    exact kk
  · unfold gCell
    rw [if_neg (by omega), va_up_self]
    show H1[H.size]? = some (arrV (X.2.2.1 2) n (gEV _ 2 _ _ _))
    rw [e1]
    rfl
theorem g_new_boolean {b n : Nat} {x : Int32} (hd : decode cc pc = .ok (.newarray .boolean, 2)) (harr : Cond.arrayClass .boolean ∈ gws) (hx : x.toInt = (n : Int)) (hn : n ≤ 60000000) (hb : gkd M b = 0) (hb5 : b < 5000) (hbN : N b) (hlv : ∀ q ∈ lv, q.2 ≠ .ref b) (hst : ∀ v ∈ st, v ≠ .ref b) (hb1 : 1 ≤ bc) (hb2 : n ≤ bs) (hp : pc + 2 = pc') (k : gW X R Z N y cc nL ret pc' lv (.ref b :: st) (gwN M b 35 n) (bc - 1) (bs - n)) : gW X R Z N y cc nL ret pc lv (.int x :: st) M bc bs := by
  subst hp
  intro ad0 ad p e s m args below meth c H locs cells slots ls hF hR hS hN h1 h2 hl
  have hts := hF.2.2.2.2.1
  have hK := hF.2.2.2.2.2.2.2.2.1
  have hnn : x.toNatClampNeg = n := by
    show x.toInt.toNat = n
    omega
  have hx0 : ¬ x < 0 := by
    intro h
    have := Int32.lt_iff_toInt_lt.mp h
    rw [hx] at this
    have e0 : (0 : Int32).toInt = 0 := rfl
    omega
  refine va_newaK (atype := .boolean) hF.1 hF.2.1 (hts _ harr) rfl hd rfl hx0 hnn (by show n * _ ≤ _; simp only [componentBytes, newarray.typeOf]; omega) (by omega) (by omega) rfl fun H1 cA e1 z1 o1 hAr hNm => ?_
  have ecA : cA = X.2.2.1 3 := Option.some.inj (hNm.symm.trans (hK.1.2 3 _ rfl).2)
  subst ecA
  have kk := k ad0 (va_up ad b H.size) p e s m args below meth c H1 locs (cells + 1) (slots + n) ls hF (hR.new (k := 35) (n := n) hb hb5 (by omega) (hF.2.2.2.2.2.2.2.2.2.1 _ hS.1) ?_ o1 hR.lt) (gS_new hS z1 o1) (fun a ha => by rw [va_up_ne _ _ (fun e => ha (by rw [e]; exact hbN))]; exact hN a ha) (by omega) (by omega) (by rw [gmv_new hlv]; exact hl)
  · have es : (Value.ref b :: st).map (gT (va_up ad b H.size)) = .ref H.size :: st.map (gT ad) := by
      show Value.ref (va_up ad b H.size b) :: st.map (gT (va_up ad b H.size)) = _
      rw [va_up_self, gst_new hst]
    rw [es] at kk
    exact kk
  · unfold gCell
    rw [if_neg (by omega), va_up_self]
    show H1[H.size]? = some (arrV (X.2.2.1 3) n (gEV _ 3 _ _ _))
    rw [e1]
    rfl
theorem g_new_long {b n : Nat} {x : Int32} (hd : decode cc pc = .ok (.newarray .long, 2)) (harr : Cond.arrayClass .long ∈ gws) (hx : x.toInt = (n : Int)) (hn : n ≤ 60000000) (hb : gkd M b = 0) (hb5 : b < 5000) (hbN : N b) (hlv : ∀ q ∈ lv, q.2 ≠ .ref b) (hst : ∀ v ∈ st, v ≠ .ref b) (hb1 : 1 ≤ bc) (hb2 : n ≤ bs) (hp : pc + 2 = pc') (k : gW X R Z N y cc nL ret pc' lv (.ref b :: st) (gwN M b 36 n) (bc - 1) (bs - n)) : gW X R Z N y cc nL ret pc lv (.int x :: st) M bc bs := by
  subst hp
  intro ad0 ad p e s m args below meth c H locs cells slots ls hF hR hS hN h1 h2 hl
  have hts := hF.2.2.2.2.1
  have hK := hF.2.2.2.2.2.2.2.2.1
  have hnn : x.toNatClampNeg = n := by
    show x.toInt.toNat = n
    omega
  have hx0 : ¬ x < 0 := by
    intro h
    have := Int32.lt_iff_toInt_lt.mp h
    rw [hx] at this
    have e0 : (0 : Int32).toInt = 0 := rfl
    omega
  refine va_newaK (atype := .long) hF.1 hF.2.1 (hts _ harr) rfl hd rfl hx0 hnn (by show n * _ ≤ _; simp only [componentBytes, newarray.typeOf]; omega) (by omega) (by omega) rfl fun H1 cA e1 z1 o1 hAr hNm => ?_
  have ecA : cA = X.2.2.1 4 := Option.some.inj (hNm.symm.trans (hK.1.2 4 _ rfl).2)
  subst ecA
  have kk := k ad0 (va_up ad b H.size) p e s m args below meth c H1 locs (cells + 1) (slots + n) ls hF (hR.new (k := 36) (n := n) hb hb5 (by omega) (hF.2.2.2.2.2.2.2.2.2.1 _ hS.1) ?_ o1 hR.lt) (gS_new hS z1 o1) (fun a ha => by rw [va_up_ne _ _ (fun e => ha (by rw [e]; exact hbN))]; exact hN a ha) (by omega) (by omega) (by rw [gmv_new hlv]; exact hl)
  · have es : (Value.ref b :: st).map (gT (va_up ad b H.size)) = .ref H.size :: st.map (gT ad) := by
      show Value.ref (va_up ad b H.size b) :: st.map (gT (va_up ad b H.size)) = _
      rw [va_up_self, gst_new hst]
    rw [es] at kk
    exact kk
  · unfold gCell
    rw [if_neg (by omega), va_up_self]
    show H1[H.size]? = some (arrV (X.2.2.1 4) n (gEV _ 4 _ _ _))
    rw [e1]
    rfl
theorem g_anew5 {ix b n : Nat} {x : Int32} (hd : decode cc pc = .ok (.anewarray ix, 3)) (hcl : Cond.classLink y.cls ix "GuiltyShave$Law" ∈ gws) (hov : ∀ U, X.2.2.2.2.2 U → va_AO "GuiltyShave$Law" U) (hx : x.toInt = (n : Int)) (hn : n ≤ 60000000) (hb : gkd M b = 0) (hb5 : b < 5000) (hbN : N b) (hlv : ∀ q ∈ lv, q.2 ≠ .ref b) (hst : ∀ v ∈ st, v ≠ .ref b) (hb1 : 1 ≤ bc) (hb2 : n ≤ bs) (hp : pc + 3 = pc') (k : gW X R Z N y cc nL ret pc' lv (.ref b :: st) (gwN M b 37 n) (bc - 1) (bs - n)) : gW X R Z N y cc nL ret pc lv (.int x :: st) M bc bs := by
  subst hp
  intro ad0 ad p e s m args below meth c H locs cells slots ls hF hR hS hN h1 h2 hl
  have hts := hF.2.2.2.2.1
  have hK := hF.2.2.2.2.2.2.2.2.1
  have hnn : x.toNatClampNeg = n := by
    show x.toInt.toNat = n
    omega
  have hx0 : ¬ x < 0 := by
    intro h
    have := Int32.lt_iff_toInt_lt.mp h
    rw [hx] at this
    have e0 : (0 : Int32).toInt = 0 := rfl
    omega
  refine W.anew hF.1 hF.2.1 hF.2.2.2.1 (hts _ hcl) (va_AO.use (hov s hK.2)) rfl hd rfl hx0 (by omega) (by omega) (by omega) fun cA kA comp f1 f2 f3 f4 => ?_
  have ecA : cA = X.2.2.1 5 := by
    obtain ⟨kA2, comp2, -, -, -, h4⟩ := (hK.1.2 5 _ rfl).2
    exact Option.some.inj (f1.symm.trans h4)
  subst ecA
  rw [hnn]
  generalize hH1 : H.push ({ cls := X.2.2.1 5, slots := Array.replicate n .null, vm := .none } : Cell) = H1
  have z1 : H1.size = H.size + 1 := by rw [← hH1, Array.size_push]
  have e1 : H1[H.size]? = some (arrV (X.2.2.1 5) n (fun _ => .null)) := by rw [← hH1, Array.getElem?_push_size, ← arrV_new]
  have o1 : ∀ q : Nat, q < H.size → H1[q]? = H[q]? := fun q hq => by rw [← hH1, Array.getElem?_push, if_neg (Nat.ne_of_lt hq)]
  have kk := k ad0 (va_up ad b H.size) p e s m args below meth c H1 locs (cells + 1) (slots + n) ls hF (hR.new (k := 37) (n := n) hb hb5 (by omega) (hF.2.2.2.2.2.2.2.2.2.1 _ hS.1) ?_ o1 hR.lt) (gS_new hS z1 o1) (fun a ha => by rw [va_up_ne _ _ (fun e => ha (by rw [e]; exact hbN))]; exact hN a ha) (by omega) (by omega) (by rw [gmv_new hlv]; exact hl)
  · have es : (Value.ref b :: st).map (gT (va_up ad b H.size)) = .ref H.size :: st.map (gT ad) := by
      show Value.ref (va_up ad b H.size b) :: st.map (gT (va_up ad b H.size)) = _
      rw [va_up_self, gst_new hst]
    rw [es] at kk
    exact kk
  · unfold gCell
    rw [if_neg (by omega), va_up_self]
    show H1[H.size]? = some (arrV (X.2.2.1 5) n (gEV _ 5 _ _ _))
    rw [e1]
    rfl
theorem g_aast5 {a n i b : Nat} {x : Int32} (hd : decode cc pc = .ok (.aastore, 1)) (hk : gkd M a = 37) (hn : gln M a = n) (hx : x.toInt = (i : Int)) (hi : i < n) (hkb : gkd M b = 3) (hp : pc + 1 = pc') (k : gW X R Z N y cc nL ret pc' lv st (gwR M a i (some b)) bc bs) : gW X R Z N y cc nL ret pc lv (.ref b :: .int x :: .ref a :: st) M bc bs := by
  subst hp
  intro ad0 ad p e s m args below meth c H locs cells slots ls hF hR hS hN h1 h2 hl
  have hK := hF.2.2.2.2.2.2.2.2.1
  obtain ⟨hA, hc⟩ := g_arr (j := 5) hR hk hn
  obtain ⟨hin, ei⟩ := g_ix hx hi
  obtain ⟨-, cellV, g1, g2, g3, -⟩ := g_obj (s := s) (ci := 2) (q := (RX2, TX2, vwCl[2].2.2)) rfl hR hkb
  have hcls := (hK.1.1 2 _ rfl).2
  obtain ⟨kA, comp, k1, k2, k3, -⟩ := (hK.1.2 5 _ rfl).2
  have hcomp : comp = X.2.1.1 2 := Option.some.inj (k3.symm.trans hcls.1)
  subst hcomp
  obtain ⟨kC, hkC, -⟩ := id hcls.2
  refine W.aast hF.1 hF.2.1 hc (fun q h => by cases h) (fun h => by cases h) k1 k2 rfl hkC ⟨fun h => hin (Or.inl h), by rw [arrV_size, ei]; exact hi⟩ g1 (fun q h => by rw [g3] at h; cases h) (by rw [g2]; exact hkC) (by rw [g2]; exact va_assign hcls) rfl rfl hd fun H' e1 e2 e3 => ?_
  refine k ad0 ad p e s m args below meth c H' _ cells slots ls hF (hR.upd (gEx_R M a i (some b)) (by omega) ?_ e3 (gClo_R hR.2.2.2 (Or.inl (by omega)))) (hS.put e2 e3 hA) hN h1 h2 hl
  rw [hk, hn]
  unfold gCell
  rw [if_neg (by omega)]
  show H'[ad a]? = some (arrV (X.2.2.1 5) n (gEV ad 5 _ _ _))
  rw [e1, ei, arrV_store]
  refine congrArg (fun f => some (arrV _ n f)) (funext fun t => ?_)
  have eu : gmr (gwR M a i (some b)) a = va_up (gmr M a) i (some b) := va_up_self _ _ _
  rw [eu]
  by_cases ht : t = i
  · subst ht
    simp [updV, gEV, va_up, va_re, va_rf]
  · simp [updV, gEV, va_up, ht]
    try rfl
theorem g_anew6 {ix b n : Nat} {x : Int32} (hd : decode cc pc = .ok (.anewarray ix, 3)) (hcl : Cond.classLink y.cls ix "GuiltyShave$Week" ∈ gws) (hov : ∀ U, X.2.2.2.2.2 U → va_AO "GuiltyShave$Week" U) (hx : x.toInt = (n : Int)) (hn : n ≤ 60000000) (hb : gkd M b = 0) (hb5 : b < 5000) (hbN : N b) (hlv : ∀ q ∈ lv, q.2 ≠ .ref b) (hst : ∀ v ∈ st, v ≠ .ref b) (hb1 : 1 ≤ bc) (hb2 : n ≤ bs) (hp : pc + 3 = pc') (k : gW X R Z N y cc nL ret pc' lv (.ref b :: st) (gwN M b 38 n) (bc - 1) (bs - n)) : gW X R Z N y cc nL ret pc lv (.int x :: st) M bc bs := by
  subst hp
  intro ad0 ad p e s m args below meth c H locs cells slots ls hF hR hS hN h1 h2 hl
  have hts := hF.2.2.2.2.1
  have hK := hF.2.2.2.2.2.2.2.2.1
  have hnn : x.toNatClampNeg = n := by
    show x.toInt.toNat = n
    omega
  have hx0 : ¬ x < 0 := by
    intro h
    have := Int32.lt_iff_toInt_lt.mp h
    rw [hx] at this
    have e0 : (0 : Int32).toInt = 0 := rfl
    omega
  refine W.anew hF.1 hF.2.1 hF.2.2.2.1 (hts _ hcl) (va_AO.use (hov s hK.2)) rfl hd rfl hx0 (by omega) (by omega) (by omega) fun cA kA comp f1 f2 f3 f4 => ?_
  have ecA : cA = X.2.2.1 6 := by
    obtain ⟨kA2, comp2, -, -, -, h4⟩ := (hK.1.2 6 _ rfl).2
    exact Option.some.inj (f1.symm.trans h4)
  subst ecA
  rw [hnn]
  generalize hH1 : H.push ({ cls := X.2.2.1 6, slots := Array.replicate n .null, vm := .none } : Cell) = H1
  have z1 : H1.size = H.size + 1 := by rw [← hH1, Array.size_push]
  have e1 : H1[H.size]? = some (arrV (X.2.2.1 6) n (fun _ => .null)) := by rw [← hH1, Array.getElem?_push_size, ← arrV_new]
  have o1 : ∀ q : Nat, q < H.size → H1[q]? = H[q]? := fun q hq => by rw [← hH1, Array.getElem?_push, if_neg (Nat.ne_of_lt hq)]
  have kk := k ad0 (va_up ad b H.size) p e s m args below meth c H1 locs (cells + 1) (slots + n) ls hF (hR.new (k := 38) (n := n) hb hb5 (by omega) (hF.2.2.2.2.2.2.2.2.2.1 _ hS.1) ?_ o1 hR.lt) (gS_new hS z1 o1) (fun a ha => by rw [va_up_ne _ _ (fun e => ha (by rw [e]; exact hbN))]; exact hN a ha) (by omega) (by omega) (by rw [gmv_new hlv]; exact hl)
  · have es : (Value.ref b :: st).map (gT (va_up ad b H.size)) = .ref H.size :: st.map (gT ad) := by
      show Value.ref (va_up ad b H.size b) :: st.map (gT (va_up ad b H.size)) = _
      rw [va_up_self, gst_new hst]
    rw [es] at kk
    exact kk
  · unfold gCell
    rw [if_neg (by omega), va_up_self]
    show H1[H.size]? = some (arrV (X.2.2.1 6) n (gEV _ 6 _ _ _))
    rw [e1]
    rfl
theorem g_aast6 {a n i b : Nat} {x : Int32} (hd : decode cc pc = .ok (.aastore, 1)) (hk : gkd M a = 38) (hn : gln M a = n) (hx : x.toInt = (i : Int)) (hi : i < n) (hkb : gkd M b = 10) (hp : pc + 1 = pc') (k : gW X R Z N y cc nL ret pc' lv st (gwR M a i (some b)) bc bs) : gW X R Z N y cc nL ret pc lv (.ref b :: .int x :: .ref a :: st) M bc bs := by
  subst hp
  intro ad0 ad p e s m args below meth c H locs cells slots ls hF hR hS hN h1 h2 hl
  have hK := hF.2.2.2.2.2.2.2.2.1
  obtain ⟨hA, hc⟩ := g_arr (j := 6) hR hk hn
  obtain ⟨hin, ei⟩ := g_ix hx hi
  obtain ⟨-, cellV, g1, g2, g3, -⟩ := g_obj (s := s) (ci := 9) (q := (RX9, TX9, vwCl[9].2.2)) rfl hR hkb
  have hcls := (hK.1.1 9 _ rfl).2
  obtain ⟨kA, comp, k1, k2, k3, -⟩ := (hK.1.2 6 _ rfl).2
  have hcomp : comp = X.2.1.1 9 := Option.some.inj (k3.symm.trans hcls.1)
  subst hcomp
  obtain ⟨kC, hkC, -⟩ := id hcls.2
  refine W.aast hF.1 hF.2.1 hc (fun q h => by cases h) (fun h => by cases h) k1 k2 rfl hkC ⟨fun h => hin (Or.inl h), by rw [arrV_size, ei]; exact hi⟩ g1 (fun q h => by rw [g3] at h; cases h) (by rw [g2]; exact hkC) (by rw [g2]; exact va_assign hcls) rfl rfl hd fun H' e1 e2 e3 => ?_
  refine k ad0 ad p e s m args below meth c H' _ cells slots ls hF (hR.upd (gEx_R M a i (some b)) (by omega) ?_ e3 (gClo_R hR.2.2.2 (Or.inl (by omega)))) (hS.put e2 e3 hA) hN h1 h2 hl
  rw [hk, hn]
  unfold gCell
  rw [if_neg (by omega)]
  show H'[ad a]? = some (arrV (X.2.2.1 6) n (gEV ad 6 _ _ _))
  rw [e1, ei, arrV_store]
  refine congrArg (fun f => some (arrV _ n f)) (funext fun t => ?_)
  have eu : gmr (gwR M a i (some b)) a = va_up (gmr M a) i (some b) := va_up_self _ _ _
  rw [eu]
  by_cases ht : t = i
  · subst ht
    simp [updV, gEV, va_up, va_re, va_rf]
  · simp [updV, gEV, va_up, ht]
    try rfl
end GW2
