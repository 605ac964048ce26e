/-! THE CLAIM OUT OF ONE WALK OF THE LAW'S BODY. Your part is whole_start (and what it stands on); all else here is the same for every law, but numbers. -/
/-- the law's own end, with 1 on the stack, nothing written that was there before, its room as the claim has it -/
theorem lw_retG {p : Program} {l : Launch} {e : Env} {s : State} {m : MethodId} {below : List Frame} {meth : Method} {c : Code} {args : Array Value} (hx : p.tables.exec = Jvm.exec) (hb : c.code = code) (hr : meth.sig.returnType = ret) (hlocks : meth.locks = false) {pc : Nat} {H : Heap} {ls : Array Slot} (hdg : decode code pc = .ok (.ireturn, 1)) : W p l e room_1 s m args below meth c H [] 601024 7293034 (lw_Z below args s) (F0 m pc ls [.int 1]) := by
  intro T hT X
  obtain ⟨fs, hret, hrun, hended, hW, hframe⟩ := X.leave (v := some (.int 1)) (hlocks := hlocks) (fun h => by rw [hr] at h; cases h)
  have hmeth' : T.vm.method? m = some meth := X.method'
  refine ⟨T.setFrames fs, ?_, .returned (some (.int 1)), hrun, hended, rfl, ⟨_, rfl⟩, hW, hframe⟩
  jvm_step X.here [X.here.top, hx, hb, hdg, hmeth', hr, ret, narrow_b1]
  (try refine ⟨rfl, ?_⟩); (try refine ⟨rfl, ?_⟩)
  first | (intro acts; rw [hret _ acts rfl rfl rfl]) | rw [hret _ _ rfl rfl rfl]
  exact Steps.refl _
/-- what holds at the law's entry: the machine, the code, the tables' words (any of lw_tbl by 'hts w (by decide +kernel)'), the script of L ints xs at the cell b, what the Statement gives of the start (any of its parts by flat_of_before) -/
def lw_At2 (p : Program) (s : State) (m : MethodId) (meth : Method) (c : Code) (b L : Nat) (xs : Nat → Int32) : Prop :=
  p.tables.exec = Jvm.exec ∧ c.code = code ∧ meth.sig.returnType = ret ∧ c.maxLocals = 7 ∧ s.vm.findClass R_law = some m.cls ∧ (∀ w ∈ lw_tbl, w.before #[Value.ref b] s = true) ∧ va_X b L xs s s.heap ∧ b < s.heap.size ∧ meth.locks = false ∧ (Jvm.Cond.and given_1 narrow_1).before #[Value.ref b] s = true ∧ meth.name = x.name

def adrF (r0 r1 r2 r3 r4 b : Nat) (adK adV : Nat → Nat) (a : Nat) : Nat := if a = 5000 then r0 else if a = 5001 then r1 else if a = 5002 then r2 else if a = 5003 then r3 else if a = 5004 then r4 else if a = 5030 then b else if a < 5020 then adK (a - 5010) else adV (a - 5020)
theorem adrF_K {r0 r1 r2 r3 r4 b i : Nat} {adK adV : Nat → Nat} (hi : i < 8) : adrF r0 r1 r2 r3 r4 b adK adV (5010 + i) = adK i := by
  unfold adrF
  rw [if_neg (by omega), if_neg (by omega), if_neg (by omega), if_neg (by omega), if_neg (by omega), if_neg (by omega), if_pos (by omega), show 5010 + i - 5010 = i by omega]
theorem adrF_V {r0 r1 r2 r3 r4 b i : Nat} {adK adV : Nat → Nat} (hi : i < 8) : adrF r0 r1 r2 r3 r4 b adK adV (5020 + i) = adV i := by
  unfold adrF
  rw [if_neg (by omega), if_neg (by omega), if_neg (by omega), if_neg (by omega), if_neg (by omega), if_neg (by omega), if_neg (by omega), show 5020 + i - 5020 = i by omega]
theorem e_strs {args : Array Value} {s : State} (htb : ∀ w ∈ tables_1, w.before args s = true) (hfl : ∀ w ∈ fl, w.before args s = true) {ad : Nat → Nat} (hev : ∀ i : Nat, i < 8 → (tmS i).eval args s none [] s = some (.ref (ad i))) : ∀ q ∈ sOwn, vk_R q.1 q.2.1 q.2.2.1 (ad q.2.2.2) s := by
  intro q hq
  refine vk_R.of (htb _ (m_sr q hq)) ?_
  have h92 := hev 2 (by decide)
  have h46 := hev 3 (by decide)
  have e1 := va_eqR (hfl _ m_e1.1) h92
  have e2 := va_eqR (hfl _ m_e1.2) h46
  simp only [sOwn, List.mem_cons, List.not_mem_nil, or_false] at hq
  rcases hq with h | h | h | h | h | h | h | h | h | h <;> subst h
  · exact hev 0 (by decide)
  · exact hev 1 (by decide)
  · exact h92
  · exact h46
  · exact hev 4 (by decide)
  · exact e1
  · exact hev 5 (by decide)
  · exact hev 6 (by decide)
  · exact hev 7 (by decide)
  · exact e2
/-- the law comes to its end with true -/
theorem whole_start {p : Program} {e : Env} {s : State} {m : MethodId} {below : List Frame} {meth : Method} {c : Code} (l : Launch) (hflags : l.flags = flags0) {b L : Nat} {xs : Nat → Int32} (hL : L ≤ 3072) (C0 : lw_At2 p s m meth c b L xs) : W p l e room_1 s m #[Value.ref b] below meth c s.heap [] 0 0 (lw_Z below #[Value.ref b] s) (entryFrame m ([Value.ref b] : List Value).toArray 7) := by
  obtain ⟨hx0, hcode, hret, hml, hown, hts, hX, hbl, hlocks, hgv, hname⟩ := C0
  have htg : ∀ w ∈ gws, w.before #[Value.ref b] s = true := fun w hw => hts w (List.mem_filter.mp hw).1
  have htb : ∀ w ∈ tables_1, w.before #[Value.ref b] s = true := fun w hw => hts w (List.mem_append_right _ hw)
  have hfl : ∀ w ∈ fl, w.before #[Value.ref b] s = true := flat_of_before _ hgv
  obtain ⟨D, hD⟩ := e_kn htg
  have hA : ∀ a : Nat, a < s.heap.size → ¬ (fun q : Nat => s.heap.size ≤ q) a := fun a h z => by have z : s.heap.size ≤ a := z; omega
  have w0 := m_rw _ (List.mem_cons_self)
  have w1 := m_rw _ (List.mem_cons_of_mem _ List.mem_cons_self)
  have w2 := m_rw _ (List.mem_cons_of_mem _ (List.mem_cons_of_mem _ List.mem_cons_self))
  have w3 := m_rw _ (List.mem_cons_of_mem _ (List.mem_cons_of_mem _ (List.mem_cons_of_mem _ List.mem_cons_self)))
  obtain ⟨s1, s2, s3, s4, s5, s6, s7, s8⟩ := m_st
  obtain ⟨i1, i2, i3, i4, i5⟩ := m_in
  obtain ⟨g1, g2, g3, g4⟩ := m_fl
  obtain ⟨o1, o2, o3, o4⟩ := m_ao
  obtain ⟨r0, z0', t0'⟩ := e_row (n := 9) (by decide) (hfl _ w0.1) (hfl _ w0.2.1) (fun j hj => hfl _ (w0.2.2 j hj)) (htb _ s1) (htb _ i1) hA
  obtain ⟨r1, z1', t1'⟩ := e_row (n := 9) (by decide) (hfl _ w1.1) (hfl _ w1.2.1) (fun j hj => hfl _ (w1.2.2 j hj)) (htb _ s2) (htb _ i1) hA
  obtain ⟨r2, z2', t2'⟩ := e_row (n := 9) (by decide) (hfl _ w2.1) (hfl _ w2.2.1) (fun j hj => hfl _ (w2.2.2 j hj)) (htb _ s3) (htb _ i1) hA
  obtain ⟨r3, z3', t3'⟩ := e_row (n := 10) (by decide) (hfl _ w3.1) (hfl _ w3.2.1) (fun j hj => hfl _ (w3.2.2 j hj)) (htb _ s4) (htb _ i2) hA
  have zc := va_Zof (htb _ s5) (htb _ i3) (va_eqt (hfl _ g1)) hA
  have zs := (vx_Zqof (htb _ s6) (htb _ i4) (hfl _ g2) hA).1
  have zu := vx_Zqof (htb _ s7) (htb _ i5) (hfl _ g3) hA
  have zn := vx_Zqof (htb _ s8) (htb _ i5) (hfl _ g4) hA
  obtain ⟨adK, adV, hS8, hev⟩ := vk_Sof (tm := tmS) (len := sLen) (byt := sByt) m_len (fun i hi => hfl _ (m_ex i hi)) (fun i hi => hfl _ (m_co i hi)) (fun i hi => hfl _ (m_ar i hi)) (fun i hi => hfl _ (m_le i hi)) (fun i hi j hj => hfl _ (m_el i hi j hj)) (fun i j hi hj hij => (m_ne i hi j hj hij).elim (fun h => Or.inl (hfl _ h)) (fun h => Or.inr (hfl _ h))) hA
  have zs2 : ∃ r4 : Nat, va_Z "jdk/internal/util/Preconditions" "SIOOBE_FORMATTER" "Ljava/util/function/BiFunction;" .null (fun q : Nat => s.heap.size ≤ q) s s.heap ∨ va_Z "jdk/internal/util/Preconditions" "SIOOBE_FORMATTER" "Ljava/util/function/BiFunction;" (.ref r4) (fun q : Nat => s.heap.size ≤ q) s s.heap := by
    rcases zs with h | ⟨t, h⟩
    · exact ⟨0, Or.inl h⟩
    · exact ⟨t, Or.inr h⟩
  obtain ⟨r4, zs3⟩ := zs2
  have aoL : va_AO "GuiltyShave$Law" s := va_AO.of (htb _ o1)
  have aoW : va_AO "GuiltyShave$Week" s := va_AO.of (htb _ o2)
  have aoA : gAOA s := htb _ o3
  obtain ⟨k0', a0', f0'⟩ := e_arr (htg _ la_int)
  obtain ⟨k1', a1', f1'⟩ := e_arr (htg _ la_byte)
  obtain ⟨k2', a2', f2'⟩ := e_arr (htg _ la_char)
  obtain ⟨k3', a3', f3'⟩ := e_arr (htg _ la_boolean)
  obtain ⟨k4', a4', f4'⟩ := e_arr (htg _ la_long)
  obtain ⟨k5', a5', f5'⟩ := e_obj aoL
  obtain ⟨k6', a6', f6'⟩ := e_obj aoW
  obtain ⟨k7', a7', f7'⟩ := e_aa aoA
  have hR8 := e_strs htb hfl hev
  obtain ⟨scr, x1, x2, x3, x4, x5⟩ := hX
  have hTs : va_T .int b L (fun j => .int (xs j)) (fun q : Nat => s.heap.size ≤ q) s s.heap := ⟨scr, x1, x2, x3, Nat.le_of_eq x4.symm, by rw [x4], x5, hA b hbl⟩
  have hFx : FxP (l, D, (fun k => [k0', k1', k2', k3', k4', k5', k6', k7'].getD k 0), s.heap.size, adrF r0 r1 r2 r3 r4 b adK adV, fun _ => True) L xs s := by
    refine ⟨⟨⟨z0', t0'⟩, ⟨z1', t1'⟩, ⟨z2', t2'⟩, ⟨z3', t3'⟩, zc, zs3, ⟨fun i hi => ?_, fun i j hi hj he => ?_⟩, fun q hq => ?_⟩, ⟨fun q hq => va_Nw.of rfl (htb _ (m_nw q hq)), aoL, aoW⟩, aoA, ⟨fun w hw => ?_, zu, zn⟩, hTs⟩
    · show va_O "java/lang/String" (adrF r0 r1 r2 r3 r4 b adK adV (5010 + i)) _ _ _ ∧ va_OF _ _ _ _ (adrF r0 r1 r2 r3 r4 b adK adV (5010 + i)) _ _ _ ∧ va_OF _ _ _ (.ref (adrF r0 r1 r2 r3 r4 b adK adV (5020 + i))) (adrF r0 r1 r2 r3 r4 b adK adV (5010 + i)) _ _ _ ∧ va_T _ (adrF r0 r1 r2 r3 r4 b adK adV (5020 + i)) _ _ _ _ _
      rw [adrF_K hi, adrF_V hi]
      exact hS8.1 i hi
    · have he : adrF r0 r1 r2 r3 r4 b adK adV (5010 + i) = adrF r0 r1 r2 r3 r4 b adK adV (5010 + j) := he
      rw [adrF_K hi, adrF_K hj] at he
      exact hS8.2 i j hi hj he
    · have hi : q.2.2.2 < 8 := by
        have : ∀ q ∈ sOwn, q.2.2.2 < 8 := by decide
        exact this q hq
      show vk_R q.1 q.2.1 q.2.2.1 (adrF r0 r1 r2 r3 r4 b adK adV (5010 + q.2.2.2)) s
      rw [adrF_K hi]
      exact hR8 q hq
    · rcases List.mem_cons.mp hw with h | h
      · rw [h]; exact va_Nw.of rfl (htb _ o4)
      · exact va_Nw.of (dc_on (ng_dc w hw)) (htb _ (at_in w (List.mem_filter.mp h).1))
  have hK : gK (mkX l D (fun k => [k0', k1', k2', k3', k4', k5', k6', k7'].getD k 0) s.heap.size (adrF r0 r1 r2 r3 r4 b adK adV) L xs) s := by
    refine ⟨⟨hD, fun k q hq => ?_⟩, hFx⟩
    match k, hq with
    | 0, hq => cases hq; exact ⟨a0', f0'⟩
    | 1, hq => cases hq; exact ⟨a1', f1'⟩
    | 2, hq => cases hq; exact ⟨a2', f2'⟩
    | 3, hq => cases hq; exact ⟨a3', f3'⟩
    | 4, hq => cases hq; exact ⟨a4', f4'⟩
    | 5, hq => cases hq; exact ⟨a5', f5'⟩
    | 6, hq => cases hq; exact ⟨a6', f6'⟩
    | 7, hq => cases hq; exact ⟨a7', f7'⟩
    | n + 8, hq => simp [gtys] at hq
  generalize hXe : mkX l D (fun k => [k0', k1', k2', k3', k4', k5', k6', k7'].getD k 0) s.heap.size (adrF r0 r1 r2 r3 r4 b adK adV) L xs = X at hK
  have hXl : X.1 = l := by rw [← hXe]; rfl
  have hXa : X.2.2.2.2.1 = adrF r0 r1 r2 r3 r4 b adK adV := by rw [← hXe]; rfl
  have hXg : ∀ q, gA X q → s.heap.size ≤ q := fun q h => by rw [← hXe] at h; exact h
  have hXh : ∀ q : Nat, s.heap.size ≤ q → gA X q := fun q h => by rw [← hXe]; exact h
  have hok : gXok X := by rw [← hXe]; exact mkX_ok _ _ _ _ _ _ _
  have hXst : gSt X := by rw [← hXe]; exact mkX_st
  have hXnw : gNw X := by rw [← hXe]; exact mkX_nw
  have hXao : ∀ U, X.2.2.2.2.2 U → gAOA U := by rw [← hXe]; exact mkX_ao
  have hXth : gTh X := by rw [← hXe]; exact mkX_th (no_tr hflags)
  have hXsc : gSc X L xs := by rw [← hXe]; exact mkX_sc
  clear hXe
  have he : ∀ (i bc bs : Nat) (M : gM), gW X room_1 (fun _ b' a' s' t => s' = s → lw_Z b' a' s' t) gNt yL_law cL_law 7 (some .boolean) 1590 (lvL i) [.int 1] M bc bs := by
    intro i bc bs M ad0 ad p' e' s' m' args' below' meth' c' H locs cells slots ls hF hR hS hN h1 h2 hl T hT Xs
    by_cases hs : s' = s
    · have hc9 : cells + bc ≤ 601024 := h1
      have hs9 : slots + bs ≤ 7293034 := h2
      obtain ⟨t, a1, b1⟩ := va_forget (fun q hq => by rw [hs]; exact hXg _ (hS.2.2 q hq)) (W.widen (k := 601024) (n := 7293034) (by omega) (by omega) (lw_retG hF.1 hF.2.1 hF.2.2.2.2.2.2.1 hF.2.2.2.2.2.1 dL_law_1590)) T hT Xs
      exact ⟨t, a1, fun _ => b1⟩
    · exact ⟨_, Steps.refl _, fun h => absurd h hs⟩
  have kk := law_start hok hXst hXnw hXao hXth hXsc hL (R := room_1) ⟨by decide, by decide⟩ he
  have hF : gF X yL_law cL_law 7 (some .boolean) p s m #[Value.ref b] meth c := ⟨hx0, hcode, hml, hown, htg, hlocks, hret, hname, hK, hXh, hok⟩
  have hl := lv_entry ([Value.ref b]) (n := 7) (Nat.le_of_ble_eq_true rfl)
  rw [lg_entry_eq]
  have hRep : gRep X (adrF r0 r1 r2 r3 r4 b adK adV) z0 s.heap := ⟨fun a h => absurd rfl h, fun a b h => absurd rfl h, fun a _ => by rw [hXa], fun a h => absurd rfl h⟩
  have k2 := kk (adrF r0 r1 r2 r3 r4 b adK adV) (adrF r0 r1 r2 r3 r4 b adK adV) p e s m _ below meth c s.heap [] 0 0 _ hF hRep va_S.rf (fun _ _ => rfl) (by decide) (by decide) hl
  rw [hXl] at k2
  intro T hT Xs
  obtain ⟨t, a1, b1⟩ := k2 T hT Xs
  exact ⟨t, a1, b1 rfl⟩

set_option maxHeartbeats 4000000 in
theorem lw_walk (l : Launch) (hflags : l.flags = flags0) (b : Addr) (xs : List Int32) : MetFree l x (headSpec (Jvm.Cond.code x code maxLocals ret :: tables_1) room_1) (lw_P b xs) (fun _ _ _ _ _ => True) lw_Q := by
  refine MetFree.of_bodyS (code := code) (maxLocals := maxLocals) (ret := ret) (by decide) ?_ ?_
  · intro args s m h hn
    obtain ⟨meth, c, h1, h2, h3, h4, h5, h6, -, -⟩ := Cond.code_spec hn (atoms_spec (ws := Jvm.Cond.code x code maxLocals ret :: tables_1) h _ List.mem_cons_self)
    exact ⟨meth, c, h1, h2, h3, h4, h5, h6⟩
  · intro p e s m args below meth c s₁ B hml0 hP _
    obtain ⟨rfl, hx, hbd, hgv⟩ := hP
    obtain ⟨scr, harrAt, hlist, hof, hsmall⟩ := hx
    obtain ⟨hcb, hkn, -, -⟩ := State.arrayAt?_spec harrAt
    have hown : s.vm.findClass R_law = some m.cls := findClass_of_methodNamed B.named
    have hts0 : ∀ c ∈ (Jvm.Cond.code x code maxLocals ret :: tables_1), c.before #[Value.ref b] s = true := atoms_spec (ws := Jvm.Cond.code x code maxLocals ret :: tables_1) B.pre
    have hts : ∀ w ∈ lw_tbl, w.before #[Value.ref b] s = true := k2_hts_sels lw_privs (fun w hw => hts0 w (List.mem_cons_of_mem _ hw)) lw_privs_ok
    have hml : c.maxLocals = 7 := B.maxLocals_eq (hts0 _ List.mem_cons_self)
    have X₀ : Stand p l e room_1 s m #[Value.ref b] below meth c s₁ [] 0 0 := Stand.of_body B
    have hh0 : s₁.heap = s.heap := by rw [B.state]; rfl
    have hsz : scr.slots.size = xs.length := by rw [← Array.length_toList, hlist, List.length_map]
    have hval : ∀ j : Nat, j < xs.length → scr.slots[j]? = some (.int (xs.getD j 0)) := fun j hj => by
      rw [← Array.getElem?_toList, hlist]
      simp [hj]
    have hbl : b < s.heap.size := (Array.getElem?_eq_some_iff.mp hcb).1
    have hX : va_X b xs.length (fun j => xs.getD j 0) s s.heap := ⟨scr, hcb, hof, hkn, hsz, hval⟩
    have K : W p l e room_1 s m #[Value.ref b] below meth c s₁.heap [] 0 0 (lw_Z below #[Value.ref b] s) (entryFrame m ([Value.ref b] : List Value).toArray 7) := by
      rw [hh0]
      exact whole_start l hflags hbd ⟨B.exec, B.bytes, B.returns, hml, hown, hts, hX, hbl, B.notSynchronized, hgv, (name_of_methodNamed B.named B.method).1⟩
    obtain ⟨t, a1, o, b1, b2, b3⟩ := K s₁ rfl X₀
    exact ⟨t, o, a1, b1, b2, b3⟩
theorem lw_pre_spec {args : Array Value} {s : State} (h : (Jvm.Cond.and given_1 narrow_1).before args s = true) (hr : rest_1_c.before args s = true) : ∃ (b : Addr) (xs : List Int32), lw_P b xs args s := by
  have hs := flat_of_before _ h
  have hq := flat_of_before _ hr
  have hc : (Cond.count 1).before args s = true := hs _ (by decide +kernel)
  have harr : (Cond.arrayOf (.arg 0) .int).before args s = true := hs _ (by decide +kernel)
  have hle : (Cond.le (.length (.arg 0)) (.int 3072)).before args s = true := hs _ (by decide +kernel)
  have hlen : (Cond.isInt (.length (.arg 0))).before args s = true := hq _ (by decide +kernel)
  have hall : (Cond.all (.arg 0) (.isInt (.elem (.arg 0) (.index 0)))).before args s = true := hq _ (by decide +kernel)
  obtain ⟨b, xs, hb, hx⟩ := State.ints_of_pre rfl harr hlen hall
  have hsm : xs.length < 2 ^ 31 := hx.choose_spec.2.2.2
  have hev : (Term.length (.arg 0)).eval args s none [] s = some (.int xs.length.toInt32) := hx.length_eval hb
  have hv := Cond.le_ints hev (show (Term.int 3072).eval args s none [] s = some (.int 3072) from rfl)
  have hd : xs.length.toInt32 ≤ 3072 := by
    simpa [Cond.before, Cond.holds, hv] using hle
  have hN : xs.length ≤ 3072 := (Int32.ofNat_le_ofNat hsm (by decide)).mp (show Int32.ofNat xs.length ≤ Int32.ofNat 3072 from hd)
  exact ⟨b, xs, Cond.one_arg hc (show args[0]? = some (.ref b) from hb), hx, hN, h⟩
theorem lw_comes (l : Launch) (hflags : l.flags = flags0) : Comes l x (Jvm.Cond.code x code maxLocals ret :: tables_1) room_1 (fun tb e args s => Calls_1 tb e args s ∧ rest_1 tb e args s ∧ Pre_1 tb e args s)
    (fun _ _ args s o t => lw_Q args s o t) := by
  intro p e ha hc hk s m args below hf hfit hheap happ hpre
  obtain ⟨b, xs, hP⟩ := lw_pre_spec hpre.2.2 hpre.2.1
  obtain ⟨k, o, h1, h2, h3, hQ⟩ := lw_walk l hflags b xs p e ha hc hk s m args below hf ((Spec.applies_iff_loose hf).mp happ).1 hP trivial
  exact ⟨k, o, h1, h2, h3, hQ⟩
theorem lw_frame {s t : State} {o : Outcome} {args : Array Value} (h : Framed s o t [] 601024 7293034) :
    Framed s o t (fieldLocs frame_1_writes args s ++ arrayLocs frame_1_arrays args s ++ staticLocs frame_1_statics s) 601024 7293034 := h
theorem lw_limb (L : Cond) (hL : ∀ (args : Array Value) (s t : State), L.after args s (.returned (some (.int 1))) t = true) :
    ArmFor flags0 classFile x code maxLocals ret World_1 tables_1 room_1 Calls_1 rest_1 Pre_1
      (fun tb e a s o t => postC L tb e a s o t ∧ Framed s o t (fieldLocs frame_1_writes a s ++ arrayLocs frame_1_arrays a s ++ staticLocs frame_1_statics s) 601024 7293034) := by
  intro l hflags _ _ p e ha hc hk s m args below hf hfit hheap happ hpre
  obtain ⟨k, o, h1, h2, h3, rfl, hF⟩ := lw_comes l hflags p e ha hc hk s m args below hf hfit hheap happ hpre
  exact ⟨k, _, h1, h2, h3, hL args s _, lw_frame hF⟩
theorem i_vc : Claimed_1_1 ∧ Claimed_1_2 := ⟨lw_limb limb_1_1 (fun args s t => by simp [limb_1_1, Cond.after, Cond.holds, Cond.value]), lw_limb limb_1_2 (fun args s t => Cond.after_iff.mpr (by
  first | (rw [show limb_1_2 = Cond.eq .result (.int 1) from rfl, Cond.eq_ints (x := 1) (y := 1) rfl rfl]; simp; done) | (simp [limb_1_2, Cond.value, Term.eval]; done)))⟩
