section H24
variable {X : gX} {R : Room} {Z : gZt} {N : Nat → Prop} {y : MethodName} {cc : ByteArray} {nL : Nat} {ret : Option FieldType} {pc pc' tgt : Nat} {lv : List (Nat × Value)} {st : List Value} {M : gM} {bc bs d : Nat}
theorem ldcwStr {p : Program} {l : Launch} {e : Env} {R : Room} {s : State} {m : MethodId} {args : Array Value} {below : List Frame} {meth : Method} {c : Code} {T : State} {locs : List Loc} {cells slots : Nat}
    (X : Stand p l e R s m args below meth c T locs cells slots) (hexec : p.tables.exec = Jvm.exec) {own text : String} {index : Nat} {a : Addr} (hown : s.vm.findClass own = some m.cls)
    (hconst : (Cond.stringRef own index text).before args s = true) (hev : (Term.string own index).eval args s none [] s = some (.ref a)) {g : JFrame} (hg : g.method = m) (hdg : decode c.code g.pc = .ok (.ldc_w index, 3)) :
    ∀ target, Steps p.tables e below (T.setTop { g with pc := g.pc + 3, stack := .ref a :: g.stack }) target → Steps p.tables e below (T.setTop g) target := by
  obtain ⟨k, cf, i, a', hk, hcf, hcp, -, hr, hev'⟩ := Cond.stringRef_spec hown hconst
  cases hev.symm.trans hev'
  obtain ⟨k', hk', he⟩ := X.warmed.alike.2.2 _ _ hk
  have hr' : k'.resolved[index]? = some (some (.string a)) := by
    rcases X.warmed.entry hk hk' index with h | ⟨h, -⟩
    · rw [h]; exact hr
    · rw [hr] at h; cases h
  intro target hrest
  subst hg
  jvm_step X.here [hexec, hdg, ldc_w.wp_string (e := e) (s := T) (f := g) X.here.top hk' (by rw [he]; exact hcf) hcp hr']
  exact hrest
theorem g_ldcwS {ix i : Nat} {tx : String} (hd : decode cc pc = .ok (.ldc_w ix, 3)) (hZ : gSt X) (hq : (y.cls, ix, tx, i) ∈ sOwn) (hp : pc + 3 = pc') (k : gW X R Z N y cc nL ret pc' lv (.ref (5010 + i) :: st) M bc bs) : gW X R Z N y cc nL ret pc lv st M bc bs := by
  subst hp
  intro ad0 ad p e s m args below meth c H locs cells slots ls hF hR hS hN h1 h2 hl
  have kk := k ad0 ad p e s m args below meth c H locs cells slots ls hF hR hS hN h1 h2 hl
  have es : (Value.ref (5010 + i) :: st).map (gT ad) = .ref (X.2.2.2.2.1 (5010 + i)) :: st.map (gT ad) := by
    show Value.ref (ad (5010 + i)) :: _ = _
    rw [hR.2.2.1 _ (by omega)]
  rw [es] at kk
  have hZq := (hZ s hF.2.2.2.2.2.2.2.2.1.2).2.2.2.2.2.2.2 _ hq
  intro T hT Y
  obtain ⟨t, a1, b1⟩ := kk T hT Y
  exact ⟨t, ldcwStr Y hF.1 hF.2.2.2.1 (text := tx) (a := X.2.2.2.2.1 (5010 + i)) hZq.1 hZq.2 (g := F0 m pc ls (st.map (gT ad))) rfl (by rw [hF.2.1]; exact hd) t a1, b1⟩
end H24
section H25
variable {X : gX} {M : gM} {d : Nat} {T : Nat → Nat} {L i w : Nat} {S : Nat → Prop}
/-- what a reader changes -/
def kFr (S : Nat → Prop) (M M2 : gM) : Prop := gFr (fun c => c = 100 ∨ S c) M M2 ∧ ∀ j, j ≠ 10 → j ≠ 11 → j ≠ 12 → ¬ S (1000 + j) → gmi M2 100 j = gmi M 100 j
theorem kFr.rf : kFr S M M := ⟨gFr.rf, fun _ _ _ _ _ => rfl⟩
theorem kFr.tr {M1 M2 M3 : gM} (h : kFr S M1 M2) (h2 : kFr S M2 M3) : kFr S M1 M3 := ⟨h.1.tr h2.1, fun j a b c e => (h2.2 j a b c e).trans (h.2 j a b c e)⟩
theorem kFr.mono {S2 : Nat → Prop} {M2 : gM} (h : kFr S M M2) (hs : ∀ c, S c → S2 c) : kFr S2 M M2 := ⟨h.1.mono (fun c q => q.elim Or.inl (fun y => Or.inr (hs c y))), fun j a b c e => h.2 j a b c (fun y => e (hs _ y))⟩
theorem iFr.k {M2 : gM} (h : iFr M M2) : kFr S M M2 := ⟨h.1.mono (fun c q => Or.inl q), fun j a b c _ => h.2 j a b c⟩
theorem kFr.wc {c k : Nat} {v : Int32} (hc : S c) (h1 : c ≠ 100) : kFr S M (gwI M c k v) := ⟨gFr.wI (Or.inr hc), fun j _ _ _ _ => by rw [gmi_In _ _ _ h1.symm]⟩
theorem kFr.wf {k : Nat} {v : Int32} (hc : S (1000 + k)) : kFr S M (gwI M 100 k v) := ⟨gFr.wI (Or.inl rfl), fun j _ _ _ e => by rw [gmi_I, va_up_ne _ _ (fun z => e (by rw [z]; exact hc))]⟩
theorem PS.wc {c k : Nat} {v f : Int32} (h : PT M T L i f w) (h1 : c ≠ 100) (h2 : c ≠ 101) : PT (gwI M c k v) T L i f w := by
  obtain ⟨⟨a1, a2, a3, a4, a5, a6, a7⟩, b1, b2, b3, b4⟩ := h
  have e := gmi_In M k v h1.symm
  exact ⟨⟨gLay_I a1, a2, a3, by rw [e]; exact a4, by rw [e]; exact a5, a6, fun j hj => by rw [gmi_In _ _ _ h2.symm]; exact a7 j hj⟩, by rw [e]; exact b1, b2, by rw [e]; exact b3, by rw [e]; exact b4⟩
theorem PS.wf {k : Nat} {v f : Int32} (h : PT M T L i f w) (hk : 12 < k) : PT (gwI M 100 k v) T L i f w := by
  obtain ⟨⟨a1, a2, a3, a4, a5, a6, a7⟩, b1, b2, b3, b4⟩ := h
  exact ⟨⟨gLay_I a1, a2, a3, by rw [gmi_I, va_up_ne _ _ (by omega)]; exact a4, by rw [gmi_I, va_up_ne _ _ (by omega)]; exact a5, a6, fun j hj => by rw [gmi_In _ _ _ (by decide)]; exact a7 j hj⟩, by rw [gmi_I, va_up_ne _ _ (by omega)]; exact b1, b2, by rw [gmi_I, va_up_ne _ _ (by omega)]; exact b3, by rw [gmi_I, va_up_ne _ _ (by omega)]; exact b4⟩
def bc3 (t : Nat) : Nat := t % 2 + t / 2 % 2 + t / 4 % 2
theorem bc3_le : ∀ t, t < 8 → bc3 t ≤ 3 := by decide
theorem bc3_up : ∀ t, t < 8 → ∀ j, j < 3 → t.testBit j = false → t + 2 ^ j < 8 ∧ bc3 (t + 2 ^ j) = bc3 t + 1 ∧ t ||| 2 ^ j = t + 2 ^ j := by decide
theorem sp_it : ∀ k, k < 3 → ∀ t, t < 256 → spV (5 + k) (nI t) = if itJ k t < 3 ∧ t ≠ 32 then nI (itJ k t) else -1 := by decide +kernel
theorem sp_no : ∀ k, k < 3 → spV (5 + k) (-1) = -1 := by decide +kernel
theorem it_len : ∀ k, k < 3 → ∀ t, t < 256 → itJ k t < 3 → t ≠ 32 → itJ k t < sLen.getD (5 + k) 0 := by decide +kernel
theorem it_59 : ∀ k, k < 3 → itJ k 59 = 3 := by decide +kernel
theorem sl_3 : ∀ k, k < 3 → sLen.getD (5 + k) 0 ≤ 3 := by decide
/-- what reading items leaves -/
def ItO (M0 M2 : gM) (T : Nat → Nat) (L w k c row : Nat) (R : Bool × Nat × (Nat → Nat)) : Prop := kFr (fun q => q = c) M0 M2 ∧ (∀ q, q < row ∨ row + 3 ≤ q → gmi M2 c q = gmi M0 c q) ∧ (R.1 = true → PT M2 T L R.2.1 (-1) w ∧ ∀ j, j < sLen.getD (5 + k) 0 → gmi M2 c (row + j) = nI (R.2.2 j)) ∧ (¬ R.1 = true → (gmi M2 100 11 = nI R.2.1 ∧ ¬ gmi M2 100 11 = -1) ∨ (PT M2 T L R.2.1 (-1) w ∧ R.2.1 < L ∧ T R.2.1 ≠ 59 ∧ nxt T L R.2.1 = R.2.1))
set_option maxRecDepth 20000 in
set_option maxHeartbeats 1000000 in
theorem r_readItems (hx : gXok X) (hZ : gSt X) {k c row nl : Nat} (hk : k < 3) (h : PT M T L i (-1) w) (hc : gkd M c = 32 ∧ gln M c = nl) (hc1 : c ≠ 100 ∧ c ≠ 101) (hrow : row + sLen.getD (5 + k) 0 ≤ nl) (hnl : nl ≤ 24) : gPos X (d + 5) yX11_readItems cX11_readItems 7 none [.ref 100, .int (kc k), .ref c, .int (nI row), .ref (5010 + (5 + k))] M (fun v M2 => v = none ∧ ItO M M2 T L w k c row (itemsP T L k 4 i 0 (fun j => untN (3 * k + j)))) := by
  have h240 := h.1.2.2.2.2.2.1.2.2.1
  have hl3 := sl_3 k hk
  have hk8 : 5 + k < 8 := by omega
  refine gMet.of hx (by decide) (Nat.le_of_ble_eq_true rfl) ?_
  generalize hR : itemsP T L k 4 i 0 (fun j => untN (3 * k + j)) = R
  -- the loop over the items: from the row 45 on
  have main : ∀ (n i told : Nat) (vs : Nat → Nat) (M1 : gM), told < 8 → bc3 told + n = 4 → PT M1 T L (nxt T L i) (-1) w → kFr (fun q => q = c) M M1 → (∀ q, q < row ∨ row + 3 ≤ q → gmi M1 c q = gmi M c q) → (∀ j, j < sLen.getD (5 + k) 0 → gmi M1 c (row + j) = nI (vs j)) → itemsP T L k n i told vs = R → gW X (gRoom (d + 5) 0 0) (gZ X gN0 0 0 (fun v M2 => v = none ∧ ItO M M2 T L w k c row R)) gN0 yX11_readItems cX11_readItems 7 none 45 [(0, .ref 100), (1, .int (kc k)), (2, .ref c), (3, .int (nI row)), (4, .ref (5010 + (5 + k))), (5, .int (nI told)), (6, .int (spV (5 + k) (sgn T L (nxt T L i))))] [] M1 0 0 := by
    intro n
    induction n with
    | zero => exact fun i told vs M1 ht hb _ _ _ _ _ => absurd (bc3_le told ht) (by omega)
    | succ n ih =>
      intro i told vs M1 ht hb h1 hf1 ho1 hv1 hR1
      have hpL := h1.2.2.1
      have hnb := nxt_nb (T := T) (L := L) (i := i)
      have hnn := nxt_nxt (T := T) (L := L) (i := i)
      unfold itemsP at hR1
      generalize nxt T L i = p at *
      by_cases hend : L ≤ p ∨ T p = 59
      · rw [if_pos hend] at hR1
        have hwh : spV (5 + k) (sgn T L p) = -1 := by
          unfold sgn
          by_cases hpl : p < L
          · have h59 : T p = 59 := hend.resolve_left (by omega)
            rw [if_pos hpl, sp_it k hk _ (by omega), h59, it_59 k hk, if_neg (by omega)]
          · rw [if_neg hpl, sp_no k hk]
        rw [hwh]
        refine g_iload dX11_readItems_45 rfl rfl ?_
        refine g_iconst (v := -1) dX11_readItems_47 (by decide) rfl ?_
        refine g_icmp_eq (tgt := 138) dX11_readItems_48 (by decide) rfl (fun _ => ?_) (fun h_ => absurd (rfl) h_)
        exact g_vret dX11_readItems_138 rfl (⟨rfl, hR1 ▸ ⟨hf1, ho1, fun _ => ⟨h1, hv1⟩, fun z => absurd rfl z⟩⟩)
      · rw [if_neg hend] at hR1
        have hpl : p < L := by omega
        have htp := (h1.1.2.2.2.2.2.2 p hpl).2.2
        have ht32 : T p ≠ 32 := fun z => hnb ⟨hpl, z⟩
        have hsg : sgn T L p = nI (T p) := if_pos hpl
        have hsp := sp_it k hk (T p) htp
        have hle := itJ_le k (T p)
        rw [hsg, hsp]
        by_cases hj3 : itJ k (T p) = 3
        · rw [if_pos (Or.inl hj3)] at hR1
          rw [if_neg (by omega)]
          refine g_iload dX11_readItems_45 rfl rfl ?_
          refine g_iconst (v := -1) dX11_readItems_47 (by decide) rfl ?_
          refine g_icmp_eq (tgt := 138) dX11_readItems_48 (by decide) rfl (fun _ => ?_) (fun h_ => absurd (rfl) h_)
          exact g_vret dX11_readItems_138 rfl (⟨rfl, hR1 ▸ ⟨hf1, ho1, fun z => absurd z Bool.false_ne_true, fun _ => Or.inr ⟨h1, hpl, fun z => hend (Or.inr z), hnn⟩⟩⟩)
        · have hjl := it_len k hk (T p) htp (by omega) ht32
          rw [if_pos ⟨by omega, ht32⟩]
          generalize hj : itJ k (T p) = j at *
          have hj3' : j < 3 := by omega
          by_cases hto : told.testBit j = true
          · rw [if_pos (Or.inr hto)] at hR1
            refine g_iload dX11_readItems_45 rfl rfl ?_
            refine g_iconst (v := -1) dX11_readItems_47 (by decide) rfl ?_
            refine g_icmp_eq (tgt := 138) dX11_readItems_48 (by decide) rfl (fun h_ => absurd h_ (neg1 (by omega))) (fun _ => ?_)
            refine g_aload_n dX11_readItems_51 rfl rfl rfl ?_
            refine g_getI dX11_readItems_52 ff_X11_122 rfl (k100 h1.1.1) rfl ?_
            refine g_iconst (v := -1) dX11_readItems_55 (by decide) rfl ?_
            rw [h1.2.2.2.1]
            refine g_icmp_ne (tgt := 138) dX11_readItems_56 (by decide) rfl (fun h_ => absurd (rfl) h_) (fun _ => ?_)
            refine g_iload dX11_readItems_59 rfl rfl ?_
            refine g_iload dX11_readItems_61 rfl rfl ?_
            refine g_callSdi dX11_readItems_63 lm_X11_223 mv_X11_has (r_has (d := d + 4) hx (show told < 2 ^ 31 by omega) (show j < 32 by omega)) rfl rfl (Nat.le_of_ble_eq_true rfl) (gFit_room (by omega)) rfl ?_
            rw [ib_t hto]
            refine g_if_eq (tgt := 75) dX11_readItems_66 (by decide) rfl (fun h_ => absurd h_ (by decide)) (fun _ => ?_)
            refine g_aload_n dX11_readItems_69 rfl rfl rfl ?_
            refine g_callVq (ci := 11) dX11_readItems_70 lm_X11_128 mv_X11_fails (r_fails0 (d := d + 4) hx h1) rfl rfl (k100 h1.1.1) rfl rfl (Nat.le_of_ble_eq_true rfl) (gFit_room (by omega)) rfl (fun v M2 hQ => ?_)
            obtain ⟨rfl, hf⟩ := hQ
            refine g_pop dX11_readItems_73 rfl rfl ?_
            exact g_vret dX11_readItems_74 rfl (⟨rfl, hR1 ▸ ⟨hf1.tr hf.1.k, fun q hq => by rw [hf.1.1.2.2.2 c hc1.1]; exact ho1 q hq, fun z => absurd z Bool.false_ne_true, fun _ => Or.inl (hf.2.ft (show p < 2 ^ 31 by omega))⟩⟩)
          · obtain ⟨u1, u2, u3⟩ := bc3_up told ht j hj3' (Bool.eq_false_iff.mpr hto)
            rw [if_neg (fun z => z.elim hj3 hto)] at hR1
            obtain ⟨t1, t2, t3⟩ := tabs k hk j hjl
            have hq9 : 3 * k + j < 9 := by omega
            have htab := tab_ok (3 * k + j) hq9
            have h2 := h1.at (j := p + 1) (show p + 1 ≤ L by omega)
            have hnum := r_number (d := d + 3) (lo := lowN (3 * k + j)) (hi := highN (3 * k + j)) hx h2 (by omega) (by omega)
            have hf2 : kFr (fun q => q = c) M (gwI M1 100 10 (nI (p + 1))) := hf1.tr (iFr.put (Or.inl rfl)).k
            have hnle := numP_le (T := T) (L := L) (i := p + 1) (mx := 2) (lo := lowN (3 * k + j)) (hi := highN (3 * k + j)) (by omega)
            refine g_iload dX11_readItems_45 rfl rfl ?_
            refine g_iconst (v := -1) dX11_readItems_47 (by decide) rfl ?_
            refine g_icmp_eq (tgt := 138) dX11_readItems_48 (by decide) rfl (fun h_ => absurd h_ (neg1 (by omega))) (fun _ => ?_)
            refine g_aload_n dX11_readItems_51 rfl rfl rfl ?_
            refine g_getI dX11_readItems_52 ff_X11_122 rfl (k100 h1.1.1) rfl ?_
            refine g_iconst (v := -1) dX11_readItems_55 (by decide) rfl ?_
            rw [h1.2.2.2.1]
            refine g_icmp_ne (tgt := 138) dX11_readItems_56 (by decide) rfl (fun h_ => absurd (rfl) h_) (fun _ => ?_)
            refine g_iload dX11_readItems_59 rfl rfl ?_
            refine g_iload dX11_readItems_61 rfl rfl ?_
            refine g_callSdi dX11_readItems_63 lm_X11_223 mv_X11_has (r_has (d := d + 4) hx (show told < 2 ^ 31 by omega) (show j < 32 by omega)) rfl rfl (Nat.le_of_ble_eq_true rfl) (gFit_room (by omega)) rfl ?_
            rw [ib_f hto]
            refine g_if_eq (tgt := 75) dX11_readItems_66 (by decide) rfl (fun _ => ?_) (fun h_ => absurd (by decide) h_)
            refine g_iload dX11_readItems_75 rfl rfl ?_
            refine g_iconst (v := 1) dX11_readItems_77 (by decide) rfl ?_
            refine g_iload dX11_readItems_78 rfl rfl ?_
            refine g_ishl dX11_readItems_80 rfl ?_
            refine g_ior dX11_readItems_81 rfl ?_
            rw [bt_one _ (by omega), fa_or, u3]
            refine g_istore dX11_readItems_82 (by decide) rfl ?_
            refine g_aload_n dX11_readItems_84 rfl rfl rfl ?_
            refine g_dup dX11_readItems_85 rfl rfl ?_
            refine g_getI dX11_readItems_86 ff_X11_113 rfl (k100 h1.1.1) rfl ?_
            refine g_iconst (v := 1) dX11_readItems_89 (by decide) rfl ?_
            refine g_iadd dX11_readItems_90 rfl ?_
            rw [h1.2.1, nI_1]
            refine g_putI dX11_readItems_91 fp_X11_113 rfl rfl rfl (k100 h1.1.1) rfl ?_
            refine g_aload_n dX11_readItems_94 rfl rfl rfl ?_
            refine g_iload_n dX11_readItems_95 rfl rfl rfl ?_
            refine g_iload dX11_readItems_96 rfl rfl ?_
            refine g_iadd dX11_readItems_98 rfl ?_
            rw [nI_add]
            refine g_aload_n dX11_readItems_99 rfl rfl rfl ?_
            refine g_iload_n dX11_readItems_100 rfl rfl rfl ?_
            refine g_iload dX11_readItems_101 rfl rfl ?_
            refine g_callSdi dX11_readItems_103 lm_X11_227 mv_X11_leastOf (r_leastOf (d := d + 4) hx) rfl rfl (Nat.le_of_ble_eq_true rfl) (gFit_room (by omega)) rfl ?_
            refine g_iload_n dX11_readItems_106 rfl rfl rfl ?_
            refine g_iload dX11_readItems_107 rfl rfl ?_
            rw [t3]
            refine g_callSdi dX11_readItems_109 lm_X11_230 mv_X11_mostOf (r_mostOf (d := d + 4) hx) rfl rfl (Nat.le_of_ble_eq_true rfl) (gFit_room (by omega)) rfl ?_
            rw [t2]
            refine g_callVq (ci := 11) dX11_readItems_112 lm_X11_233 mv_X11_number (hnum) rfl rfl (k100 (gLay_I h1.1.1)) rfl rfl (Nat.le_of_ble_eq_true rfl) (gFit_room (by omega)) rfl (fun v M2 hQ => ?_)
            obtain ⟨x, rfl, hf3, hok, hno⟩ := hQ
            have k_c : gkd M2 c = 32 := by rw [(hf3.1.1 c).1]; show gkd M1 c = 32; rw [(hf1.1.1 c).1]; exact hc.1
            have l_c : gln M2 c = nl := by rw [(hf3.1.1 c).2]; show gln M1 c = nl; rw [(hf1.1.1 c).2]; exact hc.2
            have hL2 := hf3.1.lay (gLay_I h1.1.1)
            have hf4 := (hf2.tr hf3.k).tr (kFr.wc (S := fun q => q = c) (M := M2) (k := row + j) (v := x) rfl hc1.1)
            have hcc : gmi M2 c = gmi M1 c := by rw [hf3.1.2.2.2 c hc1.1, gmi_In _ _ _ hc1.1]
            have ho4 : ∀ q, q < row ∨ row + 3 ≤ q → gmi (gwI M2 c (row + j) x) c q = gmi M c q := fun q hq => by
              rw [gmi_I, va_up_ne _ _ (by omega), hcc]; exact ho1 q hq
            refine g_iast (i := (row + j)) dX11_readItems_115 (k_c) (l_c) (nI_toInt (by omega)) (by omega) rfl ?_
            by_cases hn1 : (numP T L 2 (lowN (3 * k + j)) (highN (3 * k + j)) (p + 1)).1 = true
            · obtain ⟨h3, rfl⟩ := hok hn1
              rw [if_pos hn1] at hR1
              have h4 := h3.wc (c := c) (k := row + j) (v := nI (numP T L 2 (lowN (3 * k + j)) (highN (3 * k + j)) (p + 1)).2.2) hc1.1 hc1.2
              generalize numP T L 2 (lowN (3 * k + j)) (highN (3 * k + j)) (p + 1) = nn at *
              refine g_aload_n dX11_readItems_116 rfl rfl rfl ?_
              refine g_getI dX11_readItems_117 ff_X11_122 rfl (k100 h4.1.1) rfl ?_
              refine g_iconst (v := -1) dX11_readItems_120 (by decide) rfl ?_
              rw [h4.2.2.2.1]
              refine g_icmp_ne (tgt := 45) dX11_readItems_121 (by decide) rfl (fun h_ => absurd (rfl) h_) (fun _ => ?_)
              refine g_aload dX11_readItems_124 rfl rfl ?_
              refine g_aload_n dX11_readItems_126 rfl rfl rfl ?_
              refine g_callVq (ci := 11) dX11_readItems_127 lm_X11_132 mv_X11_look (r_look (d := d + 4) hx h4) rfl rfl (k100 h4.1.1) rfl rfl (Nat.le_of_ble_eq_true rfl) (gFit_room (by omega)) rfl (fun v M3 hQ => ?_)
              obtain ⟨rfl, hf5, h5⟩ := hQ
              refine g_callSdi dX11_readItems_130 lm_X11_219 mv_X11_spotOf (r_spotOf (d := d) hx hZ hk8) rfl rfl (Nat.le_of_ble_eq_true rfl) (gFit_room (by omega)) rfl ?_
              refine g_istore dX11_readItems_133 (by decide) rfl ?_
              refine g_goto (tgt := 45) dX11_readItems_135 (by decide) ?_
              refine g_go (ih nn.2.1 (told + 2 ^ j) (va_up vs j nn.2.2) M3 u1 (by omega) h5 (hf4.tr hf5.k) (fun q hq => by rw [hf5.1.2.2.2 c hc1.1]; exact ho4 q hq) (fun q hq => ?_) hR1) ⟨rfl, rfl, rfl, rfl, rfl, rfl, rfl, trivial⟩
              rw [hf5.1.2.2.2 c hc1.1, gmi_I]
              by_cases e : q = j
              · subst e; rw [va_up_self, va_up_self]
              · rw [va_up_ne _ _ (by omega), va_up_ne _ _ e, hcc]; exact hv1 q hq
            · have h3 := hno hn1
              rw [if_neg hn1] at hR1
              have h11 : gmi (gwI M2 c (row + j) x) 100 11 = gmi M2 100 11 := by rw [gmi_In _ _ _ hc1.1.symm]
              have hL3 : gLay (gwI M2 c (row + j) x) := gLay_I hL2
              refine g_aload_n dX11_readItems_116 rfl rfl rfl ?_
              refine g_getI dX11_readItems_117 ff_X11_122 rfl (k100 hL3) rfl ?_
              refine g_iconst (v := -1) dX11_readItems_120 (by decide) rfl ?_
              rw [h11]
              refine g_icmp_ne (tgt := 45) dX11_readItems_121 (by decide) rfl (fun _ => ?_) (fun h_ => absurd h_ (h3.2))
              refine g_iload dX11_readItems_45 rfl rfl ?_
              refine g_iconst (v := -1) dX11_readItems_47 (by decide) rfl ?_
              refine g_icmp_eq (tgt := 138) dX11_readItems_48 (by decide) rfl (fun h_ => absurd h_ (neg1 (by omega))) (fun _ => ?_)
              refine g_aload_n dX11_readItems_51 rfl rfl rfl ?_
              refine g_getI dX11_readItems_52 ff_X11_122 rfl (k100 hL3) rfl ?_
              refine g_iconst (v := -1) dX11_readItems_55 (by decide) rfl ?_
              rw [h11]
              refine g_icmp_ne (tgt := 138) dX11_readItems_56 (by decide) rfl (fun _ => ?_) (fun h_ => absurd h_ (h3.2))
              exact g_vret dX11_readItems_138 rfl ⟨rfl, hR1 ▸ ⟨hf4, ho4, fun z => absurd z Bool.false_ne_true, fun _ => Or.inl (by rw [h11]; exact h3)⟩⟩
  refine g_iconst (v := 0) dX11_readItems_0 (by decide) rfl ?_
  refine g_istore dX11_readItems_1 (by decide) rfl ?_
  refine g_loopM (fun j => [(0, .ref 100), (1, .int (kc k)), (2, .ref c), (3, .int (nI row)), (4, .ref (5010 + (5 + k))), (5, .int (nI j))]) (fun j M1 => PT M1 T L i (-1) w ∧ kFr (fun q => q = c) M M1 ∧ (∀ q, q < row ∨ row + 3 ≤ q → gmi M1 c q = gmi M c q) ∧ ∀ q, q < j → gmi M1 c (row + q) = nI (untN (3 * k + q))) (sLen.getD (5 + k) 0) 0 (Nat.zero_le _) ⟨rfl, rfl, rfl, rfl, rfl, rfl, trivial⟩ ⟨h, kFr.rf, fun _ _ => rfl, fun q hq => absurd hq (by omega)⟩ (fun M1 hI => ?_) (fun j M1 _ hj hI ih => ?_)
  · obtain ⟨h1, hf1, ho1, hv1⟩ := hI
    refine g_iload dX11_readItems_3 rfl rfl ?_
    refine g_aload dX11_readItems_5 rfl rfl ?_
    refine g_callU (i := 5 + k) dX11_readItems_7 lm_X11_93 mv_J0_length_8abf5 (c_slen (d := d + 3) hx hZ hk8) hZ hk8 rfl rfl rfl (Nat.le_of_ble_eq_true rfl) (gFit_room (by omega)) rfl ?_
    refine g_icmp_ge (tgt := 31) dX11_readItems_10 (by decide) rfl (fun _ => ?_) (fun h_ => absurd (nI_le (Nat.le_refl _) (by omega)) h_)
    refine g_iconst (v := 0) dX11_readItems_31 (by decide) rfl ?_
    refine g_istore dX11_readItems_32 (by decide) rfl ?_
    refine g_aload dX11_readItems_34 rfl rfl ?_
    refine g_aload_n dX11_readItems_36 rfl rfl rfl ?_
    refine g_callVq (ci := 11) dX11_readItems_37 lm_X11_132 mv_X11_look (r_look (d := d + 4) hx h1) rfl rfl (k100 h1.1.1) rfl rfl (Nat.le_of_ble_eq_true rfl) (gFit_room (by omega)) rfl (fun v M2 hQ => ?_)
    obtain ⟨rfl, hf⟩ := hQ
    refine g_callSdi dX11_readItems_40 lm_X11_219 mv_X11_spotOf (r_spotOf (d := d) hx hZ hk8) rfl rfl (Nat.le_of_ble_eq_true rfl) (gFit_room (by omega)) rfl ?_
    refine g_istore dX11_readItems_43 (by decide) rfl ?_
    exact g_go (main 4 i 0 (fun j => untN (3 * k + j)) M2 (by decide) rfl hf.2 (hf1.tr hf.1.k) (fun q hq => by rw [hf.1.1.2.2.2 c hc1.1]; exact ho1 q hq) (fun q hq => by rw [hf.1.1.2.2.2 c hc1.1]; exact hv1 q hq) hR) ⟨rfl, rfl, rfl, rfl, rfl, rfl, rfl, trivial⟩
  · obtain ⟨h1, hf1, ho1, hv1⟩ := hI
    obtain ⟨t1, t2, t3⟩ := tabs k hk j hj
    have k_c : gkd M1 c = 32 := by rw [(hf1.1.1 c).1]; exact hc.1
    have l_c : gln M1 c = nl := by rw [(hf1.1.1 c).2]; exact hc.2
    refine g_iload dX11_readItems_3 rfl rfl ?_
    refine g_aload dX11_readItems_5 rfl rfl ?_
    refine g_callU (i := 5 + k) dX11_readItems_7 lm_X11_93 mv_J0_length_8abf5 (c_slen (d := d + 3) hx hZ hk8) hZ hk8 rfl rfl rfl (Nat.le_of_ble_eq_true rfl) (gFit_room (by omega)) rfl ?_
    refine g_icmp_ge (tgt := 31) dX11_readItems_10 (by decide) rfl (fun h_ => absurd h_ (nI_ge hj (by omega))) (fun _ => ?_)
    refine g_aload_n dX11_readItems_13 rfl rfl rfl ?_
    refine g_iload_n dX11_readItems_14 rfl rfl rfl ?_
    refine g_iload dX11_readItems_15 rfl rfl ?_
    refine g_iadd dX11_readItems_17 rfl ?_
    rw [nI_add]
    refine g_iload_n dX11_readItems_18 rfl rfl rfl ?_
    refine g_iload dX11_readItems_19 rfl rfl ?_
    refine g_callSdi dX11_readItems_21 lm_X11_215 mv_X11_usual (r_usual (d := d + 4) hx) rfl rfl (Nat.le_of_ble_eq_true rfl) (gFit_room (by omega)) rfl ?_
    rw [t1]
    refine g_iast (i := (row + j)) dX11_readItems_24 (k_c) (l_c) (nI_toInt (by omega)) (by omega) rfl ?_
    refine g_iincV (c := 1) dX11_readItems_25 rfl (by decide) (by decide) rfl ?_
    refine g_goto (tgt := 3) dX11_readItems_28 (by decide) ?_
    refine g_go (ih _ ⟨h1.wc hc1.1 hc1.2, hf1.tr (kFr.wc rfl hc1.1), fun q hq => by rw [gmi_I, va_up_ne _ _ (by omega)]; exact ho1 q hq, fun q hq => ?_⟩) ⟨rfl, rfl, rfl, rfl, rfl, by rw [← nI_1 j]; rfl, trivial⟩
    rw [gmi_I]
    by_cases e : q = j
    · subst e; rw [va_up_self]
    · rw [va_up_ne _ _ (by omega)]; exact hv1 q (by omega)
end H25
