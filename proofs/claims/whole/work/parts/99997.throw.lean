section P1
variable {X : gX} {M : gM} {d : Nat}
abbrev NSE : String := "java/util/NoSuchElementException"
abbrev nsN : List String := ["java/lang/RuntimeException", "java/lang/Exception"]
abbrev hhP : List (Nat × Nat × Nat × Nat) := [(0, 10, 13, 13)]
theorem lw_L_person : Cond.codeWith yL_person cL_person 5 (some .int) hhP ∈ gws := gi5 (List.mem_of_getElem? (i := 156) rfl) rfl
theorem at_in : ∀ w ∈ vx_at0 RX10 164 NSE nsN, w ∈ tables_1 := by
  have h : ((vx_at0 RX10 164 NSE nsN).filter (fun w => !(decide (w ∈ tables_1)))) = [] := by decide +kernel
  intro w hw
  by_cases q : w ∈ tables_1
  · exact q
  · have hm : w ∈ (vx_at0 RX10 164 NSE nsN).filter (fun w => !(decide (w ∈ tables_1))) := List.mem_filter.mpr ⟨hw, by rw [decide_eq_false q]; rfl⟩
    rw [h] at hm
    exact absurd hm List.not_mem_nil
theorem at_ot : ∀ w ∈ Cond.classLink RX10 162 NSE :: Cond.initialized NSE :: vx_at0 RX10 164 NSE nsN, vx_ot w = true := List.all_eq_true.mp (by decide +kernel)
def ngL : List Cond := (vx_at0 RX10 164 NSE nsN).filter (fun w => !goodWord w)
def dcW : Cond → Bool
  | .declares _ => true
  | .castable _ _ => true
  | _ => false
theorem ng_dc : ∀ w ∈ Cond.castable NSE NSE :: ngL, dcW w = true := List.all_eq_true.mp (by decide +kernel)
theorem dc_on {w : Cond} (h : dcW w = true) : w.onTables = true := by
  cases w <;> first | rfl | exact absurd h Bool.false_ne_true
/-- what a throw needs -/
def gTh (X : gX) : Prop := X.1.stackTraces = false ∧ ∀ U, X.2.2.2.2.2 U → (∀ w ∈ Cond.castable NSE NSE :: ngL, va_Nw w U) ∧ vx_Zq Bundle.tN "UNASSIGNED_STACK" Bundle.steD (gA X) U U.heap ∧ vx_Zq Bundle.tN "SUPPRESSED_SENTINEL" Bundle.listD (gA X) U U.heap
def XCp (X : gX) (ad0 : Nat → Nat) (M : gM) : String → State → State → Prop := fun E st t => E = NSE ∧ gRep X ad0 M t.heap ∧ va_F (gA X) st t
theorem gRep.ext {ad : Nat → Nat} {H H1 : Heap} (hR : gRep X ad M H) (hz : ∀ q : Nat, q < H.size → H1[q]? = H[q]?) : gRep X ad M H1 := ⟨fun a ha => ⟨(hR.1 a ha).1, (hR.1 a ha).2.1, (hR.1 a ha).2.2.kept (hz _ (hR.lt a ha))⟩, hR.2.1, hR.2.2.1, hR.2.2.2⟩
theorem x_path {Z : gZt} {bc bs : Nat} (hx : gXok X) (hL : gLay M) {x z : Int32} (hin : ¬ inPe M x z) (k20 : gW X (gRoom (d + 10) 1 6) Z gN0 yX10_person cX10_person 3 (some .int) 20 (lv_args 0 [.ref 0, .int x, .int z]) [] M bc bs) : gW X (gRoom (d + 10) 1 6) Z gN0 yX10_person cX10_person 3 (some .int) 0 (lv_args 0 [.ref 0, .int x, .int z]) [] M bc bs := by
  refine g_aload_n dX10_person_0 rfl rfl rfl ?_
  refine g_getR dX10_person_1 ff_X10_19 rfl (k0 hL) (r0_1 hL) rfl ?_
  refine g_iload_n dX10_person_4 rfl rfl rfl ?_
  refine g_callVdi (ci := 8) dX10_person_5 lm_X10_158 mv_X8_hasPerson (c_hasPerson (d := 0) hx hL) rfl rfl (k3 hL) rfl rfl (Nat.le_of_ble_eq_true rfl) (gFit_room (by omega)) rfl ?_
  refine g_if_eq (tgt := 20) dX10_person_8 (by decide) rfl (fun _ => k20) (fun h => ?_)
  have hp : inP M x := by
    by_cases q : 0 ≤ x ∧ x < gmi M 3 7
    · exact q
    · rw [if_neg q] at h; exact absurd rfl h
  refine g_iload_n dX10_person_11 rfl rfl rfl ?_
  refine g_if_lt (tgt := 20) dX10_person_12 (by decide) rfl (fun _ => k20) (fun h1 => ?_)
  refine g_iload_n dX10_person_15 rfl rfl rfl ?_
  refine g_iconst (v := 4) dX10_person_16 (by decide) rfl ?_
  refine g_icmp_le (tgt := 28) dX10_person_17 (by decide) rfl (fun h2 => ?_) (fun _ => k20)
  exact absurd ⟨hp, Int32.not_lt.mp h1, h2⟩ hin
theorem same_c {l : Launch} {e2 : Env} {R : Room} {s T : State} {m m2 : MethodId} {args args2 : Array Value} {below below2 : List Frame} {meth meth2 : Method} {c c2 : Code} {locs : List Loc} {cells slots : Nat} {p2 : Program} (f : s.frames = .invoking m args :: below) (hm : s.vm.method? m = some meth) (hc : meth.code = some c) (h : Stand p2 l e2 R s m2 args2 below2 meth2 c2 T locs cells slots) : m2 = m ∧ args2 = args ∧ below2 = below ∧ meth2 = meth ∧ c2 = c := by
  have h1 := h.frames.symm.trans f
  have h2 := h.method
  have h3 := h.code
  injection h1 with h4 h5
  injection h4 with h6 h7
  subst h6
  cases Option.some.inj (h2.symm.trans hm)
  cases Option.some.inj (h3.symm.trans hc)
  exact ⟨rfl, h7, h5, rfl, rfl⟩
theorem x_person (hx : gXok X) (hTh : gTh X) (hL : gLay M) {x z : Int32} (hin : ¬ inPe M x z) (ad0 : Nat → Nat) : vx_Met X.1 yX10_person (Cond.code yX10_person cX10_person 3 (some .int) :: gws) (gRoom (d + 10) 1 6) (va_Pc (([.ref 0, .int x, .int z] : List Value).map (gT ad0)) (fun U => gRep X ad0 M U.heap ∧ gK X U ∧ ∀ q : Nat, U.heap.size ≤ q → gA X q)) (fun _ _ _ _ => False) (XCp X ad0 M) 1 6 (gA X) := by
  refine vx_ofW (cc := cX10_person) (maxL := 3) (ret := some .int) (by decide) rfl ?_
  intro p e s m args below meth c s₁ B hml htab hv
  obtain ⟨rfl, hR, hK, hz⟩ := hv
  have hts := atoms_spec (ws := Cond.code yX10_person cX10_person 3 (some .int) :: gws) B.pre
  have hl := lv_entry (([.ref 0, .int x, .int z] : List Value).map (gT ad0)) (n := 3) (by rw [g_sl]; exact Nat.le_of_ble_eq_true rfl)
  rw [lg_entry_eq]
  rw [g_args] at hl
  have hcode := (Stand.of_body B).code
  have k20 : gW X (gRoom (d + 10) 1 6) (fun ad1 b' a' s' t => s' = s → vx_MQ b' (fun _ _ _ _ => False) (XCp X ad1 M) a' s' 1 6 (gA X) t) gN0 yX10_person cX10_person 3 (some .int) 20 (lv_args 0 [.ref 0, .int x, .int z]) [] M 1 6 := by
    intro ad1 ad p' e' s' m' args' below' meth' c' H locs cells slots ls hF hR' hS hN h1 h2 hl' T hT Xs
    by_cases hs : s' = s
    · subst hs
      obtain ⟨em, ea, eb, et, ec⟩ := same_c B.frames B.method hcode Xs
      subst ec
      have hts' := hF.2.2.2.2.1
      have hK' := hF.2.2.2.2.2.2.2.2.1
      obtain ⟨n1, n2, n3⟩ := hTh.2 s' hK'.2
      have hc1 : cells + 1 ≤ 1 := h1
      have hs1 : slots + 6 ≤ 6 := h2
      have he : ad = ad1 := funext (fun a => hN a (fun q => q.elim))
      subst he
      have hat : ∀ w ∈ vx_at0 RX10 164 NSE nsN, w.before args' s' = true := vx_hat (B := ngL) (fun w hw => hts' w (gi_t (at_in w (List.mem_filter.mp hw).1) (List.mem_filter.mp hw).2)) (fun w hw => hw) (fun w hw => va_Nw.use (dc_on (ng_dc w (List.mem_cons_of_mem _ hw))) (n1 w (List.mem_cons_of_mem _ hw)))
      obtain ⟨t, a1, b1⟩ := vx_throw0 (Qc := fun _ _ _ _ => False) (XC := XCp X ad M) (free := gA X) (mc := 1) (ms := 6) (own := RX10) (cls := NSE) (names := nsN) (ik := 162) (ic := 164) (A := gA X) (pc := 20) (rest := []) hF.1 hF.2.1 hTh.1 hF.2.2.2.1 (by decide +kernel) (by decide +kernel) (hts' _ lc_X10_162) (hts' _ ln_java_util_NoSuchElementException) hat at_ot n2 n3 hS (hl'.1.trans hF.2.2.1.symm) dX10_person_20 dX10_person_23 dX10_person_24 dX10_person_27 (fun y hy => (htab y hy).elim) (by show 2 + 3 < d + 10; omega) (by show 0 + (13 * 3 + 42) ≤ 64 * (d + 10); omega) hc1 hs1 hF.2.2.2.2.2.1 (fun t ht hz1 hz2 => ⟨rfl, hR'.ext hz2, ⟨Nat.le_trans hS.1 hz1, fun q g1 g2 => by rw [hz2 q (Nat.lt_of_lt_of_le g1 hS.1)]; exact hS.2.1 q g1 g2⟩⟩) hS.2.2 (by omega) (by omega) T hT Xs
      exact ⟨t, a1, fun _ => b1⟩
    · exact ⟨_, Steps.refl _, fun h => absurd h hs⟩
  have k2 := x_path (d := d) hx hL hin k20 ad0 ad0 p e s m _ below meth c s.heap [] 0 0 _ ⟨B.exec, B.bytes, hml, findClass_of_methodNamed B.named, fun w hw => hts w (List.mem_cons_of_mem _ hw), B.notSynchronized, B.returns, (name_of_methodNamed B.named B.method).1, hK, hz, hx⟩ hR va_S.rf (fun _ _ => rfl) (by show 0 + 1 ≤ 1; omega) (by show 0 + 6 ≤ 6; omega) hl
  intro T hT Xs
  obtain ⟨t, a1, b1⟩ := k2 T hT Xs
  exact ⟨t, a1, b1 rfl⟩
end P1
