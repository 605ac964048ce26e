section P2
variable {X : gX} {M : gM} {d : Nat}
def pQ (M : gM) (x z : Int32) : Option Value → gM → Prop := fun v M2 => (inPe M x z → v = some (.int 0) ∧ M2 = gwL M 120 0 (persV M (gmi M 25) x z).toInt64) ∧ (¬ inPe M x z → v = some (.int 1) ∧ M2 = M)
abbrev pA (x z : Int32) : List Value := [.ref 0, .int x, .int z, .ref 120]
theorem l_valid (hx : gXok X) (hL : gLay M) (hT : TownOK M) {x z : Int32} (hin : inPe M x z) : gW X (gRoom (d + 12) 1 6) (gZ X gN0 1 6 (pQ M x z)) gN0 yL_person cL_person 5 (some .int) 0 (lv_args 0 (pA x z)) [] M 1 6 := by
  refine g_aload_n (x := 120) dL_person_0 rfl rfl rfl ?_
  refine g_iconst (v := 0) dL_person_1 (by decide) rfl ?_
  refine g_aload_n (x := 0) dL_person_2 rfl rfl rfl ?_
  refine g_iload_n (x := x) dL_person_3 rfl rfl rfl ?_
  refine g_iload_n (x := z) dL_person_4 rfl rfl rfl ?_
  refine g_callVdi (ci := 10) (As := [.int x, .int z]) dL_person_5 lm_L_7 mv_X10_person (c_person (d := d) hx hL hT hin) rfl rfl (k0 hL) rfl rfl (Nat.le_of_ble_eq_true rfl) (gFit_room (by omega)) rfl ?_
  refine g_i2l dL_person_8 rfl ?_
  refine g_last (i := 0) (n := 1) dL_person_9 (hL.1 120 (by decide)) (hL.2.1 120 (by decide)) rfl (by decide) rfl ?_
  refine g_goto (tgt := 17) dL_person_10 rfl ?_
  refine g_iconst (v := 0) dL_person_17 (by decide) rfl ?_
  exact g_iret dL_person_18 rfl rfl ⟨fun _ => ⟨rfl, rfl⟩, fun h => absurd hin h⟩
theorem l_15 {x z : Int32} (hin : ¬ inPe M x z) : gW X (gRoom (d + 12) 1 6) (gZ X gN0 1 6 (pQ M x z)) gN0 yL_person cL_person 5 (some .int) 15 [] [] M 0 0 := by
  refine g_iconst (v := 1) dL_person_15 (by decide) rfl ?_
  exact g_iret dL_person_16 rfl rfl ⟨fun h => absurd h hin, fun _ => ⟨rfl, rfl⟩⟩
theorem tabP : ∃ t : ExceptionTableEntry, tableOf hhP = [t] ∧ covers t 5 = true ∧ t.catchType = 13 ∧ t.handlerPc = 13 := ⟨_, rfl, rfl, rfl, rfl⟩
theorem l_person (hx : gXok X) (hTh : gTh X) (hL : gLay M) (hT : TownOK M) {x z : Int32} (ad0 : Nat → Nat) : vx_Met X.1 yL_person (Cond.codeWith yL_person cL_person 5 (some .int) hhP :: gws) (gRoom (d + 12) 1 6) (va_Pc ((pA x z).map (gT ad0)) (fun U => gRep X ad0 M U.heap ∧ gK X U ∧ ∀ q : Nat, U.heap.size ≤ q → gA X q)) (gQ X ad0 gN0 (pQ M x z)) (fun _ _ _ => False) 1 6 (gA X) := by
  refine vx_ofWH (cc := cL_person) (maxL := 5) (ret := some .int) (hh := hhP) (by decide) rfl ?_
  intro p e s m args below meth c s₁ B hml hv
  obtain ⟨rfl, hR, hK, hz⟩ := hv
  have hts := atoms_spec (ws := Cond.codeWith yL_person cL_person 5 (some .int) hhP :: gws) B.pre
  have hl := lv_entry ((pA x z).map (gT ad0)) (n := 5) (by rw [g_sl]; exact Nat.le_of_ble_eq_true rfl)
  rw [lg_entry_eq]
  rw [g_args] at hl
  have hF0 : gF X yL_person cL_person 5 (some .int) p s m ((pA x z).map (gT ad0)).toArray meth c := ⟨B.exec, B.bytes, hml, findClass_of_methodNamed B.named, fun w hw => hts w (List.mem_cons_of_mem _ hw), B.notSynchronized, B.returns, (name_of_methodNamed B.named B.method).1, hK, hz, hx⟩
  by_cases hin : inPe M x z
  · exact vx_ret (l_valid (d := d) hx hL hT hin ad0 ad0 p e s m _ below meth c s.heap [] 0 0 _ hF0 hR va_S.rf (fun _ _ => rfl) (by show 0 + 1 ≤ 1; omega) (by show 0 + 6 ≤ 6; omega) hl)
  have hcode := (Stand.of_body B).code
  have htab : c.exceptionTable.toList = tableOf hhP := vx_table (x := yL_person) B (hts _ List.mem_cons_self)
  obtain ⟨te, et1, et2, et3, et4⟩ := tabP
  have k5 : gW X (gRoom (d + 12) 1 6) (fun ad1 b' a' s' t => s' = s → vx_MQ b' (gQ X ad1 gN0 (pQ M x z)) (fun _ _ _ => False) a' s' 1 6 (gA X) t) gN0 yL_person cL_person 5 (some .int) 5 (lv_args 0 (pA x z)) [.int z, .int x, .ref 0, .int 0, .ref 120] M 1 6 := by
    intro ad1 ad p' e' s' m' args' below' meth' c' H locs cells slots ls hF hR' hS hN h1 h2 hl' T hT Xs
    by_cases hs : s' = s
    · subst hs
      obtain ⟨em, ea, eb, et, ec⟩ := same_c B.frames B.method hcode Xs
      subst ec
      have hts' := hF.2.2.2.2.1
      have hK' := hF.2.2.2.2.2.2.2.2.1
      have hc1 : cells + 1 ≤ 1 := h1
      have hs1 : slots + 6 ≤ 6 := h2
      obtain ⟨w1, w2, w3, w4, w5, w6⟩ := mv_X10_person
      obtain ⟨hA, cell, q1, q2, q3, q4⟩ := g_obj (s := s') (ci := 10) rfl hR' (k0 hL)
      have hrun := vx_runV (p := p') (e := e') (below := below') (meth := meth') (locs := locs) (cells := cells) (slots := slots) (R := gRoom (d + 12) 1 6) (As := ([.int x, .int z] : List Value).map (gT ad)) (rest := ([.int 0, .ref 120] : List Value).map (gT ad)) (g := F0 m' 5 ls (([.int z, .int x, .ref 0, .int 0, .ref 120] : List Value).map (gT ad))) (b := ad 0) (C := yX10_person.cls) ⟨hF.1, hF.2.1, hF.2.2.1, hF.2.2.2.1, hts'⟩ (x_person (d := d) hx hTh hL hin ad) ⟨callB_of 2 hts' (gGood w1) rfl rfl rfl (hts' _ w4) (hts' _ lm_L_7) w5 ⟨(by show d + 10 + 1 ≤ d + 12; omega), (by show 8 + (3 + 11) + 64 * (d + 10) ≤ 64 * (d + 12); omega)⟩, hts' _ w2, hts' _ w3⟩
        ⟨gBlind hx, ⟨cell, q1, by rw [q3]; rfl, by rw [q2]; exact (hK'.1.1 10 _ rfl).2.1⟩, fun U hU hW => ⟨rfl, by rw [hU]; exact hR', hK'.moved hx hW hS hU, fun y hy => hF.2.2.2.2.2.2.2.2.2.1 y (Nat.le_trans hS.1 (by rw [hU] at hy; exact hy))⟩⟩
        rfl rfl hl'.1 rfl (lv_room (by rw [g_cat]; exact Nat.le_of_ble_eq_true rfl)) dL_person_5 ⟨by show cells + 1 ≤ 1; omega, by show slots + 6 ≤ 6; omega⟩
      rcases hrun T hT Xs with ⟨v, st₀, t, T', L, h0, X', hL', e1, e2, hq, -⟩ | ⟨q, st₀, t, T', L, E, ce, h0, X', hL', e1, e2, ⟨hE, hR2, hF2⟩, hce, hcv, hcl, step⟩
      · exact hq.elim
      · subst hE
        obtain ⟨-, -, hS2⟩ := vx_keep h0 e1 hS (fun _ _ h => h) (fun _ h => h) hL' hF2
        have kk : W p' X.1 e' (gRoom (d + 12) 1 6) s' m' args' below' meth' c' T'.heap (locs ++ L) (cells + 1) (slots + 6) (vx_MQ below' (gQ X ad1 gN0 (pQ M x z)) (fun _ _ _ => False) args' s' 1 6 (gA X)) (F0 m' 13 ls [.ref q]) := by
          refine lv_astore hF.1 hF.2.1 dL_person_13 hl' (by decide) rfl (fun ls2 hl2 => ?_)
          exact vx_ret (l_15 (d := d) hin ad1 ad p' e' s' m' args' below' meth' c' T'.heap (locs ++ L) (cells + 1) (slots + 6) ls2 hF (by rw [e1]; exact hR2) hS2 hN (by show cells + 1 + 0 ≤ 1; omega) (by show slots + 6 + 0 ≤ 6; omega) ⟨hl2.1, hl2.2.1, fun y hy => absurd hy List.not_mem_nil⟩)
        obtain ⟨n1, -, -⟩ := hTh.2 s' hK'.2
        have hce' : T'.heap[q]? = some ce := by rw [e1]; exact hce
        have kw := vx_catch (own := yL_person.cls) (name := NSE) (E := NSE) (ce := ce) (q := q) (pc := 5) (rest := ([.int 0, .ref 120] : List Value).map (gT ad)) hF.2.2.2.1 [] te [] (by rw [htab, et1]; rfl) (fun y hy => absurd hy List.not_mem_nil) et2 (by rw [et3]; decide) (by rw [et3]; exact hts' _ lc_L_13) (va_Nw.use rfl (n1 _ List.mem_cons_self)) hce' hcv hcl (by rw [et4]; exact kk)
        obtain ⟨t2, a2, b2⟩ := kw T' rfl X'
        exact ⟨t2, step.trans a2, fun _ => b2⟩
    · exact ⟨_, Steps.refl _, fun h => absurd h hs⟩
  have k0' : gW X (gRoom (d + 12) 1 6) (fun ad1 b' a' s' t => s' = s → vx_MQ b' (gQ X ad1 gN0 (pQ M x z)) (fun _ _ _ => False) a' s' 1 6 (gA X) t) gN0 yL_person cL_person 5 (some .int) 0 (lv_args 0 (pA x z)) [] M 1 6 := by
    refine g_aload_n (x := 120) dL_person_0 rfl rfl rfl ?_
    refine g_iconst (v := 0) dL_person_1 (by decide) rfl ?_
    refine g_aload_n (x := 0) dL_person_2 rfl rfl rfl ?_
    refine g_iload_n (x := x) dL_person_3 rfl rfl rfl ?_
    refine g_iload_n (x := z) dL_person_4 rfl rfl rfl ?_
    exact k5
  intro T hT Xs
  obtain ⟨t, a1, b1⟩ := k0' ad0 ad0 p e s m _ below meth c s.heap [] 0 0 _ hF0 hR va_S.rf (fun _ _ => rfl) (by show 0 + 1 ≤ 1; omega) (by show 0 + 6 ≤ 6; omega) hl T hT Xs
  exact ⟨t, a1, b1 rfl⟩
end P2
