/-! new cells -/
section N0
variable {M : gM} {a b c k n i : Nat}
theorem gkd_Ns : gkd (gwN M a k n) a = k := va_up_self _ _ _
theorem gln_Ns : gln (gwN M a k n) a = n := va_up_self _ _ _
theorem gmi_Ns : gmi (gwN M a k n) a = fun _ => 0 := va_up_self _ _ _
theorem gmr_Ns : gmr (gwN M a k n) a = fun _ => none := va_up_self _ _ _
theorem gml_Ns : gml (gwN M a k n) a = fun _ => 0 := va_up_self _ _ _
theorem gkd_Nn (h : c ≠ a) : gkd (gwN M a k n) c = gkd M c := va_up_ne _ _ h
theorem gln_Nn (h : c ≠ a) : gln (gwN M a k n) c = gln M c := va_up_ne _ _ h
theorem gmi_Nn (h : c ≠ a) : gmi (gwN M a k n) c = gmi M c := va_up_ne _ _ h
theorem gmr_Nn (h : c ≠ a) : gmr (gwN M a k n) c = gmr M c := va_up_ne _ _ h
theorem gml_Nn (h : c ≠ a) : gml (gwN M a k n) c = gml M c := va_up_ne _ _ h
theorem gmr_Rs {v : Option Nat} : gmr (gwR M a i v) a = va_up (gmr M a) i v := va_up_self _ _ _
theorem gmr_Rn {v : Option Nat} (h : c ≠ a) : gmr (gwR M a i v) c = gmr M c := va_up_ne _ _ h
/-- a cell stays as it was -/
def gSm (M M2 : gM) (c : Nat) : Prop := gkd M2 c = gkd M c ∧ gln M2 c = gln M c ∧ gmi M2 c = gmi M c ∧ gmr M2 c = gmr M c ∧ gml M2 c = gml M c
theorem gSm.rf : gSm M M c := ⟨rfl, rfl, rfl, rfl, rfl⟩
theorem gSm.tr {M1 M2 M3 : gM} (h : gSm M1 M2 c) (h2 : gSm M2 M3 c) : gSm M1 M3 c := ⟨h2.1.trans h.1, h2.2.1.trans h.2.1, h2.2.2.1.trans h.2.2.1, h2.2.2.2.1.trans h.2.2.2.1, h2.2.2.2.2.trans h.2.2.2.2⟩
theorem gSm.wN {M0 : gM} (h : gSm M0 M c) (hc : c ≠ a) : gSm M0 (gwN M a k n) c := h.tr ⟨gkd_Nn hc, gln_Nn hc, gmi_Nn hc, gmr_Nn hc, gml_Nn hc⟩
theorem gSm.wR {M0 : gM} {v : Option Nat} (h : gSm M0 M c) (hc : c ≠ a) : gSm M0 (gwR M a i v) c := h.tr ⟨rfl, rfl, rfl, gmr_Rn hc, rfl⟩
theorem gSm.wI {M0 : gM} {v : Int32} (h : gSm M0 M c) (hc : c ≠ a) : gSm M0 (gwI M a i v) c := h.tr ⟨rfl, rfl, gmi_In _ _ _ hc, rfl, rfl⟩
theorem gSm.wL {M0 : gM} {v : Int64} (h : gSm M0 M c) (hc : c ≠ a) : gSm M0 (gwL M a i v) c := h.tr ⟨rfl, rfl, rfl, rfl, va_up_ne _ _ hc⟩
/-- a new cell b, put into the field i of a -/
def gAl (M M2 : gM) (a i b k n : Nat) : Prop := (gkd M2 b = k ∧ gln M2 b = n ∧ gmi M2 b = (fun _ => 0) ∧ gmr M2 b = (fun _ => none)) ∧ (∀ c, c ≠ b → gkd M2 c = gkd M c) ∧ (∀ c, c ≠ b → gln M2 c = gln M c) ∧ (∀ c, c ≠ b → gmi M2 c = gmi M c) ∧ (∀ c, c ≠ b → gml M2 c = gml M c) ∧ (∀ c, c ≠ a → c ≠ b → gmr M2 c = gmr M c) ∧ gmr M2 a = va_up (gmr M a) i (some b)
theorem gAl.of {M2 : gM} (hab : a ≠ b) (h : gwR (gwN M b k n) a i (some b) = M2) : gAl M M2 a i b k n := by
  subst h
  refine ⟨⟨?_, ?_, ?_, ?_⟩, fun c hc => ?_, fun c hc => ?_, fun c hc => ?_, fun c hc => ?_, fun c hc hc2 => ?_, ?_⟩
  · show gkd (gwN M b k n) b = k
    exact gkd_Ns
  · show gln (gwN M b k n) b = n
    exact gln_Ns
  · show gmi (gwN M b k n) b = _
    exact gmi_Ns
  · rw [gmr_Rn hab.symm]
    exact gmr_Ns
  · show gkd (gwN M b k n) c = _
    exact gkd_Nn hc
  · show gln (gwN M b k n) c = _
    exact gln_Nn hc
  · show gmi (gwN M b k n) c = _
    exact gmi_Nn hc
  · show gml (gwN M b k n) c = _
    exact gml_Nn hc
  · rw [gmr_Rn hc, gmr_Nn hc2]
  · rw [gmr_Rs, gmr_Nn hab]
theorem gAl.sm {M2 : gM} (h : gAl M M2 a i b k n) {c : Nat} (h1 : c ≠ a) (h2 : c ≠ b) : gSm M M2 c := ⟨h.2.1 c h2, h.2.2.1 c h2, h.2.2.2.1 c h2, h.2.2.2.2.2.1 c h1 h2, h.2.2.2.2.1 c h2⟩
theorem gAl.r {M2 : gM} (h : gAl M M2 a i b k n) {j : Nat} (h1 : j ≠ i) : gmr M2 a j = gmr M a j := by rw [h.2.2.2.2.2.2, va_up_ne _ _ h1]
theorem gAl.rs {M2 : gM} (h : gAl M M2 a i b k n) : gmr M2 a i = some b := by rw [h.2.2.2.2.2.2, va_up_self]
theorem ne_ref (h : a ≠ b) : (Value.ref a) ≠ .ref b := fun e => h (Value.ref.inj e)
theorem al1 (h : a ≠ b) : ∀ v ∈ [Value.ref a], v ≠ .ref b := fun v hv => by rw [List.mem_singleton.mp hv]; exact ne_ref h
theorem alq1 (h : a ≠ b) : ∀ q ∈ [(i, Value.ref a)], q.2 ≠ .ref b := fun v hv => by rw [List.mem_singleton.mp hv]; exact ne_ref h
theorem al0 : ∀ v ∈ ([] : List Value), v ≠ .ref b := fun v hv => absurd hv List.not_mem_nil
theorem alc {v : Value} {l : List Value} (h : v ≠ .ref b) (h2 : ∀ v ∈ l, v ≠ .ref b) : ∀ u ∈ v :: l, u ≠ .ref b := fun u hu => (List.mem_cons.mp hu).elim (fun e => by rw [e]; exact h) (h2 u)
theorem alqc {q : Nat × Value} {l : List (Nat × Value)} (h : q.2 ≠ .ref b) (h2 : ∀ q ∈ l, q.2 ≠ .ref b) : ∀ u ∈ q :: l, u.2 ≠ .ref b := fun u hu => (List.mem_cons.mp hu).elim (fun e => by rw [e]; exact h) (h2 u)
theorem alq0 : ∀ q ∈ ([] : List (Nat × Value)), q.2 ≠ .ref b := fun v hv => absurd hv List.not_mem_nil
theorem anc {S : Nat → Prop} {v : Value} {l : List Value} (h : ∀ b, v = .ref b → ¬ S b) (h2 : ∀ v ∈ l, ∀ b, v = .ref b → ¬ S b) : ∀ u ∈ v :: l, ∀ b, u = .ref b → ¬ S b := fun u hu => (List.mem_cons.mp hu).elim (fun e => by rw [e]; exact h) (h2 u)
theorem anqc {S : Nat → Prop} {q : Nat × Value} {l : List (Nat × Value)} (h : ∀ b, q.2 = .ref b → ¬ S b) (h2 : ∀ q ∈ l, ∀ b, q.2 = .ref b → ¬ S b) : ∀ u ∈ q :: l, ∀ b, u.2 = .ref b → ¬ S b := fun u hu => (List.mem_cons.mp hu).elim (fun e => by rw [e]; exact h) (h2 u)
theorem an0 {S : Nat → Prop} : ∀ v ∈ ([] : List Value), ∀ b, v = .ref b → ¬ S b := fun v hv => absurd hv List.not_mem_nil
theorem anq0 {S : Nat → Prop} : ∀ q ∈ ([] : List (Nat × Value)), ∀ b, q.2 = .ref b → ¬ S b := fun v hv => absurd hv List.not_mem_nil
theorem anr {S : Nat → Prop} (h : ¬ S a) : ∀ b, Value.ref a = .ref b → ¬ S b := fun b e => by rw [← Value.ref.inj e]; exact h
theorem ani {S : Nat → Prop} {x : Int32} : ∀ b, Value.int x = .ref b → ¬ S b := fun b e => nomatch e
theorem nei {x : Int32} : Value.int x ≠ .ref b := fun e => nomatch e
end N0
/-- what constructors of nest mates need -/
def nwL : List (String × Nat × MethodName) := [("GuiltyShave", 9, yX7_init), ("GuiltyShave", 18, yX8_init), ("GuiltyShave$LawReader", 11, yX2_init), ("GuiltyShave", 50, yX9_init), ("GuiltyShave", 70, yX5_init), ("GuiltyShave", 86, yX1_init)]
def gNw (X : gX) : Prop := ∀ U, X.2.2.2.2.2 U → (∀ q ∈ nwL, va_Nw (.methodLinkNest q.1 q.2.1 q.2.2 "GuiltyShave") U) ∧ va_AO "GuiltyShave$Law" U ∧ va_AO "GuiltyShave$Week" U
section N1
variable {X : gX} {M : gM} {d : Nat}
def inL (a n : Nat) : Nat → Prop := fun c => a + 1 ≤ c ∧ c ≤ a + n
set_option maxRecDepth 20000 in
theorem c_lawInit (hx : gXok X) {a : Nat} (hk : gkd M a = 3) (h0 : ∀ c, a + 1 ≤ c → c ≤ a + 4 → gkd M c = 0) (h5 : a + 4 < 5000) : gMet X (d + 1) yX2_init cX2_init 1 none [.ref a] M (inL a 4) 4 426 (fun v M2 => v = none ∧ LawAt M2 a ∧ gmi M2 a = gmi M a ∧ ∀ c, c < a ∨ a + 4 < c → gSm M M2 c) := by
  refine gMet.of hx (by decide) (Nat.le_of_ble_eq_true rfl) ?_
  refine g_aload_n dX2_init_0 rfl rfl rfl ?_
  refine g_objInit dX2_init_1 lo_X2_3 li_obj lk_obj (Nat.le_of_ble_eq_true rfl) (gFit_room (by omega)) rfl ?_
  refine g_aload_n dX2_init_4 rfl rfl rfl ?_
  refine g_sipush (v := 240) dX2_init_5 (by decide) rfl ?_
  refine g_new_int (b := a + 1) (n := 240) dX2_init_8 la_int (by decide) (by decide) (h0 (a + 1) (by omega) (by omega)) (by omega) ⟨by omega, by omega⟩ (alq1 (by omega)) (al1 (by omega)) (by decide) (by decide) rfl ?_
  refine g_putFR dX2_init_10 fp_X2_9 rfl rfl (by rw [gkd_Nn (show a ≠ a + 1 by omega)]; exact hk) (Or.inl (by rw [gkd_Ns]; decide)) rfl ?_
  generalize hM1 : gwR (gwN M (a + 1) 32 240) a 0 (some (a + 1)) = M1
  have A1 := gAl.of (show a ≠ a + 1 by omega) hM1
  clear hM1
  refine g_aload_n dX2_init_13 rfl rfl rfl ?_
  refine g_bipush (v := 61) dX2_init_14 (by decide) rfl ?_
  refine g_new_int (b := a + 2) (n := 61) dX2_init_16 la_int (by decide) (by decide) ((A1.2.1 (a + 2) (by omega)).trans (h0 (a + 2) (by omega) (by omega))) (by omega) ⟨by omega, by omega⟩ (alq1 (by omega)) (al1 (by omega)) (by decide) (by decide) rfl ?_
  refine g_putFR dX2_init_18 fp_X2_15 rfl rfl (by rw [gkd_Nn (show a ≠ a + 2 by omega)]; exact (A1.2.1 a (by omega)).trans (hk)) (Or.inl (by rw [gkd_Ns]; decide)) rfl ?_
  generalize hM2 : gwR (gwN M1 (a + 2) 32 61) a 1 (some (a + 2)) = M2
  have A2 := gAl.of (show a ≠ a + 2 by omega) hM2
  clear hM2
  refine g_aload_n dX2_init_21 rfl rfl rfl ?_
  refine g_bipush (v := 61) dX2_init_22 (by decide) rfl ?_
  refine g_new_int (b := a + 3) (n := 61) dX2_init_24 la_int (by decide) (by decide) ((A2.2.1 (a + 3) (by omega)).trans ((A1.2.1 (a + 3) (by omega)).trans (h0 (a + 3) (by omega) (by omega)))) (by omega) ⟨by omega, by omega⟩ (alq1 (by omega)) (al1 (by omega)) (by decide) (by decide) rfl ?_
  refine g_putFR dX2_init_26 fp_X2_18 rfl rfl (by rw [gkd_Nn (show a ≠ a + 3 by omega)]; exact (A2.2.1 a (by omega)).trans ((A1.2.1 a (by omega)).trans (hk))) (Or.inl (by rw [gkd_Ns]; decide)) rfl ?_
  generalize hM3 : gwR (gwN M2 (a + 3) 32 61) a 2 (some (a + 3)) = M3
  have A3 := gAl.of (show a ≠ a + 3 by omega) hM3
  clear hM3
  refine g_aload_n dX2_init_29 rfl rfl rfl ?_
  refine g_bipush (v := 64) dX2_init_30 (by decide) rfl ?_
  refine g_new_int (b := a + 4) (n := 64) dX2_init_32 la_int (by decide) (by decide) ((A3.2.1 (a + 4) (by omega)).trans ((A2.2.1 (a + 4) (by omega)).trans ((A1.2.1 (a + 4) (by omega)).trans (h0 (a + 4) (by omega) (by omega))))) (by omega) ⟨by omega, by omega⟩ (alq1 (by omega)) (al1 (by omega)) (by decide) (by decide) rfl ?_
  refine g_putFR dX2_init_34 fp_X2_21 rfl rfl (by rw [gkd_Nn (show a ≠ a + 4 by omega)]; exact (A3.2.1 a (by omega)).trans ((A2.2.1 a (by omega)).trans ((A1.2.1 a (by omega)).trans (hk)))) (Or.inl (by rw [gkd_Ns]; decide)) rfl ?_
  generalize hM4 : gwR (gwN M3 (a + 4) 32 64) a 3 (some (a + 4)) = M4
  have A4 := gAl.of (show a ≠ a + 4 by omega) hM4
  clear hM4
  exact g_vret dX2_init_37 rfl ⟨rfl, ⟨(A4.2.1 a (by omega)).trans ((A3.2.1 a (by omega)).trans ((A2.2.1 a (by omega)).trans ((A1.2.1 a (by omega)).trans (hk)))), ⟨(A4.2.1 (a + 1) (by omega)).trans ((A3.2.1 (a + 1) (by omega)).trans ((A2.2.1 (a + 1) (by omega)).trans (A1.1.1))), (A4.2.2.1 (a + 1) (by omega)).trans ((A3.2.2.1 (a + 1) (by omega)).trans ((A2.2.2.1 (a + 1) (by omega)).trans (A1.1.2.1)))⟩, ⟨(A4.2.1 (a + 2) (by omega)).trans ((A3.2.1 (a + 2) (by omega)).trans (A2.1.1)), (A4.2.2.1 (a + 2) (by omega)).trans ((A3.2.2.1 (a + 2) (by omega)).trans (A2.1.2.1))⟩, ⟨(A4.2.1 (a + 3) (by omega)).trans (A3.1.1), (A4.2.2.1 (a + 3) (by omega)).trans (A3.1.2.1)⟩, ⟨A4.1.1, A4.1.2.1⟩, (A4.r (by decide)).trans ((A3.r (by decide)).trans ((A2.r (by decide)).trans (A1.rs))), (A4.r (by decide)).trans ((A3.r (by decide)).trans (A2.rs)), (A4.r (by decide)).trans (A3.rs), A4.rs⟩, (A4.2.2.2.1 a (by omega)).trans ((A3.2.2.2.1 a (by omega)).trans ((A2.2.2.2.1 a (by omega)).trans ((A1.2.2.2.1 a (by omega)).trans (rfl)))), fun c hc => ((((gSm.rf).tr (A1.sm (by omega) (by omega))).tr (A2.sm (by omega) (by omega))).tr (A3.sm (by omega) (by omega))).tr (A4.sm (by omega) (by omega))⟩
set_option maxRecDepth 20000 in
theorem c_weekInit (hx : gXok X) {a : Nat} (hk : gkd M a = 10) (h0 : ∀ c, a + 1 ≤ c → c ≤ a + 3 → gkd M c = 0) (h5 : a + 3 < 5000) : gMet X (d + 1) yX9_init cX9_init 1 none [.ref a] M (inL a 3) 3 48 (fun v M2 => v = none ∧ WkAt M2 a ∧ gmi M2 a = gmi M a ∧ ∀ c, c < a ∨ a + 3 < c → gSm M M2 c) := by
  refine gMet.of hx (by decide) (Nat.le_of_ble_eq_true rfl) ?_
  refine g_aload_n dX9_init_0 rfl rfl rfl ?_
  refine g_objInit dX9_init_1 lo_X9_3 li_obj lk_obj (Nat.le_of_ble_eq_true rfl) (gFit_room (by omega)) rfl ?_
  refine g_aload_n dX9_init_4 rfl rfl rfl ?_
  refine g_bipush (v := 16) dX9_init_5 (by decide) rfl ?_
  refine g_new_int (b := a + 1) (n := 16) dX9_init_7 la_int (by decide) (by decide) (h0 (a + 1) (by omega) (by omega)) (by omega) ⟨by omega, by omega⟩ (alq1 (by omega)) (al1 (by omega)) (by decide) (by decide) rfl ?_
  refine g_putFR dX9_init_9 fp_X9_9 rfl rfl (by rw [gkd_Nn (show a ≠ a + 1 by omega)]; exact hk) (Or.inl (by rw [gkd_Ns]; decide)) rfl ?_
  generalize hM1 : gwR (gwN M (a + 1) 32 16) a 0 (some (a + 1)) = M1
  have A1 := gAl.of (show a ≠ a + 1 by omega) hM1
  clear hM1
  refine g_aload_n dX9_init_12 rfl rfl rfl ?_
  refine g_bipush (v := 16) dX9_init_13 (by decide) rfl ?_
  refine g_new_int (b := a + 2) (n := 16) dX9_init_15 la_int (by decide) (by decide) ((A1.2.1 (a + 2) (by omega)).trans (h0 (a + 2) (by omega) (by omega))) (by omega) ⟨by omega, by omega⟩ (alq1 (by omega)) (al1 (by omega)) (by decide) (by decide) rfl ?_
  refine g_putFR dX9_init_17 fp_X9_15 rfl rfl (by rw [gkd_Nn (show a ≠ a + 2 by omega)]; exact (A1.2.1 a (by omega)).trans (hk)) (Or.inl (by rw [gkd_Ns]; decide)) rfl ?_
  generalize hM2 : gwR (gwN M1 (a + 2) 32 16) a 1 (some (a + 2)) = M2
  have A2 := gAl.of (show a ≠ a + 2 by omega) hM2
  clear hM2
  refine g_aload_n dX9_init_20 rfl rfl rfl ?_
  refine g_bipush (v := 16) dX9_init_21 (by decide) rfl ?_
  refine g_new_int (b := a + 3) (n := 16) dX9_init_23 la_int (by decide) (by decide) ((A2.2.1 (a + 3) (by omega)).trans ((A1.2.1 (a + 3) (by omega)).trans (h0 (a + 3) (by omega) (by omega)))) (by omega) ⟨by omega, by omega⟩ (alq1 (by omega)) (al1 (by omega)) (by decide) (by decide) rfl ?_
  refine g_putFR dX9_init_25 fp_X9_18 rfl rfl (by rw [gkd_Nn (show a ≠ a + 3 by omega)]; exact (A2.2.1 a (by omega)).trans ((A1.2.1 a (by omega)).trans (hk))) (Or.inl (by rw [gkd_Ns]; decide)) rfl ?_
  generalize hM3 : gwR (gwN M2 (a + 3) 32 16) a 2 (some (a + 3)) = M3
  have A3 := gAl.of (show a ≠ a + 3 by omega) hM3
  clear hM3
  exact g_vret dX9_init_28 rfl ⟨rfl, ⟨(A3.2.1 a (by omega)).trans ((A2.2.1 a (by omega)).trans ((A1.2.1 a (by omega)).trans (hk))), ⟨(A3.2.1 (a + 1) (by omega)).trans ((A2.2.1 (a + 1) (by omega)).trans (A1.1.1)), (A3.2.2.1 (a + 1) (by omega)).trans ((A2.2.2.1 (a + 1) (by omega)).trans (A1.1.2.1))⟩, ⟨(A3.2.1 (a + 2) (by omega)).trans (A2.1.1), (A3.2.2.1 (a + 2) (by omega)).trans (A2.1.2.1)⟩, ⟨A3.1.1, A3.1.2.1⟩, (A3.r (by decide)).trans ((A2.r (by decide)).trans (A1.rs)), (A3.r (by decide)).trans (A2.rs), A3.rs⟩, (A3.2.2.2.1 a (by omega)).trans ((A2.2.2.2.1 a (by omega)).trans ((A1.2.2.2.1 a (by omega)).trans (rfl))), fun c hc => (((gSm.rf).tr (A1.sm (by omega) (by omega))).tr (A2.sm (by omega) (by omega))).tr (A3.sm (by omega) (by omega))⟩
end N1
