section Q0
set_option maxRecDepth 100000
theorem zi_k : ∀ a, a < 121 → gkd z155 a = gkt.getD a 0 := by decide +kernel
theorem zi_n : ∀ a, a < 121 → gln z155 a = glt.getD a 0 := by decide +kernel
theorem zi_r : ∀ q ∈ grt, gmr z155 q.1 q.2.1 = some q.2.2 := by decide +kernel
theorem zi_lay : gLay z155 := ⟨zi_k, zi_n, zi_r⟩
theorem zi_p : PLay z155 := by unfold PLay; decide +kernel
theorem zi_l : LawAt z155 200 := by unfold LawAt; decide +kernel
theorem zi_w : WkAt z155 300 := by unfold WkAt; decide +kernel
theorem zi_h : ∀ c, c < 400 → 205 ≤ c → (c < 300 ∨ 305 ≤ c) → gkd z155 c = 0 := by decide +kernel
theorem zi_a : gmi z155 20 3 = nI 0 ∧ gmr z155 19 1 = some 200 ∧ gmi z155 0 6 = nI 0 ∧ gmr z155 0 7 = some 300 ∧ gmi z155 1 1 = nI 0 ∧ tv z155 0 6 = 0 ∧ tv z155 3 7 = 0 ∧ tv z155 3 8 = 0 ∧ gmi z155 100 7 = nI 0 ∧ gmi z155 100 34 = -1 := by decide +kernel
theorem zi_b : TownB z155 11 := by unfold TownB okv; decide +kernel
theorem zi_t : TownOK z155 := by unfold TownOK okv; decide +kernel
theorem zi_rt : RTn z155 z155 := by unfold RTn; decide +kernel
theorem zi_n1 : ∀ k, k < 67 → gmi z155 113 k = gmi z155 25 (cix k) := by decide +kernel
theorem zi_n2 : ∀ k, k < 67 → gmi z155 25 k = nI 0 := by decide +kernel
theorem zi_m : RMs z155 z155 := by unfold RMs; decide +kernel
theorem zi_c : gmi z155 33 2 = nI 0 ∧ gmi z155 33 1 = nI 0 ∧ gmi z155 100 39 = nI 0 ∧ gmi z155 100 44 = nI 0 ∧ gmi z155 75 5 = nI 0 ∧ gmi z155 100 46 = gmi z155 0 11 ∧ gmi z155 0 11 = 0 ∧ gmi z155 100 6 = nI 0 ∧ gmi z155 113 67 = nI 0 ∧ gmi z155 100 30 = gmi z155 0 6 := by decide +kernel
theorem zi_115 (q : Nat) : gml z155 115 q = 0 := by rfl
theorem inv0 : Inv z155 := by
  obtain ⟨a1, a2, a3, a4, a5, a6, a7, a8, a9, a10⟩ := zi_a
  obtain ⟨c1, c2, c3, c4, c5, c6, c7, c8, c9, c10⟩ := zi_c
  have o6 : okv z155 0 6 4 := ⟨by rw [a6]; exact a3, by rw [a6]; decide⟩
  refine ⟨0, fun _ _ => 0, none, 0, 0, 0, 0, fun _ => 0, 0, ⟨zi_lay, zi_p, ⟨a1, by decide, fun k hk => absurd hk (by omega), ⟨a2, zi_l⟩, fun c h1 h2 => zi_h c (by omega) (by omega) (by omega)⟩, ⟨⟨o6, fun k hk => absurd hk (by rw [a6]; omega)⟩, ⟨a3, by decide⟩, ⟨a4, zi_w⟩, fun c h1 h2 => zi_h c (by omega) (by omega) (by omega)⟩, zi_b, ⟨a5, by decide, fun i hi => absurd hi (by omega)⟩, fun h => absurd h (by rw [a7]; decide)⟩, ⟨⟨⟨zi_lay, ⟨a9, by decide, fun k hk => absurd hk (by omega)⟩, ⟨fun q _ k g s b m w t hk => absurd hk (by omega), fun q _ => ⟨0, by decide, zi_115 q⟩⟩, Or.inl ⟨rfl, a10⟩⟩, zi_t, zi_rt⟩, ⟨zi_n1, ?_, ?_⟩, ⟨c1, by decide⟩, ⟨c2, c3, by decide⟩, fun a ha => absurd ha (by omega), fun a b _ hb => absurd hb (by omega)⟩, ⟨c10, o6, fun k hk => absurd hk (by rw [a6]; omega)⟩, ⟨c4, c5, by decide, fun i hi => absurd hi (by omega)⟩, ⟨c6, Or.inl c7, fun h => absurd c7 h⟩, zi_m, ⟨c8, by decide, fun i hi => absurd hi (by omega)⟩⟩
  · rw [zi_n2 66 (by decide)]
    exact ⟨c9, fun j hj => absurd hj (by show ¬ j < 0; omega)⟩
  · exact ⟨⟨fun p hp => ⟨0, by decide, zi_n2 p (by omega)⟩, fun p hp => ⟨0, by decide, zi_n2 _ (by omega)⟩, ⟨0, by decide, zi_n2 66 (by decide)⟩⟩, fun i h1 h2 => ⟨0, zi_n2 i (by omega), by decide⟩, ⟨0, by decide, zi_n2 64 (by decide)⟩, ⟨0, by decide, zi_n2 66 (by decide)⟩⟩
end Q0
section Q1
variable {X : gX} {R : Room} {Z : gZt} {bc bs n : Nat} {xs : Nat → Int32}
theorem mcX10 : gMc yX10_init cX10_init 1 0 := ⟨lk_X10_init, li_X10_init, rfl, ln_X10, ⟨by decide, by decide, by decide +kernel⟩, by decide⟩
theorem mcX11 : gMc yX11_init cX11_init 1 0 := ⟨lk_X11_init, li_X11_init, rfl, ln_X11, ⟨by decide, by decide, by decide +kernel⟩, by decide⟩
theorem law_start (hx : gXok X) (hZ : gSt X) (hW : gNw X) (hA : ∀ U, X.2.2.2.2.2 U → gAOA U) (hTh : gTh X) (hS : gSc X n xs) (hn : n ≤ 3072) (hf : gFit 100 R) (he : ∀ (i bc bs : Nat) (M : gM), gW X R Z gNt yL_law cL_law 7 (some .boolean) 1590 (lvL i) [.int 1] M bc bs) : gW X R Z gNt yL_law cL_law 7 (some .boolean) 0 (lv_args 0 [.ref 5030]) [] z0 10000 1000000 := by
  have hf2 : ∀ d, d ≤ 100 → gFit d R := fun d hd => ⟨by have := hf.1; omega, by have := hf.2; omega⟩
  refine g_new (ci := 10) (b := 0) dL_law_0 rfl lc_L_8 lt_X10 ln_X10 (by decide +kernel) (by decide) trivial (alqc (ne_ref (by decide)) alq0) al0 (by decide) (by decide) rfl ?_
  rw [ze1]
  refine g_dup dL_law_3 rfl rfl ?_
  refine g_callI (As := []) dL_law_4 lm_L_15 mcX10 (k_X10_init_0 (d := 90) hx hZ hW hA) rfl rfl (Nat.le_of_ble_eq_true rfl) (hf2 93 (by decide)) (by decide) (by decide) (fun _ _ => trivial) (anqc (anr (fun q => absurd q.2 (by decide))) anq0) (fun v hv b e q => by rw [List.mem_singleton.mp hv] at e; rw [← Value.ref.inj e] at q; exact absurd q.1 (by decide)) rfl (fun v M2 hq => ?_)
  obtain ⟨rfl, rfl⟩ := hq
  refine g_astore_n dL_law_7 rfl (by decide) rfl ?_
  refine g_new (ci := 11) (b := 100) dL_law_8 rfl lc_L_16 lt_X11 ln_X11 (by decide +kernel) (by decide) trivial (alqc (ne_ref (by decide)) (alqc (ne_ref (by decide)) alq0)) al0 (by decide) (by decide) rfl ?_
  refine g_dup dL_law_11 rfl rfl ?_
  refine g_callI (As := []) dL_law_12 lm_L_18 mcX11 (k_X11_init_100 (d := 90) hx hZ hW hA) rfl rfl (Nat.le_of_ble_eq_true rfl) (hf2 91 (by decide)) (by decide) (by decide) (fun _ _ => trivial) (anqc (anr (fun q => absurd q.1 (by decide))) (anqc (anr (fun q => absurd q.2 (by decide))) anq0)) (fun v hv b e q => by rw [List.mem_singleton.mp hv] at e; rw [← Value.ref.inj e] at q; exact absurd q.1 (by decide)) rfl (fun v M2 hq => ?_)
  obtain ⟨rfl, rfl⟩ := hq
  refine g_astore_n dL_law_15 rfl (by decide) rfl ?_
  refine g_iconst (v := 1) dL_law_16 (by decide) rfl ?_
  refine g_new_long (b := 120) (n := 1) dL_law_17 la_long (by decide) (by decide) (by decide +kernel) (by decide) trivial (alqc (ne_ref (by decide)) (alqc (ne_ref (by decide)) (alqc (ne_ref (by decide)) alq0))) al0 (by decide) (by decide) rfl ?_
  refine g_astore_n dL_law_19 rfl (by decide) rfl ?_
  refine g_iconst (v := 0) dL_law_20 (by decide) rfl ?_
  refine g_istore dL_law_21 (by decide) rfl ?_
  refine g_lv (lvL 0) ⟨rfl, rfl, rfl, rfl, rfl, trivial⟩ ?_
  exact g_less (by decide) (by decide) (law_loop hx hZ hW (law_4 hx hTh hS hn hf) hS hn hf he 512 0 z155 inv0 (by decide) (by omega))
end Q1
