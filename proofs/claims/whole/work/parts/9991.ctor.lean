section K1
variable {X : gX} {d : Nat}
def inR (lo hi : Nat) : Nat → Prop := fun c => lo ≤ c ∧ c ≤ hi
def z0 : gM := (fun _ => 0, fun _ => 0, fun _ _ => 0, fun _ _ => none, fun _ _ => 0)
def z1 : gM := gwN z0 0 11 0
theorem ze1 : gwN z0 0 11 0 = z1 := rfl
def z2 : gM := gwN z1 1 8 0
theorem ze2 : gwN z1 1 8 0 = z2 := rfl
def z3 : gM := gwN z2 2 34 240
theorem ze3 : gwN z2 2 34 240 = z3 := rfl
def z4 : gM := gwR z3 1 0 (some 2)
theorem ze4 : gwR z3 1 0 (some 2) = z4 := rfl
set_option maxRecDepth 20000 in
set_option maxHeartbeats 16000000 in
theorem k_X7_init_1 (hx : gXok X) (hZ : gSt X) (hW : gNw X) (hA : ∀ U, X.2.2.2.2.2 U → gAOA U) : gMet X (d + 1) yX7_init cX7_init 1 none [.ref 1] z2 (inR 2 2) 1 240 (fun v M2 => v = none ∧ M2 = z4) := by
  refine gMet.of hx (by decide) (Nat.le_of_ble_eq_true rfl) ?_
  refine g_aload_n dX7_init_0 rfl rfl rfl ?_
  refine g_objInit dX7_init_1 lo_X7_3 li_obj lk_obj (Nat.le_of_ble_eq_true rfl) (gFit_room (by omega)) rfl ?_
  refine g_aload_n dX7_init_4 rfl rfl rfl ?_
  refine g_sipush (v := 240) dX7_init_5 (by decide) rfl ?_
  refine g_new_char (b := 2) (n := 240) dX7_init_8 la_char (by decide) (by decide) (by decide +kernel) (by decide) ⟨by decide, by decide⟩ (alqc (ne_ref (by decide)) alq0) (alc (ne_ref (by decide)) al0) (by decide) (Nat.le_of_ble_eq_true rfl) rfl ?_
  rw [ze3]
  refine g_putFR dX7_init_10 fp_X7_9 rfl rfl (by decide +kernel) (Or.inl (by decide +kernel)) rfl ?_
  rw [ze4]
  exact g_vret dX7_init_13 rfl ⟨rfl, rfl⟩
def z5 : gM := gwR z4 0 0 (some 1)
theorem ze5 : gwR z4 0 0 (some 1) = z5 := rfl
def z6 : gM := gwN z5 3 9 0
theorem ze6 : gwN z5 3 9 0 = z6 := rfl
def z7 : gM := gwN z6 4 32 6
theorem ze7 : gwN z6 4 32 6 = z7 := rfl
def z8 : gM := gwR z7 3 0 (some 4)
theorem ze8 : gwR z7 3 0 (some 4) = z8 := rfl
def z9 : gM := gwN z8 5 32 6
theorem ze9 : gwN z8 5 32 6 = z9 := rfl
def z10 : gM := gwR z9 3 1 (some 5)
theorem ze10 : gwR z9 3 1 (some 5) = z10 := rfl
def z11 : gM := gwN z10 6 32 6
theorem ze11 : gwN z10 6 32 6 = z11 := rfl
def z12 : gM := gwR z11 3 2 (some 6)
theorem ze12 : gwR z11 3 2 (some 6) = z12 := rfl
def z13 : gM := gwN z12 7 32 8
theorem ze13 : gwN z12 7 32 8 = z13 := rfl
def z14 : gM := gwR z13 3 3 (some 7)
theorem ze14 : gwR z13 3 3 (some 7) = z14 := rfl
def z15 : gM := gwN z14 8 32 8
theorem ze15 : gwN z14 8 32 8 = z15 := rfl
def z16 : gM := gwR z15 3 4 (some 8)
theorem ze16 : gwR z15 3 4 (some 8) = z16 := rfl
def z17 : gM := gwN z16 9 32 8
theorem ze17 : gwN z16 9 32 8 = z17 := rfl
def z18 : gM := gwR z17 3 5 (some 9)
theorem ze18 : gwR z17 3 5 (some 9) = z18 := rfl
def z19 : gM := gwN z18 10 32 3
theorem ze19 : gwN z18 10 32 3 = z19 := rfl
def z20 : gM := gwR z19 3 6 (some 10)
theorem ze20 : gwR z19 3 6 (some 10) = z20 := rfl
set_option maxRecDepth 20000 in
set_option maxHeartbeats 16000000 in
theorem k_X8_init_3 (hx : gXok X) (hZ : gSt X) (hW : gNw X) (hA : ∀ U, X.2.2.2.2.2 U → gAOA U) : gMet X (d + 1) yX8_init cX8_init 1 none [.ref 3] z6 (inR 4 10) 7 45 (fun v M2 => v = none ∧ M2 = z20) := by
  refine gMet.of hx (by decide) (Nat.le_of_ble_eq_true rfl) ?_
  refine g_aload_n dX8_init_0 rfl rfl rfl ?_
  refine g_objInit dX8_init_1 lo_X8_3 li_obj lk_obj (Nat.le_of_ble_eq_true rfl) (gFit_room (by omega)) rfl ?_
  refine g_aload_n dX8_init_4 rfl rfl rfl ?_
  refine g_bipush (v := 6) dX8_init_5 (by decide) rfl ?_
  refine g_new_int (b := 4) (n := 6) dX8_init_7 la_int (by decide) (by decide) (by decide +kernel) (by decide) ⟨by decide, by decide⟩ (alqc (ne_ref (by decide)) alq0) (alc (ne_ref (by decide)) al0) (by decide) (Nat.le_of_ble_eq_true rfl) rfl ?_
  rw [ze7]
  refine g_putFR dX8_init_9 fp_X8_9 rfl rfl (by decide +kernel) (Or.inl (by decide +kernel)) rfl ?_
  rw [ze8]
  refine g_aload_n dX8_init_12 rfl rfl rfl ?_
  refine g_bipush (v := 6) dX8_init_13 (by decide) rfl ?_
  refine g_new_int (b := 5) (n := 6) dX8_init_15 la_int (by decide) (by decide) (by decide +kernel) (by decide) ⟨by decide, by decide⟩ (alqc (ne_ref (by decide)) alq0) (alc (ne_ref (by decide)) al0) (by decide) (Nat.le_of_ble_eq_true rfl) rfl ?_
  rw [ze9]
  refine g_putFR dX8_init_17 fp_X8_15 rfl rfl (by decide +kernel) (Or.inl (by decide +kernel)) rfl ?_
  rw [ze10]
  refine g_aload_n dX8_init_20 rfl rfl rfl ?_
  refine g_bipush (v := 6) dX8_init_21 (by decide) rfl ?_
  refine g_new_int (b := 6) (n := 6) dX8_init_23 la_int (by decide) (by decide) (by decide +kernel) (by decide) ⟨by decide, by decide⟩ (alqc (ne_ref (by decide)) alq0) (alc (ne_ref (by decide)) al0) (by decide) (Nat.le_of_ble_eq_true rfl) rfl ?_
  rw [ze11]
  refine g_putFR dX8_init_25 fp_X8_18 rfl rfl (by decide +kernel) (Or.inl (by decide +kernel)) rfl ?_
  rw [ze12]
  refine g_aload_n dX8_init_28 rfl rfl rfl ?_
  refine g_bipush (v := 8) dX8_init_29 (by decide) rfl ?_
  refine g_new_int (b := 7) (n := 8) dX8_init_31 la_int (by decide) (by decide) (by decide +kernel) (by decide) ⟨by decide, by decide⟩ (alqc (ne_ref (by decide)) alq0) (alc (ne_ref (by decide)) al0) (by decide) (Nat.le_of_ble_eq_true rfl) rfl ?_
  rw [ze13]
  refine g_putFR dX8_init_33 fp_X8_21 rfl rfl (by decide +kernel) (Or.inl (by decide +kernel)) rfl ?_
  rw [ze14]
  refine g_aload_n dX8_init_36 rfl rfl rfl ?_
  refine g_bipush (v := 8) dX8_init_37 (by decide) rfl ?_
  refine g_new_int (b := 8) (n := 8) dX8_init_39 la_int (by decide) (by decide) (by decide +kernel) (by decide) ⟨by decide, by decide⟩ (alqc (ne_ref (by decide)) alq0) (alc (ne_ref (by decide)) al0) (by decide) (Nat.le_of_ble_eq_true rfl) rfl ?_
  rw [ze15]
  refine g_putFR dX8_init_41 fp_X8_24 rfl rfl (by decide +kernel) (Or.inl (by decide +kernel)) rfl ?_
  rw [ze16]
  refine g_aload_n dX8_init_44 rfl rfl rfl ?_
  refine g_bipush (v := 8) dX8_init_45 (by decide) rfl ?_
  refine g_new_int (b := 9) (n := 8) dX8_init_47 la_int (by decide) (by decide) (by decide +kernel) (by decide) ⟨by decide, by decide⟩ (alqc (ne_ref (by decide)) alq0) (alc (ne_ref (by decide)) al0) (by decide) (Nat.le_of_ble_eq_true rfl) rfl ?_
  rw [ze17]
  refine g_putFR dX8_init_49 fp_X8_27 rfl rfl (by decide +kernel) (Or.inl (by decide +kernel)) rfl ?_
  rw [ze18]
  refine g_aload_n dX8_init_52 rfl rfl rfl ?_
  refine g_iconst (v := 3) dX8_init_53 (by decide) rfl ?_
  refine g_new_int (b := 10) (n := 3) dX8_init_54 la_int (by decide) (by decide) (by decide +kernel) (by decide) ⟨by decide, by decide⟩ (alqc (ne_ref (by decide)) alq0) (alc (ne_ref (by decide)) al0) (by decide) (Nat.le_of_ble_eq_true rfl) rfl ?_
  rw [ze19]
  refine g_putFR dX8_init_56 fp_X8_30 rfl rfl (by decide +kernel) (Or.inl (by decide +kernel)) rfl ?_
  rw [ze20]
  exact g_vret dX8_init_59 rfl ⟨rfl, rfl⟩
def z21 : gM := gwR z20 0 1 (some 3)
theorem ze21 : gwR z20 0 1 (some 3) = z21 := rfl
def z22 : gM := gwN z21 11 9 0
theorem ze22 : gwN z21 11 9 0 = z22 := rfl
def z23 : gM := gwN z22 12 32 6
theorem ze23 : gwN z22 12 32 6 = z23 := rfl
def z24 : gM := gwR z23 11 0 (some 12)
theorem ze24 : gwR z23 11 0 (some 12) = z24 := rfl
def z25 : gM := gwN z24 13 32 6
theorem ze25 : gwN z24 13 32 6 = z25 := rfl
def z26 : gM := gwR z25 11 1 (some 13)
theorem ze26 : gwR z25 11 1 (some 13) = z26 := rfl
def z27 : gM := gwN z26 14 32 6
theorem ze27 : gwN z26 14 32 6 = z27 := rfl
def z28 : gM := gwR z27 11 2 (some 14)
theorem ze28 : gwR z27 11 2 (some 14) = z28 := rfl
def z29 : gM := gwN z28 15 32 8
theorem ze29 : gwN z28 15 32 8 = z29 := rfl
def z30 : gM := gwR z29 11 3 (some 15)
theorem ze30 : gwR z29 11 3 (some 15) = z30 := rfl
def z31 : gM := gwN z30 16 32 8
theorem ze31 : gwN z30 16 32 8 = z31 := rfl
def z32 : gM := gwR z31 11 4 (some 16)
theorem ze32 : gwR z31 11 4 (some 16) = z32 := rfl
def z33 : gM := gwN z32 17 32 8
theorem ze33 : gwN z32 17 32 8 = z33 := rfl
def z34 : gM := gwR z33 11 5 (some 17)
theorem ze34 : gwR z33 11 5 (some 17) = z34 := rfl
def z35 : gM := gwN z34 18 32 3
theorem ze35 : gwN z34 18 32 3 = z35 := rfl
def z36 : gM := gwR z35 11 6 (some 18)
theorem ze36 : gwR z35 11 6 (some 18) = z36 := rfl
set_option maxRecDepth 20000 in
set_option maxHeartbeats 16000000 in
theorem k_X8_init_11 (hx : gXok X) (hZ : gSt X) (hW : gNw X) (hA : ∀ U, X.2.2.2.2.2 U → gAOA U) : gMet X (d + 1) yX8_init cX8_init 1 none [.ref 11] z22 (inR 12 18) 7 45 (fun v M2 => v = none ∧ M2 = z36) := by
  refine gMet.of hx (by decide) (Nat.le_of_ble_eq_true rfl) ?_
  refine g_aload_n dX8_init_0 rfl rfl rfl ?_
  refine g_objInit dX8_init_1 lo_X8_3 li_obj lk_obj (Nat.le_of_ble_eq_true rfl) (gFit_room (by omega)) rfl ?_
  refine g_aload_n dX8_init_4 rfl rfl rfl ?_
  refine g_bipush (v := 6) dX8_init_5 (by decide) rfl ?_
  refine g_new_int (b := 12) (n := 6) dX8_init_7 la_int (by decide) (by decide) (by decide +kernel) (by decide) ⟨by decide, by decide⟩ (alqc (ne_ref (by decide)) alq0) (alc (ne_ref (by decide)) al0) (by decide) (Nat.le_of_ble_eq_true rfl) rfl ?_
  rw [ze23]
  refine g_putFR dX8_init_9 fp_X8_9 rfl rfl (by decide +kernel) (Or.inl (by decide +kernel)) rfl ?_
  rw [ze24]
  refine g_aload_n dX8_init_12 rfl rfl rfl ?_
  refine g_bipush (v := 6) dX8_init_13 (by decide) rfl ?_
  refine g_new_int (b := 13) (n := 6) dX8_init_15 la_int (by decide) (by decide) (by decide +kernel) (by decide) ⟨by decide, by decide⟩ (alqc (ne_ref (by decide)) alq0) (alc (ne_ref (by decide)) al0) (by decide) (Nat.le_of_ble_eq_true rfl) rfl ?_
  rw [ze25]
  refine g_putFR dX8_init_17 fp_X8_15 rfl rfl (by decide +kernel) (Or.inl (by decide +kernel)) rfl ?_
  rw [ze26]
  refine g_aload_n dX8_init_20 rfl rfl rfl ?_
  refine g_bipush (v := 6) dX8_init_21 (by decide) rfl ?_
  refine g_new_int (b := 14) (n := 6) dX8_init_23 la_int (by decide) (by decide) (by decide +kernel) (by decide) ⟨by decide, by decide⟩ (alqc (ne_ref (by decide)) alq0) (alc (ne_ref (by decide)) al0) (by decide) (Nat.le_of_ble_eq_true rfl) rfl ?_
  rw [ze27]
  refine g_putFR dX8_init_25 fp_X8_18 rfl rfl (by decide +kernel) (Or.inl (by decide +kernel)) rfl ?_
  rw [ze28]
  refine g_aload_n dX8_init_28 rfl rfl rfl ?_
  refine g_bipush (v := 8) dX8_init_29 (by decide) rfl ?_
  refine g_new_int (b := 15) (n := 8) dX8_init_31 la_int (by decide) (by decide) (by decide +kernel) (by decide) ⟨by decide, by decide⟩ (alqc (ne_ref (by decide)) alq0) (alc (ne_ref (by decide)) al0) (by decide) (Nat.le_of_ble_eq_true rfl) rfl ?_
  rw [ze29]
  refine g_putFR dX8_init_33 fp_X8_21 rfl rfl (by decide +kernel) (Or.inl (by decide +kernel)) rfl ?_
  rw [ze30]
  refine g_aload_n dX8_init_36 rfl rfl rfl ?_
  refine g_bipush (v := 8) dX8_init_37 (by decide) rfl ?_
  refine g_new_int (b := 16) (n := 8) dX8_init_39 la_int (by decide) (by decide) (by decide +kernel) (by decide) ⟨by decide, by decide⟩ (alqc (ne_ref (by decide)) alq0) (alc (ne_ref (by decide)) al0) (by decide) (Nat.le_of_ble_eq_true rfl) rfl ?_
  rw [ze31]
  refine g_putFR dX8_init_41 fp_X8_24 rfl rfl (by decide +kernel) (Or.inl (by decide +kernel)) rfl ?_
  rw [ze32]
  refine g_aload_n dX8_init_44 rfl rfl rfl ?_
  refine g_bipush (v := 8) dX8_init_45 (by decide) rfl ?_
  refine g_new_int (b := 17) (n := 8) dX8_init_47 la_int (by decide) (by decide) (by decide +kernel) (by decide) ⟨by decide, by decide⟩ (alqc (ne_ref (by decide)) alq0) (alc (ne_ref (by decide)) al0) (by decide) (Nat.le_of_ble_eq_true rfl) rfl ?_
  rw [ze33]
  refine g_putFR dX8_init_49 fp_X8_27 rfl rfl (by decide +kernel) (Or.inl (by decide +kernel)) rfl ?_
  rw [ze34]
  refine g_aload_n dX8_init_52 rfl rfl rfl ?_
  refine g_iconst (v := 3) dX8_init_53 (by decide) rfl ?_
  refine g_new_int (b := 18) (n := 3) dX8_init_54 la_int (by decide) (by decide) (by decide +kernel) (by decide) ⟨by decide, by decide⟩ (alqc (ne_ref (by decide)) alq0) (alc (ne_ref (by decide)) al0) (by decide) (Nat.le_of_ble_eq_true rfl) rfl ?_
  rw [ze35]
  refine g_putFR dX8_init_56 fp_X8_30 rfl rfl (by decide +kernel) (Or.inl (by decide +kernel)) rfl ?_
  rw [ze36]
  exact g_vret dX8_init_59 rfl ⟨rfl, rfl⟩
def z37 : gM := gwR z36 0 2 (some 11)
theorem ze37 : gwR z36 0 2 (some 11) = z37 := rfl
def z38 : gM := gwN z37 19 4 0
theorem ze38 : gwN z37 19 4 0 = z38 := rfl
def z39 : gM := gwN z38 200 3 0
theorem ze39 : gwN z38 200 3 0 = z39 := rfl
def z40 : gM := gwN z39 201 32 240
theorem ze40 : gwN z39 201 32 240 = z40 := rfl
def z41 : gM := gwR z40 200 0 (some 201)
theorem ze41 : gwR z40 200 0 (some 201) = z41 := rfl
def z42 : gM := gwN z41 202 32 61
theorem ze42 : gwN z41 202 32 61 = z42 := rfl
def z43 : gM := gwR z42 200 1 (some 202)
theorem ze43 : gwR z42 200 1 (some 202) = z43 := rfl
def z44 : gM := gwN z43 203 32 61
theorem ze44 : gwN z43 203 32 61 = z44 := rfl
def z45 : gM := gwR z44 200 2 (some 203)
theorem ze45 : gwR z44 200 2 (some 203) = z45 := rfl
def z46 : gM := gwN z45 204 32 64
theorem ze46 : gwN z45 204 32 64 = z46 := rfl
def z47 : gM := gwR z46 200 3 (some 204)
theorem ze47 : gwR z46 200 3 (some 204) = z47 := rfl
set_option maxRecDepth 20000 in
set_option maxHeartbeats 16000000 in
theorem k_X2_init_200 (hx : gXok X) (hZ : gSt X) (hW : gNw X) (hA : ∀ U, X.2.2.2.2.2 U → gAOA U) : gMet X (d + 1) yX2_init cX2_init 1 none [.ref 200] z39 (inR 201 204) 4 426 (fun v M2 => v = none ∧ M2 = z47) := by
  refine gMet.of hx (by decide) (Nat.le_of_ble_eq_true rfl) ?_
  refine g_aload_n dX2_init_0 rfl rfl rfl ?_
  refine g_objInit dX2_init_1 lo_X2_3 li_obj lk_obj (Nat.le_of_ble_eq_true rfl) (gFit_room (by omega)) rfl ?_
  refine g_aload_n dX2_init_4 rfl rfl rfl ?_
  refine g_sipush (v := 240) dX2_init_5 (by decide) rfl ?_
  refine g_new_int (b := 201) (n := 240) dX2_init_8 la_int (by decide) (by decide) (by decide +kernel) (by decide) ⟨by decide, by decide⟩ (alqc (ne_ref (by decide)) alq0) (alc (ne_ref (by decide)) al0) (by decide) (Nat.le_of_ble_eq_true rfl) rfl ?_
  rw [ze40]
  refine g_putFR dX2_init_10 fp_X2_9 rfl rfl (by decide +kernel) (Or.inl (by decide +kernel)) rfl ?_
  rw [ze41]
  refine g_aload_n dX2_init_13 rfl rfl rfl ?_
  refine g_bipush (v := 61) dX2_init_14 (by decide) rfl ?_
  refine g_new_int (b := 202) (n := 61) dX2_init_16 la_int (by decide) (by decide) (by decide +kernel) (by decide) ⟨by decide, by decide⟩ (alqc (ne_ref (by decide)) alq0) (alc (ne_ref (by decide)) al0) (by decide) (Nat.le_of_ble_eq_true rfl) rfl ?_
  rw [ze42]
  refine g_putFR dX2_init_18 fp_X2_15 rfl rfl (by decide +kernel) (Or.inl (by decide +kernel)) rfl ?_
  rw [ze43]
  refine g_aload_n dX2_init_21 rfl rfl rfl ?_
  refine g_bipush (v := 61) dX2_init_22 (by decide) rfl ?_
  refine g_new_int (b := 203) (n := 61) dX2_init_24 la_int (by decide) (by decide) (by decide +kernel) (by decide) ⟨by decide, by decide⟩ (alqc (ne_ref (by decide)) alq0) (alc (ne_ref (by decide)) al0) (by decide) (Nat.le_of_ble_eq_true rfl) rfl ?_
  rw [ze44]
  refine g_putFR dX2_init_26 fp_X2_18 rfl rfl (by decide +kernel) (Or.inl (by decide +kernel)) rfl ?_
  rw [ze45]
  refine g_aload_n dX2_init_29 rfl rfl rfl ?_
  refine g_bipush (v := 64) dX2_init_30 (by decide) rfl ?_
  refine g_new_int (b := 204) (n := 64) dX2_init_32 la_int (by decide) (by decide) (by decide +kernel) (by decide) ⟨by decide, by decide⟩ (alqc (ne_ref (by decide)) alq0) (alc (ne_ref (by decide)) al0) (by decide) (Nat.le_of_ble_eq_true rfl) rfl ?_
  rw [ze46]
  refine g_putFR dX2_init_34 fp_X2_21 rfl rfl (by decide +kernel) (Or.inl (by decide +kernel)) rfl ?_
  rw [ze47]
  exact g_vret dX2_init_37 rfl ⟨rfl, rfl⟩
def z48 : gM := gwR z47 19 1 (some 200)
theorem ze48 : gwR z47 19 1 (some 200) = z48 := rfl
def z49 : gM := gwR z48 19 0 (some 1)
theorem ze49 : gwR z48 19 0 (some 1) = z49 := rfl
set_option maxRecDepth 20000 in
set_option maxHeartbeats 16000000 in
theorem k_X3_init_19 (hx : gXok X) (hZ : gSt X) (hW : gNw X) (hA : ∀ U, X.2.2.2.2.2 U → gAOA U) : gMet X (d + 2) yX3_init cX3_init 2 none [.ref 19, .ref 1] z38 (inR 200 204) 5 433 (fun v M2 => v = none ∧ M2 = z49) := by
  refine gMet.of hx (by decide) (Nat.le_of_ble_eq_true rfl) ?_
  refine g_aload_n dX3_init_0 rfl rfl rfl ?_
  refine g_objInit dX3_init_1 lo_X3_3 li_obj lk_obj (Nat.le_of_ble_eq_true rfl) (gFit_room (by omega)) rfl ?_
  refine g_aload_n dX3_init_4 rfl rfl rfl ?_
  refine g_new (ci := 2) (b := 200) dX3_init_5 rfl lc_X3_9 lt_X2 ln_X2 (by decide +kernel) (by decide) ⟨by decide, by decide⟩ (alqc (ne_ref (by decide)) (alqc (ne_ref (by decide)) alq0)) (alc (ne_ref (by decide)) al0) (by decide) (by decide) rfl ?_
  rw [ze39]
  refine g_dup dX3_init_8 rfl rfl ?_
  refine g_callIN (As := []) dX3_init_9 (fun U hU => (hW U hU).1 _ (List.mem_of_getElem? (i := 2) rfl)) mv_X2_init (k_X2_init_200 (d := d) hx hZ hW hA) rfl rfl (Nat.le_of_ble_eq_true rfl) (gFit_room (by omega)) (by decide) (Nat.le_of_ble_eq_true rfl) (fun c hc => ⟨Nat.le_trans (by decide) hc.1, Nat.le_trans hc.2 (by decide)⟩) (anqc (anr (fun q => absurd q.1 (by decide))) (anqc (anr (fun q => absurd q.1 (by decide))) anq0)) (anc (anr (fun q => absurd q.1 (by decide))) (anc (anr (fun q => absurd q.1 (by decide))) an0)) rfl (fun v M2 hQ => ?_)
  obtain ⟨rfl, rfl⟩ := hQ
  refine g_putR dX3_init_12 fp_X3_12 rfl (by decide +kernel) (Or.inl (by decide +kernel)) rfl ?_
  rw [ze48]
  refine g_aload_n dX3_init_15 rfl rfl rfl ?_
  refine g_aload_n dX3_init_16 rfl rfl rfl ?_
  refine g_putFR dX3_init_17 fp_X3_18 rfl rfl (by decide +kernel) (Or.inl (by decide +kernel)) rfl ?_
  rw [ze49]
  exact g_vret dX3_init_20 rfl ⟨rfl, rfl⟩
def z50 : gM := gwR z49 0 3 (some 19)
theorem ze50 : gwR z49 0 3 (some 19) = z50 := rfl
def z51 : gM := gwN z50 20 1 0
theorem ze51 : gwN z50 20 1 0 = z51 := rfl
def z52 : gM := gwN z51 21 37 4
theorem ze52 : gwN z51 21 37 4 = z52 := rfl
def z53 : gM := gwR z52 20 1 (some 21)
theorem ze53 : gwR z52 20 1 (some 21) = z53 := rfl
def z54 : gM := gwN z53 22 32 6
theorem ze54 : gwN z53 22 32 6 = z54 := rfl
def z55 : gM := gwR z54 20 2 (some 22)
theorem ze55 : gwR z54 20 2 (some 22) = z55 := rfl
def z56 : gM := gwI z55 20 4 (-1)
theorem ze56 : gwI z55 20 4 (-1) = z56 := rfl
def z57 : gM := gwR z56 20 0 (some 3)
theorem ze57 : gwR z56 20 0 (some 3) = z57 := rfl
set_option maxRecDepth 20000 in
set_option maxHeartbeats 16000000 in
theorem k_X0_init_20 (hx : gXok X) (hZ : gSt X) (hW : gNw X) (hA : ∀ U, X.2.2.2.2.2 U → gAOA U) : gMet X (d + 1) yX0_init cX0_init 2 none [.ref 20, .ref 3] z51 (inR 21 22) 2 10 (fun v M2 => v = none ∧ M2 = z57) := by
  refine gMet.of hx (by decide) (Nat.le_of_ble_eq_true rfl) ?_
  refine g_aload_n dX0_init_0 rfl rfl rfl ?_
  refine g_objInit dX0_init_1 lo_X0_3 li_obj lk_obj (Nat.le_of_ble_eq_true rfl) (gFit_room (by omega)) rfl ?_
  refine g_aload_n dX0_init_4 rfl rfl rfl ?_
  refine g_iconst (v := 4) dX0_init_5 (by decide) rfl ?_
  refine g_anew5 (b := 21) (n := 4) dX0_init_6 lc_X0_9 (fun U hU => (hW U hU).2.1) (by decide) (by decide) (by decide +kernel) (by decide) ⟨by decide, by decide⟩ (alqc (ne_ref (by decide)) (alqc (ne_ref (by decide)) alq0)) (alc (ne_ref (by decide)) al0) (by decide) (Nat.le_of_ble_eq_true rfl) rfl ?_
  rw [ze52]
  refine g_putFR dX0_init_9 fp_X0_11 rfl rfl (by decide +kernel) (Or.inl (by decide +kernel)) rfl ?_
  rw [ze53]
  refine g_aload_n dX0_init_12 rfl rfl rfl ?_
  refine g_bipush (v := 6) dX0_init_13 (by decide) rfl ?_
  refine g_new_int (b := 22) (n := 6) dX0_init_15 la_int (by decide) (by decide) (by decide +kernel) (by decide) ⟨by decide, by decide⟩ (alqc (ne_ref (by decide)) (alqc (ne_ref (by decide)) alq0)) (alc (ne_ref (by decide)) al0) (by decide) (Nat.le_of_ble_eq_true rfl) rfl ?_
  rw [ze54]
  refine g_putFR dX0_init_17 fp_X0_17 rfl rfl (by decide +kernel) (Or.inl (by decide +kernel)) rfl ?_
  rw [ze55]
  refine g_aload_n dX0_init_20 rfl rfl rfl ?_
  refine g_iconst (v := -1) dX0_init_21 (by decide) rfl ?_
  refine g_putI dX0_init_22 fp_X0_21 rfl rfl rfl (by decide +kernel) rfl ?_
  rw [ze56]
  refine g_aload_n dX0_init_25 rfl rfl rfl ?_
  refine g_aload_n dX0_init_26 rfl rfl rfl ?_
  refine g_putFR dX0_init_27 fp_X0_25 rfl rfl (by decide +kernel) (Or.inl (by decide +kernel)) rfl ?_
  rw [ze57]
  exact g_vret dX0_init_30 rfl ⟨rfl, rfl⟩
def z58 : gM := gwR z57 0 4 (some 20)
theorem ze58 : gwR z57 0 4 (some 20) = z58 := rfl
def z59 : gM := gwN z58 23 38 4
theorem ze59 : gwN z58 23 38 4 = z59 := rfl
def z60 : gM := gwR z59 0 5 (some 23)
theorem ze60 : gwR z59 0 5 (some 23) = z60 := rfl
def z61 : gM := gwN z60 300 10 0
theorem ze61 : gwN z60 300 10 0 = z61 := rfl
def z62 : gM := gwN z61 301 32 16
theorem ze62 : gwN z61 301 32 16 = z62 := rfl
def z63 : gM := gwR z62 300 0 (some 301)
theorem ze63 : gwR z62 300 0 (some 301) = z63 := rfl
def z64 : gM := gwN z63 302 32 16
theorem ze64 : gwN z63 302 32 16 = z64 := rfl
def z65 : gM := gwR z64 300 1 (some 302)
theorem ze65 : gwR z64 300 1 (some 302) = z65 := rfl
def z66 : gM := gwN z65 303 32 16
theorem ze66 : gwN z65 303 32 16 = z66 := rfl
def z67 : gM := gwR z66 300 2 (some 303)
theorem ze67 : gwR z66 300 2 (some 303) = z67 := rfl
set_option maxRecDepth 20000 in
set_option maxHeartbeats 16000000 in
theorem k_X9_init_300 (hx : gXok X) (hZ : gSt X) (hW : gNw X) (hA : ∀ U, X.2.2.2.2.2 U → gAOA U) : gMet X (d + 1) yX9_init cX9_init 1 none [.ref 300] z61 (inR 301 303) 3 48 (fun v M2 => v = none ∧ M2 = z67) := by
  refine gMet.of hx (by decide) (Nat.le_of_ble_eq_true rfl) ?_
  refine g_aload_n dX9_init_0 rfl rfl rfl ?_
  refine g_objInit dX9_init_1 lo_X9_3 li_obj lk_obj (Nat.le_of_ble_eq_true rfl) (gFit_room (by omega)) rfl ?_
  refine g_aload_n dX9_init_4 rfl rfl rfl ?_
  refine g_bipush (v := 16) dX9_init_5 (by decide) rfl ?_
  refine g_new_int (b := 301) (n := 16) dX9_init_7 la_int (by decide) (by decide) (by decide +kernel) (by decide) ⟨by decide, by decide⟩ (alqc (ne_ref (by decide)) alq0) (alc (ne_ref (by decide)) al0) (by decide) (Nat.le_of_ble_eq_true rfl) rfl ?_
  rw [ze62]
  refine g_putFR dX9_init_9 fp_X9_9 rfl rfl (by decide +kernel) (Or.inl (by decide +kernel)) rfl ?_
  rw [ze63]
  refine g_aload_n dX9_init_12 rfl rfl rfl ?_
  refine g_bipush (v := 16) dX9_init_13 (by decide) rfl ?_
  refine g_new_int (b := 302) (n := 16) dX9_init_15 la_int (by decide) (by decide) (by decide +kernel) (by decide) ⟨by decide, by decide⟩ (alqc (ne_ref (by decide)) alq0) (alc (ne_ref (by decide)) al0) (by decide) (Nat.le_of_ble_eq_true rfl) rfl ?_
  rw [ze64]
  refine g_putFR dX9_init_17 fp_X9_15 rfl rfl (by decide +kernel) (Or.inl (by decide +kernel)) rfl ?_
  rw [ze65]
  refine g_aload_n dX9_init_20 rfl rfl rfl ?_
  refine g_bipush (v := 16) dX9_init_21 (by decide) rfl ?_
  refine g_new_int (b := 303) (n := 16) dX9_init_23 la_int (by decide) (by decide) (by decide +kernel) (by decide) ⟨by decide, by decide⟩ (alqc (ne_ref (by decide)) alq0) (alc (ne_ref (by decide)) al0) (by decide) (Nat.le_of_ble_eq_true rfl) rfl ?_
  rw [ze66]
  refine g_putFR dX9_init_25 fp_X9_18 rfl rfl (by decide +kernel) (Or.inl (by decide +kernel)) rfl ?_
  rw [ze67]
  exact g_vret dX9_init_28 rfl ⟨rfl, rfl⟩
def z68 : gM := gwR z67 0 7 (some 300)
theorem ze68 : gwR z67 0 7 (some 300) = z68 := rfl
def z69 : gM := gwN z68 24 5 0
theorem ze69 : gwN z68 24 5 0 = z69 := rfl
def z70 : gM := gwN z69 25 32 67
theorem ze70 : gwN z69 25 32 67 = z70 := rfl
def z71 : gM := gwR z70 24 1 (some 25)
theorem ze71 : gwR z70 24 1 (some 25) = z71 := rfl
def z72 : gM := gwN z71 26 32 384
theorem ze72 : gwN z71 26 32 384 = z72 := rfl
def z73 : gM := gwR z72 24 2 (some 26)
theorem ze73 : gwR z72 24 2 (some 26) = z73 := rfl
def z74 : gM := gwR z73 24 0 (some 3)
theorem ze74 : gwR z73 24 0 (some 3) = z74 := rfl
set_option maxRecDepth 20000 in
set_option maxHeartbeats 16000000 in
theorem k_X4_init_24 (hx : gXok X) (hZ : gSt X) (hW : gNw X) (hA : ∀ U, X.2.2.2.2.2 U → gAOA U) : gMet X (d + 1) yX4_init cX4_init 2 none [.ref 24, .ref 3] z69 (inR 25 26) 2 451 (fun v M2 => v = none ∧ M2 = z74) := by
  refine gMet.of hx (by decide) (Nat.le_of_ble_eq_true rfl) ?_
  refine g_aload_n dX4_init_0 rfl rfl rfl ?_
  refine g_objInit dX4_init_1 lo_X4_5 li_obj lk_obj (Nat.le_of_ble_eq_true rfl) (gFit_room (by omega)) rfl ?_
  refine g_aload_n dX4_init_4 rfl rfl rfl ?_
  refine g_bipush (v := 67) dX4_init_5 (by decide) rfl ?_
  refine g_new_int (b := 25) (n := 67) dX4_init_7 la_int (by decide) (by decide) (by decide +kernel) (by decide) ⟨by decide, by decide⟩ (alqc (ne_ref (by decide)) (alqc (ne_ref (by decide)) alq0)) (alc (ne_ref (by decide)) al0) (by decide) (Nat.le_of_ble_eq_true rfl) rfl ?_
  rw [ze70]
  refine g_putFR dX4_init_9 fp_X4_11 rfl rfl (by decide +kernel) (Or.inl (by decide +kernel)) rfl ?_
  rw [ze71]
  refine g_aload_n dX4_init_12 rfl rfl rfl ?_
  refine g_sipush (v := 384) dX4_init_13 (by decide) rfl ?_
  refine g_new_int (b := 26) (n := 384) dX4_init_16 la_int (by decide) (by decide) (by decide +kernel) (by decide) ⟨by decide, by decide⟩ (alqc (ne_ref (by decide)) (alqc (ne_ref (by decide)) alq0)) (alc (ne_ref (by decide)) al0) (by decide) (Nat.le_of_ble_eq_true rfl) rfl ?_
  rw [ze72]
  refine g_putFR dX4_init_18 fp_X4_15 rfl rfl (by decide +kernel) (Or.inl (by decide +kernel)) rfl ?_
  rw [ze73]
  refine g_aload_n dX4_init_21 rfl rfl rfl ?_
  refine g_aload_n dX4_init_22 rfl rfl rfl ?_
  refine g_putFR dX4_init_23 fp_X4_18 rfl rfl (by decide +kernel) (Or.inl (by decide +kernel)) rfl ?_
  rw [ze74]
  exact g_vret dX4_init_26 rfl ⟨rfl, rfl⟩
def z75 : gM := gwR z74 0 8 (some 24)
theorem ze75 : gwR z74 0 8 (some 24) = z75 := rfl
def z76 : gM := gwN z75 27 5 0
theorem ze76 : gwN z75 27 5 0 = z76 := rfl
def z77 : gM := gwN z76 28 32 67
theorem ze77 : gwN z76 28 32 67 = z77 := rfl
def z78 : gM := gwR z77 27 1 (some 28)
theorem ze78 : gwR z77 27 1 (some 28) = z78 := rfl
def z79 : gM := gwN z78 29 32 384
theorem ze79 : gwN z78 29 32 384 = z79 := rfl
def z80 : gM := gwR z79 27 2 (some 29)
theorem ze80 : gwR z79 27 2 (some 29) = z80 := rfl
def z81 : gM := gwR z80 27 0 (some 3)
theorem ze81 : gwR z80 27 0 (some 3) = z81 := rfl
set_option maxRecDepth 20000 in
set_option maxHeartbeats 16000000 in
theorem k_X4_init_27 (hx : gXok X) (hZ : gSt X) (hW : gNw X) (hA : ∀ U, X.2.2.2.2.2 U → gAOA U) : gMet X (d + 1) yX4_init cX4_init 2 none [.ref 27, .ref 3] z76 (inR 28 29) 2 451 (fun v M2 => v = none ∧ M2 = z81) := by
  refine gMet.of hx (by decide) (Nat.le_of_ble_eq_true rfl) ?_
  refine g_aload_n dX4_init_0 rfl rfl rfl ?_
  refine g_objInit dX4_init_1 lo_X4_5 li_obj lk_obj (Nat.le_of_ble_eq_true rfl) (gFit_room (by omega)) rfl ?_
  refine g_aload_n dX4_init_4 rfl rfl rfl ?_
  refine g_bipush (v := 67) dX4_init_5 (by decide) rfl ?_
  refine g_new_int (b := 28) (n := 67) dX4_init_7 la_int (by decide) (by decide) (by decide +kernel) (by decide) ⟨by decide, by decide⟩ (alqc (ne_ref (by decide)) (alqc (ne_ref (by decide)) alq0)) (alc (ne_ref (by decide)) al0) (by decide) (Nat.le_of_ble_eq_true rfl) rfl ?_
  rw [ze77]
  refine g_putFR dX4_init_9 fp_X4_11 rfl rfl (by decide +kernel) (Or.inl (by decide +kernel)) rfl ?_
  rw [ze78]
  refine g_aload_n dX4_init_12 rfl rfl rfl ?_
  refine g_sipush (v := 384) dX4_init_13 (by decide) rfl ?_
  refine g_new_int (b := 29) (n := 384) dX4_init_16 la_int (by decide) (by decide) (by decide +kernel) (by decide) ⟨by decide, by decide⟩ (alqc (ne_ref (by decide)) (alqc (ne_ref (by decide)) alq0)) (alc (ne_ref (by decide)) al0) (by decide) (Nat.le_of_ble_eq_true rfl) rfl ?_
  rw [ze79]
  refine g_putFR dX4_init_18 fp_X4_15 rfl rfl (by decide +kernel) (Or.inl (by decide +kernel)) rfl ?_
  rw [ze80]
  refine g_aload_n dX4_init_21 rfl rfl rfl ?_
  refine g_aload_n dX4_init_22 rfl rfl rfl ?_
  refine g_putFR dX4_init_23 fp_X4_18 rfl rfl (by decide +kernel) (Or.inl (by decide +kernel)) rfl ?_
  rw [ze81]
  exact g_vret dX4_init_26 rfl ⟨rfl, rfl⟩
def z82 : gM := gwR z81 0 9 (some 27)
theorem ze82 : gwR z81 0 9 (some 27) = z82 := rfl
def z83 : gM := gwN z82 30 5 0
theorem ze83 : gwN z82 30 5 0 = z83 := rfl
def z84 : gM := gwN z83 31 32 67
theorem ze84 : gwN z83 31 32 67 = z84 := rfl
def z85 : gM := gwR z84 30 1 (some 31)
theorem ze85 : gwR z84 30 1 (some 31) = z85 := rfl
def z86 : gM := gwN z85 32 32 384
theorem ze86 : gwN z85 32 32 384 = z86 := rfl
def z87 : gM := gwR z86 30 2 (some 32)
theorem ze87 : gwR z86 30 2 (some 32) = z87 := rfl
def z88 : gM := gwR z87 30 0 (some 3)
theorem ze88 : gwR z87 30 0 (some 3) = z88 := rfl
set_option maxRecDepth 20000 in
set_option maxHeartbeats 16000000 in
theorem k_X4_init_30 (hx : gXok X) (hZ : gSt X) (hW : gNw X) (hA : ∀ U, X.2.2.2.2.2 U → gAOA U) : gMet X (d + 1) yX4_init cX4_init 2 none [.ref 30, .ref 3] z83 (inR 31 32) 2 451 (fun v M2 => v = none ∧ M2 = z88) := by
  refine gMet.of hx (by decide) (Nat.le_of_ble_eq_true rfl) ?_
  refine g_aload_n dX4_init_0 rfl rfl rfl ?_
  refine g_objInit dX4_init_1 lo_X4_5 li_obj lk_obj (Nat.le_of_ble_eq_true rfl) (gFit_room (by omega)) rfl ?_
  refine g_aload_n dX4_init_4 rfl rfl rfl ?_
  refine g_bipush (v := 67) dX4_init_5 (by decide) rfl ?_
  refine g_new_int (b := 31) (n := 67) dX4_init_7 la_int (by decide) (by decide) (by decide +kernel) (by decide) ⟨by decide, by decide⟩ (alqc (ne_ref (by decide)) (alqc (ne_ref (by decide)) alq0)) (alc (ne_ref (by decide)) al0) (by decide) (Nat.le_of_ble_eq_true rfl) rfl ?_
  rw [ze84]
  refine g_putFR dX4_init_9 fp_X4_11 rfl rfl (by decide +kernel) (Or.inl (by decide +kernel)) rfl ?_
  rw [ze85]
  refine g_aload_n dX4_init_12 rfl rfl rfl ?_
  refine g_sipush (v := 384) dX4_init_13 (by decide) rfl ?_
  refine g_new_int (b := 32) (n := 384) dX4_init_16 la_int (by decide) (by decide) (by decide +kernel) (by decide) ⟨by decide, by decide⟩ (alqc (ne_ref (by decide)) (alqc (ne_ref (by decide)) alq0)) (alc (ne_ref (by decide)) al0) (by decide) (Nat.le_of_ble_eq_true rfl) rfl ?_
  rw [ze86]
  refine g_putFR dX4_init_18 fp_X4_15 rfl rfl (by decide +kernel) (Or.inl (by decide +kernel)) rfl ?_
  rw [ze87]
  refine g_aload_n dX4_init_21 rfl rfl rfl ?_
  refine g_aload_n dX4_init_22 rfl rfl rfl ?_
  refine g_putFR dX4_init_23 fp_X4_18 rfl rfl (by decide +kernel) (Or.inl (by decide +kernel)) rfl ?_
  rw [ze88]
  exact g_vret dX4_init_26 rfl ⟨rfl, rfl⟩
def z89 : gM := gwR z88 0 10 (some 30)
theorem ze89 : gwR z88 0 10 (some 30) = z89 := rfl
def z90 : gM := gwN z89 33 6 0
theorem ze90 : gwN z89 33 6 0 = z90 := rfl
def z91 : gM := gwMM z90 34 40 67
theorem ze91 : gwMM z90 34 40 67 = z91 := rfl
def z92 : gM := gwR z91 33 0 (some 34)
theorem ze92 : gwR z91 33 0 (some 34) = z92 := rfl
set_option maxRecDepth 20000 in
set_option maxHeartbeats 16000000 in
theorem k_X5_init_33 (hx : gXok X) (hZ : gSt X) (hW : gNw X) (hA : ∀ U, X.2.2.2.2.2 U → gAOA U) : gMet X (d + 1) yX5_init cX5_init 1 none [.ref 33] z90 (inR 34 74) 41 2720 (fun v M2 => v = none ∧ M2 = z92) := by
  refine gMet.of hx (by decide) (Nat.le_of_ble_eq_true rfl) ?_
  refine g_aload_n dX5_init_0 rfl rfl rfl ?_
  refine g_objInit dX5_init_1 lo_X5_3 li_obj lk_obj (Nat.le_of_ble_eq_true rfl) (gFit_room (by omega)) rfl ?_
  refine g_aload_n dX5_init_4 rfl rfl rfl ?_
  refine g_bipush (v := 40) dX5_init_5 (by decide) rfl ?_
  refine g_bipush (v := 67) dX5_init_7 (by decide) rfl ?_
  refine g_mna (b := 34) (n := 40) (k := 67) dX5_init_9 lc_X5_11 hA la_int (by decide) (by decide) (by decide) (by decide) (fun c h1 h2 => (show ∀ c, c < 75 → 34 ≤ c → gkd z90 c = 0 by decide +kernel) c (Nat.lt_succ_of_le h2) h1) (by decide) (fun c h1 h2 => ⟨h1, h2⟩) (fun q hq c e => by rw [List.mem_singleton.mp hq] at e; cases e; decide) (fun v hv c e => by rw [List.mem_singleton.mp hv] at e; cases e; decide) (by decide) (by decide) rfl ?_
  rw [ze91]
  refine g_putFR dX5_init_13 fp_X5_13 rfl rfl (by decide +kernel) (Or.inl (by decide +kernel)) rfl ?_
  rw [ze92]
  exact g_vret dX5_init_16 rfl ⟨rfl, rfl⟩
def z93 : gM := gwR z92 0 12 (some 33)
theorem ze93 : gwR z92 0 12 (some 33) = z93 := rfl
def z94 : gM := gwN z93 75 7 0
theorem ze94 : gwN z93 75 7 0 = z94 := rfl
def z95 : gM := gwN z94 76 32 10
theorem ze95 : gwN z94 76 32 10 = z95 := rfl
def z96 : gM := gwR z95 75 2 (some 76)
theorem ze96 : gwR z95 75 2 (some 76) = z96 := rfl
def z97 : gM := gwN z96 77 32 10
theorem ze97 : gwN z96 77 32 10 = z97 := rfl
def z98 : gM := gwR z97 75 3 (some 77)
theorem ze98 : gwR z97 75 3 (some 77) = z98 := rfl
def z99 : gM := gwN z98 78 35 10
theorem ze99 : gwN z98 78 35 10 = z99 := rfl
def z100 : gM := gwR z99 75 4 (some 78)
theorem ze100 : gwR z99 75 4 (some 78) = z100 := rfl
def z101 : gM := gwN z100 79 32 657
theorem ze101 : gwN z100 79 32 657 = z101 := rfl
def z102 : gM := gwR z101 75 6 (some 79)
theorem ze102 : gwR z101 75 6 (some 79) = z102 := rfl
def z103 : gM := gwN z102 80 32 256
theorem ze103 : gwN z102 80 32 256 = z103 := rfl
def z104 : gM := gwR z103 75 7 (some 80)
theorem ze104 : gwR z103 75 7 (some 80) = z104 := rfl
def z105 : gM := gwR z104 75 0 (some 3)
theorem ze105 : gwR z104 75 0 (some 3) = z105 := rfl
def z106 : gM := gwR z105 75 1 (some 20)
theorem ze106 : gwR z105 75 1 (some 20) = z106 := rfl
set_option maxRecDepth 20000 in
set_option maxHeartbeats 16000000 in
theorem k_X6_init_75 (hx : gXok X) (hZ : gSt X) (hW : gNw X) (hA : ∀ U, X.2.2.2.2.2 U → gAOA U) : gMet X (d + 1) yX6_init cX6_init 3 none [.ref 75, .ref 3, .ref 20] z94 (inR 76 80) 5 943 (fun v M2 => v = none ∧ M2 = z106) := by
  refine gMet.of hx (by decide) (Nat.le_of_ble_eq_true rfl) ?_
  refine g_aload_n dX6_init_0 rfl rfl rfl ?_
  refine g_objInit dX6_init_1 lo_X6_5 li_obj lk_obj (Nat.le_of_ble_eq_true rfl) (gFit_room (by omega)) rfl ?_
  refine g_aload_n dX6_init_4 rfl rfl rfl ?_
  refine g_bipush (v := 10) dX6_init_5 (by decide) rfl ?_
  refine g_new_int (b := 76) (n := 10) dX6_init_7 la_int (by decide) (by decide) (by decide +kernel) (by decide) ⟨by decide, by decide⟩ (alqc (ne_ref (by decide)) (alqc (ne_ref (by decide)) (alqc (ne_ref (by decide)) alq0))) (alc (ne_ref (by decide)) al0) (by decide) (Nat.le_of_ble_eq_true rfl) rfl ?_
  rw [ze95]
  refine g_putFR dX6_init_9 fp_X6_11 rfl rfl (by decide +kernel) (Or.inl (by decide +kernel)) rfl ?_
  rw [ze96]
  refine g_aload_n dX6_init_12 rfl rfl rfl ?_
  refine g_bipush (v := 10) dX6_init_13 (by decide) rfl ?_
  refine g_new_int (b := 77) (n := 10) dX6_init_15 la_int (by decide) (by decide) (by decide +kernel) (by decide) ⟨by decide, by decide⟩ (alqc (ne_ref (by decide)) (alqc (ne_ref (by decide)) (alqc (ne_ref (by decide)) alq0))) (alc (ne_ref (by decide)) al0) (by decide) (Nat.le_of_ble_eq_true rfl) rfl ?_
  rw [ze97]
  refine g_putFR dX6_init_17 fp_X6_15 rfl rfl (by decide +kernel) (Or.inl (by decide +kernel)) rfl ?_
  rw [ze98]
  refine g_aload_n dX6_init_20 rfl rfl rfl ?_
  refine g_bipush (v := 10) dX6_init_21 (by decide) rfl ?_
  refine g_new_boolean (b := 78) (n := 10) dX6_init_23 la_boolean (by decide) (by decide) (by decide +kernel) (by decide) ⟨by decide, by decide⟩ (alqc (ne_ref (by decide)) (alqc (ne_ref (by decide)) (alqc (ne_ref (by decide)) alq0))) (alc (ne_ref (by decide)) al0) (by decide) (Nat.le_of_ble_eq_true rfl) rfl ?_
  rw [ze99]
  refine g_putFR dX6_init_25 fp_X6_18 rfl rfl (by decide +kernel) (Or.inl (by decide +kernel)) rfl ?_
  rw [ze100]
  refine g_aload_n dX6_init_28 rfl rfl rfl ?_
  refine g_sipush (v := 657) dX6_init_29 (by decide) rfl ?_
  refine g_new_int (b := 79) (n := 657) dX6_init_32 la_int (by decide) (by decide) (by decide +kernel) (by decide) ⟨by decide, by decide⟩ (alqc (ne_ref (by decide)) (alqc (ne_ref (by decide)) (alqc (ne_ref (by decide)) alq0))) (alc (ne_ref (by decide)) al0) (by decide) (Nat.le_of_ble_eq_true rfl) rfl ?_
  rw [ze101]
  refine g_putFR dX6_init_34 fp_X6_22 rfl rfl (by decide +kernel) (Or.inl (by decide +kernel)) rfl ?_
  rw [ze102]
  refine g_aload_n dX6_init_37 rfl rfl rfl ?_
  refine g_sipush (v := 256) dX6_init_38 (by decide) rfl ?_
  refine g_new_int (b := 80) (n := 256) dX6_init_41 la_int (by decide) (by decide) (by decide +kernel) (by decide) ⟨by decide, by decide⟩ (alqc (ne_ref (by decide)) (alqc (ne_ref (by decide)) (alqc (ne_ref (by decide)) alq0))) (alc (ne_ref (by decide)) al0) (by decide) (Nat.le_of_ble_eq_true rfl) rfl ?_
  rw [ze103]
  refine g_putFR dX6_init_43 fp_X6_25 rfl rfl (by decide +kernel) (Or.inl (by decide +kernel)) rfl ?_
  rw [ze104]
  refine g_aload_n dX6_init_46 rfl rfl rfl ?_
  refine g_aload_n dX6_init_47 rfl rfl rfl ?_
  refine g_putFR dX6_init_48 fp_X6_28 rfl rfl (by decide +kernel) (Or.inl (by decide +kernel)) rfl ?_
  rw [ze105]
  refine g_aload_n dX6_init_51 rfl rfl rfl ?_
  refine g_aload_n dX6_init_52 rfl rfl rfl ?_
  refine g_putFR dX6_init_53 fp_X6_32 rfl rfl (by decide +kernel) (Or.inl (by decide +kernel)) rfl ?_
  rw [ze106]
  exact g_vret dX6_init_56 rfl ⟨rfl, rfl⟩
def z107 : gM := gwR z106 0 13 (some 75)
theorem ze107 : gwR z106 0 13 (some 75) = z107 := rfl
def z108 : gM := gwN z107 81 2 0
theorem ze108 : gwN z107 81 2 0 = z108 := rfl
set_option maxRecDepth 20000 in
set_option maxHeartbeats 16000000 in
theorem k_X1_init_81 (hx : gXok X) (hZ : gSt X) (hW : gNw X) (hA : ∀ U, X.2.2.2.2.2 U → gAOA U) : gMet X (d + 1) yX1_init cX1_init 1 none [.ref 81] z108 (inR 1 0) 0 0 (fun v M2 => v = none ∧ M2 = z108) := by
  refine gMet.of hx (by decide) (Nat.le_of_ble_eq_true rfl) ?_
  refine g_aload_n dX1_init_0 rfl rfl rfl ?_
  refine g_objInit dX1_init_1 lo_X1_1 li_obj lk_obj (Nat.le_of_ble_eq_true rfl) (gFit_room (by omega)) rfl ?_
  exact g_vret dX1_init_4 rfl ⟨rfl, rfl⟩
def z109 : gM := gwR z108 0 14 (some 81)
theorem ze109 : gwR z108 0 14 (some 81) = z109 := rfl
def z110 : gM := gwI z109 0 15 (5)
theorem ze110 : gwI z109 0 15 (5) = z110 := rfl
set_option maxRecDepth 20000 in
set_option maxHeartbeats 16000000 in
theorem k_X10_init_0 (hx : gXok X) (hZ : gSt X) (hW : gNw X) (hA : ∀ U, X.2.2.2.2.2 U → gAOA U) : gMet X (d + 3) yX10_init cX10_init 1 none [.ref 0] z1 (inR 1 399) 90 5902 (fun v M2 => v = none ∧ M2 = z110) := by
  refine gMet.of hx (by decide) (Nat.le_of_ble_eq_true rfl) ?_
  refine g_aload_n dX10_init_0 rfl rfl rfl ?_
  refine g_objInit dX10_init_1 lo_X10_1 li_obj lk_obj (Nat.le_of_ble_eq_true rfl) (gFit_room (by omega)) rfl ?_
  refine g_aload_n dX10_init_4 rfl rfl rfl ?_
  refine g_new (ci := 7) (b := 1) dX10_init_5 rfl lc_X10_7 lt_X7 ln_X7 (by decide +kernel) (by decide) ⟨by decide, by decide⟩ (alqc (ne_ref (by decide)) alq0) (alc (ne_ref (by decide)) al0) (by decide) (by decide) rfl ?_
  rw [ze2]
  refine g_dup dX10_init_8 rfl rfl ?_
  refine g_callIN (As := []) dX10_init_9 (fun U hU => (hW U hU).1 _ (List.mem_of_getElem? (i := 0) rfl)) mv_X7_init (k_X7_init_1 (d := d + 1) hx hZ hW hA) rfl rfl (Nat.le_of_ble_eq_true rfl) (gFit_room (by omega)) (by decide) (Nat.le_of_ble_eq_true rfl) (fun c hc => ⟨Nat.le_trans (by decide) hc.1, Nat.le_trans hc.2 (by decide)⟩) (anqc (anr (fun q => absurd q.1 (by decide))) anq0) (anc (anr (fun q => absurd q.1 (by decide))) (anc (anr (fun q => absurd q.1 (by decide))) an0)) rfl (fun v M2 hQ => ?_)
  obtain ⟨rfl, rfl⟩ := hQ
  refine g_putFR dX10_init_12 fp_X10_10 rfl rfl (by decide +kernel) (Or.inl (by decide +kernel)) rfl ?_
  rw [ze5]
  refine g_aload_n dX10_init_15 rfl rfl rfl ?_
  refine g_new (ci := 8) (b := 3) dX10_init_16 rfl lc_X10_16 lt_X8 ln_X8 (by decide +kernel) (by decide) ⟨by decide, by decide⟩ (alqc (ne_ref (by decide)) alq0) (alc (ne_ref (by decide)) al0) (by decide) (by decide) rfl ?_
  rw [ze6]
  refine g_dup dX10_init_19 rfl rfl ?_
  refine g_callIN (As := []) dX10_init_20 (fun U hU => (hW U hU).1 _ (List.mem_of_getElem? (i := 1) rfl)) mv_X8_init (k_X8_init_3 (d := d + 1) hx hZ hW hA) rfl rfl (Nat.le_of_ble_eq_true rfl) (gFit_room (by omega)) (by decide) (Nat.le_of_ble_eq_true rfl) (fun c hc => ⟨Nat.le_trans (by decide) hc.1, Nat.le_trans hc.2 (by decide)⟩) (anqc (anr (fun q => absurd q.1 (by decide))) anq0) (anc (anr (fun q => absurd q.1 (by decide))) (anc (anr (fun q => absurd q.1 (by decide))) an0)) rfl (fun v M2 hQ => ?_)
  obtain ⟨rfl, rfl⟩ := hQ
  refine g_putFR dX10_init_23 fp_X10_19 rfl rfl (by decide +kernel) (Or.inl (by decide +kernel)) rfl ?_
  rw [ze21]
  refine g_aload_n dX10_init_26 rfl rfl rfl ?_
  refine g_new (ci := 8) (b := 11) dX10_init_27 rfl lc_X10_16 lt_X8 ln_X8 (by decide +kernel) (by decide) ⟨by decide, by decide⟩ (alqc (ne_ref (by decide)) alq0) (alc (ne_ref (by decide)) al0) (by decide) (by decide) rfl ?_
  rw [ze22]
  refine g_dup dX10_init_30 rfl rfl ?_
  refine g_callIN (As := []) dX10_init_31 (fun U hU => (hW U hU).1 _ (List.mem_of_getElem? (i := 1) rfl)) mv_X8_init (k_X8_init_11 (d := d + 1) hx hZ hW hA) rfl rfl (Nat.le_of_ble_eq_true rfl) (gFit_room (by omega)) (by decide) (Nat.le_of_ble_eq_true rfl) (fun c hc => ⟨Nat.le_trans (by decide) hc.1, Nat.le_trans hc.2 (by decide)⟩) (anqc (anr (fun q => absurd q.1 (by decide))) anq0) (anc (anr (fun q => absurd q.1 (by decide))) (anc (anr (fun q => absurd q.1 (by decide))) an0)) rfl (fun v M2 hQ => ?_)
  obtain ⟨rfl, rfl⟩ := hQ
  refine g_putFR dX10_init_34 fp_X10_23 rfl rfl (by decide +kernel) (Or.inl (by decide +kernel)) rfl ?_
  rw [ze37]
  refine g_aload_n dX10_init_37 rfl rfl rfl ?_
  refine g_new (ci := 3) (b := 19) dX10_init_38 rfl lc_X10_26 lt_X3 ln_X3 (by decide +kernel) (by decide) ⟨by decide, by decide⟩ (alqc (ne_ref (by decide)) alq0) (alc (ne_ref (by decide)) al0) (by decide) (by decide) rfl ?_
  rw [ze38]
  refine g_dup dX10_init_41 rfl rfl ?_
  refine g_aload_n dX10_init_42 rfl rfl rfl ?_
  refine g_getR dX10_init_43 ff_X10_10 rfl (by decide +kernel) (show gmr z38 0 0 = some 1 by decide +kernel) rfl ?_
  refine g_callI (As := [.ref 1]) dX10_init_46 lm_X10_28 mv_X3_init (k_X3_init_19 (d := d) hx hZ hW hA) rfl rfl (Nat.le_of_ble_eq_true rfl) (gFit_room (by omega)) (by decide) (Nat.le_of_ble_eq_true rfl) (fun c hc => ⟨Nat.le_trans (by decide) hc.1, Nat.le_trans hc.2 (by decide)⟩) (anqc (anr (fun q => absurd q.1 (by decide))) anq0) (anc (anr (fun q => absurd q.1 (by decide))) (anc (anr (fun q => absurd q.1 (by decide))) an0)) rfl (fun v M2 hQ => ?_)
  obtain ⟨rfl, rfl⟩ := hQ
  refine g_putFR dX10_init_49 fp_X10_31 rfl rfl (by decide +kernel) (Or.inl (by decide +kernel)) rfl ?_
  rw [ze50]
  refine g_aload_n dX10_init_52 rfl rfl rfl ?_
  refine g_new (ci := 0) (b := 20) dX10_init_53 rfl lc_X10_35 lt_X0 ln_X0 (by decide +kernel) (by decide) ⟨by decide, by decide⟩ (alqc (ne_ref (by decide)) alq0) (alc (ne_ref (by decide)) al0) (by decide) (by decide) rfl ?_
  rw [ze51]
  refine g_dup dX10_init_56 rfl rfl ?_
  refine g_aload_n dX10_init_57 rfl rfl rfl ?_
  refine g_getR dX10_init_58 ff_X10_19 rfl (by decide +kernel) (show gmr z51 0 1 = some 3 by decide +kernel) rfl ?_
  refine g_callI (As := [.ref 3]) dX10_init_61 lm_X10_37 mv_X0_init (k_X0_init_20 (d := d + 1) hx hZ hW hA) rfl rfl (Nat.le_of_ble_eq_true rfl) (gFit_room (by omega)) (by decide) (Nat.le_of_ble_eq_true rfl) (fun c hc => ⟨Nat.le_trans (by decide) hc.1, Nat.le_trans hc.2 (by decide)⟩) (anqc (anr (fun q => absurd q.1 (by decide))) anq0) (anc (anr (fun q => absurd q.1 (by decide))) (anc (anr (fun q => absurd q.1 (by decide))) an0)) rfl (fun v M2 hQ => ?_)
  obtain ⟨rfl, rfl⟩ := hQ
  refine g_putFR dX10_init_64 fp_X10_40 rfl rfl (by decide +kernel) (Or.inl (by decide +kernel)) rfl ?_
  rw [ze58]
  refine g_aload_n dX10_init_67 rfl rfl rfl ?_
  refine g_iconst (v := 4) dX10_init_68 (by decide) rfl ?_
  refine g_anew6 (b := 23) (n := 4) dX10_init_69 lc_X10_44 (fun U hU => (hW U hU).2.2) (by decide) (by decide) (by decide +kernel) (by decide) ⟨by decide, by decide⟩ (alqc (ne_ref (by decide)) alq0) (alc (ne_ref (by decide)) al0) (by decide) (Nat.le_of_ble_eq_true rfl) rfl ?_
  rw [ze59]
  refine g_putFR dX10_init_72 fp_X10_46 rfl rfl (by decide +kernel) (Or.inl (by decide +kernel)) rfl ?_
  rw [ze60]
  refine g_aload_n dX10_init_75 rfl rfl rfl ?_
  refine g_new (ci := 9) (b := 300) dX10_init_76 rfl lc_X10_44 lt_X9 ln_X9 (by decide +kernel) (by decide) ⟨by decide, by decide⟩ (alqc (ne_ref (by decide)) alq0) (alc (ne_ref (by decide)) al0) (by decide) (by decide) rfl ?_
  rw [ze61]
  refine g_dup dX10_init_79 rfl rfl ?_
  refine g_callIN (As := []) dX10_init_80 (fun U hU => (hW U hU).1 _ (List.mem_of_getElem? (i := 3) rfl)) mv_X9_init (k_X9_init_300 (d := d + 1) hx hZ hW hA) rfl rfl (Nat.le_of_ble_eq_true rfl) (gFit_room (by omega)) (by decide) (Nat.le_of_ble_eq_true rfl) (fun c hc => ⟨Nat.le_trans (by decide) hc.1, Nat.le_trans hc.2 (by decide)⟩) (anqc (anr (fun q => absurd q.1 (by decide))) anq0) (anc (anr (fun q => absurd q.1 (by decide))) (anc (anr (fun q => absurd q.1 (by decide))) an0)) rfl (fun v M2 hQ => ?_)
  obtain ⟨rfl, rfl⟩ := hQ
  refine g_putR dX10_init_83 fp_X10_51 rfl (by decide +kernel) (Or.inl (by decide +kernel)) rfl ?_
  rw [ze68]
  refine g_aload_n dX10_init_86 rfl rfl rfl ?_
  refine g_new (ci := 4) (b := 24) dX10_init_87 rfl lc_X10_55 lt_X4 ln_X4 (by decide +kernel) (by decide) ⟨by decide, by decide⟩ (alqc (ne_ref (by decide)) alq0) (alc (ne_ref (by decide)) al0) (by decide) (by decide) rfl ?_
  rw [ze69]
  refine g_dup dX10_init_90 rfl rfl ?_
  refine g_aload_n dX10_init_91 rfl rfl rfl ?_
  refine g_getR dX10_init_92 ff_X10_19 rfl (by decide +kernel) (show gmr z69 0 1 = some 3 by decide +kernel) rfl ?_
  refine g_callI (As := [.ref 3]) dX10_init_95 lm_X10_57 mv_X4_init (k_X4_init_24 (d := d + 1) hx hZ hW hA) rfl rfl (Nat.le_of_ble_eq_true rfl) (gFit_room (by omega)) (by decide) (Nat.le_of_ble_eq_true rfl) (fun c hc => ⟨Nat.le_trans (by decide) hc.1, Nat.le_trans hc.2 (by decide)⟩) (anqc (anr (fun q => absurd q.1 (by decide))) anq0) (anc (anr (fun q => absurd q.1 (by decide))) (anc (anr (fun q => absurd q.1 (by decide))) an0)) rfl (fun v M2 hQ => ?_)
  obtain ⟨rfl, rfl⟩ := hQ
  refine g_putFR dX10_init_98 fp_X10_58 rfl rfl (by decide +kernel) (Or.inl (by decide +kernel)) rfl ?_
  rw [ze75]
  refine g_aload_n dX10_init_101 rfl rfl rfl ?_
  refine g_new (ci := 4) (b := 27) dX10_init_102 rfl lc_X10_55 lt_X4 ln_X4 (by decide +kernel) (by decide) ⟨by decide, by decide⟩ (alqc (ne_ref (by decide)) alq0) (alc (ne_ref (by decide)) al0) (by decide) (by decide) rfl ?_
  rw [ze76]
  refine g_dup dX10_init_105 rfl rfl ?_
  refine g_aload_n dX10_init_106 rfl rfl rfl ?_
  refine g_getR dX10_init_107 ff_X10_19 rfl (by decide +kernel) (show gmr z76 0 1 = some 3 by decide +kernel) rfl ?_
  refine g_callI (As := [.ref 3]) dX10_init_110 lm_X10_57 mv_X4_init (k_X4_init_27 (d := d + 1) hx hZ hW hA) rfl rfl (Nat.le_of_ble_eq_true rfl) (gFit_room (by omega)) (by decide) (Nat.le_of_ble_eq_true rfl) (fun c hc => ⟨Nat.le_trans (by decide) hc.1, Nat.le_trans hc.2 (by decide)⟩) (anqc (anr (fun q => absurd q.1 (by decide))) anq0) (anc (anr (fun q => absurd q.1 (by decide))) (anc (anr (fun q => absurd q.1 (by decide))) an0)) rfl (fun v M2 hQ => ?_)
  obtain ⟨rfl, rfl⟩ := hQ
  refine g_putFR dX10_init_113 fp_X10_62 rfl rfl (by decide +kernel) (Or.inl (by decide +kernel)) rfl ?_
  rw [ze82]
  refine g_aload_n dX10_init_116 rfl rfl rfl ?_
  refine g_new (ci := 4) (b := 30) dX10_init_117 rfl lc_X10_55 lt_X4 ln_X4 (by decide +kernel) (by decide) ⟨by decide, by decide⟩ (alqc (ne_ref (by decide)) alq0) (alc (ne_ref (by decide)) al0) (by decide) (by decide) rfl ?_
  rw [ze83]
  refine g_dup dX10_init_120 rfl rfl ?_
  refine g_aload_n dX10_init_121 rfl rfl rfl ?_
  refine g_getR dX10_init_122 ff_X10_19 rfl (by decide +kernel) (show gmr z83 0 1 = some 3 by decide +kernel) rfl ?_
  refine g_callI (As := [.ref 3]) dX10_init_125 lm_X10_57 mv_X4_init (k_X4_init_30 (d := d + 1) hx hZ hW hA) rfl rfl (Nat.le_of_ble_eq_true rfl) (gFit_room (by omega)) (by decide) (Nat.le_of_ble_eq_true rfl) (fun c hc => ⟨Nat.le_trans (by decide) hc.1, Nat.le_trans hc.2 (by decide)⟩) (anqc (anr (fun q => absurd q.1 (by decide))) anq0) (anc (anr (fun q => absurd q.1 (by decide))) (anc (anr (fun q => absurd q.1 (by decide))) an0)) rfl (fun v M2 hQ => ?_)
  obtain ⟨rfl, rfl⟩ := hQ
  refine g_putFR dX10_init_128 fp_X10_65 rfl rfl (by decide +kernel) (Or.inl (by decide +kernel)) rfl ?_
  rw [ze89]
  refine g_aload_n dX10_init_131 rfl rfl rfl ?_
  refine g_new (ci := 5) (b := 33) dX10_init_132 rfl lc_X10_68 lt_X5 ln_X5 (by decide +kernel) (by decide) ⟨by decide, by decide⟩ (alqc (ne_ref (by decide)) alq0) (alc (ne_ref (by decide)) al0) (by decide) (by decide) rfl ?_
  rw [ze90]
  refine g_dup dX10_init_135 rfl rfl ?_
  refine g_callIN (As := []) dX10_init_136 (fun U hU => (hW U hU).1 _ (List.mem_of_getElem? (i := 4) rfl)) mv_X5_init (k_X5_init_33 (d := d + 1) hx hZ hW hA) rfl rfl (Nat.le_of_ble_eq_true rfl) (gFit_room (by omega)) (by decide) (Nat.le_of_ble_eq_true rfl) (fun c hc => ⟨Nat.le_trans (by decide) hc.1, Nat.le_trans hc.2 (by decide)⟩) (anqc (anr (fun q => absurd q.1 (by decide))) anq0) (anc (anr (fun q => absurd q.1 (by decide))) (anc (anr (fun q => absurd q.1 (by decide))) an0)) rfl (fun v M2 hQ => ?_)
  obtain ⟨rfl, rfl⟩ := hQ
  refine g_putFR dX10_init_139 fp_X10_71 rfl rfl (by decide +kernel) (Or.inl (by decide +kernel)) rfl ?_
  rw [ze93]
  refine g_aload_n dX10_init_142 rfl rfl rfl ?_
  refine g_new (ci := 6) (b := 75) dX10_init_143 rfl lc_X10_75 lt_X6 ln_X6 (by decide +kernel) (by decide) ⟨by decide, by decide⟩ (alqc (ne_ref (by decide)) alq0) (alc (ne_ref (by decide)) al0) (by decide) (by decide) rfl ?_
  rw [ze94]
  refine g_dup dX10_init_146 rfl rfl ?_
  refine g_aload_n dX10_init_147 rfl rfl rfl ?_
  refine g_getR dX10_init_148 ff_X10_19 rfl (by decide +kernel) (show gmr z94 0 1 = some 3 by decide +kernel) rfl ?_
  refine g_aload_n dX10_init_151 rfl rfl rfl ?_
  refine g_getR dX10_init_152 ff_X10_40 rfl (by decide +kernel) (show gmr z94 0 4 = some 20 by decide +kernel) rfl ?_
  refine g_callI (As := [.ref 3, .ref 20]) dX10_init_155 lm_X10_77 mv_X6_init (k_X6_init_75 (d := d + 1) hx hZ hW hA) rfl rfl (Nat.le_of_ble_eq_true rfl) (gFit_room (by omega)) (by decide) (Nat.le_of_ble_eq_true rfl) (fun c hc => ⟨Nat.le_trans (by decide) hc.1, Nat.le_trans hc.2 (by decide)⟩) (anqc (anr (fun q => absurd q.1 (by decide))) anq0) (anc (anr (fun q => absurd q.1 (by decide))) (anc (anr (fun q => absurd q.1 (by decide))) an0)) rfl (fun v M2 hQ => ?_)
  obtain ⟨rfl, rfl⟩ := hQ
  refine g_putFR dX10_init_158 fp_X10_80 rfl rfl (by decide +kernel) (Or.inl (by decide +kernel)) rfl ?_
  rw [ze107]
  refine g_aload_n dX10_init_161 rfl rfl rfl ?_
  refine g_new (ci := 1) (b := 81) dX10_init_162 rfl lc_X10_84 lt_X1 ln_X1 (by decide +kernel) (by decide) ⟨by decide, by decide⟩ (alqc (ne_ref (by decide)) alq0) (alc (ne_ref (by decide)) al0) (by decide) (by decide) rfl ?_
  rw [ze108]
  refine g_dup dX10_init_165 rfl rfl ?_
  refine g_callIN (As := []) dX10_init_166 (fun U hU => (hW U hU).1 _ (List.mem_of_getElem? (i := 5) rfl)) mv_X1_init (k_X1_init_81 (d := d + 1) hx hZ hW hA) rfl rfl (Nat.le_of_ble_eq_true rfl) (gFit_room (by omega)) (by decide) (Nat.le_of_ble_eq_true rfl) (fun c hc => ⟨Nat.le_trans (by decide) hc.1, Nat.le_trans hc.2 (by decide)⟩) (anqc (anr (fun q => absurd (Nat.le_trans q.1 q.2) (by decide))) anq0) (anc (anr (fun q => absurd (Nat.le_trans q.1 q.2) (by decide))) (anc (anr (fun q => absurd (Nat.le_trans q.1 q.2) (by decide))) an0)) rfl (fun v M2 hQ => ?_)
  obtain ⟨rfl, rfl⟩ := hQ
  refine g_putFR dX10_init_169 fp_X10_87 rfl rfl (by decide +kernel) (Or.inl (by decide +kernel)) rfl ?_
  rw [ze109]
  refine g_aload_n dX10_init_172 rfl rfl rfl ?_
  refine g_iconst (v := 5) dX10_init_173 (by decide) rfl ?_
  refine g_putI dX10_init_174 fp_X10_91 rfl rfl rfl (by decide +kernel) rfl ?_
  rw [ze110]
  exact g_vret dX10_init_177 rfl ⟨rfl, rfl⟩
def z111 : gM := gwN z110 100 12 0
theorem ze111 : gwN z110 100 12 0 = z111 := rfl
def z112 : gM := gwN z111 101 33 240
theorem ze112 : gwN z111 101 33 240 = z112 := rfl
def z113 : gM := gwR z112 100 1 (some 101)
theorem ze113 : gwR z112 100 1 (some 101) = z113 := rfl
def z114 : gM := gwN z113 102 33 960
theorem ze114 : gwN z113 102 33 960 = z114 := rfl
def z115 : gM := gwR z114 100 2 (some 102)
theorem ze115 : gwR z114 100 2 (some 102) = z115 := rfl
def z116 : gM := gwN z115 103 32 4
theorem ze116 : gwN z115 103 32 4 = z116 := rfl
def z117 : gM := gwR z116 100 3 (some 103)
theorem ze117 : gwR z116 100 3 (some 103) = z117 := rfl
def z118 : gM := gwN z117 104 32 128
theorem ze118 : gwN z117 104 32 128 = z118 := rfl
def z119 : gM := gwR z118 100 4 (some 104)
theorem ze119 : gwR z118 100 4 (some 104) = z119 := rfl
def z120 : gM := gwR z119 100 5 (some 101)
theorem ze120 : gwR z119 100 5 (some 101) = z120 := rfl
def z121 : gM := gwR z120 100 15 (some 5014)
theorem ze121 : gwR z120 100 15 (some 5014) = z121 := rfl
def z122 : gM := gwR z121 100 16 (some 5012)
theorem ze122 : gwR z121 100 16 (some 5012) = z122 := rfl
def z123 : gM := gwN z122 105 32 2
theorem ze123 : gwN z122 105 32 2 = z123 := rfl
def z124 : gM := gwR z123 100 18 (some 105)
theorem ze124 : gwR z123 100 18 (some 105) = z124 := rfl
def z125 : gM := gwN z124 106 32 2
theorem ze125 : gwN z124 106 32 2 = z125 := rfl
def z126 : gM := gwR z125 100 19 (some 106)
theorem ze126 : gwR z125 100 19 (some 106) = z126 := rfl
def z127 : gM := gwN z126 107 32 18
theorem ze127 : gwN z126 107 32 18 = z127 := rfl
def z128 : gM := gwR z127 100 20 (some 107)
theorem ze128 : gwR z127 100 20 (some 107) = z128 := rfl
def z129 : gM := gwN z128 108 32 18
theorem ze129 : gwN z128 108 32 18 = z129 := rfl
def z130 : gM := gwR z129 100 21 (some 108)
theorem ze130 : gwR z129 100 21 (some 108) = z130 := rfl
def z131 : gM := gwN z130 109 32 24
theorem ze131 : gwN z130 109 32 24 = z131 := rfl
def z132 : gM := gwR z131 100 22 (some 109)
theorem ze132 : gwR z131 100 22 (some 109) = z132 := rfl
def z133 : gM := gwN z132 110 32 24
theorem ze133 : gwN z132 110 32 24 = z133 := rfl
def z134 : gM := gwR z133 100 23 (some 110)
theorem ze134 : gwR z133 100 23 (some 110) = z134 := rfl
def z135 : gM := gwN z134 111 32 240
theorem ze135 : gwN z134 111 32 240 = z135 := rfl
def z136 : gM := gwR z135 100 24 (some 111)
theorem ze136 : gwR z135 100 24 (some 111) = z136 := rfl
def z137 : gM := gwN z136 112 32 5
theorem ze137 : gwN z136 112 32 5 = z137 := rfl
def z138 : gM := gwR z137 100 25 (some 112)
theorem ze138 : gwR z137 100 25 (some 112) = z138 := rfl
def z139 : gM := gwN z138 113 32 248
theorem ze139 : gwN z138 113 32 248 = z139 := rfl
def z140 : gM := gwR z139 100 32 (some 113)
theorem ze140 : gwR z139 100 32 (some 113) = z140 := rfl
def z141 : gM := gwN z140 114 32 248
theorem ze141 : gwN z140 114 32 248 = z141 := rfl
def z142 : gM := gwR z141 100 33 (some 114)
theorem ze142 : gwR z141 100 33 (some 114) = z142 := rfl
def z143 : gM := gwI z142 100 34 (-1)
theorem ze143 : gwI z142 100 34 (-1) = z143 := rfl
def z144 : gM := gwI z143 100 35 (5)
theorem ze144 : gwI z143 100 35 (5) = z144 := rfl
def z145 : gM := gwN z144 115 36 8191
theorem ze145 : gwN z144 115 36 8191 = z145 := rfl
def z146 : gM := gwR z145 100 36 (some 115)
theorem ze146 : gwR z145 100 36 (some 115) = z146 := rfl
def z147 : gM := gwN z146 116 32 8191
theorem ze147 : gwN z146 116 32 8191 = z147 := rfl
def z148 : gM := gwR z147 100 37 (some 116)
theorem ze148 : gwR z147 100 37 (some 116) = z148 := rfl
def z149 : gM := gwN z148 117 32 9920
theorem ze149 : gwN z148 117 32 9920 = z149 := rfl
def z150 : gM := gwR z149 100 38 (some 117)
theorem ze150 : gwR z149 100 38 (some 117) = z150 := rfl
def z151 : gM := gwN z150 118 32 30
theorem ze151 : gwN z150 118 32 30 = z151 := rfl
def z152 : gM := gwR z151 100 43 (some 118)
theorem ze152 : gwR z151 100 43 (some 118) = z152 := rfl
def z153 : gM := gwN z152 119 32 248
theorem ze153 : gwN z152 119 32 248 = z153 := rfl
def z154 : gM := gwR z153 100 45 (some 119)
theorem ze154 : gwR z153 100 45 (some 119) = z154 := rfl
set_option maxRecDepth 20000 in
set_option maxHeartbeats 16000000 in
theorem k_X11_init_100 (hx : gXok X) (hZ : gSt X) (hW : gNw X) (hA : ∀ U, X.2.2.2.2.2 U → gAOA U) : gMet X (d + 1) yX11_init cX11_init 1 none [.ref 100] z111 (inR 101 119) 19 28741 (fun v M2 => v = none ∧ M2 = z154) := by
  refine gMet.of hx (by decide) (Nat.le_of_ble_eq_true rfl) ?_
  refine g_aload_n dX11_init_0 rfl rfl rfl ?_
  refine g_objInit dX11_init_1 lo_X11_3 li_obj lk_obj (Nat.le_of_ble_eq_true rfl) (gFit_room (by omega)) rfl ?_
  refine g_aload_n dX11_init_4 rfl rfl rfl ?_
  refine g_sipush (v := 240) dX11_init_5 (by decide) rfl ?_
  refine g_new_byte (b := 101) (n := 240) dX11_init_8 la_byte (by decide) (by decide) (by decide +kernel) (by decide) ⟨by decide, by decide⟩ (alqc (ne_ref (by decide)) alq0) (alc (ne_ref (by decide)) al0) (by decide) (Nat.le_of_ble_eq_true rfl) rfl ?_
  rw [ze112]
  refine g_putFR dX11_init_10 fp_X11_9 rfl rfl (by decide +kernel) (Or.inl (by decide +kernel)) rfl ?_
  rw [ze113]
  refine g_aload_n dX11_init_13 rfl rfl rfl ?_
  refine g_sipush (v := 960) dX11_init_14 (by decide) rfl ?_
  refine g_new_byte (b := 102) (n := 960) dX11_init_17 la_byte (by decide) (by decide) (by decide +kernel) (by decide) ⟨by decide, by decide⟩ (alqc (ne_ref (by decide)) alq0) (alc (ne_ref (by decide)) al0) (by decide) (Nat.le_of_ble_eq_true rfl) rfl ?_
  rw [ze114]
  refine g_putFR dX11_init_19 fp_X11_13 rfl rfl (by decide +kernel) (Or.inl (by decide +kernel)) rfl ?_
  rw [ze115]
  refine g_aload_n dX11_init_22 rfl rfl rfl ?_
  refine g_iconst (v := 4) dX11_init_23 (by decide) rfl ?_
  refine g_new_int (b := 103) (n := 4) dX11_init_24 la_int (by decide) (by decide) (by decide +kernel) (by decide) ⟨by decide, by decide⟩ (alqc (ne_ref (by decide)) alq0) (alc (ne_ref (by decide)) al0) (by decide) (Nat.le_of_ble_eq_true rfl) rfl ?_
  rw [ze116]
  refine g_putFR dX11_init_26 fp_X11_16 rfl rfl (by decide +kernel) (Or.inl (by decide +kernel)) rfl ?_
  rw [ze117]
  refine g_aload_n dX11_init_29 rfl rfl rfl ?_
  refine g_sipush (v := 128) dX11_init_30 (by decide) rfl ?_
  refine g_new_int (b := 104) (n := 128) dX11_init_33 la_int (by decide) (by decide) (by decide +kernel) (by decide) ⟨by decide, by decide⟩ (alqc (ne_ref (by decide)) alq0) (alc (ne_ref (by decide)) al0) (by decide) (Nat.le_of_ble_eq_true rfl) rfl ?_
  rw [ze118]
  refine g_putFR dX11_init_35 fp_X11_20 rfl rfl (by decide +kernel) (Or.inl (by decide +kernel)) rfl ?_
  rw [ze119]
  refine g_aload_n dX11_init_38 rfl rfl rfl ?_
  refine g_aload_n dX11_init_39 rfl rfl rfl ?_
  refine g_getR dX11_init_40 ff_X11_9 rfl (by decide +kernel) (show gmr z119 100 1 = some 101 by decide +kernel) rfl ?_
  refine g_putR dX11_init_43 fp_X11_23 rfl (by decide +kernel) (Or.inl (by decide +kernel)) rfl ?_
  rw [ze120]
  refine g_aload_n dX11_init_46 rfl rfl rfl ?_
  refine g_ldcS (i := 4) dX11_init_47 hZ (List.mem_of_getElem? (i := 4) rfl) rfl ?_
  refine g_putFR dX11_init_49 fp_X11_28 rfl rfl (by decide +kernel) (Or.inr (by decide)) rfl ?_
  rw [ze121]
  refine g_aload_n dX11_init_52 rfl rfl rfl ?_
  refine g_ldcS (i := 2) dX11_init_53 hZ (List.mem_of_getElem? (i := 5) rfl) rfl ?_
  refine g_putFR dX11_init_55 fp_X11_34 rfl rfl (by decide +kernel) (Or.inr (by decide)) rfl ?_
  rw [ze122]
  refine g_aload_n dX11_init_58 rfl rfl rfl ?_
  refine g_iconst (v := 2) dX11_init_59 (by decide) rfl ?_
  refine g_new_int (b := 105) (n := 2) dX11_init_60 la_int (by decide) (by decide) (by decide +kernel) (by decide) ⟨by decide, by decide⟩ (alqc (ne_ref (by decide)) alq0) (alc (ne_ref (by decide)) al0) (by decide) (Nat.le_of_ble_eq_true rfl) rfl ?_
  rw [ze123]
  refine g_putFR dX11_init_62 fp_X11_37 rfl rfl (by decide +kernel) (Or.inl (by decide +kernel)) rfl ?_
  rw [ze124]
  refine g_aload_n dX11_init_65 rfl rfl rfl ?_
  refine g_iconst (v := 2) dX11_init_66 (by decide) rfl ?_
  refine g_new_int (b := 106) (n := 2) dX11_init_67 la_int (by decide) (by decide) (by decide +kernel) (by decide) ⟨by decide, by decide⟩ (alqc (ne_ref (by decide)) alq0) (alc (ne_ref (by decide)) al0) (by decide) (Nat.le_of_ble_eq_true rfl) rfl ?_
  rw [ze125]
  refine g_putFR dX11_init_69 fp_X11_40 rfl rfl (by decide +kernel) (Or.inl (by decide +kernel)) rfl ?_
  rw [ze126]
  refine g_aload_n dX11_init_72 rfl rfl rfl ?_
  refine g_bipush (v := 18) dX11_init_73 (by decide) rfl ?_
  refine g_new_int (b := 107) (n := 18) dX11_init_75 la_int (by decide) (by decide) (by decide +kernel) (by decide) ⟨by decide, by decide⟩ (alqc (ne_ref (by decide)) alq0) (alc (ne_ref (by decide)) al0) (by decide) (Nat.le_of_ble_eq_true rfl) rfl ?_
  rw [ze127]
  refine g_putFR dX11_init_77 fp_X11_43 rfl rfl (by decide +kernel) (Or.inl (by decide +kernel)) rfl ?_
  rw [ze128]
  refine g_aload_n dX11_init_80 rfl rfl rfl ?_
  refine g_bipush (v := 18) dX11_init_81 (by decide) rfl ?_
  refine g_new_int (b := 108) (n := 18) dX11_init_83 la_int (by decide) (by decide) (by decide +kernel) (by decide) ⟨by decide, by decide⟩ (alqc (ne_ref (by decide)) alq0) (alc (ne_ref (by decide)) al0) (by decide) (Nat.le_of_ble_eq_true rfl) rfl ?_
  rw [ze129]
  refine g_putFR dX11_init_85 fp_X11_46 rfl rfl (by decide +kernel) (Or.inl (by decide +kernel)) rfl ?_
  rw [ze130]
  refine g_aload_n dX11_init_88 rfl rfl rfl ?_
  refine g_bipush (v := 24) dX11_init_89 (by decide) rfl ?_
  refine g_new_int (b := 109) (n := 24) dX11_init_91 la_int (by decide) (by decide) (by decide +kernel) (by decide) ⟨by decide, by decide⟩ (alqc (ne_ref (by decide)) alq0) (alc (ne_ref (by decide)) al0) (by decide) (Nat.le_of_ble_eq_true rfl) rfl ?_
  rw [ze131]
  refine g_putFR dX11_init_93 fp_X11_49 rfl rfl (by decide +kernel) (Or.inl (by decide +kernel)) rfl ?_
  rw [ze132]
  refine g_aload_n dX11_init_96 rfl rfl rfl ?_
  refine g_bipush (v := 24) dX11_init_97 (by decide) rfl ?_
  refine g_new_int (b := 110) (n := 24) dX11_init_99 la_int (by decide) (by decide) (by decide +kernel) (by decide) ⟨by decide, by decide⟩ (alqc (ne_ref (by decide)) alq0) (alc (ne_ref (by decide)) al0) (by decide) (Nat.le_of_ble_eq_true rfl) rfl ?_
  rw [ze133]
  refine g_putFR dX11_init_101 fp_X11_52 rfl rfl (by decide +kernel) (Or.inl (by decide +kernel)) rfl ?_
  rw [ze134]
  refine g_aload_n dX11_init_104 rfl rfl rfl ?_
  refine g_sipush (v := 240) dX11_init_105 (by decide) rfl ?_
  refine g_new_int (b := 111) (n := 240) dX11_init_108 la_int (by decide) (by decide) (by decide +kernel) (by decide) ⟨by decide, by decide⟩ (alqc (ne_ref (by decide)) alq0) (alc (ne_ref (by decide)) al0) (by decide) (Nat.le_of_ble_eq_true rfl) rfl ?_
  rw [ze135]
  refine g_putFR dX11_init_110 fp_X11_55 rfl rfl (by decide +kernel) (Or.inl (by decide +kernel)) rfl ?_
  rw [ze136]
  refine g_aload_n dX11_init_113 rfl rfl rfl ?_
  refine g_iconst (v := 5) dX11_init_114 (by decide) rfl ?_
  refine g_new_int (b := 112) (n := 5) dX11_init_115 la_int (by decide) (by decide) (by decide +kernel) (by decide) ⟨by decide, by decide⟩ (alqc (ne_ref (by decide)) alq0) (alc (ne_ref (by decide)) al0) (by decide) (Nat.le_of_ble_eq_true rfl) rfl ?_
  rw [ze137]
  refine g_putFR dX11_init_117 fp_X11_58 rfl rfl (by decide +kernel) (Or.inl (by decide +kernel)) rfl ?_
  rw [ze138]
  refine g_aload_n dX11_init_120 rfl rfl rfl ?_
  refine g_sipush (v := 248) dX11_init_121 (by decide) rfl ?_
  refine g_new_int (b := 113) (n := 248) dX11_init_124 la_int (by decide) (by decide) (by decide +kernel) (by decide) ⟨by decide, by decide⟩ (alqc (ne_ref (by decide)) alq0) (alc (ne_ref (by decide)) al0) (by decide) (Nat.le_of_ble_eq_true rfl) rfl ?_
  rw [ze139]
  refine g_putFR dX11_init_126 fp_X11_61 rfl rfl (by decide +kernel) (Or.inl (by decide +kernel)) rfl ?_
  rw [ze140]
  refine g_aload_n dX11_init_129 rfl rfl rfl ?_
  refine g_sipush (v := 248) dX11_init_130 (by decide) rfl ?_
  refine g_new_int (b := 114) (n := 248) dX11_init_133 la_int (by decide) (by decide) (by decide +kernel) (by decide) ⟨by decide, by decide⟩ (alqc (ne_ref (by decide)) alq0) (alc (ne_ref (by decide)) al0) (by decide) (Nat.le_of_ble_eq_true rfl) rfl ?_
  rw [ze141]
  refine g_putFR dX11_init_135 fp_X11_64 rfl rfl (by decide +kernel) (Or.inl (by decide +kernel)) rfl ?_
  rw [ze142]
  refine g_aload_n dX11_init_138 rfl rfl rfl ?_
  refine g_iconst (v := -1) dX11_init_139 (by decide) rfl ?_
  refine g_putI dX11_init_140 fp_X11_67 rfl rfl rfl (by decide +kernel) rfl ?_
  rw [ze143]
  refine g_aload_n dX11_init_143 rfl rfl rfl ?_
  refine g_iconst (v := 5) dX11_init_144 (by decide) rfl ?_
  refine g_putI dX11_init_145 fp_X11_71 rfl rfl rfl (by decide +kernel) rfl ?_
  rw [ze144]
  refine g_aload_n dX11_init_148 rfl rfl rfl ?_
  refine g_sipush (v := 8191) dX11_init_149 (by decide) rfl ?_
  refine g_new_long (b := 115) (n := 8191) dX11_init_152 la_long (by decide) (by decide) (by decide +kernel) (by decide) ⟨by decide, by decide⟩ (alqc (ne_ref (by decide)) alq0) (alc (ne_ref (by decide)) al0) (by decide) (Nat.le_of_ble_eq_true rfl) rfl ?_
  rw [ze145]
  refine g_putFR dX11_init_154 fp_X11_74 rfl rfl (by decide +kernel) (Or.inl (by decide +kernel)) rfl ?_
  rw [ze146]
  refine g_aload_n dX11_init_157 rfl rfl rfl ?_
  refine g_sipush (v := 8191) dX11_init_158 (by decide) rfl ?_
  refine g_new_int (b := 116) (n := 8191) dX11_init_161 la_int (by decide) (by decide) (by decide +kernel) (by decide) ⟨by decide, by decide⟩ (alqc (ne_ref (by decide)) alq0) (alc (ne_ref (by decide)) al0) (by decide) (Nat.le_of_ble_eq_true rfl) rfl ?_
  rw [ze147]
  refine g_putFR dX11_init_163 fp_X11_78 rfl rfl (by decide +kernel) (Or.inl (by decide +kernel)) rfl ?_
  rw [ze148]
  refine g_aload_n dX11_init_166 rfl rfl rfl ?_
  refine g_sipush (v := 9920) dX11_init_167 (by decide) rfl ?_
  refine g_new_int (b := 117) (n := 9920) dX11_init_170 la_int (by decide) (by decide) (by decide +kernel) (by decide) ⟨by decide, by decide⟩ (alqc (ne_ref (by decide)) alq0) (alc (ne_ref (by decide)) al0) (by decide) (Nat.le_of_ble_eq_true rfl) rfl ?_
  rw [ze149]
  refine g_putFR dX11_init_172 fp_X11_81 rfl rfl (by decide +kernel) (Or.inl (by decide +kernel)) rfl ?_
  rw [ze150]
  refine g_aload_n dX11_init_175 rfl rfl rfl ?_
  refine g_bipush (v := 30) dX11_init_176 (by decide) rfl ?_
  refine g_new_int (b := 118) (n := 30) dX11_init_178 la_int (by decide) (by decide) (by decide +kernel) (by decide) ⟨by decide, by decide⟩ (alqc (ne_ref (by decide)) alq0) (alc (ne_ref (by decide)) al0) (by decide) (Nat.le_of_ble_eq_true rfl) rfl ?_
  rw [ze151]
  refine g_putFR dX11_init_180 fp_X11_84 rfl rfl (by decide +kernel) (Or.inl (by decide +kernel)) rfl ?_
  rw [ze152]
  refine g_aload_n dX11_init_183 rfl rfl rfl ?_
  refine g_sipush (v := 248) dX11_init_184 (by decide) rfl ?_
  refine g_new_int (b := 119) (n := 248) dX11_init_187 la_int (by decide) (by decide) (by decide +kernel) (by decide) ⟨by decide, by decide⟩ (alqc (ne_ref (by decide)) alq0) (alc (ne_ref (by decide)) al0) (by decide) (Nat.le_of_ble_eq_true rfl) rfl ?_
  rw [ze153]
  refine g_putFR dX11_init_189 fp_X11_87 rfl rfl (by decide +kernel) (Or.inl (by decide +kernel)) rfl ?_
  rw [ze154]
  exact g_vret dX11_init_192 rfl ⟨rfl, rfl⟩
def z155 : gM := gwN z154 120 36 1
theorem ze155 : gwN z154 120 36 1 = z155 := rfl
end K1
