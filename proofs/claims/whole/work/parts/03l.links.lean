def gws : List Cond := lw_tbl.filter goodWord
theorem gi_t {w : Cond} (h : w ∈ tables_1) (hg : goodWord w = true) : w ∈ gws := List.mem_filter.mpr ⟨List.mem_append_right _ h, hg⟩
theorem gi1 {w : Cond} (h : w ∈ tables_1_1) (hg : goodWord w = true) : w ∈ gws := gi_t (List.mem_append_left _ h) hg
theorem gi2 {w : Cond} (h : w ∈ tables_1_2) (hg : goodWord w = true) : w ∈ gws := gi_t (List.mem_append_right _ (List.mem_append_left _ h)) hg
theorem gi3 {w : Cond} (h : w ∈ tables_1_3) (hg : goodWord w = true) : w ∈ gws := gi_t (List.mem_append_right _ (List.mem_append_right _ (List.mem_append_left _ h))) hg
theorem gi4 {w : Cond} (h : w ∈ tables_1_4) (hg : goodWord w = true) : w ∈ gws := gi_t (List.mem_append_right _ (List.mem_append_right _ (List.mem_append_right _ (List.mem_append_left _ h)))) hg
theorem gi5 {w : Cond} (h : w ∈ tables_1_5) (hg : goodWord w = true) : w ∈ gws := gi_t (List.mem_append_right _ (List.mem_append_right _ (List.mem_append_right _ (List.mem_append_right _ (List.mem_append_left _ h))))) hg
theorem gi6 {w : Cond} (h : w ∈ tables_1_6) (hg : goodWord w = true) : w ∈ gws := gi_t (List.mem_append_right _ (List.mem_append_right _ (List.mem_append_right _ (List.mem_append_right _ (List.mem_append_right _ (List.mem_append_left _ h)))))) hg
theorem gi7 {w : Cond} (h : w ∈ tables_1_7) (hg : goodWord w = true) : w ∈ gws := gi_t (List.mem_append_right _ (List.mem_append_right _ (List.mem_append_right _ (List.mem_append_right _ (List.mem_append_right _ (List.mem_append_right _ (List.mem_append_left _ h))))))) hg
theorem gi8 {w : Cond} (h : w ∈ tables_1_8) (hg : goodWord w = true) : w ∈ gws := gi_t (List.mem_append_right _ (List.mem_append_right _ (List.mem_append_right _ (List.mem_append_right _ (List.mem_append_right _ (List.mem_append_right _ (List.mem_append_right _ (h)))))))) hg
theorem gi_p {w : Cond} (h : w ∈ k2_sels lw_privs) (hg : goodWord w = true) : w ∈ gws := List.mem_filter.mpr ⟨List.mem_append_left _ h, hg⟩
theorem gws_good {w : Cond} (h : w ∈ gws) : (w.onTables && w.keeps) = true ∨ ∃ ty, w = .arrayClass ty := good_of_word (List.mem_filter.mp h).2
theorem cw_X0 : ∀ k, k < 5 → u_lay RX0 TX0 k ∈ gws
  | 0, _ => gi1 (List.mem_of_getElem? (i := 180) rfl) rfl
  | 1, _ => gi1 (List.mem_of_getElem? (i := 182) rfl) rfl
  | 2, _ => gi1 (List.mem_of_getElem? (i := 184) rfl) rfl
  | 3, _ => gi1 (List.mem_of_getElem? (i := 186) rfl) rfl
  | 4, _ => gi1 (List.mem_of_getElem? (i := 188) rfl) rfl
  | k + 5, h => absurd h (by omega)
theorem inlX0 : ∀ w ∈ wsX00, w ∈ gws := fun w h => by
  obtain ⟨k, hk, rfl⟩ := List.mem_map.mp h
  exact cw_X0 k (List.mem_range.mp hk)
theorem cw_X1 : ∀ k, k < 1 → u_lay RX1 TX1 k ∈ gws
  | 0, _ => gi2 (List.mem_of_getElem? (i := 54) rfl) rfl
  | k + 1, h => absurd h (by omega)
theorem inlX1 : ∀ w ∈ wsX10, w ∈ gws := fun w h => by
  obtain ⟨k, hk, rfl⟩ := List.mem_map.mp h
  exact cw_X1 k (List.mem_range.mp hk)
theorem cw_X2 : ∀ k, k < 7 → u_lay RX2 TX2 k ∈ gws
  | 0, _ => gi1 (List.mem_of_getElem? (i := 143) rfl) rfl
  | 1, _ => gi1 (List.mem_of_getElem? (i := 145) rfl) rfl
  | 2, _ => gi1 (List.mem_of_getElem? (i := 147) rfl) rfl
  | 3, _ => gi1 (List.mem_of_getElem? (i := 149) rfl) rfl
  | 4, _ => gi1 (List.mem_of_getElem? (i := 151) rfl) rfl
  | 5, _ => gi1 (List.mem_of_getElem? (i := 153) rfl) rfl
  | 6, _ => gi1 (List.mem_of_getElem? (i := 155) rfl) rfl
  | k + 7, h => absurd h (by omega)
theorem inlX2 : ∀ w ∈ wsX20, w ∈ gws := fun w h => by
  obtain ⟨k, hk, rfl⟩ := List.mem_map.mp h
  exact cw_X2 k (List.mem_range.mp hk)
theorem cw_X3 : ∀ k, k < 2 → u_lay RX3 TX3 k ∈ gws
  | 0, _ => gi1 (List.mem_of_getElem? (i := 160) rfl) rfl
  | 1, _ => gi1 (List.mem_of_getElem? (i := 162) rfl) rfl
  | k + 2, h => absurd h (by omega)
theorem inlX3 : ∀ w ∈ wsX30, w ∈ gws := fun w h => by
  obtain ⟨k, hk, rfl⟩ := List.mem_map.mp h
  exact cw_X3 k (List.mem_range.mp hk)
theorem cw_X4 : ∀ k, k < 3 → u_lay RX4 TX4 k ∈ gws
  | 0, _ => gi1 (List.mem_of_getElem? (i := 225) rfl) rfl
  | 1, _ => gi1 (List.mem_of_getElem? (i := 227) rfl) rfl
  | 2, _ => gi1 (List.mem_of_getElem? (i := 229) rfl) rfl
  | k + 3, h => absurd h (by omega)
theorem inlX4 : ∀ w ∈ wsX40, w ∈ gws := fun w h => by
  obtain ⟨k, hk, rfl⟩ := List.mem_map.mp h
  exact cw_X4 k (List.mem_range.mp hk)
theorem cw_X5 : ∀ k, k < 3 → u_lay RX5 TX5 k ∈ gws
  | 0, _ => gi2 (List.mem_of_getElem? (i := 4) rfl) rfl
  | 1, _ => gi2 (List.mem_of_getElem? (i := 6) rfl) rfl
  | 2, _ => gi2 (List.mem_of_getElem? (i := 8) rfl) rfl
  | k + 3, h => absurd h (by omega)
theorem inlX5 : ∀ w ∈ wsX50, w ∈ gws := fun w h => by
  obtain ⟨k, hk, rfl⟩ := List.mem_map.mp h
  exact cw_X5 k (List.mem_range.mp hk)
theorem cw_X6 : ∀ k, k < 9 → u_lay RX6 TX6 k ∈ gws
  | 0, _ => gi2 (List.mem_of_getElem? (i := 27) rfl) rfl
  | 1, _ => gi2 (List.mem_of_getElem? (i := 29) rfl) rfl
  | 2, _ => gi2 (List.mem_of_getElem? (i := 31) rfl) rfl
  | 3, _ => gi2 (List.mem_of_getElem? (i := 33) rfl) rfl
  | 4, _ => gi2 (List.mem_of_getElem? (i := 35) rfl) rfl
  | 5, _ => gi2 (List.mem_of_getElem? (i := 37) rfl) rfl
  | 6, _ => gi2 (List.mem_of_getElem? (i := 39) rfl) rfl
  | 7, _ => gi2 (List.mem_of_getElem? (i := 41) rfl) rfl
  | 8, _ => gi2 (List.mem_of_getElem? (i := 43) rfl) rfl
  | k + 9, h => absurd h (by omega)
theorem inlX6 : ∀ w ∈ wsX60, w ∈ gws := fun w h => by
  obtain ⟨k, hk, rfl⟩ := List.mem_map.mp h
  exact cw_X6 k (List.mem_range.mp hk)
theorem cw_X7 : ∀ k, k < 4 → u_lay RX7 TX7 k ∈ gws
  | 0, _ => gi1 (List.mem_of_getElem? (i := 51) rfl) rfl
  | 1, _ => gi1 (List.mem_of_getElem? (i := 53) rfl) rfl
  | 2, _ => gi1 (List.mem_of_getElem? (i := 55) rfl) rfl
  | 3, _ => gi1 (List.mem_of_getElem? (i := 57) rfl) rfl
  | k + 4, h => absurd h (by omega)
theorem inlX7 : ∀ w ∈ wsX70, w ∈ gws := fun w h => by
  obtain ⟨k, hk, rfl⟩ := List.mem_map.mp h
  exact cw_X7 k (List.mem_range.mp hk)
theorem cw_X8 : ∀ k, k < 12 → u_lay RX8 TX8 k ∈ gws
  | 0, _ => gi1 (List.mem_of_getElem? (i := 96) rfl) rfl
  | 1, _ => gi1 (List.mem_of_getElem? (i := 98) rfl) rfl
  | 2, _ => gi1 (List.mem_of_getElem? (i := 100) rfl) rfl
  | 3, _ => gi1 (List.mem_of_getElem? (i := 102) rfl) rfl
  | 4, _ => gi1 (List.mem_of_getElem? (i := 104) rfl) rfl
  | 5, _ => gi1 (List.mem_of_getElem? (i := 106) rfl) rfl
  | 6, _ => gi1 (List.mem_of_getElem? (i := 108) rfl) rfl
  | 7, _ => gi1 (List.mem_of_getElem? (i := 110) rfl) rfl
  | 8, _ => gi1 (List.mem_of_getElem? (i := 112) rfl) rfl
  | 9, _ => gi1 (List.mem_of_getElem? (i := 114) rfl) rfl
  | 10, _ => gi1 (List.mem_of_getElem? (i := 116) rfl) rfl
  | 11, _ => gi1 (List.mem_of_getElem? (i := 118) rfl) rfl
  | k + 12, h => absurd h (by omega)
theorem inlX8 : ∀ w ∈ wsX80, w ∈ gws := fun w h => by
  obtain ⟨k, hk, rfl⟩ := List.mem_map.mp h
  exact cw_X8 k (List.mem_range.mp hk)
theorem cw_X9 : ∀ k, k < 4 → u_lay RX9 TX9 k ∈ gws
  | 0, _ => gi1 (List.mem_of_getElem? (i := 206) rfl) rfl
  | 1, _ => gi1 (List.mem_of_getElem? (i := 208) rfl) rfl
  | 2, _ => gi1 (List.mem_of_getElem? (i := 210) rfl) rfl
  | 3, _ => gi1 (List.mem_of_getElem? (i := 212) rfl) rfl
  | k + 4, h => absurd h (by omega)
theorem inlX9 : ∀ w ∈ wsX90, w ∈ gws := fun w h => by
  obtain ⟨k, hk, rfl⟩ := List.mem_map.mp h
  exact cw_X9 k (List.mem_range.mp hk)
theorem cw_X10 : ∀ k, k < 16 → u_lay RX10 TX10 k ∈ gws
  | 0, _ => gi2 (List.mem_of_getElem? (i := 73) rfl) rfl
  | 1, _ => gi2 (List.mem_of_getElem? (i := 75) rfl) rfl
  | 2, _ => gi2 (List.mem_of_getElem? (i := 77) rfl) rfl
  | 3, _ => gi2 (List.mem_of_getElem? (i := 79) rfl) rfl
  | 4, _ => gi2 (List.mem_of_getElem? (i := 81) rfl) rfl
  | 5, _ => gi2 (List.mem_of_getElem? (i := 83) rfl) rfl
  | 6, _ => gi2 (List.mem_of_getElem? (i := 85) rfl) rfl
  | 7, _ => gi2 (List.mem_of_getElem? (i := 87) rfl) rfl
  | 8, _ => gi2 (List.mem_of_getElem? (i := 89) rfl) rfl
  | 9, _ => gi2 (List.mem_of_getElem? (i := 91) rfl) rfl
  | 10, _ => gi2 (List.mem_of_getElem? (i := 93) rfl) rfl
  | 11, _ => gi2 (List.mem_of_getElem? (i := 95) rfl) rfl
  | 12, _ => gi2 (List.mem_of_getElem? (i := 97) rfl) rfl
  | 13, _ => gi2 (List.mem_of_getElem? (i := 99) rfl) rfl
  | 14, _ => gi2 (List.mem_of_getElem? (i := 101) rfl) rfl
  | 15, _ => gi2 (List.mem_of_getElem? (i := 103) rfl) rfl
  | k + 16, h => absurd h (by omega)
theorem inlX10 : ∀ w ∈ wsX100, w ∈ gws := fun w h => by
  obtain ⟨k, hk, rfl⟩ := List.mem_map.mp h
  exact cw_X10 k (List.mem_range.mp hk)
theorem cw_X11 : ∀ k, k < 47 → u_lay RX11 TX11 k ∈ gws
  | 0, _ => gi6 (List.mem_of_getElem? (i := 39) rfl) rfl
  | 1, _ => gi6 (List.mem_of_getElem? (i := 41) rfl) rfl
  | 2, _ => gi6 (List.mem_of_getElem? (i := 43) rfl) rfl
  | 3, _ => gi6 (List.mem_of_getElem? (i := 45) rfl) rfl
  | 4, _ => gi6 (List.mem_of_getElem? (i := 47) rfl) rfl
  | 5, _ => gi6 (List.mem_of_getElem? (i := 49) rfl) rfl
  | 6, _ => gi6 (List.mem_of_getElem? (i := 51) rfl) rfl
  | 7, _ => gi6 (List.mem_of_getElem? (i := 53) rfl) rfl
  | 8, _ => gi6 (List.mem_of_getElem? (i := 55) rfl) rfl
  | 9, _ => gi6 (List.mem_of_getElem? (i := 57) rfl) rfl
  | 10, _ => gi6 (List.mem_of_getElem? (i := 59) rfl) rfl
  | 11, _ => gi6 (List.mem_of_getElem? (i := 61) rfl) rfl
  | 12, _ => gi6 (List.mem_of_getElem? (i := 63) rfl) rfl
  | 13, _ => gi6 (List.mem_of_getElem? (i := 65) rfl) rfl
  | 14, _ => gi6 (List.mem_of_getElem? (i := 67) rfl) rfl
  | 15, _ => gi6 (List.mem_of_getElem? (i := 69) rfl) rfl
  | 16, _ => gi6 (List.mem_of_getElem? (i := 71) rfl) rfl
  | 17, _ => gi6 (List.mem_of_getElem? (i := 73) rfl) rfl
  | 18, _ => gi6 (List.mem_of_getElem? (i := 75) rfl) rfl
  | 19, _ => gi6 (List.mem_of_getElem? (i := 77) rfl) rfl
  | 20, _ => gi6 (List.mem_of_getElem? (i := 79) rfl) rfl
  | 21, _ => gi6 (List.mem_of_getElem? (i := 81) rfl) rfl
  | 22, _ => gi6 (List.mem_of_getElem? (i := 83) rfl) rfl
  | 23, _ => gi6 (List.mem_of_getElem? (i := 85) rfl) rfl
  | 24, _ => gi6 (List.mem_of_getElem? (i := 87) rfl) rfl
  | 25, _ => gi6 (List.mem_of_getElem? (i := 89) rfl) rfl
  | 26, _ => gi6 (List.mem_of_getElem? (i := 91) rfl) rfl
  | 27, _ => gi6 (List.mem_of_getElem? (i := 93) rfl) rfl
  | 28, _ => gi6 (List.mem_of_getElem? (i := 95) rfl) rfl
  | 29, _ => gi6 (List.mem_of_getElem? (i := 97) rfl) rfl
  | 30, _ => gi6 (List.mem_of_getElem? (i := 99) rfl) rfl
  | 31, _ => gi6 (List.mem_of_getElem? (i := 101) rfl) rfl
  | 32, _ => gi6 (List.mem_of_getElem? (i := 103) rfl) rfl
  | 33, _ => gi6 (List.mem_of_getElem? (i := 105) rfl) rfl
  | 34, _ => gi6 (List.mem_of_getElem? (i := 107) rfl) rfl
  | 35, _ => gi6 (List.mem_of_getElem? (i := 109) rfl) rfl
  | 36, _ => gi6 (List.mem_of_getElem? (i := 111) rfl) rfl
  | 37, _ => gi6 (List.mem_of_getElem? (i := 113) rfl) rfl
  | 38, _ => gi6 (List.mem_of_getElem? (i := 115) rfl) rfl
  | 39, _ => gi6 (List.mem_of_getElem? (i := 117) rfl) rfl
  | 40, _ => gi6 (List.mem_of_getElem? (i := 119) rfl) rfl
  | 41, _ => gi6 (List.mem_of_getElem? (i := 121) rfl) rfl
  | 42, _ => gi6 (List.mem_of_getElem? (i := 123) rfl) rfl
  | 43, _ => gi6 (List.mem_of_getElem? (i := 125) rfl) rfl
  | 44, _ => gi6 (List.mem_of_getElem? (i := 127) rfl) rfl
  | 45, _ => gi6 (List.mem_of_getElem? (i := 129) rfl) rfl
  | 46, _ => gi6 (List.mem_of_getElem? (i := 131) rfl) rfl
  | k + 47, h => absurd h (by omega)
theorem inlX11 : ∀ w ∈ wsX110, w ∈ gws := fun w h => by
  obtain ⟨k, hk, rfl⟩ := List.mem_map.mp h
  exact cw_X11 k (List.mem_range.mp hk)
theorem ln_L : Cond.initialized "GuiltyShaveLaw" ∈ gws := gi1 (List.mem_of_getElem? (i := 0) rfl) rfl
theorem ln_X10 : Cond.initialized "GuiltyShave" ∈ gws := gi1 (List.mem_of_getElem? (i := 1) rfl) rfl
theorem ln_X7 : Cond.initialized "GuiltyShave$Tape" ∈ gws := gi1 (List.mem_of_getElem? (i := 2) rfl) rfl
theorem ln_X8 : Cond.initialized "GuiltyShave$Town" ∈ gws := gi1 (List.mem_of_getElem? (i := 3) rfl) rfl
theorem ln_X3 : Cond.initialized "GuiltyShave$LawReader" ∈ gws := gi1 (List.mem_of_getElem? (i := 4) rfl) rfl
theorem ln_X2 : Cond.initialized "GuiltyShave$Law" ∈ gws := gi1 (List.mem_of_getElem? (i := 5) rfl) rfl
theorem ln_X0 : Cond.initialized "GuiltyShave$Court" ∈ gws := gi1 (List.mem_of_getElem? (i := 6) rfl) rfl
theorem ln_X9 : Cond.initialized "GuiltyShave$Week" ∈ gws := gi1 (List.mem_of_getElem? (i := 7) rfl) rfl
theorem ln_X4 : Cond.initialized "GuiltyShave$Life" ∈ gws := gi1 (List.mem_of_getElem? (i := 8) rfl) rfl
theorem ln_X5 : Cond.initialized "GuiltyShave$Past" ∈ gws := gi1 (List.mem_of_getElem? (i := 9) rfl) rfl
theorem ln_X6 : Cond.initialized "GuiltyShave$Sights" ∈ gws := gi1 (List.mem_of_getElem? (i := 10) rfl) rfl
theorem ln_X1 : Cond.initialized "GuiltyShave$Draws" ∈ gws := gi1 (List.mem_of_getElem? (i := 11) rfl) rfl
theorem ln_X11 : Cond.initialized "GuiltyShaveModel" ∈ gws := gi1 (List.mem_of_getElem? (i := 12) rfl) rfl
theorem ln_J0 : Cond.initialized "java/lang/String" ∈ gws := gi1 (List.mem_of_getElem? (i := 13) rfl) rfl
theorem ln_J1 : Cond.initialized "java/lang/StringLatin1" ∈ gws := gi1 (List.mem_of_getElem? (i := 14) rfl) rfl
theorem ln_J3 : Cond.initialized "jdk/internal/util/Preconditions" ∈ gws := gi1 (List.mem_of_getElem? (i := 15) rfl) rfl
theorem ln_J2 : Cond.initialized "java/lang/StringUTF16" ∈ gws := gi1 (List.mem_of_getElem? (i := 16) rfl) rfl
theorem ln_J9 : Cond.initialized "java/lang/Math" ∈ gws := gi1 (List.mem_of_getElem? (i := 17) rfl) rfl
theorem ln_J11 : Cond.initialized "java/lang/Character" ∈ gws := gi1 (List.mem_of_getElem? (i := 18) rfl) rfl
theorem ln_J10 : Cond.initialized "java/lang/System" ∈ gws := gi1 (List.mem_of_getElem? (i := 19) rfl) rfl
theorem ln_J7 : Cond.initialized "java/util/Arrays" ∈ gws := gi1 (List.mem_of_getElem? (i := 20) rfl) rfl
theorem ln_java_lang_Throwable : Cond.initialized "java/lang/Throwable" ∈ gws := gi1 (List.mem_of_getElem? (i := 21) rfl) rfl
theorem ln_java_lang_Exception : Cond.initialized "java/lang/Exception" ∈ gws := gi1 (List.mem_of_getElem? (i := 22) rfl) rfl
theorem ln_java_lang_RuntimeException : Cond.initialized "java/lang/RuntimeException" ∈ gws := gi1 (List.mem_of_getElem? (i := 23) rfl) rfl
theorem ln_java_util_NoSuchElementException : Cond.initialized "java/util/NoSuchElementException" ∈ gws := gi1 (List.mem_of_getElem? (i := 24) rfl) rfl
theorem ln_J6 : Cond.initialized "java/lang/Integer" ∈ gws := gi1 (List.mem_of_getElem? (i := 25) rfl) rfl
theorem lc_L_8 : Cond.classLink RL 8 "GuiltyShave" ∈ gws := gi1 (List.mem_of_getElem? (i := 26) rfl) rfl
theorem lt_X10 : Cond.instantiable RX10 16 ∈ gws := gi1 (List.mem_of_getElem? (i := 27) rfl) rfl
theorem lm_L_15 : Cond.methodLink RL 15 yX10_init ∈ gws := gi1 (List.mem_of_getElem? (i := 28) rfl) rfl
theorem li_X10_init : Cond.instanceMethod yX10_init ∈ gws := gi1 (List.mem_of_getElem? (i := 29) rfl) rfl
theorem lk_X10_init : Cond.code yX10_init cX10_init 1 (Option.none : Option FieldType) ∈ gws := gi1 (List.mem_of_getElem? (i := 30) rfl) rfl
theorem lo_X10_1 : Cond.methodLink RX10 1 ⟨"java/lang/Object", "<init>", "()V"⟩ ∈ gws := gi1 (List.mem_of_getElem? (i := 31) rfl) rfl
theorem li_obj : Cond.instanceMethod objectInit ∈ gws := gi1 (List.mem_of_getElem? (i := 32) rfl) rfl
theorem lk_obj : Cond.code objectInit ⟨#[0xb1]⟩ 1 none ∈ gws := gi1 (List.mem_of_getElem? (i := 33) rfl) rfl
theorem lc_X10_7 : Cond.classLink RX10 7 "GuiltyShave$Tape" ∈ gws := gi1 (List.mem_of_getElem? (i := 34) rfl) rfl
theorem lt_X7 : Cond.instantiable RX7 4 ∈ gws := gi1 (List.mem_of_getElem? (i := 35) rfl) rfl
theorem li_X7_init : Cond.instanceMethod yX7_init ∈ gws := gi1 (List.mem_of_getElem? (i := 37) rfl) rfl
theorem lk_X7_init : Cond.code yX7_init cX7_init 1 (Option.none : Option FieldType) ∈ gws := gi1 (List.mem_of_getElem? (i := 38) rfl) rfl
theorem lo_X7_3 : Cond.methodLink RX7 3 ⟨"java/lang/Object", "<init>", "()V"⟩ ∈ gws := gi1 (List.mem_of_getElem? (i := 39) rfl) rfl
theorem lf_X7_9 : Cond.fieldLink RX7 9 (TX7 0).1 (TX7 0).2.1 (TX7 0).2.2.1 ∈ gws := gi1 (List.mem_of_getElem? (i := 40) rfl) rfl
theorem lf_X10_99 : Cond.fieldLink RX10 99 (TX7 1).1 (TX7 1).2.1 (TX7 1).2.2.1 ∈ gws := gi1 (List.mem_of_getElem? (i := 41) rfl) rfl
theorem lf_X7_15 : Cond.fieldLink RX7 15 (TX7 1).1 (TX7 1).2.1 (TX7 1).2.2.1 ∈ gws := gi1 (List.mem_of_getElem? (i := 42) rfl) rfl
theorem lf_X9_21 : Cond.fieldLink RX9 21 (TX7 2).1 (TX7 2).2.1 (TX7 2).2.2.1 ∈ gws := gi1 (List.mem_of_getElem? (i := 43) rfl) rfl
theorem lf_X3_22 : Cond.fieldLink RX3 22 (TX7 2).1 (TX7 2).2.1 (TX7 2).2.2.1 ∈ gws := gi1 (List.mem_of_getElem? (i := 44) rfl) rfl
theorem lf_X7_19 : Cond.fieldLink RX7 19 (TX7 2).1 (TX7 2).2.1 (TX7 2).2.2.1 ∈ gws := gi1 (List.mem_of_getElem? (i := 45) rfl) rfl
theorem lf_X8_59 : Cond.fieldLink RX8 59 (TX7 2).1 (TX7 2).2.1 (TX7 2).2.2.1 ∈ gws := gi1 (List.mem_of_getElem? (i := 46) rfl) rfl
theorem lf_X9_61 : Cond.fieldLink RX9 61 (TX7 3).1 (TX7 3).2.1 (TX7 3).2.2.1 ∈ gws := gi1 (List.mem_of_getElem? (i := 47) rfl) rfl
theorem lf_X7_30 : Cond.fieldLink RX7 30 (TX7 3).1 (TX7 3).2.1 (TX7 3).2.2.1 ∈ gws := gi1 (List.mem_of_getElem? (i := 48) rfl) rfl
theorem lf_X3_98 : Cond.fieldLink RX3 98 (TX7 3).1 (TX7 3).2.1 (TX7 3).2.2.1 ∈ gws := gi1 (List.mem_of_getElem? (i := 49) rfl) rfl
theorem lf_X8_112 : Cond.fieldLink RX8 112 (TX7 3).1 (TX7 3).2.1 (TX7 3).2.2.1 ∈ gws := gi1 (List.mem_of_getElem? (i := 50) rfl) rfl
theorem la_char : Cond.arrayClass .char ∈ gws := gi1 (List.mem_of_getElem? (i := 60) rfl) rfl
theorem lc_X10_16 : Cond.classLink RX10 16 "GuiltyShave$Town" ∈ gws := gi1 (List.mem_of_getElem? (i := 61) rfl) rfl
theorem lt_X8 : Cond.instantiable RX8 12 ∈ gws := gi1 (List.mem_of_getElem? (i := 62) rfl) rfl
theorem li_X8_init : Cond.instanceMethod yX8_init ∈ gws := gi1 (List.mem_of_getElem? (i := 64) rfl) rfl
theorem lk_X8_init : Cond.code yX8_init cX8_init 1 (Option.none : Option FieldType) ∈ gws := gi1 (List.mem_of_getElem? (i := 65) rfl) rfl
theorem lo_X8_3 : Cond.methodLink RX8 3 ⟨"java/lang/Object", "<init>", "()V"⟩ ∈ gws := gi1 (List.mem_of_getElem? (i := 66) rfl) rfl
theorem lf_X8_9 : Cond.fieldLink RX8 9 (TX8 0).1 (TX8 0).2.1 (TX8 0).2.2.1 ∈ gws := gi1 (List.mem_of_getElem? (i := 67) rfl) rfl
theorem lf_X4_34 : Cond.fieldLink RX4 34 (TX8 0).1 (TX8 0).2.1 (TX8 0).2.2.1 ∈ gws := gi1 (List.mem_of_getElem? (i := 68) rfl) rfl
theorem lf_X8_15 : Cond.fieldLink RX8 15 (TX8 1).1 (TX8 1).2.1 (TX8 1).2.2.1 ∈ gws := gi1 (List.mem_of_getElem? (i := 69) rfl) rfl
theorem lf_X0_40 : Cond.fieldLink RX0 40 (TX8 1).1 (TX8 1).2.1 (TX8 1).2.2.1 ∈ gws := gi1 (List.mem_of_getElem? (i := 70) rfl) rfl
theorem lf_X10_168 : Cond.fieldLink RX10 168 (TX8 1).1 (TX8 1).2.1 (TX8 1).2.2.1 ∈ gws := gi1 (List.mem_of_getElem? (i := 71) rfl) rfl
theorem lf_X8_18 : Cond.fieldLink RX8 18 (TX8 2).1 (TX8 2).2.1 (TX8 2).2.2.1 ∈ gws := gi1 (List.mem_of_getElem? (i := 72) rfl) rfl
theorem lf_X10_172 : Cond.fieldLink RX10 172 (TX8 2).1 (TX8 2).2.1 (TX8 2).2.2.1 ∈ gws := gi1 (List.mem_of_getElem? (i := 73) rfl) rfl
theorem lf_X4_109 : Cond.fieldLink RX4 109 (TX8 2).1 (TX8 2).2.1 (TX8 2).2.2.1 ∈ gws := gi1 (List.mem_of_getElem? (i := 74) rfl) rfl
theorem lf_X8_21 : Cond.fieldLink RX8 21 (TX8 3).1 (TX8 3).2.1 (TX8 3).2.2.1 ∈ gws := gi1 (List.mem_of_getElem? (i := 75) rfl) rfl
theorem lf_X10_184 : Cond.fieldLink RX10 184 (TX8 3).1 (TX8 3).2.1 (TX8 3).2.2.1 ∈ gws := gi1 (List.mem_of_getElem? (i := 76) rfl) rfl
theorem lf_X8_24 : Cond.fieldLink RX8 24 (TX8 4).1 (TX8 4).2.1 (TX8 4).2.2.1 ∈ gws := gi1 (List.mem_of_getElem? (i := 77) rfl) rfl
theorem lf_X10_187 : Cond.fieldLink RX10 187 (TX8 4).1 (TX8 4).2.1 (TX8 4).2.2.1 ∈ gws := gi1 (List.mem_of_getElem? (i := 78) rfl) rfl
theorem lf_X4_77 : Cond.fieldLink RX4 77 (TX8 4).1 (TX8 4).2.1 (TX8 4).2.2.1 ∈ gws := gi1 (List.mem_of_getElem? (i := 79) rfl) rfl
theorem lf_X8_27 : Cond.fieldLink RX8 27 (TX8 5).1 (TX8 5).2.1 (TX8 5).2.2.1 ∈ gws := gi1 (List.mem_of_getElem? (i := 80) rfl) rfl
theorem lf_X10_190 : Cond.fieldLink RX10 190 (TX8 5).1 (TX8 5).2.1 (TX8 5).2.2.1 ∈ gws := gi1 (List.mem_of_getElem? (i := 81) rfl) rfl
theorem lf_X4_70 : Cond.fieldLink RX4 70 (TX8 5).1 (TX8 5).2.1 (TX8 5).2.2.1 ∈ gws := gi1 (List.mem_of_getElem? (i := 82) rfl) rfl
theorem lf_X8_30 : Cond.fieldLink RX8 30 (TX8 6).1 (TX8 6).2.1 (TX8 6).2.2.1 ∈ gws := gi1 (List.mem_of_getElem? (i := 83) rfl) rfl
theorem lf_X8_33 : Cond.fieldLink RX8 33 (TX8 7).1 (TX8 7).2.1 (TX8 7).2.2.1 ∈ gws := gi1 (List.mem_of_getElem? (i := 84) rfl) rfl
theorem lf_X4_28 : Cond.fieldLink RX4 28 (TX8 7).1 (TX8 7).2.1 (TX8 7).2.2.1 ∈ gws := gi1 (List.mem_of_getElem? (i := 85) rfl) rfl
theorem lf_X10_141 : Cond.fieldLink RX10 141 (TX8 7).1 (TX8 7).2.1 (TX8 7).2.2.1 ∈ gws := gi1 (List.mem_of_getElem? (i := 86) rfl) rfl
theorem lf_X8_37 : Cond.fieldLink RX8 37 (TX8 8).1 (TX8 8).2.1 (TX8 8).2.2.1 ∈ gws := gi1 (List.mem_of_getElem? (i := 87) rfl) rfl
theorem lf_X6_46 : Cond.fieldLink RX6 46 (TX8 8).1 (TX8 8).2.1 (TX8 8).2.2.1 ∈ gws := gi1 (List.mem_of_getElem? (i := 88) rfl) rfl
theorem lf_X4_50 : Cond.fieldLink RX4 50 (TX8 8).1 (TX8 8).2.1 (TX8 8).2.2.1 ∈ gws := gi1 (List.mem_of_getElem? (i := 89) rfl) rfl
theorem lf_X10_283 : Cond.fieldLink RX10 283 (TX8 8).1 (TX8 8).2.1 (TX8 8).2.2.1 ∈ gws := gi1 (List.mem_of_getElem? (i := 90) rfl) rfl
theorem lf_X8_53 : Cond.fieldLink RX8 53 (TX8 9).1 (TX8 9).2.1 (TX8 9).2.2.1 ∈ gws := gi1 (List.mem_of_getElem? (i := 91) rfl) rfl
theorem lf_X4_92 : Cond.fieldLink RX4 92 (TX8 9).1 (TX8 9).2.1 (TX8 9).2.2.1 ∈ gws := gi1 (List.mem_of_getElem? (i := 92) rfl) rfl
theorem lf_X4_37 : Cond.fieldLink RX4 37 (TX8 10).1 (TX8 10).2.1 (TX8 10).2.2.1 ∈ gws := gi1 (List.mem_of_getElem? (i := 93) rfl) rfl
theorem lf_X8_56 : Cond.fieldLink RX8 56 (TX8 10).1 (TX8 10).2.1 (TX8 10).2.2.1 ∈ gws := gi1 (List.mem_of_getElem? (i := 94) rfl) rfl
theorem lf_X8_64 : Cond.fieldLink RX8 64 (TX8 11).1 (TX8 11).2.1 (TX8 11).2.2.1 ∈ gws := gi1 (List.mem_of_getElem? (i := 95) rfl) rfl
theorem la_int : Cond.arrayClass .int ∈ gws := gi1 (List.mem_of_getElem? (i := 121) rfl) rfl
theorem lc_X10_26 : Cond.classLink RX10 26 "GuiltyShave$LawReader" ∈ gws := gi1 (List.mem_of_getElem? (i := 122) rfl) rfl
theorem lt_X3 : Cond.instantiable RX3 2 ∈ gws := gi1 (List.mem_of_getElem? (i := 123) rfl) rfl
theorem lm_X10_28 : Cond.methodLink RX10 28 yX3_init ∈ gws := gi1 (List.mem_of_getElem? (i := 124) rfl) rfl
theorem li_X3_init : Cond.instanceMethod yX3_init ∈ gws := gi1 (List.mem_of_getElem? (i := 125) rfl) rfl
theorem lk_X3_init : Cond.code yX3_init cX3_init 2 (Option.none : Option FieldType) ∈ gws := gi1 (List.mem_of_getElem? (i := 126) rfl) rfl
theorem lo_X3_3 : Cond.methodLink RX3 3 ⟨"java/lang/Object", "<init>", "()V"⟩ ∈ gws := gi1 (List.mem_of_getElem? (i := 127) rfl) rfl
theorem lc_X3_9 : Cond.classLink RX3 9 "GuiltyShave$Law" ∈ gws := gi1 (List.mem_of_getElem? (i := 128) rfl) rfl
theorem lt_X2 : Cond.instantiable RX2 7 ∈ gws := gi1 (List.mem_of_getElem? (i := 129) rfl) rfl
theorem li_X2_init : Cond.instanceMethod yX2_init ∈ gws := gi1 (List.mem_of_getElem? (i := 131) rfl) rfl
theorem lk_X2_init : Cond.code yX2_init cX2_init 1 (Option.none : Option FieldType) ∈ gws := gi1 (List.mem_of_getElem? (i := 132) rfl) rfl
theorem lo_X2_3 : Cond.methodLink RX2 3 ⟨"java/lang/Object", "<init>", "()V"⟩ ∈ gws := gi1 (List.mem_of_getElem? (i := 133) rfl) rfl
theorem lf_X2_9 : Cond.fieldLink RX2 9 (TX2 0).1 (TX2 0).2.1 (TX2 0).2.2.1 ∈ gws := gi1 (List.mem_of_getElem? (i := 134) rfl) rfl
theorem lf_X2_15 : Cond.fieldLink RX2 15 (TX2 1).1 (TX2 1).2.1 (TX2 1).2.2.1 ∈ gws := gi1 (List.mem_of_getElem? (i := 135) rfl) rfl
theorem lf_X2_18 : Cond.fieldLink RX2 18 (TX2 2).1 (TX2 2).2.1 (TX2 2).2.2.1 ∈ gws := gi1 (List.mem_of_getElem? (i := 136) rfl) rfl
theorem lf_X2_21 : Cond.fieldLink RX2 21 (TX2 3).1 (TX2 3).2.1 (TX2 3).2.2.1 ∈ gws := gi1 (List.mem_of_getElem? (i := 137) rfl) rfl
theorem lf_X2_24 : Cond.fieldLink RX2 24 (TX2 4).1 (TX2 4).2.1 (TX2 4).2.2.1 ∈ gws := gi1 (List.mem_of_getElem? (i := 138) rfl) rfl
theorem lf_X3_43 : Cond.fieldLink RX3 43 (TX2 4).1 (TX2 4).2.1 (TX2 4).2.2.1 ∈ gws := gi1 (List.mem_of_getElem? (i := 139) rfl) rfl
theorem lf_X2_28 : Cond.fieldLink RX2 28 (TX2 5).1 (TX2 5).2.1 (TX2 5).2.2.1 ∈ gws := gi1 (List.mem_of_getElem? (i := 140) rfl) rfl
theorem lf_X2_31 : Cond.fieldLink RX2 31 (TX2 6).1 (TX2 6).2.1 (TX2 6).2.2.1 ∈ gws := gi1 (List.mem_of_getElem? (i := 141) rfl) rfl
theorem lf_X0_36 : Cond.fieldLink RX0 36 (TX2 6).1 (TX2 6).2.1 (TX2 6).2.2.1 ∈ gws := gi1 (List.mem_of_getElem? (i := 142) rfl) rfl
theorem lf_X3_18 : Cond.fieldLink RX3 18 (TX3 0).1 (TX3 0).2.1 (TX3 0).2.2.1 ∈ gws := gi1 (List.mem_of_getElem? (i := 158) rfl) rfl
theorem lf_X3_12 : Cond.fieldLink RX3 12 (TX3 1).1 (TX3 1).2.1 (TX3 1).2.2.1 ∈ gws := gi1 (List.mem_of_getElem? (i := 159) rfl) rfl
theorem lc_X10_35 : Cond.classLink RX10 35 "GuiltyShave$Court" ∈ gws := gi1 (List.mem_of_getElem? (i := 165) rfl) rfl
theorem lt_X0 : Cond.instantiable RX0 5 ∈ gws := gi1 (List.mem_of_getElem? (i := 166) rfl) rfl
theorem lm_X10_37 : Cond.methodLink RX10 37 yX0_init ∈ gws := gi1 (List.mem_of_getElem? (i := 167) rfl) rfl
theorem li_X0_init : Cond.instanceMethod yX0_init ∈ gws := gi1 (List.mem_of_getElem? (i := 168) rfl) rfl
theorem lk_X0_init : Cond.code yX0_init cX0_init 2 (Option.none : Option FieldType) ∈ gws := gi1 (List.mem_of_getElem? (i := 169) rfl) rfl
theorem lo_X0_3 : Cond.methodLink RX0 3 ⟨"java/lang/Object", "<init>", "()V"⟩ ∈ gws := gi1 (List.mem_of_getElem? (i := 170) rfl) rfl
theorem lc_X0_9 : Cond.classLink RX0 9 "GuiltyShave$Law" ∈ gws := gi1 (List.mem_of_getElem? (i := 171) rfl) rfl
theorem lf_X0_25 : Cond.fieldLink RX0 25 (TX0 0).1 (TX0 0).2.1 (TX0 0).2.2.1 ∈ gws := gi1 (List.mem_of_getElem? (i := 173) rfl) rfl
theorem lf_X0_11 : Cond.fieldLink RX0 11 (TX0 1).1 (TX0 1).2.1 (TX0 1).2.2.1 ∈ gws := gi1 (List.mem_of_getElem? (i := 174) rfl) rfl
theorem lf_X0_17 : Cond.fieldLink RX0 17 (TX0 2).1 (TX0 2).2.1 (TX0 2).2.2.1 ∈ gws := gi1 (List.mem_of_getElem? (i := 175) rfl) rfl
theorem lf_X0_29 : Cond.fieldLink RX0 29 (TX0 3).1 (TX0 3).2.1 (TX0 3).2.2.1 ∈ gws := gi1 (List.mem_of_getElem? (i := 176) rfl) rfl
theorem lf_X10_144 : Cond.fieldLink RX10 144 (TX0 3).1 (TX0 3).2.1 (TX0 3).2.2.1 ∈ gws := gi1 (List.mem_of_getElem? (i := 177) rfl) rfl
theorem lf_X0_21 : Cond.fieldLink RX0 21 (TX0 4).1 (TX0 4).2.1 (TX0 4).2.2.1 ∈ gws := gi1 (List.mem_of_getElem? (i := 178) rfl) rfl
theorem lf_X10_401 : Cond.fieldLink RX10 401 (TX0 4).1 (TX0 4).2.1 (TX0 4).2.2.1 ∈ gws := gi1 (List.mem_of_getElem? (i := 179) rfl) rfl
theorem lc_X10_44 : Cond.classLink RX10 44 "GuiltyShave$Week" ∈ gws := gi1 (List.mem_of_getElem? (i := 191) rfl) rfl
theorem lt_X9 : Cond.instantiable RX9 4 ∈ gws := gi1 (List.mem_of_getElem? (i := 193) rfl) rfl
theorem li_X9_init : Cond.instanceMethod yX9_init ∈ gws := gi1 (List.mem_of_getElem? (i := 195) rfl) rfl
theorem lk_X9_init : Cond.code yX9_init cX9_init 1 (Option.none : Option FieldType) ∈ gws := gi1 (List.mem_of_getElem? (i := 196) rfl) rfl
theorem lo_X9_3 : Cond.methodLink RX9 3 ⟨"java/lang/Object", "<init>", "()V"⟩ ∈ gws := gi1 (List.mem_of_getElem? (i := 197) rfl) rfl
theorem lf_X9_9 : Cond.fieldLink RX9 9 (TX9 0).1 (TX9 0).2.1 (TX9 0).2.2.1 ∈ gws := gi1 (List.mem_of_getElem? (i := 198) rfl) rfl
theorem lf_X10_302 : Cond.fieldLink RX10 302 (TX9 0).1 (TX9 0).2.1 (TX9 0).2.2.1 ∈ gws := gi1 (List.mem_of_getElem? (i := 199) rfl) rfl
theorem lf_X9_15 : Cond.fieldLink RX9 15 (TX9 1).1 (TX9 1).2.1 (TX9 1).2.2.1 ∈ gws := gi1 (List.mem_of_getElem? (i := 200) rfl) rfl
theorem lf_X10_305 : Cond.fieldLink RX10 305 (TX9 1).1 (TX9 1).2.1 (TX9 1).2.2.1 ∈ gws := gi1 (List.mem_of_getElem? (i := 201) rfl) rfl
theorem lf_X9_18 : Cond.fieldLink RX9 18 (TX9 2).1 (TX9 2).2.1 (TX9 2).2.2.1 ∈ gws := gi1 (List.mem_of_getElem? (i := 202) rfl) rfl
theorem lf_X10_307 : Cond.fieldLink RX10 307 (TX9 2).1 (TX9 2).2.1 (TX9 2).2.2.1 ∈ gws := gi1 (List.mem_of_getElem? (i := 203) rfl) rfl
theorem lf_X9_27 : Cond.fieldLink RX9 27 (TX9 3).1 (TX9 3).2.1 (TX9 3).2.2.1 ∈ gws := gi1 (List.mem_of_getElem? (i := 204) rfl) rfl
theorem lf_X10_300 : Cond.fieldLink RX10 300 (TX9 3).1 (TX9 3).2.1 (TX9 3).2.2.1 ∈ gws := gi1 (List.mem_of_getElem? (i := 205) rfl) rfl
theorem lc_X10_55 : Cond.classLink RX10 55 "GuiltyShave$Life" ∈ gws := gi1 (List.mem_of_getElem? (i := 215) rfl) rfl
theorem lt_X4 : Cond.instantiable RX4 3 ∈ gws := gi1 (List.mem_of_getElem? (i := 216) rfl) rfl
theorem lm_X10_57 : Cond.methodLink RX10 57 yX4_init ∈ gws := gi1 (List.mem_of_getElem? (i := 217) rfl) rfl
theorem li_X4_init : Cond.instanceMethod yX4_init ∈ gws := gi1 (List.mem_of_getElem? (i := 218) rfl) rfl
theorem lk_X4_init : Cond.code yX4_init cX4_init 2 (Option.none : Option FieldType) ∈ gws := gi1 (List.mem_of_getElem? (i := 219) rfl) rfl
theorem lo_X4_5 : Cond.methodLink RX4 5 ⟨"java/lang/Object", "<init>", "()V"⟩ ∈ gws := gi1 (List.mem_of_getElem? (i := 220) rfl) rfl
theorem lf_X4_18 : Cond.fieldLink RX4 18 (TX4 0).1 (TX4 0).2.1 (TX4 0).2.2.1 ∈ gws := gi1 (List.mem_of_getElem? (i := 221) rfl) rfl
theorem lf_X4_11 : Cond.fieldLink RX4 11 (TX4 1).1 (TX4 1).2.1 (TX4 1).2.2.1 ∈ gws := gi1 (List.mem_of_getElem? (i := 222) rfl) rfl
theorem lf_X5_18 : Cond.fieldLink RX5 18 (TX4 1).1 (TX4 1).2.1 (TX4 1).2.2.1 ∈ gws := gi1 (List.mem_of_getElem? (i := 223) rfl) rfl
theorem lf_X4_15 : Cond.fieldLink RX4 15 (TX4 2).1 (TX4 2).2.1 (TX4 2).2.2.1 ∈ gws := gi1 (List.mem_of_getElem? (i := 224) rfl) rfl
theorem lc_X10_68 : Cond.classLink RX10 68 "GuiltyShave$Past" ∈ gws := gi1 (List.mem_of_getElem? (i := 232) rfl) rfl
theorem lt_X5 : Cond.instantiable RX5 3 ∈ gws := gi1 (List.mem_of_getElem? (i := 233) rfl) rfl
theorem li_X5_init : Cond.instanceMethod yX5_init ∈ gws := gi1 (List.mem_of_getElem? (i := 235) rfl) rfl
theorem lk_X5_init : Cond.code yX5_init cX5_init 1 (Option.none : Option FieldType) ∈ gws := gi1 (List.mem_of_getElem? (i := 236) rfl) rfl
theorem lo_X5_3 : Cond.methodLink RX5 3 ⟨"java/lang/Object", "<init>", "()V"⟩ ∈ gws := gi1 (List.mem_of_getElem? (i := 237) rfl) rfl
theorem lc_X5_11 : Cond.classLink RX5 11 "[[I" ∈ gws := gi1 (List.mem_of_getElem? (i := 238) rfl) rfl
theorem lf_X5_13 : Cond.fieldLink RX5 13 (TX5 0).1 (TX5 0).2.1 (TX5 0).2.2.1 ∈ gws := gi2 (List.mem_of_getElem? (i := 0) rfl) rfl
theorem lf_X5_32 : Cond.fieldLink RX5 32 (TX5 1).1 (TX5 1).2.1 (TX5 1).2.2.1 ∈ gws := gi2 (List.mem_of_getElem? (i := 1) rfl) rfl
theorem lf_X10_404 : Cond.fieldLink RX10 404 (TX5 1).1 (TX5 1).2.1 (TX5 1).2.2.1 ∈ gws := gi2 (List.mem_of_getElem? (i := 2) rfl) rfl
theorem lf_X5_22 : Cond.fieldLink RX5 22 (TX5 2).1 (TX5 2).2.1 (TX5 2).2.2.1 ∈ gws := gi2 (List.mem_of_getElem? (i := 3) rfl) rfl
theorem lc_X10_75 : Cond.classLink RX10 75 "GuiltyShave$Sights" ∈ gws := gi2 (List.mem_of_getElem? (i := 11) rfl) rfl
theorem lt_X6 : Cond.instantiable RX6 9 ∈ gws := gi2 (List.mem_of_getElem? (i := 12) rfl) rfl
theorem lm_X10_77 : Cond.methodLink RX10 77 yX6_init ∈ gws := gi2 (List.mem_of_getElem? (i := 13) rfl) rfl
theorem li_X6_init : Cond.instanceMethod yX6_init ∈ gws := gi2 (List.mem_of_getElem? (i := 14) rfl) rfl
theorem lk_X6_init : Cond.code yX6_init cX6_init 3 (Option.none : Option FieldType) ∈ gws := gi2 (List.mem_of_getElem? (i := 15) rfl) rfl
theorem lo_X6_5 : Cond.methodLink RX6 5 ⟨"java/lang/Object", "<init>", "()V"⟩ ∈ gws := gi2 (List.mem_of_getElem? (i := 16) rfl) rfl
theorem lf_X6_28 : Cond.fieldLink RX6 28 (TX6 0).1 (TX6 0).2.1 (TX6 0).2.2.1 ∈ gws := gi2 (List.mem_of_getElem? (i := 17) rfl) rfl
theorem lf_X6_32 : Cond.fieldLink RX6 32 (TX6 1).1 (TX6 1).2.1 (TX6 1).2.2.1 ∈ gws := gi2 (List.mem_of_getElem? (i := 18) rfl) rfl
theorem lf_X6_11 : Cond.fieldLink RX6 11 (TX6 2).1 (TX6 2).2.1 (TX6 2).2.2.1 ∈ gws := gi2 (List.mem_of_getElem? (i := 19) rfl) rfl
theorem lf_X6_15 : Cond.fieldLink RX6 15 (TX6 3).1 (TX6 3).2.1 (TX6 3).2.2.1 ∈ gws := gi2 (List.mem_of_getElem? (i := 20) rfl) rfl
theorem lf_X6_18 : Cond.fieldLink RX6 18 (TX6 4).1 (TX6 4).2.1 (TX6 4).2.2.1 ∈ gws := gi2 (List.mem_of_getElem? (i := 21) rfl) rfl
theorem lf_X6_36 : Cond.fieldLink RX6 36 (TX6 5).1 (TX6 5).2.1 (TX6 5).2.2.1 ∈ gws := gi2 (List.mem_of_getElem? (i := 22) rfl) rfl
theorem lf_X10_347 : Cond.fieldLink RX10 347 (TX6 5).1 (TX6 5).2.1 (TX6 5).2.2.1 ∈ gws := gi2 (List.mem_of_getElem? (i := 23) rfl) rfl
theorem lf_X6_22 : Cond.fieldLink RX6 22 (TX6 6).1 (TX6 6).2.1 (TX6 6).2.2.1 ∈ gws := gi2 (List.mem_of_getElem? (i := 24) rfl) rfl
theorem lf_X6_25 : Cond.fieldLink RX6 25 (TX6 7).1 (TX6 7).2.1 (TX6 7).2.2.1 ∈ gws := gi2 (List.mem_of_getElem? (i := 25) rfl) rfl
theorem lf_X6_86 : Cond.fieldLink RX6 86 (TX6 8).1 (TX6 8).2.1 (TX6 8).2.2.1 ∈ gws := gi2 (List.mem_of_getElem? (i := 26) rfl) rfl
theorem la_boolean : Cond.arrayClass .boolean ∈ gws := gi2 (List.mem_of_getElem? (i := 46) rfl) rfl
theorem lc_X10_84 : Cond.classLink RX10 84 "GuiltyShave$Draws" ∈ gws := gi2 (List.mem_of_getElem? (i := 47) rfl) rfl
theorem lt_X1 : Cond.instantiable RX1 1 ∈ gws := gi2 (List.mem_of_getElem? (i := 48) rfl) rfl
theorem li_X1_init : Cond.instanceMethod yX1_init ∈ gws := gi2 (List.mem_of_getElem? (i := 50) rfl) rfl
theorem lk_X1_init : Cond.code yX1_init cX1_init 1 (Option.none : Option FieldType) ∈ gws := gi2 (List.mem_of_getElem? (i := 51) rfl) rfl
theorem lo_X1_1 : Cond.methodLink RX1 1 ⟨"java/lang/Object", "<init>", "()V"⟩ ∈ gws := gi2 (List.mem_of_getElem? (i := 52) rfl) rfl
theorem lf_X1_7 : Cond.fieldLink RX1 7 (TX1 0).1 (TX1 0).2.1 (TX1 0).2.2.1 ∈ gws := gi2 (List.mem_of_getElem? (i := 53) rfl) rfl
theorem lf_X10_10 : Cond.fieldLink RX10 10 (TX10 0).1 (TX10 0).2.1 (TX10 0).2.2.1 ∈ gws := gi2 (List.mem_of_getElem? (i := 57) rfl) rfl
theorem lf_X10_19 : Cond.fieldLink RX10 19 (TX10 1).1 (TX10 1).2.1 (TX10 1).2.2.1 ∈ gws := gi2 (List.mem_of_getElem? (i := 58) rfl) rfl
theorem lf_X10_23 : Cond.fieldLink RX10 23 (TX10 2).1 (TX10 2).2.1 (TX10 2).2.2.1 ∈ gws := gi2 (List.mem_of_getElem? (i := 59) rfl) rfl
theorem lf_X10_31 : Cond.fieldLink RX10 31 (TX10 3).1 (TX10 3).2.1 (TX10 3).2.2.1 ∈ gws := gi2 (List.mem_of_getElem? (i := 60) rfl) rfl
theorem lf_X10_40 : Cond.fieldLink RX10 40 (TX10 4).1 (TX10 4).2.1 (TX10 4).2.2.1 ∈ gws := gi2 (List.mem_of_getElem? (i := 61) rfl) rfl
theorem lf_X10_46 : Cond.fieldLink RX10 46 (TX10 5).1 (TX10 5).2.1 (TX10 5).2.2.1 ∈ gws := gi2 (List.mem_of_getElem? (i := 62) rfl) rfl
theorem lf_X10_155 : Cond.fieldLink RX10 155 (TX10 6).1 (TX10 6).2.1 (TX10 6).2.2.1 ∈ gws := gi2 (List.mem_of_getElem? (i := 63) rfl) rfl
theorem lf_X10_51 : Cond.fieldLink RX10 51 (TX10 7).1 (TX10 7).2.1 (TX10 7).2.2.1 ∈ gws := gi2 (List.mem_of_getElem? (i := 64) rfl) rfl
theorem lf_X10_58 : Cond.fieldLink RX10 58 (TX10 8).1 (TX10 8).2.1 (TX10 8).2.2.1 ∈ gws := gi2 (List.mem_of_getElem? (i := 65) rfl) rfl
theorem lf_X10_62 : Cond.fieldLink RX10 62 (TX10 9).1 (TX10 9).2.1 (TX10 9).2.2.1 ∈ gws := gi2 (List.mem_of_getElem? (i := 66) rfl) rfl
theorem lf_X10_65 : Cond.fieldLink RX10 65 (TX10 10).1 (TX10 10).2.1 (TX10 10).2.2.1 ∈ gws := gi2 (List.mem_of_getElem? (i := 67) rfl) rfl
theorem lf_X10_137 : Cond.fieldLink RX10 137 (TX10 11).1 (TX10 11).2.1 (TX10 11).2.2.1 ∈ gws := gi2 (List.mem_of_getElem? (i := 68) rfl) rfl
theorem lf_X10_71 : Cond.fieldLink RX10 71 (TX10 12).1 (TX10 12).2.1 (TX10 12).2.2.1 ∈ gws := gi2 (List.mem_of_getElem? (i := 69) rfl) rfl
theorem lf_X10_80 : Cond.fieldLink RX10 80 (TX10 13).1 (TX10 13).2.1 (TX10 13).2.2.1 ∈ gws := gi2 (List.mem_of_getElem? (i := 70) rfl) rfl
theorem lf_X10_87 : Cond.fieldLink RX10 87 (TX10 14).1 (TX10 14).2.1 (TX10 14).2.2.1 ∈ gws := gi2 (List.mem_of_getElem? (i := 71) rfl) rfl
theorem lf_X10_91 : Cond.fieldLink RX10 91 (TX10 15).1 (TX10 15).2.1 (TX10 15).2.2.1 ∈ gws := gi2 (List.mem_of_getElem? (i := 72) rfl) rfl
theorem lm_L_19 : Cond.methodLink RL 19 yX10_feed ∈ gws := gi2 (List.mem_of_getElem? (i := 106) rfl) rfl
theorem li_X10_feed : Cond.instanceMethod yX10_feed ∈ gws := gi2 (List.mem_of_getElem? (i := 107) rfl) rfl
theorem ls_X10_feed : Cond.selects yX10_feed.cls yX10_feed yX10_feed ∈ gws := gi2 (List.mem_of_getElem? (i := 108) rfl) rfl
theorem lk_X10_feed : Cond.code yX10_feed cX10_feed 7 (Option.some FieldType.int) ∈ gws := gi2 (List.mem_of_getElem? (i := 109) rfl) rfl
theorem lm_X10_95 : Cond.methodLink RX10 95 yX7_bytesIn ∈ gws := gi2 (List.mem_of_getElem? (i := 110) rfl) rfl
theorem li_X7_bytesIn : Cond.static yX7_bytesIn ∈ gws := gi2 (List.mem_of_getElem? (i := 111) rfl) rfl
theorem lk_X7_bytesIn : Cond.code yX7_bytesIn cX7_bytesIn 3 (Option.some FieldType.int) ∈ gws := gi2 (List.mem_of_getElem? (i := 112) rfl) rfl
theorem lm_X10_102 : Cond.methodLink RX10 102 yX7_add ∈ gws := gi2 (List.mem_of_getElem? (i := 113) rfl) rfl
theorem li_X7_add : Cond.instanceMethod yX7_add ∈ gws := gi2 (List.mem_of_getElem? (i := 114) rfl) rfl
theorem ls_X7_add : Cond.selects yX7_add.cls yX7_add yX7_add ∈ gws := gi2 (List.mem_of_getElem? (i := 115) rfl) rfl
theorem lk_X7_add : Cond.code yX7_add cX7_add 4 (Option.none : Option FieldType) ∈ gws := gi2 (List.mem_of_getElem? (i := 116) rfl) rfl
theorem lm_L_24 : Cond.methodLink RL 24 yX10_end ∈ gws := gi2 (List.mem_of_getElem? (i := 117) rfl) rfl
theorem li_X10_end : Cond.instanceMethod yX10_end ∈ gws := gi2 (List.mem_of_getElem? (i := 118) rfl) rfl
theorem ls_X10_end : Cond.selects yX10_end.cls yX10_end yX10_end ∈ gws := gi2 (List.mem_of_getElem? (i := 119) rfl) rfl
theorem lk_X10_end : Cond.code yX10_end cX10_end 2 (Option.some FieldType.boolean) ∈ gws := gi2 (List.mem_of_getElem? (i := 120) rfl) rfl
theorem lm_L_29 : Cond.methodLink RL 29 yX10_fault ∈ gws := gi2 (List.mem_of_getElem? (i := 121) rfl) rfl
theorem li_X10_fault : Cond.instanceMethod yX10_fault ∈ gws := gi2 (List.mem_of_getElem? (i := 122) rfl) rfl
theorem ls_X10_fault : Cond.selects yX10_fault.cls yX10_fault yX10_fault ∈ gws := gi2 (List.mem_of_getElem? (i := 123) rfl) rfl
theorem lk_X10_fault : Cond.code yX10_fault cX10_fault 2 (Option.some FieldType.int) ∈ gws := gi2 (List.mem_of_getElem? (i := 124) rfl) rfl
theorem lm_X10_106 : Cond.methodLink RX10 106 yX8_faultIn ∈ gws := gi2 (List.mem_of_getElem? (i := 125) rfl) rfl
theorem li_X8_faultIn : Cond.instanceMethod yX8_faultIn ∈ gws := gi2 (List.mem_of_getElem? (i := 126) rfl) rfl
theorem ls_X8_faultIn : Cond.selects yX8_faultIn.cls yX8_faultIn yX8_faultIn ∈ gws := gi2 (List.mem_of_getElem? (i := 127) rfl) rfl
theorem lk_X8_faultIn : Cond.code yX8_faultIn cX8_faultIn 3 (Option.some FieldType.int) ∈ gws := gi2 (List.mem_of_getElem? (i := 128) rfl) rfl
theorem lo_X8_68 : Cond.fieldLink RX8 68 RX8 "UNTOLD" "[I" ∈ gws := gi2 (List.mem_of_getElem? (i := 129) rfl) rfl
theorem lm_X8_71 : Cond.methodLink RX8 71 yX8_readsClauses ∈ gws := gi2 (List.mem_of_getElem? (i := 131) rfl) rfl
theorem li_X8_readsClauses : Cond.instanceMethod yX8_readsClauses ∈ gws := gi2 (List.mem_of_getElem? (i := 133) rfl) rfl
theorem lk_X8_readsClauses : Cond.code yX8_readsClauses cX8_readsClauses 4 (Option.some FieldType.boolean) ∈ gws := gi2 (List.mem_of_getElem? (i := 134) rfl) rfl
theorem lm_X8_79 : Cond.methodLink RX8 79 yX7_passed ∈ gws := gi2 (List.mem_of_getElem? (i := 135) rfl) rfl
theorem li_X7_passed : Cond.instanceMethod yX7_passed ∈ gws := gi2 (List.mem_of_getElem? (i := 136) rfl) rfl
theorem ls_X7_passed : Cond.selects yX7_passed.cls yX7_passed yX7_passed ∈ gws := gi2 (List.mem_of_getElem? (i := 137) rfl) rfl
theorem lk_X7_passed : Cond.code yX7_passed cX7_passed 2 (Option.some FieldType.boolean) ∈ gws := gi2 (List.mem_of_getElem? (i := 138) rfl) rfl
theorem lm_X7_22 : Cond.methodLink RX7 22 yX7_next ∈ gws := gi2 (List.mem_of_getElem? (i := 139) rfl) rfl
theorem li_X7_next : Cond.instanceMethod yX7_next ∈ gws := gi2 (List.mem_of_getElem? (i := 140) rfl) rfl
theorem ls_X7_next : Cond.selects yX7_next.cls yX7_next yX7_next ∈ gws := gi2 (List.mem_of_getElem? (i := 141) rfl) rfl
theorem lk_X7_next : Cond.code yX7_next cX7_next 1 (Option.some FieldType.int) ∈ gws := gi2 (List.mem_of_getElem? (i := 142) rfl) rfl
theorem lm_X8_75 : Cond.methodLink RX8 75 yX7_next ∈ gws := gi2 (List.mem_of_getElem? (i := 143) rfl) rfl
theorem lm_X8_83 : Cond.methodLink RX8 83 yX8_kindOf ∈ gws := gi2 (List.mem_of_getElem? (i := 144) rfl) rfl
theorem li_X8_kindOf : Cond.instanceMethod yX8_kindOf ∈ gws := gi2 (List.mem_of_getElem? (i := 146) rfl) rfl
theorem lk_X8_kindOf : Cond.code yX8_kindOf cX8_kindOf 2 (Option.some FieldType.int) ∈ gws := gi2 (List.mem_of_getElem? (i := 147) rfl) rfl
theorem lm_X8_87 : Cond.methodLink RX8 87 yX7_pass ∈ gws := gi2 (List.mem_of_getElem? (i := 148) rfl) rfl
theorem li_X7_pass : Cond.instanceMethod yX7_pass ∈ gws := gi2 (List.mem_of_getElem? (i := 149) rfl) rfl
theorem ls_X7_pass : Cond.selects yX7_pass.cls yX7_pass yX7_pass ∈ gws := gi2 (List.mem_of_getElem? (i := 150) rfl) rfl
theorem lk_X7_pass : Cond.code yX7_pass cX7_pass 1 (Option.none : Option FieldType) ∈ gws := gi2 (List.mem_of_getElem? (i := 151) rfl) rfl
theorem lm_X8_90 : Cond.methodLink RX8 90 yX8_readsItems ∈ gws := gi2 (List.mem_of_getElem? (i := 152) rfl) rfl
theorem li_X8_readsItems : Cond.instanceMethod yX8_readsItems ∈ gws := gi2 (List.mem_of_getElem? (i := 154) rfl) rfl
theorem lk_X8_readsItems : Cond.code yX8_readsItems cX8_readsItems 8 (Option.some FieldType.boolean) ∈ gws := gi2 (List.mem_of_getElem? (i := 155) rfl) rfl
theorem lm_X8_98 : Cond.methodLink RX8 98 yX8_itemOf ∈ gws := gi2 (List.mem_of_getElem? (i := 156) rfl) rfl
theorem li_X8_itemOf : Cond.static yX8_itemOf ∈ gws := gi2 (List.mem_of_getElem? (i := 157) rfl) rfl
theorem lk_X8_itemOf : Cond.code yX8_itemOf cX8_itemOf 3 (Option.some FieldType.int) ∈ gws := gi2 (List.mem_of_getElem? (i := 158) rfl) rfl
theorem lm_X8_117 : Cond.methodLink RX8 117 yJ0_charAt_5068e ∈ gws := gi2 (List.mem_of_getElem? (i := 160) rfl) rfl
theorem li_J0_charAt_5068e : Cond.instanceMethod yJ0_charAt_5068e ∈ gws := gi2 (List.mem_of_getElem? (i := 161) rfl) rfl
theorem ls_J0_charAt_5068e : Cond.selects yJ0_charAt_5068e.cls yJ0_charAt_5068e yJ0_charAt_5068e ∈ gws := gi2 (List.mem_of_getElem? (i := 162) rfl) rfl
theorem lk_J0_charAt_5068e : Cond.code yJ0_charAt_5068e cJ0_charAt_5068e 2 (Option.some FieldType.char) ∈ gws := gi2 (List.mem_of_getElem? (i := 163) rfl) rfl
theorem lm_J0_492 : Cond.methodLink RJ0 492 yJ0_isLatin1_aae02 ∈ gws := gi2 (List.mem_of_getElem? (i := 164) rfl) rfl
theorem li_J0_isLatin1_aae02 : Cond.instanceMethod yJ0_isLatin1_aae02 ∈ gws := gi2 (List.mem_of_getElem? (i := 165) rfl) rfl
theorem ls_J0_isLatin1_aae02 : Cond.selects yJ0_isLatin1_aae02.cls yJ0_isLatin1_aae02 yJ0_isLatin1_aae02 ∈ gws := gi2 (List.mem_of_getElem? (i := 166) rfl) rfl
theorem lk_J0_isLatin1_aae02 : Cond.code yJ0_isLatin1_aae02 cJ0_isLatin1_aae02 1 (Option.some FieldType.boolean) ∈ gws := gi2 (List.mem_of_getElem? (i := 167) rfl) rfl
theorem lo_J0_38 : Cond.fieldLink RJ0 38 "java/lang/String" "COMPACT_STRINGS" "Z" ∈ gws := gi2 (List.mem_of_getElem? (i := 168) rfl) rfl
theorem lm_J0_495 : Cond.methodLink RJ0 495 yJ1_charAt_3b067 ∈ gws := gi2 (List.mem_of_getElem? (i := 170) rfl) rfl
theorem li_J1_charAt_3b067 : Cond.static yJ1_charAt_3b067 ∈ gws := gi2 (List.mem_of_getElem? (i := 171) rfl) rfl
theorem lk_J1_charAt_3b067 : Cond.code yJ1_charAt_3b067 cJ1_charAt_3b067 2 (Option.some FieldType.char) ∈ gws := gi2 (List.mem_of_getElem? (i := 172) rfl) rfl
theorem lm_J1_9 : Cond.methodLink RJ1 9 yJ0_checkIndex_df160 ∈ gws := gi2 (List.mem_of_getElem? (i := 173) rfl) rfl
theorem li_J0_checkIndex_df160 : Cond.static yJ0_checkIndex_df160 ∈ gws := gi2 (List.mem_of_getElem? (i := 174) rfl) rfl
theorem lk_J0_checkIndex_df160 : Cond.code yJ0_checkIndex_df160 cJ0_checkIndex_df160 2 (Option.none : Option FieldType) ∈ gws := gi2 (List.mem_of_getElem? (i := 175) rfl) rfl
theorem lo_J0_1053 : Cond.fieldLink RJ0 1053 "jdk/internal/util/Preconditions" "SIOOBE_FORMATTER" "Ljava/util/function/BiFunction;" ∈ gws := gi2 (List.mem_of_getElem? (i := 176) rfl) rfl
theorem lm_J0_1059 : Cond.methodLink RJ0 1059 yJ3_checkIndex_8e157 ∈ gws := gi2 (List.mem_of_getElem? (i := 178) rfl) rfl
theorem li_J3_checkIndex_8e157 : Cond.static yJ3_checkIndex_8e157 ∈ gws := gi2 (List.mem_of_getElem? (i := 179) rfl) rfl
theorem lk_J3_checkIndex_8e157 : Cond.code yJ3_checkIndex_8e157 cJ3_checkIndex_8e157 3 (Option.some FieldType.int) ∈ gws := gi2 (List.mem_of_getElem? (i := 180) rfl) rfl
theorem lm_J0_498 : Cond.methodLink RJ0 498 yJ2_charAt_3b067 ∈ gws := gi2 (List.mem_of_getElem? (i := 181) rfl) rfl
theorem li_J2_charAt_3b067 : Cond.static yJ2_charAt_3b067 ∈ gws := gi2 (List.mem_of_getElem? (i := 182) rfl) rfl
theorem lk_J2_charAt_3b067 : Cond.code yJ2_charAt_3b067 cJ2_charAt_3b067 2 (Option.some FieldType.char) ∈ gws := gi2 (List.mem_of_getElem? (i := 183) rfl) rfl
theorem lm_J2_67 : Cond.methodLink RJ2 67 yJ2_checkIndex_2214a ∈ gws := gi2 (List.mem_of_getElem? (i := 184) rfl) rfl
theorem li_J2_checkIndex_2214a : Cond.static yJ2_checkIndex_2214a ∈ gws := gi2 (List.mem_of_getElem? (i := 185) rfl) rfl
theorem lk_J2_checkIndex_2214a : Cond.code yJ2_checkIndex_2214a cJ2_checkIndex_2214a 2 (Option.none : Option FieldType) ∈ gws := gi2 (List.mem_of_getElem? (i := 186) rfl) rfl
theorem lm_J2_48 : Cond.methodLink RJ2 48 yJ2_length_9d52b ∈ gws := gi2 (List.mem_of_getElem? (i := 187) rfl) rfl
theorem li_J2_length_9d52b : Cond.static yJ2_length_9d52b ∈ gws := gi2 (List.mem_of_getElem? (i := 188) rfl) rfl
theorem lk_J2_length_9d52b : Cond.code yJ2_length_9d52b cJ2_length_9d52b 1 (Option.some FieldType.int) ∈ gws := gi2 (List.mem_of_getElem? (i := 189) rfl) rfl
theorem lm_J2_414 : Cond.methodLink RJ2 414 yJ0_checkIndex_df160 ∈ gws := gi2 (List.mem_of_getElem? (i := 190) rfl) rfl
theorem lm_J2_71 : Cond.methodLink RJ2 71 yJ2_getChar_3b067 ∈ gws := gi2 (List.mem_of_getElem? (i := 191) rfl) rfl
theorem li_J2_getChar_3b067 : Cond.static yJ2_getChar_3b067 ∈ gws := gi2 (List.mem_of_getElem? (i := 192) rfl) rfl
theorem lk_J2_getChar_3b067 : Cond.code yJ2_getChar_3b067 cJ2_getChar_3b067 2 (Option.some FieldType.char) ∈ gws := gi2 (List.mem_of_getElem? (i := 193) rfl) rfl
theorem lo_J2_44 : Cond.fieldLink RJ2 44 "java/lang/StringUTF16" "$assertionsDisabled" "Z" ∈ gws := gi2 (List.mem_of_getElem? (i := 194) rfl) rfl
theorem lo_J2_59 : Cond.fieldLink RJ2 59 "java/lang/StringUTF16" "HI_BYTE_SHIFT" "I" ∈ gws := gi2 (List.mem_of_getElem? (i := 196) rfl) rfl
theorem lo_J2_63 : Cond.fieldLink RJ2 63 "java/lang/StringUTF16" "LO_BYTE_SHIFT" "I" ∈ gws := gi2 (List.mem_of_getElem? (i := 198) rfl) rfl
theorem lo_X8_102 : Cond.fieldLink RX8 102 RX8 "LOWEST" "[I" ∈ gws := gi2 (List.mem_of_getElem? (i := 200) rfl) rfl
theorem lo_X8_105 : Cond.fieldLink RX8 105 RX8 "HIGHEST" "[I" ∈ gws := gi2 (List.mem_of_getElem? (i := 202) rfl) rfl
theorem lm_X8_108 : Cond.methodLink RX8 108 yX7_readsNumber ∈ gws := gi2 (List.mem_of_getElem? (i := 204) rfl) rfl
theorem li_X7_readsNumber : Cond.instanceMethod yX7_readsNumber ∈ gws := gi2 (List.mem_of_getElem? (i := 205) rfl) rfl
theorem ls_X7_readsNumber : Cond.selects yX7_readsNumber.cls yX7_readsNumber yX7_readsNumber ∈ gws := gi2 (List.mem_of_getElem? (i := 206) rfl) rfl
theorem lk_X7_readsNumber : Cond.code yX7_readsNumber cX7_readsNumber 5 (Option.some FieldType.boolean) ∈ gws := gi2 (List.mem_of_getElem? (i := 207) rfl) rfl
theorem lm_X7_26 : Cond.methodLink RX7 26 yX7_isDigitHere ∈ gws := gi2 (List.mem_of_getElem? (i := 208) rfl) rfl
theorem li_X7_isDigitHere : Cond.instanceMethod yX7_isDigitHere ∈ gws := gi2 (List.mem_of_getElem? (i := 209) rfl) rfl
theorem ls_X7_isDigitHere : Cond.selects yX7_isDigitHere.cls yX7_isDigitHere yX7_isDigitHere ∈ gws := gi2 (List.mem_of_getElem? (i := 210) rfl) rfl
theorem lk_X7_isDigitHere : Cond.code yX7_isDigitHere cX7_isDigitHere 1 (Option.some FieldType.boolean) ∈ gws := gi2 (List.mem_of_getElem? (i := 211) rfl) rfl
theorem lm_X8_94 : Cond.methodLink RX8 94 yX8_settle ∈ gws := gi2 (List.mem_of_getElem? (i := 212) rfl) rfl
theorem li_X8_settle : Cond.instanceMethod yX8_settle ∈ gws := gi2 (List.mem_of_getElem? (i := 214) rfl) rfl
theorem lk_X8_settle : Cond.code yX8_settle cX8_settle 2 (Option.none : Option FieldType) ∈ gws := gi2 (List.mem_of_getElem? (i := 215) rfl) rfl
theorem lm_X10_110 : Cond.methodLink RX10 110 yX3_faultOfTape ∈ gws := gi2 (List.mem_of_getElem? (i := 216) rfl) rfl
theorem li_X3_faultOfTape : Cond.instanceMethod yX3_faultOfTape ∈ gws := gi2 (List.mem_of_getElem? (i := 217) rfl) rfl
theorem ls_X3_faultOfTape : Cond.selects yX3_faultOfTape.cls yX3_faultOfTape yX3_faultOfTape ∈ gws := gi2 (List.mem_of_getElem? (i := 218) rfl) rfl
theorem lk_X3_faultOfTape : Cond.code yX3_faultOfTape cX3_faultOfTape 4 (Option.some FieldType.int) ∈ gws := gi2 (List.mem_of_getElem? (i := 219) rfl) rfl
theorem lm_X3_28 : Cond.methodLink RX3 28 yX2_clear ∈ gws := gi2 (List.mem_of_getElem? (i := 220) rfl) rfl
theorem li_X2_clear : Cond.instanceMethod yX2_clear ∈ gws := gi2 (List.mem_of_getElem? (i := 221) rfl) rfl
theorem ls_X2_clear : Cond.selects yX2_clear.cls yX2_clear yX2_clear ∈ gws := gi2 (List.mem_of_getElem? (i := 222) rfl) rfl
theorem lk_X2_clear : Cond.code yX2_clear cX2_clear 1 (Option.none : Option FieldType) ∈ gws := gi2 (List.mem_of_getElem? (i := 223) rfl) rfl
theorem lm_X3_31 : Cond.methodLink RX3 31 yX7_passed ∈ gws := gi2 (List.mem_of_getElem? (i := 224) rfl) rfl
theorem lm_X3_35 : Cond.methodLink RX3 35 yX3_readsClause ∈ gws := gi2 (List.mem_of_getElem? (i := 225) rfl) rfl
theorem li_X3_readsClause : Cond.instanceMethod yX3_readsClause ∈ gws := gi2 (List.mem_of_getElem? (i := 227) rfl) rfl
theorem lk_X3_readsClause : Cond.code yX3_readsClause cX3_readsClause 4 (Option.some FieldType.boolean) ∈ gws := gi2 (List.mem_of_getElem? (i := 228) rfl) rfl
theorem lm_X3_39 : Cond.methodLink RX3 39 yX7_next ∈ gws := gi2 (List.mem_of_getElem? (i := 229) rfl) rfl
theorem lm_X3_46 : Cond.methodLink RX3 46 yX3_readsJoined ∈ gws := gi2 (List.mem_of_getElem? (i := 230) rfl) rfl
theorem li_X3_readsJoined : Cond.instanceMethod yX3_readsJoined ∈ gws := gi2 (List.mem_of_getElem? (i := 232) rfl) rfl
theorem lk_X3_readsJoined : Cond.code yX3_readsJoined cX3_readsJoined 6 (Option.some FieldType.boolean) ∈ gws := gi2 (List.mem_of_getElem? (i := 233) rfl) rfl
theorem lm_X3_58 : Cond.methodLink RX3 58 yX3_readsUnit ∈ gws := gi2 (List.mem_of_getElem? (i := 234) rfl) rfl
theorem li_X3_readsUnit : Cond.instanceMethod yX3_readsUnit ∈ gws := gi2 (List.mem_of_getElem? (i := 236) rfl) rfl
theorem lk_X3_readsUnit : Cond.code yX3_readsUnit cX3_readsUnit 4 (Option.some FieldType.boolean) ∈ gws := gi2 (List.mem_of_getElem? (i := 237) rfl) rfl
theorem lm_X3_88 : Cond.methodLink RX3 88 yX3_readsInner ∈ gws := gi2 (List.mem_of_getElem? (i := 238) rfl) rfl
theorem li_X3_readsInner : Cond.instanceMethod yX3_readsInner ∈ gws := gi3 (List.mem_of_getElem? (i := 0) rfl) rfl
theorem lk_X3_readsInner : Cond.code yX3_readsInner cX3_readsInner 3 (Option.some FieldType.boolean) ∈ gws := gi3 (List.mem_of_getElem? (i := 1) rfl) rfl
theorem lm_X3_66 : Cond.methodLink RX3 66 yX7_pass ∈ gws := gi3 (List.mem_of_getElem? (i := 2) rfl) rfl
theorem lm_X3_69 : Cond.methodLink RX3 69 yX2_add ∈ gws := gi3 (List.mem_of_getElem? (i := 3) rfl) rfl
theorem li_X2_add : Cond.instanceMethod yX2_add ∈ gws := gi3 (List.mem_of_getElem? (i := 4) rfl) rfl
theorem ls_X2_add : Cond.selects yX2_add.cls yX2_add yX2_add ∈ gws := gi3 (List.mem_of_getElem? (i := 5) rfl) rfl
theorem lk_X2_add : Cond.code yX2_add cX2_add 2 (Option.none : Option FieldType) ∈ gws := gi3 (List.mem_of_getElem? (i := 6) rfl) rfl
theorem lm_X3_50 : Cond.methodLink RX3 50 yX3_jointIn ∈ gws := gi3 (List.mem_of_getElem? (i := 7) rfl) rfl
theorem li_X3_jointIn : Cond.instanceMethod yX3_jointIn ∈ gws := gi3 (List.mem_of_getElem? (i := 9) rfl) rfl
theorem lk_X3_jointIn : Cond.code yX3_jointIn cX3_jointIn 3 (Option.some FieldType.int) ∈ gws := gi3 (List.mem_of_getElem? (i := 10) rfl) rfl
theorem lm_X3_75 : Cond.methodLink RX3 75 yX3_indexIn ∈ gws := gi3 (List.mem_of_getElem? (i := 12) rfl) rfl
theorem li_X3_indexIn : Cond.instanceMethod yX3_indexIn ∈ gws := gi3 (List.mem_of_getElem? (i := 14) rfl) rfl
theorem lk_X3_indexIn : Cond.code yX3_indexIn cX3_indexIn 3 (Option.some FieldType.int) ∈ gws := gi3 (List.mem_of_getElem? (i := 15) rfl) rfl
theorem lm_X3_83 : Cond.methodLink RX3 83 yJ0_indexOf_0f7a4 ∈ gws := gi3 (List.mem_of_getElem? (i := 16) rfl) rfl
theorem li_J0_indexOf_0f7a4 : Cond.instanceMethod yJ0_indexOf_0f7a4 ∈ gws := gi3 (List.mem_of_getElem? (i := 17) rfl) rfl
theorem ls_J0_indexOf_0f7a4 : Cond.selects yJ0_indexOf_0f7a4.cls yJ0_indexOf_0f7a4 yJ0_indexOf_0f7a4 ∈ gws := gi3 (List.mem_of_getElem? (i := 18) rfl) rfl
theorem lk_J0_indexOf_0f7a4 : Cond.code yJ0_indexOf_0f7a4 cJ0_indexOf_0f7a4 2 (Option.some FieldType.int) ∈ gws := gi3 (List.mem_of_getElem? (i := 19) rfl) rfl
theorem lm_J0_633 : Cond.methodLink RJ0 633 yJ0_indexOf_7cf53 ∈ gws := gi3 (List.mem_of_getElem? (i := 20) rfl) rfl
theorem li_J0_indexOf_7cf53 : Cond.instanceMethod yJ0_indexOf_7cf53 ∈ gws := gi3 (List.mem_of_getElem? (i := 21) rfl) rfl
theorem ls_J0_indexOf_7cf53 : Cond.selects yJ0_indexOf_7cf53.cls yJ0_indexOf_7cf53 yJ0_indexOf_7cf53 ∈ gws := gi3 (List.mem_of_getElem? (i := 22) rfl) rfl
theorem lk_J0_indexOf_7cf53 : Cond.code yJ0_indexOf_7cf53 cJ0_indexOf_7cf53 3 (Option.some FieldType.int) ∈ gws := gi3 (List.mem_of_getElem? (i := 23) rfl) rfl
theorem lm_J0_505 : Cond.methodLink RJ0 505 yJ0_length_8abf5 ∈ gws := gi3 (List.mem_of_getElem? (i := 24) rfl) rfl
theorem li_J0_length_8abf5 : Cond.instanceMethod yJ0_length_8abf5 ∈ gws := gi3 (List.mem_of_getElem? (i := 25) rfl) rfl
theorem ls_J0_length_8abf5 : Cond.selects yJ0_length_8abf5.cls yJ0_length_8abf5 yJ0_length_8abf5 ∈ gws := gi3 (List.mem_of_getElem? (i := 26) rfl) rfl
theorem lk_J0_length_8abf5 : Cond.code yJ0_length_8abf5 cJ0_length_8abf5 1 (Option.some FieldType.int) ∈ gws := gi3 (List.mem_of_getElem? (i := 27) rfl) rfl
theorem lm_J0_335 : Cond.methodLink RJ0 335 yJ0_coder_7d493 ∈ gws := gi3 (List.mem_of_getElem? (i := 28) rfl) rfl
theorem li_J0_coder_7d493 : Cond.instanceMethod yJ0_coder_7d493 ∈ gws := gi3 (List.mem_of_getElem? (i := 29) rfl) rfl
theorem ls_J0_coder_7d493 : Cond.selects yJ0_coder_7d493.cls yJ0_coder_7d493 yJ0_coder_7d493 ∈ gws := gi3 (List.mem_of_getElem? (i := 30) rfl) rfl
theorem lk_J0_coder_7d493 : Cond.code yJ0_coder_7d493 cJ0_coder_7d493 1 (Option.some FieldType.byte) ∈ gws := gi3 (List.mem_of_getElem? (i := 31) rfl) rfl
theorem lm_J0_637 : Cond.methodLink RJ0 637 yJ1_indexOf_4cfef ∈ gws := gi3 (List.mem_of_getElem? (i := 32) rfl) rfl
theorem li_J1_indexOf_4cfef : Cond.static yJ1_indexOf_4cfef ∈ gws := gi3 (List.mem_of_getElem? (i := 33) rfl) rfl
theorem lk_J1_indexOf_4cfef : Cond.code yJ1_indexOf_4cfef cJ1_indexOf_4cfef 4 (Option.some FieldType.int) ∈ gws := gi3 (List.mem_of_getElem? (i := 34) rfl) rfl
theorem lm_J1_88 : Cond.methodLink RJ1 88 yJ1_canEncode_9a6ad ∈ gws := gi3 (List.mem_of_getElem? (i := 35) rfl) rfl
theorem li_J1_canEncode_9a6ad : Cond.static yJ1_canEncode_9a6ad ∈ gws := gi3 (List.mem_of_getElem? (i := 36) rfl) rfl
theorem lk_J1_canEncode_9a6ad : Cond.code yJ1_canEncode_9a6ad cJ1_canEncode_9a6ad 1 (Option.some FieldType.boolean) ∈ gws := gi3 (List.mem_of_getElem? (i := 37) rfl) rfl
theorem lm_J1_92 : Cond.methodLink RJ1 92 yJ9_max_7cf53 ∈ gws := gi3 (List.mem_of_getElem? (i := 38) rfl) rfl
theorem li_J9_max_7cf53 : Cond.static yJ9_max_7cf53 ∈ gws := gi3 (List.mem_of_getElem? (i := 39) rfl) rfl
theorem lk_J9_max_7cf53 : Cond.code yJ9_max_7cf53 cJ9_max_7cf53 2 (Option.some FieldType.int) ∈ gws := gi3 (List.mem_of_getElem? (i := 40) rfl) rfl
theorem lm_J1_38 : Cond.methodLink RJ1 38 yJ9_min_7cf53 ∈ gws := gi3 (List.mem_of_getElem? (i := 41) rfl) rfl
theorem li_J9_min_7cf53 : Cond.static yJ9_min_7cf53 ∈ gws := gi3 (List.mem_of_getElem? (i := 42) rfl) rfl
theorem lk_J9_min_7cf53 : Cond.code yJ9_min_7cf53 cJ9_min_7cf53 2 (Option.some FieldType.int) ∈ gws := gi3 (List.mem_of_getElem? (i := 43) rfl) rfl
theorem lm_J1_95 : Cond.methodLink RJ1 95 yJ1_indexOfChar_4cfef ∈ gws := gi3 (List.mem_of_getElem? (i := 44) rfl) rfl
theorem li_J1_indexOfChar_4cfef : Cond.static yJ1_indexOfChar_4cfef ∈ gws := gi3 (List.mem_of_getElem? (i := 45) rfl) rfl
theorem lk_J1_indexOfChar_4cfef : Cond.code yJ1_indexOfChar_4cfef cJ1_indexOfChar_4cfef 6 (Option.some FieldType.int) ∈ gws := gi3 (List.mem_of_getElem? (i := 46) rfl) rfl
theorem lm_J0_640 : Cond.methodLink RJ0 640 yJ2_indexOf_4cfef ∈ gws := gi3 (List.mem_of_getElem? (i := 47) rfl) rfl
theorem li_J2_indexOf_4cfef : Cond.static yJ2_indexOf_4cfef ∈ gws := gi3 (List.mem_of_getElem? (i := 48) rfl) rfl
theorem lk_J2_indexOf_4cfef : Cond.code yJ2_indexOf_4cfef cJ2_indexOf_4cfef 4 (Option.some FieldType.int) ∈ gws := gi3 (List.mem_of_getElem? (i := 49) rfl) rfl
theorem lm_J2_224 : Cond.methodLink RJ2 224 yJ9_max_7cf53 ∈ gws := gi3 (List.mem_of_getElem? (i := 50) rfl) rfl
theorem lm_J2_183 : Cond.methodLink RJ2 183 yJ9_min_7cf53 ∈ gws := gi3 (List.mem_of_getElem? (i := 51) rfl) rfl
theorem lq_J2_227 : Cond.constant RJ2 227 (65536) ∈ gws := gi3 (List.mem_of_getElem? (i := 52) rfl) rfl
theorem lm_J2_228 : Cond.methodLink RJ2 228 yJ2_indexOfChar_4cfef ∈ gws := gi3 (List.mem_of_getElem? (i := 53) rfl) rfl
theorem li_J2_indexOfChar_4cfef : Cond.static yJ2_indexOfChar_4cfef ∈ gws := gi3 (List.mem_of_getElem? (i := 54) rfl) rfl
theorem lk_J2_indexOfChar_4cfef : Cond.code yJ2_indexOfChar_4cfef cJ2_indexOfChar_4cfef 4 (Option.some FieldType.int) ∈ gws := gi3 (List.mem_of_getElem? (i := 55) rfl) rfl
theorem lm_J2_96 : Cond.methodLink RJ2 96 yJ2_checkBoundsBeginEnd_d044e ∈ gws := gi3 (List.mem_of_getElem? (i := 56) rfl) rfl
theorem li_J2_checkBoundsBeginEnd_d044e : Cond.static yJ2_checkBoundsBeginEnd_d044e ∈ gws := gi3 (List.mem_of_getElem? (i := 57) rfl) rfl
theorem lk_J2_checkBoundsBeginEnd_d044e : Cond.code yJ2_checkBoundsBeginEnd_d044e cJ2_checkBoundsBeginEnd_d044e 3 (Option.none : Option FieldType) ∈ gws := gi3 (List.mem_of_getElem? (i := 58) rfl) rfl
theorem lm_J2_241 : Cond.methodLink RJ2 241 yJ0_checkBoundsBeginEnd_23922 ∈ gws := gi3 (List.mem_of_getElem? (i := 59) rfl) rfl
theorem li_J0_checkBoundsBeginEnd_23922 : Cond.static yJ0_checkBoundsBeginEnd_23922 ∈ gws := gi3 (List.mem_of_getElem? (i := 60) rfl) rfl
theorem lk_J0_checkBoundsBeginEnd_23922 : Cond.code yJ0_checkBoundsBeginEnd_23922 cJ0_checkBoundsBeginEnd_23922 3 (Option.none : Option FieldType) ∈ gws := gi3 (List.mem_of_getElem? (i := 61) rfl) rfl
theorem lm_J0_1062 : Cond.methodLink RJ0 1062 yJ3_checkFromToIndex_8c36e ∈ gws := gi3 (List.mem_of_getElem? (i := 62) rfl) rfl
theorem li_J3_checkFromToIndex_8c36e : Cond.static yJ3_checkFromToIndex_8c36e ∈ gws := gi3 (List.mem_of_getElem? (i := 63) rfl) rfl
theorem lk_J3_checkFromToIndex_8c36e : Cond.code yJ3_checkFromToIndex_8c36e cJ3_checkFromToIndex_8c36e 4 (Option.some FieldType.int) ∈ gws := gi3 (List.mem_of_getElem? (i := 64) rfl) rfl
theorem lm_J2_244 : Cond.methodLink RJ2 244 yJ2_indexOfCharUnsafe_4cfef ∈ gws := gi3 (List.mem_of_getElem? (i := 65) rfl) rfl
theorem li_J2_indexOfCharUnsafe_4cfef : Cond.static yJ2_indexOfCharUnsafe_4cfef ∈ gws := gi3 (List.mem_of_getElem? (i := 66) rfl) rfl
theorem lk_J2_indexOfCharUnsafe_4cfef : Cond.code yJ2_indexOfCharUnsafe_4cfef cJ2_indexOfCharUnsafe_4cfef 5 (Option.some FieldType.int) ∈ gws := gi3 (List.mem_of_getElem? (i := 67) rfl) rfl
theorem lm_J2_232 : Cond.methodLink RJ2 232 yJ2_indexOfSupplementary_4cfef ∈ gws := gi3 (List.mem_of_getElem? (i := 68) rfl) rfl
theorem li_J2_indexOfSupplementary_4cfef : Cond.static yJ2_indexOfSupplementary_4cfef ∈ gws := gi3 (List.mem_of_getElem? (i := 69) rfl) rfl
theorem lk_J2_indexOfSupplementary_4cfef : Cond.code yJ2_indexOfSupplementary_4cfef cJ2_indexOfSupplementary_4cfef 7 (Option.some FieldType.int) ∈ gws := gi3 (List.mem_of_getElem? (i := 70) rfl) rfl
theorem lm_J2_164 : Cond.methodLink RJ2 164 yJ11_isValidCodePoint_9a6ad ∈ gws := gi3 (List.mem_of_getElem? (i := 71) rfl) rfl
theorem li_J11_isValidCodePoint_9a6ad : Cond.static yJ11_isValidCodePoint_9a6ad ∈ gws := gi3 (List.mem_of_getElem? (i := 72) rfl) rfl
theorem lk_J11_isValidCodePoint_9a6ad : Cond.code yJ11_isValidCodePoint_9a6ad cJ11_isValidCodePoint_9a6ad 2 (Option.some FieldType.boolean) ∈ gws := gi3 (List.mem_of_getElem? (i := 73) rfl) rfl
theorem lm_J2_157 : Cond.methodLink RJ2 157 yJ11_highSurrogate_5068e ∈ gws := gi3 (List.mem_of_getElem? (i := 74) rfl) rfl
theorem li_J11_highSurrogate_5068e : Cond.static yJ11_highSurrogate_5068e ∈ gws := gi3 (List.mem_of_getElem? (i := 75) rfl) rfl
theorem lk_J11_highSurrogate_5068e : Cond.code yJ11_highSurrogate_5068e cJ11_highSurrogate_5068e 1 (Option.some FieldType.char) ∈ gws := gi3 (List.mem_of_getElem? (i := 76) rfl) rfl
theorem lq_J11_110 : Cond.constant RJ11 110 (55232) ∈ gws := gi3 (List.mem_of_getElem? (i := 77) rfl) rfl
theorem lm_J2_161 : Cond.methodLink RJ2 161 yJ11_lowSurrogate_5068e ∈ gws := gi3 (List.mem_of_getElem? (i := 78) rfl) rfl
theorem li_J11_lowSurrogate_5068e : Cond.static yJ11_lowSurrogate_5068e ∈ gws := gi3 (List.mem_of_getElem? (i := 79) rfl) rfl
theorem lk_J11_lowSurrogate_5068e : Cond.code yJ11_lowSurrogate_5068e cJ11_lowSurrogate_5068e 1 (Option.some FieldType.char) ∈ gws := gi3 (List.mem_of_getElem? (i := 80) rfl) rfl
theorem lq_J11_76 : Cond.constant RJ11 76 (56320) ∈ gws := gi3 (List.mem_of_getElem? (i := 81) rfl) rfl
theorem lo_X3_79 : Cond.fieldLink RX3 79 RX3 "JOINS_IN" "[I" ∈ gws := gi3 (List.mem_of_getElem? (i := 82) rfl) rfl
theorem lm_X3_62 : Cond.methodLink RX3 62 yX3_readsAtom ∈ gws := gi3 (List.mem_of_getElem? (i := 84) rfl) rfl
theorem li_X3_readsAtom : Cond.instanceMethod yX3_readsAtom ∈ gws := gi3 (List.mem_of_getElem? (i := 86) rfl) rfl
theorem lk_X3_readsAtom : Cond.code yX3_readsAtom cX3_readsAtom 3 (Option.some FieldType.boolean) ∈ gws := gi3 (List.mem_of_getElem? (i := 87) rfl) rfl
theorem lm_X3_94 : Cond.methodLink RX3 94 yX7_readsNumber ∈ gws := gi3 (List.mem_of_getElem? (i := 89) rfl) rfl
theorem lm_X3_54 : Cond.methodLink RX3 54 yX2_addClause ∈ gws := gi3 (List.mem_of_getElem? (i := 90) rfl) rfl
theorem li_X2_addClause : Cond.instanceMethod yX2_addClause ∈ gws := gi3 (List.mem_of_getElem? (i := 91) rfl) rfl
theorem ls_X2_addClause : Cond.selects yX2_addClause.cls yX2_addClause yX2_addClause ∈ gws := gi3 (List.mem_of_getElem? (i := 92) rfl) rfl
theorem lk_X2_addClause : Cond.code yX2_addClause cX2_addClause 3 (Option.none : Option FieldType) ∈ gws := gi3 (List.mem_of_getElem? (i := 93) rfl) rfl
theorem lm_X10_114 : Cond.methodLink RX10 114 yX9_faultIn ∈ gws := gi3 (List.mem_of_getElem? (i := 94) rfl) rfl
theorem li_X9_faultIn : Cond.instanceMethod yX9_faultIn ∈ gws := gi3 (List.mem_of_getElem? (i := 95) rfl) rfl
theorem ls_X9_faultIn : Cond.selects yX9_faultIn.cls yX9_faultIn yX9_faultIn ∈ gws := gi3 (List.mem_of_getElem? (i := 96) rfl) rfl
theorem lk_X9_faultIn : Cond.code yX9_faultIn cX9_faultIn 2 (Option.some FieldType.int) ∈ gws := gi3 (List.mem_of_getElem? (i := 97) rfl) rfl
theorem lm_X9_30 : Cond.methodLink RX9 30 yX9_readsSteps ∈ gws := gi3 (List.mem_of_getElem? (i := 98) rfl) rfl
theorem li_X9_readsSteps : Cond.instanceMethod yX9_readsSteps ∈ gws := gi3 (List.mem_of_getElem? (i := 100) rfl) rfl
theorem lk_X9_readsSteps : Cond.code yX9_readsSteps cX9_readsSteps 3 (Option.some FieldType.boolean) ∈ gws := gi3 (List.mem_of_getElem? (i := 101) rfl) rfl
theorem lm_X9_38 : Cond.methodLink RX9 38 yX7_passed ∈ gws := gi3 (List.mem_of_getElem? (i := 102) rfl) rfl
theorem lm_X9_42 : Cond.methodLink RX9 42 yX9_readsStep ∈ gws := gi3 (List.mem_of_getElem? (i := 103) rfl) rfl
theorem li_X9_readsStep : Cond.instanceMethod yX9_readsStep ∈ gws := gi3 (List.mem_of_getElem? (i := 105) rfl) rfl
theorem lk_X9_readsStep : Cond.code yX9_readsStep cX9_readsStep 5 (Option.some FieldType.boolean) ∈ gws := gi3 (List.mem_of_getElem? (i := 106) rfl) rfl
theorem lm_X9_34 : Cond.methodLink RX9 34 yX7_next ∈ gws := gi3 (List.mem_of_getElem? (i := 107) rfl) rfl
theorem lm_X9_48 : Cond.methodLink RX9 48 yJ0_indexOf_0f7a4 ∈ gws := gi3 (List.mem_of_getElem? (i := 109) rfl) rfl
theorem lm_X9_54 : Cond.methodLink RX9 54 yX7_pass ∈ gws := gi3 (List.mem_of_getElem? (i := 110) rfl) rfl
theorem lm_X9_57 : Cond.methodLink RX9 57 yX7_readsDigit ∈ gws := gi3 (List.mem_of_getElem? (i := 111) rfl) rfl
theorem li_X7_readsDigit : Cond.instanceMethod yX7_readsDigit ∈ gws := gi3 (List.mem_of_getElem? (i := 112) rfl) rfl
theorem ls_X7_readsDigit : Cond.selects yX7_readsDigit.cls yX7_readsDigit yX7_readsDigit ∈ gws := gi3 (List.mem_of_getElem? (i := 113) rfl) rfl
theorem lk_X7_readsDigit : Cond.code yX7_readsDigit cX7_readsDigit 1 (Option.some FieldType.boolean) ∈ gws := gi3 (List.mem_of_getElem? (i := 114) rfl) rfl
theorem la_byte : Cond.arrayClass .byte ∈ gws := gi3 (List.mem_of_getElem? (i := 115) rfl) rfl
theorem lm_L_34 : Cond.methodLink RL 34 yX10_text ∈ gws := gi3 (List.mem_of_getElem? (i := 116) rfl) rfl
theorem li_X10_text : Cond.instanceMethod yX10_text ∈ gws := gi3 (List.mem_of_getElem? (i := 117) rfl) rfl
theorem ls_X10_text : Cond.selects yX10_text.cls yX10_text yX10_text ∈ gws := gi3 (List.mem_of_getElem? (i := 118) rfl) rfl
theorem lk_X10_text : Cond.code yX10_text cX10_text 2 (Option.some FieldType.int) ∈ gws := gi3 (List.mem_of_getElem? (i := 119) rfl) rfl
theorem lm_X10_115 : Cond.methodLink RX10 115 yX10_fault ∈ gws := gi3 (List.mem_of_getElem? (i := 120) rfl) rfl
theorem lm_X10_118 : Cond.methodLink RX10 118 yX10_foundTown ∈ gws := gi3 (List.mem_of_getElem? (i := 121) rfl) rfl
theorem li_X10_foundTown : Cond.instanceMethod yX10_foundTown ∈ gws := gi3 (List.mem_of_getElem? (i := 123) rfl) rfl
theorem lk_X10_foundTown : Cond.code yX10_foundTown cX10_foundTown 1 (Option.some FieldType.int) ∈ gws := gi3 (List.mem_of_getElem? (i := 124) rfl) rfl
theorem lm_X10_127 : Cond.methodLink RX10 127 yX8_become ∈ gws := gi3 (List.mem_of_getElem? (i := 125) rfl) rfl
theorem li_X8_become : Cond.instanceMethod yX8_become ∈ gws := gi3 (List.mem_of_getElem? (i := 126) rfl) rfl
theorem ls_X8_become : Cond.selects yX8_become.cls yX8_become yX8_become ∈ gws := gi3 (List.mem_of_getElem? (i := 127) rfl) rfl
theorem lk_X8_become : Cond.code yX8_become cX8_become 2 (Option.none : Option FieldType) ∈ gws := gi3 (List.mem_of_getElem? (i := 128) rfl) rfl
theorem lo_X8_47 : Cond.methodLink RX8 47 ⟨"java/lang/System", "arraycopy", "(Ljava/lang/Object;ILjava/lang/Object;II)V"⟩ ∈ gws := gi3 (List.mem_of_getElem? (i := 129) rfl) rfl
theorem lst_copy : Cond.static arraycopyName ∈ gws := gi3 (List.mem_of_getElem? (i := 130) rfl) rfl
theorem lna_copy : Cond.native arraycopyName ∈ gws := gi3 (List.mem_of_getElem? (i := 131) rfl) rfl
theorem lm_X10_130 : Cond.methodLink RX10 130 yX4_begin ∈ gws := gi3 (List.mem_of_getElem? (i := 132) rfl) rfl
theorem li_X4_begin : Cond.instanceMethod yX4_begin ∈ gws := gi3 (List.mem_of_getElem? (i := 133) rfl) rfl
theorem ls_X4_begin : Cond.selects yX4_begin.cls yX4_begin yX4_begin ∈ gws := gi3 (List.mem_of_getElem? (i := 134) rfl) rfl
theorem lk_X4_begin : Cond.code yX4_begin cX4_begin 2 (Option.none : Option FieldType) ∈ gws := gi3 (List.mem_of_getElem? (i := 135) rfl) rfl
theorem lm_X4_22 : Cond.methodLink RX4 22 yJ7_fill_53178 ∈ gws := gi3 (List.mem_of_getElem? (i := 136) rfl) rfl
theorem li_J7_fill_53178 : Cond.static yJ7_fill_53178 ∈ gws := gi3 (List.mem_of_getElem? (i := 137) rfl) rfl
theorem lk_J7_fill_53178 : Cond.code yJ7_fill_53178 cJ7_fill_53178 4 (Option.none : Option FieldType) ∈ gws := gi3 (List.mem_of_getElem? (i := 138) rfl) rfl
theorem lm_X10_133 : Cond.methodLink RX10 133 yX5_forget ∈ gws := gi3 (List.mem_of_getElem? (i := 139) rfl) rfl
theorem li_X5_forget : Cond.instanceMethod yX5_forget ∈ gws := gi3 (List.mem_of_getElem? (i := 140) rfl) rfl
theorem ls_X5_forget : Cond.selects yX5_forget.cls yX5_forget yX5_forget ∈ gws := gi3 (List.mem_of_getElem? (i := 141) rfl) rfl
theorem lk_X5_forget : Cond.code yX5_forget cX5_forget 1 (Option.none : Option FieldType) ∈ gws := gi3 (List.mem_of_getElem? (i := 142) rfl) rfl
theorem lm_X10_136 : Cond.methodLink RX10 136 yX6_forget ∈ gws := gi3 (List.mem_of_getElem? (i := 143) rfl) rfl
theorem li_X6_forget : Cond.instanceMethod yX6_forget ∈ gws := gi3 (List.mem_of_getElem? (i := 144) rfl) rfl
theorem ls_X6_forget : Cond.selects yX6_forget.cls yX6_forget yX6_forget ∈ gws := gi3 (List.mem_of_getElem? (i := 145) rfl) rfl
theorem lk_X6_forget : Cond.code yX6_forget cX6_forget 1 (Option.none : Option FieldType) ∈ gws := gi3 (List.mem_of_getElem? (i := 146) rfl) rfl
theorem lm_X10_121 : Cond.methodLink RX10 121 yX10_addLaw ∈ gws := gi3 (List.mem_of_getElem? (i := 147) rfl) rfl
theorem li_X10_addLaw : Cond.instanceMethod yX10_addLaw ∈ gws := gi3 (List.mem_of_getElem? (i := 149) rfl) rfl
theorem lk_X10_addLaw : Cond.code yX10_addLaw cX10_addLaw 1 (Option.some FieldType.int) ∈ gws := gi3 (List.mem_of_getElem? (i := 150) rfl) rfl
theorem lm_X10_147 : Cond.methodLink RX10 147 yX3_takeDraft ∈ gws := gi3 (List.mem_of_getElem? (i := 151) rfl) rfl
theorem li_X3_takeDraft : Cond.instanceMethod yX3_takeDraft ∈ gws := gi3 (List.mem_of_getElem? (i := 152) rfl) rfl
theorem ls_X3_takeDraft : Cond.selects yX3_takeDraft.cls yX3_takeDraft yX3_takeDraft ∈ gws := gi3 (List.mem_of_getElem? (i := 153) rfl) rfl
theorem lk_X3_takeDraft : Cond.code yX3_takeDraft cX3_takeDraft 2 (Option.some (FieldType.object "GuiltyShave$Law")) ∈ gws := gi3 (List.mem_of_getElem? (i := 154) rfl) rfl
theorem lm_X10_151 : Cond.methodLink RX10 151 yX0_enact ∈ gws := gi3 (List.mem_of_getElem? (i := 155) rfl) rfl
theorem li_X0_enact : Cond.instanceMethod yX0_enact ∈ gws := gi3 (List.mem_of_getElem? (i := 156) rfl) rfl
theorem ls_X0_enact : Cond.selects yX0_enact.cls yX0_enact yX0_enact ∈ gws := gi3 (List.mem_of_getElem? (i := 157) rfl) rfl
theorem lk_X0_enact : Cond.code yX0_enact cX0_enact 2 (Option.some FieldType.int) ∈ gws := gi3 (List.mem_of_getElem? (i := 158) rfl) rfl
theorem lm_X10_124 : Cond.methodLink RX10 124 yX10_addWeek ∈ gws := gi3 (List.mem_of_getElem? (i := 159) rfl) rfl
theorem li_X10_addWeek : Cond.instanceMethod yX10_addWeek ∈ gws := gi3 (List.mem_of_getElem? (i := 161) rfl) rfl
theorem lk_X10_addWeek : Cond.code yX10_addWeek cX10_addWeek 1 (Option.some FieldType.int) ∈ gws := gi3 (List.mem_of_getElem? (i := 162) rfl) rfl
theorem lm_L_48 : Cond.methodLink RL 48 yX10_deed ∈ gws := gi3 (List.mem_of_getElem? (i := 163) rfl) rfl
theorem li_X10_deed : Cond.instanceMethod yX10_deed ∈ gws := gi3 (List.mem_of_getElem? (i := 164) rfl) rfl
theorem ls_X10_deed : Cond.selects yX10_deed.cls yX10_deed yX10_deed ∈ gws := gi3 (List.mem_of_getElem? (i := 165) rfl) rfl
theorem lk_X10_deed : Cond.code yX10_deed cX10_deed 3 (Option.some FieldType.int) ∈ gws := gi3 (List.mem_of_getElem? (i := 166) rfl) rfl
theorem lm_X10_181 : Cond.methodLink RX10 181 yX8_hasDeed ∈ gws := gi3 (List.mem_of_getElem? (i := 167) rfl) rfl
theorem li_X8_hasDeed : Cond.instanceMethod yX8_hasDeed ∈ gws := gi3 (List.mem_of_getElem? (i := 168) rfl) rfl
theorem ls_X8_hasDeed : Cond.selects yX8_hasDeed.cls yX8_hasDeed yX8_hasDeed ∈ gws := gi3 (List.mem_of_getElem? (i := 169) rfl) rfl
theorem lk_X8_hasDeed : Cond.code yX8_hasDeed cX8_hasDeed 2 (Option.some FieldType.boolean) ∈ gws := gi3 (List.mem_of_getElem? (i := 170) rfl) rfl
theorem lm_L_52 : Cond.methodLink RL 52 yX10_left ∈ gws := gi3 (List.mem_of_getElem? (i := 171) rfl) rfl
theorem li_X10_left : Cond.instanceMethod yX10_left ∈ gws := gi3 (List.mem_of_getElem? (i := 172) rfl) rfl
theorem ls_X10_left : Cond.selects yX10_left.cls yX10_left yX10_left ∈ gws := gi3 (List.mem_of_getElem? (i := 173) rfl) rfl
theorem lk_X10_left : Cond.code yX10_left cX10_left 3 (Option.some FieldType.int) ∈ gws := gi3 (List.mem_of_getElem? (i := 174) rfl) rfl
theorem lm_X10_193 : Cond.methodLink RX10 193 yX8_hasBoth ∈ gws := gi3 (List.mem_of_getElem? (i := 175) rfl) rfl
theorem li_X8_hasBoth : Cond.instanceMethod yX8_hasBoth ∈ gws := gi3 (List.mem_of_getElem? (i := 176) rfl) rfl
theorem ls_X8_hasBoth : Cond.selects yX8_hasBoth.cls yX8_hasBoth yX8_hasBoth ∈ gws := gi3 (List.mem_of_getElem? (i := 177) rfl) rfl
theorem lk_X8_hasBoth : Cond.code yX8_hasBoth cX8_hasBoth 3 (Option.some FieldType.boolean) ∈ gws := gi3 (List.mem_of_getElem? (i := 178) rfl) rfl
theorem lm_X8_40 : Cond.methodLink RX8 40 yX8_hasPerson ∈ gws := gi3 (List.mem_of_getElem? (i := 179) rfl) rfl
theorem li_X8_hasPerson : Cond.instanceMethod yX8_hasPerson ∈ gws := gi3 (List.mem_of_getElem? (i := 180) rfl) rfl
theorem ls_X8_hasPerson : Cond.selects yX8_hasPerson.cls yX8_hasPerson yX8_hasPerson ∈ gws := gi3 (List.mem_of_getElem? (i := 181) rfl) rfl
theorem lk_X8_hasPerson : Cond.code yX8_hasPerson cX8_hasPerson 2 (Option.some FieldType.boolean) ∈ gws := gi3 (List.mem_of_getElem? (i := 182) rfl) rfl
theorem lm_X8_44 : Cond.methodLink RX8 44 yX8_hasDeed ∈ gws := gi3 (List.mem_of_getElem? (i := 183) rfl) rfl
theorem lm_X10_197 : Cond.methodLink RX10 197 yX4_leftOf ∈ gws := gi3 (List.mem_of_getElem? (i := 184) rfl) rfl
theorem li_X4_leftOf : Cond.instanceMethod yX4_leftOf ∈ gws := gi3 (List.mem_of_getElem? (i := 185) rfl) rfl
theorem ls_X4_leftOf : Cond.selects yX4_leftOf.cls yX4_leftOf yX4_leftOf ∈ gws := gi3 (List.mem_of_getElem? (i := 186) rfl) rfl
theorem lk_X4_leftOf : Cond.code yX4_leftOf cX4_leftOf 3 (Option.some FieldType.int) ∈ gws := gi3 (List.mem_of_getElem? (i := 187) rfl) rfl
theorem lm_L_56 : Cond.methodLink RL 56 yX10_law ∈ gws := gi3 (List.mem_of_getElem? (i := 188) rfl) rfl
theorem li_X10_law : Cond.instanceMethod yX10_law ∈ gws := gi3 (List.mem_of_getElem? (i := 189) rfl) rfl
theorem ls_X10_law : Cond.selects yX10_law.cls yX10_law yX10_law ∈ gws := gi3 (List.mem_of_getElem? (i := 190) rfl) rfl
theorem lk_X10_law : Cond.code yX10_law cX10_law 2 (Option.some FieldType.boolean) ∈ gws := gi3 (List.mem_of_getElem? (i := 191) rfl) rfl
theorem lm_X10_201 : Cond.methodLink RX10 201 yX0_letHold ∈ gws := gi3 (List.mem_of_getElem? (i := 192) rfl) rfl
theorem li_X0_letHold : Cond.instanceMethod yX0_letHold ∈ gws := gi3 (List.mem_of_getElem? (i := 193) rfl) rfl
theorem ls_X0_letHold : Cond.selects yX0_letHold.cls yX0_letHold yX0_letHold ∈ gws := gi3 (List.mem_of_getElem? (i := 194) rfl) rfl
theorem lk_X0_letHold : Cond.code yX0_letHold cX0_letHold 2 (Option.some FieldType.boolean) ∈ gws := gi3 (List.mem_of_getElem? (i := 195) rfl) rfl
theorem lm_L_60 : Cond.methodLink RL 60 yX10_rumour ∈ gws := gi3 (List.mem_of_getElem? (i := 196) rfl) rfl
theorem li_X10_rumour : Cond.instanceMethod yX10_rumour ∈ gws := gi3 (List.mem_of_getElem? (i := 197) rfl) rfl
theorem ls_X10_rumour : Cond.selects yX10_rumour.cls yX10_rumour yX10_rumour ∈ gws := gi3 (List.mem_of_getElem? (i := 198) rfl) rfl
theorem lk_X10_rumour : Cond.code yX10_rumour cX10_rumour 2 (Option.some FieldType.boolean) ∈ gws := gi3 (List.mem_of_getElem? (i := 199) rfl) rfl
theorem lm_L_64 : Cond.methodLink RL 64 yX10_commit ∈ gws := gi3 (List.mem_of_getElem? (i := 200) rfl) rfl
theorem li_X10_commit : Cond.instanceMethod yX10_commit ∈ gws := gi3 (List.mem_of_getElem? (i := 201) rfl) rfl
theorem ls_X10_commit : Cond.selects yX10_commit.cls yX10_commit yX10_commit ∈ gws := gi3 (List.mem_of_getElem? (i := 202) rfl) rfl
theorem lk_X10_commit : Cond.code yX10_commit cX10_commit 3 (Option.some FieldType.int) ∈ gws := gi3 (List.mem_of_getElem? (i := 203) rfl) rfl
theorem lm_X10_204 : Cond.methodLink RX10 204 yX4_mayTakeOn ∈ gws := gi3 (List.mem_of_getElem? (i := 204) rfl) rfl
theorem li_X4_mayTakeOn : Cond.instanceMethod yX4_mayTakeOn ∈ gws := gi3 (List.mem_of_getElem? (i := 205) rfl) rfl
theorem ls_X4_mayTakeOn : Cond.selects yX4_mayTakeOn.cls yX4_mayTakeOn yX4_mayTakeOn ∈ gws := gi3 (List.mem_of_getElem? (i := 206) rfl) rfl
theorem lk_X4_mayTakeOn : Cond.code yX4_mayTakeOn cX4_mayTakeOn 3 (Option.some FieldType.boolean) ∈ gws := gi3 (List.mem_of_getElem? (i := 207) rfl) rfl
theorem lm_X4_66 : Cond.methodLink RX4 66 yX8_hasBoth ∈ gws := gi3 (List.mem_of_getElem? (i := 208) rfl) rfl
theorem lm_X4_53 : Cond.methodLink RX4 53 yX4_leftOf ∈ gws := gi3 (List.mem_of_getElem? (i := 209) rfl) rfl
theorem lm_X10_207 : Cond.methodLink RX10 207 yX5_keep ∈ gws := gi3 (List.mem_of_getElem? (i := 210) rfl) rfl
theorem li_X5_keep : Cond.instanceMethod yX5_keep ∈ gws := gi3 (List.mem_of_getElem? (i := 211) rfl) rfl
theorem ls_X5_keep : Cond.selects yX5_keep.cls yX5_keep yX5_keep ∈ gws := gi3 (List.mem_of_getElem? (i := 212) rfl) rfl
theorem lk_X5_keep : Cond.code yX5_keep cX5_keep 2 (Option.none : Option FieldType) ∈ gws := gi3 (List.mem_of_getElem? (i := 213) rfl) rfl
theorem lo_X5_26 : Cond.methodLink RX5 26 ⟨"java/lang/System", "arraycopy", "(Ljava/lang/Object;ILjava/lang/Object;II)V"⟩ ∈ gws := gi3 (List.mem_of_getElem? (i := 214) rfl) rfl
theorem lm_X5_35 : Cond.methodLink RX5 35 yJ9_min_7cf53 ∈ gws := gi3 (List.mem_of_getElem? (i := 215) rfl) rfl
theorem lm_X10_211 : Cond.methodLink RX10 211 yX4_takeOn ∈ gws := gi3 (List.mem_of_getElem? (i := 216) rfl) rfl
theorem li_X4_takeOn : Cond.instanceMethod yX4_takeOn ∈ gws := gi3 (List.mem_of_getElem? (i := 217) rfl) rfl
theorem ls_X4_takeOn : Cond.selects yX4_takeOn.cls yX4_takeOn yX4_takeOn ∈ gws := gi3 (List.mem_of_getElem? (i := 218) rfl) rfl
theorem lk_X4_takeOn : Cond.code yX4_takeOn cX4_takeOn 3 (Option.none : Option FieldType) ∈ gws := gi3 (List.mem_of_getElem? (i := 219) rfl) rfl
theorem lm_X4_73 : Cond.methodLink RX4 73 yX4_setLeft ∈ gws := gi3 (List.mem_of_getElem? (i := 220) rfl) rfl
theorem li_X4_setLeft : Cond.instanceMethod yX4_setLeft ∈ gws := gi3 (List.mem_of_getElem? (i := 222) rfl) rfl
theorem lk_X4_setLeft : Cond.code yX4_setLeft cX4_setLeft 4 (Option.none : Option FieldType) ∈ gws := gi3 (List.mem_of_getElem? (i := 223) rfl) rfl
theorem lm_X4_80 : Cond.methodLink RX4 80 yJ9_min_7cf53 ∈ gws := gi3 (List.mem_of_getElem? (i := 224) rfl) rfl
theorem lm_X10_215 : Cond.methodLink RX10 215 yX4_guiltOf ∈ gws := gi3 (List.mem_of_getElem? (i := 225) rfl) rfl
theorem li_X4_guiltOf : Cond.instanceMethod yX4_guiltOf ∈ gws := gi3 (List.mem_of_getElem? (i := 226) rfl) rfl
theorem ls_X4_guiltOf : Cond.selects yX4_guiltOf.cls yX4_guiltOf yX4_guiltOf ∈ gws := gi3 (List.mem_of_getElem? (i := 227) rfl) rfl
theorem lk_X4_guiltOf : Cond.code yX4_guiltOf cX4_guiltOf 2 (Option.some FieldType.int) ∈ gws := gi3 (List.mem_of_getElem? (i := 228) rfl) rfl
theorem lm_X4_56 : Cond.methodLink RX4 56 yX4_deedsOf ∈ gws := gi3 (List.mem_of_getElem? (i := 229) rfl) rfl
theorem li_X4_deedsOf : Cond.instanceMethod yX4_deedsOf ∈ gws := gi3 (List.mem_of_getElem? (i := 230) rfl) rfl
theorem ls_X4_deedsOf : Cond.selects yX4_deedsOf.cls yX4_deedsOf yX4_deedsOf ∈ gws := gi3 (List.mem_of_getElem? (i := 231) rfl) rfl
theorem lk_X4_deedsOf : Cond.code yX4_deedsOf cX4_deedsOf 2 (Option.some FieldType.int) ∈ gws := gi3 (List.mem_of_getElem? (i := 232) rfl) rfl
theorem lm_X4_46 : Cond.methodLink RX4 46 yX4_deedsIn ∈ gws := gi3 (List.mem_of_getElem? (i := 233) rfl) rfl
theorem li_X4_deedsIn : Cond.instanceMethod yX4_deedsIn ∈ gws := gi3 (List.mem_of_getElem? (i := 234) rfl) rfl
theorem ls_X4_deedsIn : Cond.selects yX4_deedsIn.cls yX4_deedsIn yX4_deedsIn ∈ gws := gi3 (List.mem_of_getElem? (i := 235) rfl) rfl
theorem lk_X4_deedsIn : Cond.code yX4_deedsIn cX4_deedsIn 5 (Option.some FieldType.int) ∈ gws := gi3 (List.mem_of_getElem? (i := 236) rfl) rfl
theorem lm_X4_60 : Cond.methodLink RX4 60 yX8_weightOf ∈ gws := gi3 (List.mem_of_getElem? (i := 237) rfl) rfl
theorem li_X8_weightOf : Cond.instanceMethod yX8_weightOf ∈ gws := gi3 (List.mem_of_getElem? (i := 238) rfl) rfl
theorem ls_X8_weightOf : Cond.selects yX8_weightOf.cls yX8_weightOf yX8_weightOf ∈ gws := gi3 (List.mem_of_getElem? (i := 239) rfl) rfl
theorem lk_X8_weightOf : Cond.code yX8_weightOf cX8_weightOf 4 (Option.some FieldType.int) ∈ gws := gi4 (List.mem_of_getElem? (i := 0) rfl) rfl
theorem lm_L_68 : Cond.methodLink RL 68 yX10_sell ∈ gws := gi4 (List.mem_of_getElem? (i := 1) rfl) rfl
theorem li_X10_sell : Cond.instanceMethod yX10_sell ∈ gws := gi4 (List.mem_of_getElem? (i := 2) rfl) rfl
theorem ls_X10_sell : Cond.selects yX10_sell.cls yX10_sell yX10_sell ∈ gws := gi4 (List.mem_of_getElem? (i := 3) rfl) rfl
theorem lk_X10_sell : Cond.code yX10_sell cX10_sell 4 (Option.some FieldType.int) ∈ gws := gi4 (List.mem_of_getElem? (i := 4) rfl) rfl
theorem lm_X10_218 : Cond.methodLink RX10 218 yX4_maySellTo ∈ gws := gi4 (List.mem_of_getElem? (i := 5) rfl) rfl
theorem li_X4_maySellTo : Cond.instanceMethod yX4_maySellTo ∈ gws := gi4 (List.mem_of_getElem? (i := 6) rfl) rfl
theorem ls_X4_maySellTo : Cond.selects yX4_maySellTo.cls yX4_maySellTo yX4_maySellTo ∈ gws := gi4 (List.mem_of_getElem? (i := 7) rfl) rfl
theorem lk_X4_maySellTo : Cond.code yX4_maySellTo cX4_maySellTo 4 (Option.some FieldType.boolean) ∈ gws := gi4 (List.mem_of_getElem? (i := 8) rfl) rfl
theorem lm_X4_85 : Cond.methodLink RX4 85 yX8_hasPerson ∈ gws := gi4 (List.mem_of_getElem? (i := 9) rfl) rfl
theorem lm_X10_222 : Cond.methodLink RX10 222 yX4_sellTo ∈ gws := gi4 (List.mem_of_getElem? (i := 10) rfl) rfl
theorem li_X4_sellTo : Cond.instanceMethod yX4_sellTo ∈ gws := gi4 (List.mem_of_getElem? (i := 11) rfl) rfl
theorem ls_X4_sellTo : Cond.selects yX4_sellTo.cls yX4_sellTo yX4_sellTo ∈ gws := gi4 (List.mem_of_getElem? (i := 12) rfl) rfl
theorem lk_X4_sellTo : Cond.code yX4_sellTo cX4_sellTo 4 (Option.none : Option FieldType) ∈ gws := gi4 (List.mem_of_getElem? (i := 13) rfl) rfl
theorem lm_L_73 : Cond.methodLink RL 73 yX10_atone ∈ gws := gi4 (List.mem_of_getElem? (i := 14) rfl) rfl
theorem li_X10_atone : Cond.instanceMethod yX10_atone ∈ gws := gi4 (List.mem_of_getElem? (i := 15) rfl) rfl
theorem ls_X10_atone : Cond.selects yX10_atone.cls yX10_atone yX10_atone ∈ gws := gi4 (List.mem_of_getElem? (i := 16) rfl) rfl
theorem lk_X10_atone : Cond.code yX10_atone cX10_atone 3 (Option.some FieldType.int) ∈ gws := gi4 (List.mem_of_getElem? (i := 17) rfl) rfl
theorem lm_X10_226 : Cond.methodLink RX10 226 yX4_mayAtoneFor ∈ gws := gi4 (List.mem_of_getElem? (i := 18) rfl) rfl
theorem li_X4_mayAtoneFor : Cond.instanceMethod yX4_mayAtoneFor ∈ gws := gi4 (List.mem_of_getElem? (i := 19) rfl) rfl
theorem ls_X4_mayAtoneFor : Cond.selects yX4_mayAtoneFor.cls yX4_mayAtoneFor yX4_mayAtoneFor ∈ gws := gi4 (List.mem_of_getElem? (i := 20) rfl) rfl
theorem lk_X4_mayAtoneFor : Cond.code yX4_mayAtoneFor cX4_mayAtoneFor 3 (Option.some FieldType.boolean) ∈ gws := gi4 (List.mem_of_getElem? (i := 21) rfl) rfl
theorem lm_X10_229 : Cond.methodLink RX10 229 yX4_atoneFor ∈ gws := gi4 (List.mem_of_getElem? (i := 22) rfl) rfl
theorem li_X4_atoneFor : Cond.instanceMethod yX4_atoneFor ∈ gws := gi4 (List.mem_of_getElem? (i := 23) rfl) rfl
theorem ls_X4_atoneFor : Cond.selects yX4_atoneFor.cls yX4_atoneFor yX4_atoneFor ∈ gws := gi4 (List.mem_of_getElem? (i := 24) rfl) rfl
theorem lk_X4_atoneFor : Cond.code yX4_atoneFor cX4_atoneFor 3 (Option.none : Option FieldType) ∈ gws := gi4 (List.mem_of_getElem? (i := 25) rfl) rfl
theorem lm_L_77 : Cond.methodLink RL 77 yX10_shave ∈ gws := gi4 (List.mem_of_getElem? (i := 26) rfl) rfl
theorem li_X10_shave : Cond.instanceMethod yX10_shave ∈ gws := gi4 (List.mem_of_getElem? (i := 27) rfl) rfl
theorem ls_X10_shave : Cond.selects yX10_shave.cls yX10_shave yX10_shave ∈ gws := gi4 (List.mem_of_getElem? (i := 28) rfl) rfl
theorem lk_X10_shave : Cond.code yX10_shave cX10_shave 2 (Option.some FieldType.int) ∈ gws := gi4 (List.mem_of_getElem? (i := 29) rfl) rfl
theorem lm_X10_232 : Cond.methodLink RX10 232 yX4_mayGo ∈ gws := gi4 (List.mem_of_getElem? (i := 30) rfl) rfl
theorem li_X4_mayGo : Cond.instanceMethod yX4_mayGo ∈ gws := gi4 (List.mem_of_getElem? (i := 31) rfl) rfl
theorem ls_X4_mayGo : Cond.selects yX4_mayGo.cls yX4_mayGo yX4_mayGo ∈ gws := gi4 (List.mem_of_getElem? (i := 32) rfl) rfl
theorem lk_X4_mayGo : Cond.code yX4_mayGo cX4_mayGo 2 (Option.some FieldType.boolean) ∈ gws := gi4 (List.mem_of_getElem? (i := 33) rfl) rfl
theorem lm_X4_89 : Cond.methodLink RX4 89 yX4_went ∈ gws := gi4 (List.mem_of_getElem? (i := 34) rfl) rfl
theorem li_X4_went : Cond.instanceMethod yX4_went ∈ gws := gi4 (List.mem_of_getElem? (i := 35) rfl) rfl
theorem ls_X4_went : Cond.selects yX4_went.cls yX4_went yX4_went ∈ gws := gi4 (List.mem_of_getElem? (i := 36) rfl) rfl
theorem lk_X4_went : Cond.code yX4_went cX4_went 2 (Option.some FieldType.boolean) ∈ gws := gi4 (List.mem_of_getElem? (i := 37) rfl) rfl
theorem lm_X10_235 : Cond.methodLink RX10 235 yX10_goToBarber ∈ gws := gi4 (List.mem_of_getElem? (i := 38) rfl) rfl
theorem li_X10_goToBarber : Cond.instanceMethod yX10_goToBarber ∈ gws := gi4 (List.mem_of_getElem? (i := 40) rfl) rfl
theorem lk_X10_goToBarber : Cond.code yX10_goToBarber cX10_goToBarber 4 (Option.some FieldType.boolean) ∈ gws := gi4 (List.mem_of_getElem? (i := 41) rfl) rfl
theorem lm_X10_239 : Cond.methodLink RX10 239 yX4_deedsOf ∈ gws := gi4 (List.mem_of_getElem? (i := 42) rfl) rfl
theorem lm_X10_242 : Cond.methodLink RX10 242 yX0_isGuilty ∈ gws := gi4 (List.mem_of_getElem? (i := 43) rfl) rfl
theorem li_X0_isGuilty : Cond.instanceMethod yX0_isGuilty ∈ gws := gi4 (List.mem_of_getElem? (i := 44) rfl) rfl
theorem ls_X0_isGuilty : Cond.selects yX0_isGuilty.cls yX0_isGuilty yX0_isGuilty ∈ gws := gi4 (List.mem_of_getElem? (i := 45) rfl) rfl
theorem lk_X0_isGuilty : Cond.code yX0_isGuilty cX0_isGuilty 4 (Option.some FieldType.boolean) ∈ gws := gi4 (List.mem_of_getElem? (i := 46) rfl) rfl
theorem lm_X0_74 : Cond.methodLink RX0 74 yX8_weightOf ∈ gws := gi4 (List.mem_of_getElem? (i := 47) rfl) rfl
theorem lm_X0_77 : Cond.methodLink RX0 77 yJ6_bitCount_0f7a4 ∈ gws := gi4 (List.mem_of_getElem? (i := 48) rfl) rfl
theorem li_J6_bitCount_0f7a4 : Cond.static yJ6_bitCount_0f7a4 ∈ gws := gi4 (List.mem_of_getElem? (i := 49) rfl) rfl
theorem lk_J6_bitCount_0f7a4 : Cond.code yJ6_bitCount_0f7a4 cJ6_bitCount_0f7a4 1 (Option.some FieldType.int) ∈ gws := gi4 (List.mem_of_getElem? (i := 50) rfl) rfl
theorem lq_J6_265 : Cond.constant RJ6 265 (1431655765) ∈ gws := gi4 (List.mem_of_getElem? (i := 51) rfl) rfl
theorem lq_J6_266 : Cond.constant RJ6 266 (858993459) ∈ gws := gi4 (List.mem_of_getElem? (i := 52) rfl) rfl
theorem lq_J6_267 : Cond.constant RJ6 267 (252645135) ∈ gws := gi4 (List.mem_of_getElem? (i := 53) rfl) rfl
theorem lm_X0_58 : Cond.methodLink RX0 58 yX4_beardOf ∈ gws := gi4 (List.mem_of_getElem? (i := 54) rfl) rfl
theorem li_X4_beardOf : Cond.instanceMethod yX4_beardOf ∈ gws := gi4 (List.mem_of_getElem? (i := 55) rfl) rfl
theorem ls_X4_beardOf : Cond.selects yX4_beardOf.cls yX4_beardOf yX4_beardOf ∈ gws := gi4 (List.mem_of_getElem? (i := 56) rfl) rfl
theorem lk_X4_beardOf : Cond.code yX4_beardOf cX4_beardOf 2 (Option.some FieldType.int) ∈ gws := gi4 (List.mem_of_getElem? (i := 57) rfl) rfl
theorem lm_X0_64 : Cond.methodLink RX0 64 yX4_get ∈ gws := gi4 (List.mem_of_getElem? (i := 58) rfl) rfl
theorem li_X4_get : Cond.instanceMethod yX4_get ∈ gws := gi4 (List.mem_of_getElem? (i := 59) rfl) rfl
theorem ls_X4_get : Cond.selects yX4_get.cls yX4_get yX4_get ∈ gws := gi4 (List.mem_of_getElem? (i := 60) rfl) rfl
theorem lk_X4_get : Cond.code yX4_get cX4_get 2 (Option.some FieldType.int) ∈ gws := gi4 (List.mem_of_getElem? (i := 61) rfl) rfl
theorem lm_X0_67 : Cond.methodLink RX0 67 yX4_shavedOf ∈ gws := gi4 (List.mem_of_getElem? (i := 62) rfl) rfl
theorem li_X4_shavedOf : Cond.instanceMethod yX4_shavedOf ∈ gws := gi4 (List.mem_of_getElem? (i := 63) rfl) rfl
theorem ls_X4_shavedOf : Cond.selects yX4_shavedOf.cls yX4_shavedOf yX4_shavedOf ∈ gws := gi4 (List.mem_of_getElem? (i := 64) rfl) rfl
theorem lk_X4_shavedOf : Cond.code yX4_shavedOf cX4_shavedOf 2 (Option.some FieldType.int) ∈ gws := gi4 (List.mem_of_getElem? (i := 65) rfl) rfl
theorem lm_X0_70 : Cond.methodLink RX0 70 yX0_read ∈ gws := gi4 (List.mem_of_getElem? (i := 66) rfl) rfl
theorem li_X0_read : Cond.instanceMethod yX0_read ∈ gws := gi4 (List.mem_of_getElem? (i := 67) rfl) rfl
theorem ls_X0_read : Cond.selects yX0_read.cls yX0_read yX0_read ∈ gws := gi4 (List.mem_of_getElem? (i := 68) rfl) rfl
theorem lk_X0_read : Cond.code yX0_read cX0_read 9 (Option.some FieldType.int) ∈ gws := gi4 (List.mem_of_getElem? (i := 69) rfl) rfl
theorem lm_X0_32 : Cond.methodLink RX0 32 yX0_book ∈ gws := gi4 (List.mem_of_getElem? (i := 70) rfl) rfl
theorem li_X0_book : Cond.instanceMethod yX0_book ∈ gws := gi4 (List.mem_of_getElem? (i := 72) rfl) rfl
theorem lk_X0_book : Cond.code yX0_book cX0_book 1 (Option.some (FieldType.object "GuiltyShave$Law")) ∈ gws := gi4 (List.mem_of_getElem? (i := 73) rfl) rfl
theorem lm_X0_45 : Cond.methodLink RX0 45 yX2_worth ∈ gws := gi4 (List.mem_of_getElem? (i := 74) rfl) rfl
theorem li_X2_worth : Cond.instanceMethod yX2_worth ∈ gws := gi4 (List.mem_of_getElem? (i := 75) rfl) rfl
theorem ls_X2_worth : Cond.selects yX2_worth.cls yX2_worth yX2_worth ∈ gws := gi4 (List.mem_of_getElem? (i := 76) rfl) rfl
theorem lk_X2_worth : Cond.code yX2_worth cX2_worth 4 (Option.some FieldType.int) ∈ gws := gi4 (List.mem_of_getElem? (i := 77) rfl) rfl
theorem lm_X2_35 : Cond.methodLink RX2 35 yX2_valueOf ∈ gws := gi4 (List.mem_of_getElem? (i := 78) rfl) rfl
theorem li_X2_valueOf : Cond.instanceMethod yX2_valueOf ∈ gws := gi4 (List.mem_of_getElem? (i := 80) rfl) rfl
theorem lk_X2_valueOf : Cond.code yX2_valueOf cX2_valueOf 7 (Option.some FieldType.int) ∈ gws := gi4 (List.mem_of_getElem? (i := 81) rfl) rfl
theorem lm_X2_39 : Cond.methodLink RX2 39 yX2_joined ∈ gws := gi4 (List.mem_of_getElem? (i := 82) rfl) rfl
theorem li_X2_joined : Cond.static yX2_joined ∈ gws := gi4 (List.mem_of_getElem? (i := 83) rfl) rfl
theorem lk_X2_joined : Cond.code yX2_joined cX2_joined 7 (Option.some FieldType.int) ∈ gws := gi4 (List.mem_of_getElem? (i := 84) rfl) rfl
theorem lq_X2_43 : Cond.constantLong RX2 43 (1000000) ∈ gws := gi4 (List.mem_of_getElem? (i := 85) rfl) rfl
theorem lq_X2_45 : Cond.constantLong RX2 45 (-1000000) ∈ gws := gi4 (List.mem_of_getElem? (i := 86) rfl) rfl
theorem lm_X0_49 : Cond.methodLink RX0 49 yJ9_min_7cf53 ∈ gws := gi4 (List.mem_of_getElem? (i := 87) rfl) rfl
theorem lm_X0_55 : Cond.methodLink RX0 55 yJ9_max_7cf53 ∈ gws := gi4 (List.mem_of_getElem? (i := 88) rfl) rfl
theorem lm_X10_246 : Cond.methodLink RX10 246 yX4_go ∈ gws := gi4 (List.mem_of_getElem? (i := 89) rfl) rfl
theorem li_X4_go : Cond.instanceMethod yX4_go ∈ gws := gi4 (List.mem_of_getElem? (i := 90) rfl) rfl
theorem ls_X4_go : Cond.selects yX4_go.cls yX4_go yX4_go ∈ gws := gi4 (List.mem_of_getElem? (i := 91) rfl) rfl
theorem lk_X4_go : Cond.code yX4_go cX4_go 3 (Option.none : Option FieldType) ∈ gws := gi4 (List.mem_of_getElem? (i := 92) rfl) rfl
theorem lm_X4_95 : Cond.methodLink RX4 95 yJ9_max_7cf53 ∈ gws := gi4 (List.mem_of_getElem? (i := 93) rfl) rfl
theorem lm_L_81 : Cond.methodLink RL 81 yX10_give ∈ gws := gi4 (List.mem_of_getElem? (i := 94) rfl) rfl
theorem li_X10_give : Cond.instanceMethod yX10_give ∈ gws := gi4 (List.mem_of_getElem? (i := 95) rfl) rfl
theorem ls_X10_give : Cond.selects yX10_give.cls yX10_give yX10_give ∈ gws := gi4 (List.mem_of_getElem? (i := 96) rfl) rfl
theorem lk_X10_give : Cond.code yX10_give cX10_give 2 (Option.some FieldType.int) ∈ gws := gi4 (List.mem_of_getElem? (i := 97) rfl) rfl
theorem lm_X10_250 : Cond.methodLink RX10 250 yX10_noTown ∈ gws := gi4 (List.mem_of_getElem? (i := 98) rfl) rfl
theorem li_X10_noTown : Cond.instanceMethod yX10_noTown ∈ gws := gi4 (List.mem_of_getElem? (i := 100) rfl) rfl
theorem lk_X10_noTown : Cond.code yX10_noTown cX10_noTown 1 (Option.some FieldType.boolean) ∈ gws := gi4 (List.mem_of_getElem? (i := 101) rfl) rfl
theorem lm_X10_254 : Cond.methodLink RX10 254 yX4_get ∈ gws := gi4 (List.mem_of_getElem? (i := 102) rfl) rfl
theorem lm_X10_257 : Cond.methodLink RX10 257 yX4_receive ∈ gws := gi4 (List.mem_of_getElem? (i := 103) rfl) rfl
theorem li_X4_receive : Cond.instanceMethod yX4_receive ∈ gws := gi4 (List.mem_of_getElem? (i := 104) rfl) rfl
theorem ls_X4_receive : Cond.selects yX4_receive.cls yX4_receive yX4_receive ∈ gws := gi4 (List.mem_of_getElem? (i := 105) rfl) rfl
theorem lk_X4_receive : Cond.code yX4_receive cX4_receive 2 (Option.none : Option FieldType) ∈ gws := gi4 (List.mem_of_getElem? (i := 106) rfl) rfl
theorem lm_L_85 : Cond.methodLink RL 85 yX10_day ∈ gws := gi4 (List.mem_of_getElem? (i := 107) rfl) rfl
theorem li_X10_day : Cond.instanceMethod yX10_day ∈ gws := gi4 (List.mem_of_getElem? (i := 108) rfl) rfl
theorem ls_X10_day : Cond.selects yX10_day.cls yX10_day yX10_day ∈ gws := gi4 (List.mem_of_getElem? (i := 109) rfl) rfl
theorem lk_X10_day : Cond.code yX10_day cX10_day 2 (Option.some FieldType.int) ∈ gws := gi4 (List.mem_of_getElem? (i := 110) rfl) rfl
theorem lm_X10_260 : Cond.methodLink RX10 260 yX4_mayPassDay ∈ gws := gi4 (List.mem_of_getElem? (i := 111) rfl) rfl
theorem li_X4_mayPassDay : Cond.instanceMethod yX4_mayPassDay ∈ gws := gi4 (List.mem_of_getElem? (i := 112) rfl) rfl
theorem ls_X4_mayPassDay : Cond.selects yX4_mayPassDay.cls yX4_mayPassDay yX4_mayPassDay ∈ gws := gi4 (List.mem_of_getElem? (i := 113) rfl) rfl
theorem lk_X4_mayPassDay : Cond.code yX4_mayPassDay cX4_mayPassDay 1 (Option.some FieldType.boolean) ∈ gws := gi4 (List.mem_of_getElem? (i := 114) rfl) rfl
theorem lm_X10_263 : Cond.methodLink RX10 263 yX4_smooth ∈ gws := gi4 (List.mem_of_getElem? (i := 115) rfl) rfl
theorem li_X4_smooth : Cond.instanceMethod yX4_smooth ∈ gws := gi4 (List.mem_of_getElem? (i := 116) rfl) rfl
theorem ls_X4_smooth : Cond.selects yX4_smooth.cls yX4_smooth yX4_smooth ∈ gws := gi4 (List.mem_of_getElem? (i := 117) rfl) rfl
theorem lk_X4_smooth : Cond.code yX4_smooth cX4_smooth 3 (Option.some FieldType.int) ∈ gws := gi4 (List.mem_of_getElem? (i := 118) rfl) rfl
theorem lm_X4_63 : Cond.methodLink RX4 63 yX4_beardOf ∈ gws := gi4 (List.mem_of_getElem? (i := 119) rfl) rfl
theorem lm_X10_266 : Cond.methodLink RX10 266 yX4_passDay ∈ gws := gi4 (List.mem_of_getElem? (i := 120) rfl) rfl
theorem li_X4_passDay : Cond.instanceMethod yX4_passDay ∈ gws := gi4 (List.mem_of_getElem? (i := 121) rfl) rfl
theorem ls_X4_passDay : Cond.selects yX4_passDay.cls yX4_passDay yX4_passDay ∈ gws := gi4 (List.mem_of_getElem? (i := 122) rfl) rfl
theorem lk_X4_passDay : Cond.code yX4_passDay cX4_passDay 4 (Option.none : Option FieldType) ∈ gws := gi4 (List.mem_of_getElem? (i := 123) rfl) rfl
theorem lm_X4_98 : Cond.methodLink RX4 98 yX4_smooth ∈ gws := gi4 (List.mem_of_getElem? (i := 124) rfl) rfl
theorem lm_X4_102 : Cond.methodLink RX4 102 yX4_write ∈ gws := gi4 (List.mem_of_getElem? (i := 125) rfl) rfl
theorem li_X4_write : Cond.instanceMethod yX4_write ∈ gws := gi4 (List.mem_of_getElem? (i := 127) rfl) rfl
theorem lk_X4_write : Cond.code yX4_write cX4_write 3 (Option.none : Option FieldType) ∈ gws := gi4 (List.mem_of_getElem? (i := 128) rfl) rfl
theorem lm_X4_106 : Cond.methodLink RX4 106 yX4_wishersAmong ∈ gws := gi4 (List.mem_of_getElem? (i := 129) rfl) rfl
theorem li_X4_wishersAmong : Cond.instanceMethod yX4_wishersAmong ∈ gws := gi4 (List.mem_of_getElem? (i := 131) rfl) rfl
theorem lk_X4_wishersAmong : Cond.code yX4_wishersAmong cX4_wishersAmong 4 (Option.some FieldType.int) ∈ gws := gi4 (List.mem_of_getElem? (i := 132) rfl) rfl
theorem lm_X10_269 : Cond.methodLink RX10 269 yJ6_bitCount_0f7a4 ∈ gws := gi4 (List.mem_of_getElem? (i := 133) rfl) rfl
theorem lm_L_91 : Cond.methodLink RL 91 yX10_years ∈ gws := gi4 (List.mem_of_getElem? (i := 134) rfl) rfl
theorem li_X10_years : Cond.instanceMethod yX10_years ∈ gws := gi4 (List.mem_of_getElem? (i := 135) rfl) rfl
theorem ls_X10_years : Cond.selects yX10_years.cls yX10_years yX10_years ∈ gws := gi4 (List.mem_of_getElem? (i := 136) rfl) rfl
theorem lk_X10_years : Cond.code yX10_years cX10_years 5 (Option.some FieldType.int) ∈ gws := gi4 (List.mem_of_getElem? (i := 137) rfl) rfl
theorem lm_X10_274 : Cond.methodLink RX10 274 yX1_begin ∈ gws := gi4 (List.mem_of_getElem? (i := 138) rfl) rfl
theorem li_X1_begin : Cond.instanceMethod yX1_begin ∈ gws := gi4 (List.mem_of_getElem? (i := 139) rfl) rfl
theorem ls_X1_begin : Cond.selects yX1_begin.cls yX1_begin yX1_begin ∈ gws := gi4 (List.mem_of_getElem? (i := 140) rfl) rfl
theorem lk_X1_begin : Cond.code yX1_begin cX1_begin 3 (Option.none : Option FieldType) ∈ gws := gi4 (List.mem_of_getElem? (i := 141) rfl) rfl
theorem lm_X10_277 : Cond.methodLink RX10 277 yX10_liveByDraws ∈ gws := gi4 (List.mem_of_getElem? (i := 142) rfl) rfl
theorem li_X10_liveByDraws : Cond.instanceMethod yX10_liveByDraws ∈ gws := gi4 (List.mem_of_getElem? (i := 144) rfl) rfl
theorem lk_X10_liveByDraws : Cond.code yX10_liveByDraws cX10_liveByDraws 4 (Option.none : Option FieldType) ∈ gws := gi4 (List.mem_of_getElem? (i := 145) rfl) rfl
theorem lm_X10_280 : Cond.methodLink RX10 280 yX1_draw ∈ gws := gi4 (List.mem_of_getElem? (i := 146) rfl) rfl
theorem li_X1_draw : Cond.instanceMethod yX1_draw ∈ gws := gi4 (List.mem_of_getElem? (i := 147) rfl) rfl
theorem ls_X1_draw : Cond.selects yX1_draw.cls yX1_draw yX1_draw ∈ gws := gi4 (List.mem_of_getElem? (i := 148) rfl) rfl
theorem lk_X1_draw : Cond.code yX1_draw cX1_draw 2 (Option.some FieldType.int) ∈ gws := gi4 (List.mem_of_getElem? (i := 149) rfl) rfl
theorem lq_X1_13 : Cond.constantLong RX1 13 (6364136223846793005) ∈ gws := gi4 (List.mem_of_getElem? (i := 150) rfl) rfl
theorem lq_X1_15 : Cond.constantLong RX1 15 (1442695040888963407) ∈ gws := gi4 (List.mem_of_getElem? (i := 151) rfl) rfl
theorem lm_L_96 : Cond.methodLink RL 96 yX10_undo ∈ gws := gi4 (List.mem_of_getElem? (i := 152) rfl) rfl
theorem li_X10_undo : Cond.instanceMethod yX10_undo ∈ gws := gi4 (List.mem_of_getElem? (i := 153) rfl) rfl
theorem ls_X10_undo : Cond.selects yX10_undo.cls yX10_undo yX10_undo ∈ gws := gi4 (List.mem_of_getElem? (i := 154) rfl) rfl
theorem lk_X10_undo : Cond.code yX10_undo cX10_undo 1 (Option.some FieldType.int) ∈ gws := gi4 (List.mem_of_getElem? (i := 155) rfl) rfl
theorem lm_X10_286 : Cond.methodLink RX10 286 yX5_takeBack ∈ gws := gi4 (List.mem_of_getElem? (i := 156) rfl) rfl
theorem li_X5_takeBack : Cond.instanceMethod yX5_takeBack ∈ gws := gi4 (List.mem_of_getElem? (i := 157) rfl) rfl
theorem ls_X5_takeBack : Cond.selects yX5_takeBack.cls yX5_takeBack yX5_takeBack ∈ gws := gi4 (List.mem_of_getElem? (i := 158) rfl) rfl
theorem lk_X5_takeBack : Cond.code yX5_takeBack cX5_takeBack 2 (Option.some FieldType.int) ∈ gws := gi4 (List.mem_of_getElem? (i := 159) rfl) rfl
theorem lm_L_100 : Cond.methodLink RL 100 yX10_log ∈ gws := gi4 (List.mem_of_getElem? (i := 160) rfl) rfl
theorem li_X10_log : Cond.instanceMethod yX10_log ∈ gws := gi4 (List.mem_of_getElem? (i := 161) rfl) rfl
theorem ls_X10_log : Cond.selects yX10_log.cls yX10_log yX10_log ∈ gws := gi4 (List.mem_of_getElem? (i := 162) rfl) rfl
theorem lk_X10_log : Cond.code yX10_log cX10_log 3 (Option.some FieldType.int) ∈ gws := gi4 (List.mem_of_getElem? (i := 163) rfl) rfl
theorem lm_X10_290 : Cond.methodLink RX10 290 yX4_logLength ∈ gws := gi4 (List.mem_of_getElem? (i := 164) rfl) rfl
theorem li_X4_logLength : Cond.instanceMethod yX4_logLength ∈ gws := gi4 (List.mem_of_getElem? (i := 165) rfl) rfl
theorem ls_X4_logLength : Cond.selects yX4_logLength.cls yX4_logLength yX4_logLength ∈ gws := gi4 (List.mem_of_getElem? (i := 166) rfl) rfl
theorem lk_X4_logLength : Cond.code yX4_logLength cX4_logLength 1 (Option.some FieldType.int) ∈ gws := gi4 (List.mem_of_getElem? (i := 167) rfl) rfl
theorem lm_X10_293 : Cond.methodLink RX10 293 yX4_logged ∈ gws := gi4 (List.mem_of_getElem? (i := 168) rfl) rfl
theorem li_X4_logged : Cond.instanceMethod yX4_logged ∈ gws := gi4 (List.mem_of_getElem? (i := 169) rfl) rfl
theorem ls_X4_logged : Cond.selects yX4_logged.cls yX4_logged yX4_logged ∈ gws := gi4 (List.mem_of_getElem? (i := 170) rfl) rfl
theorem lk_X4_logged : Cond.code yX4_logged cX4_logged 4 (Option.some FieldType.int) ∈ gws := gi4 (List.mem_of_getElem? (i := 171) rfl) rfl
theorem lm_L_104 : Cond.methodLink RL 104 yX10_step ∈ gws := gi4 (List.mem_of_getElem? (i := 172) rfl) rfl
theorem li_X10_step : Cond.instanceMethod yX10_step ∈ gws := gi4 (List.mem_of_getElem? (i := 173) rfl) rfl
theorem ls_X10_step : Cond.selects yX10_step.cls yX10_step yX10_step ∈ gws := gi4 (List.mem_of_getElem? (i := 174) rfl) rfl
theorem lk_X10_step : Cond.code yX10_step cX10_step 5 (Option.some FieldType.int) ∈ gws := gi4 (List.mem_of_getElem? (i := 175) rfl) rfl
theorem lm_X10_296 : Cond.methodLink RX10 296 yX10_weekOf ∈ gws := gi4 (List.mem_of_getElem? (i := 176) rfl) rfl
theorem li_X10_weekOf : Cond.instanceMethod yX10_weekOf ∈ gws := gi4 (List.mem_of_getElem? (i := 178) rfl) rfl
theorem lk_X10_weekOf : Cond.code yX10_weekOf cX10_weekOf 2 (Option.some (FieldType.object "GuiltyShave$Week")) ∈ gws := gi4 (List.mem_of_getElem? (i := 179) rfl) rfl
theorem lq_X10_301 : Cond.constant RX10 301 (-1000000) ∈ gws := gi4 (List.mem_of_getElem? (i := 180) rfl) rfl
theorem lm_L_108 : Cond.methodLink RL 108 yX10_run ∈ gws := gi4 (List.mem_of_getElem? (i := 181) rfl) rfl
theorem li_X10_run : Cond.instanceMethod yX10_run ∈ gws := gi4 (List.mem_of_getElem? (i := 182) rfl) rfl
theorem ls_X10_run : Cond.selects yX10_run.cls yX10_run yX10_run ∈ gws := gi4 (List.mem_of_getElem? (i := 183) rfl) rfl
theorem lk_X10_run : Cond.code yX10_run cX10_run 5 (Option.some FieldType.int) ∈ gws := gi4 (List.mem_of_getElem? (i := 184) rfl) rfl
theorem lm_X10_309 : Cond.methodLink RX10 309 yX4_copy ∈ gws := gi4 (List.mem_of_getElem? (i := 185) rfl) rfl
theorem li_X4_copy : Cond.instanceMethod yX4_copy ∈ gws := gi4 (List.mem_of_getElem? (i := 186) rfl) rfl
theorem ls_X4_copy : Cond.selects yX4_copy.cls yX4_copy yX4_copy ∈ gws := gi4 (List.mem_of_getElem? (i := 187) rfl) rfl
theorem lk_X4_copy : Cond.code yX4_copy cX4_copy 2 (Option.none : Option FieldType) ∈ gws := gi4 (List.mem_of_getElem? (i := 188) rfl) rfl
theorem lo_X4_40 : Cond.methodLink RX4 40 ⟨"java/lang/System", "arraycopy", "(Ljava/lang/Object;ILjava/lang/Object;II)V"⟩ ∈ gws := gi4 (List.mem_of_getElem? (i := 189) rfl) rfl
theorem lm_X10_312 : Cond.methodLink RX10 312 yX10_mayTakeStep ∈ gws := gi4 (List.mem_of_getElem? (i := 190) rfl) rfl
theorem li_X10_mayTakeStep : Cond.instanceMethod yX10_mayTakeStep ∈ gws := gi4 (List.mem_of_getElem? (i := 192) rfl) rfl
theorem lk_X10_mayTakeStep : Cond.code yX10_mayTakeStep cX10_mayTakeStep 4 (Option.some FieldType.boolean) ∈ gws := gi4 (List.mem_of_getElem? (i := 193) rfl) rfl
theorem lm_X10_316 : Cond.methodLink RX10 316 yX10_takeStep ∈ gws := gi4 (List.mem_of_getElem? (i := 194) rfl) rfl
theorem li_X10_takeStep : Cond.instanceMethod yX10_takeStep ∈ gws := gi4 (List.mem_of_getElem? (i := 196) rfl) rfl
theorem lk_X10_takeStep : Cond.code yX10_takeStep cX10_takeStep 4 (Option.none : Option FieldType) ∈ gws := gi4 (List.mem_of_getElem? (i := 197) rfl) rfl
theorem lm_L_112 : Cond.methodLink RL 112 yX10_perform ∈ gws := gi4 (List.mem_of_getElem? (i := 198) rfl) rfl
theorem li_X10_perform : Cond.instanceMethod yX10_perform ∈ gws := gi4 (List.mem_of_getElem? (i := 199) rfl) rfl
theorem ls_X10_perform : Cond.selects yX10_perform.cls yX10_perform yX10_perform ∈ gws := gi4 (List.mem_of_getElem? (i := 200) rfl) rfl
theorem lk_X10_perform : Cond.code yX10_perform cX10_perform 4 (Option.some FieldType.int) ∈ gws := gi4 (List.mem_of_getElem? (i := 201) rfl) rfl
theorem lm_L_116 : Cond.methodLink RL 116 yX10_skin ∈ gws := gi4 (List.mem_of_getElem? (i := 202) rfl) rfl
theorem li_X10_skin : Cond.instanceMethod yX10_skin ∈ gws := gi4 (List.mem_of_getElem? (i := 203) rfl) rfl
theorem ls_X10_skin : Cond.selects yX10_skin.cls yX10_skin yX10_skin ∈ gws := gi4 (List.mem_of_getElem? (i := 204) rfl) rfl
theorem lk_X10_skin : Cond.code yX10_skin cX10_skin 4 (Option.some FieldType.int) ∈ gws := gi4 (List.mem_of_getElem? (i := 205) rfl) rfl
theorem lm_X10_158 : Cond.methodLink RX10 158 yX8_hasPerson ∈ gws := gi4 (List.mem_of_getElem? (i := 206) rfl) rfl
theorem lm_X10_320 : Cond.methodLink RX10 320 yX8_weightOf ∈ gws := gi4 (List.mem_of_getElem? (i := 207) rfl) rfl
theorem lm_X10_323 : Cond.methodLink RX10 323 yX0_readIn ∈ gws := gi4 (List.mem_of_getElem? (i := 208) rfl) rfl
theorem li_X0_readIn : Cond.instanceMethod yX0_readIn ∈ gws := gi4 (List.mem_of_getElem? (i := 209) rfl) rfl
theorem ls_X0_readIn : Cond.selects yX0_readIn.cls yX0_readIn yX0_readIn ∈ gws := gi4 (List.mem_of_getElem? (i := 210) rfl) rfl
theorem lk_X0_readIn : Cond.code yX0_readIn cX0_readIn 7 (Option.some FieldType.int) ∈ gws := gi4 (List.mem_of_getElem? (i := 211) rfl) rfl
theorem lm_L_120 : Cond.methodLink RL 120 yX10_least ∈ gws := gi4 (List.mem_of_getElem? (i := 212) rfl) rfl
theorem li_X10_least : Cond.instanceMethod yX10_least ∈ gws := gi4 (List.mem_of_getElem? (i := 213) rfl) rfl
theorem ls_X10_least : Cond.selects yX10_least.cls yX10_least yX10_least ∈ gws := gi4 (List.mem_of_getElem? (i := 214) rfl) rfl
theorem lk_X10_least : Cond.code yX10_least cX10_least 3 (Option.some FieldType.int) ∈ gws := gi4 (List.mem_of_getElem? (i := 215) rfl) rfl
theorem lm_X10_327 : Cond.methodLink RX10 327 yX10_cheapest ∈ gws := gi4 (List.mem_of_getElem? (i := 216) rfl) rfl
theorem li_X10_cheapest : Cond.instanceMethod yX10_cheapest ∈ gws := gi4 (List.mem_of_getElem? (i := 218) rfl) rfl
theorem lk_X10_cheapest : Cond.code yX10_cheapest cX10_cheapest 9 (Option.some FieldType.int) ∈ gws := gi4 (List.mem_of_getElem? (i := 219) rfl) rfl
theorem lm_X10_330 : Cond.methodLink RX10 330 yX10_harmAmong ∈ gws := gi4 (List.mem_of_getElem? (i := 220) rfl) rfl
theorem li_X10_harmAmong : Cond.instanceMethod yX10_harmAmong ∈ gws := gi4 (List.mem_of_getElem? (i := 222) rfl) rfl
theorem lk_X10_harmAmong : Cond.code yX10_harmAmong cX10_harmAmong 5 (Option.some FieldType.int) ∈ gws := gi4 (List.mem_of_getElem? (i := 223) rfl) rfl
theorem lm_X10_336 : Cond.methodLink RX10 336 yX8_harmOf ∈ gws := gi4 (List.mem_of_getElem? (i := 224) rfl) rfl
theorem li_X8_harmOf : Cond.instanceMethod yX8_harmOf ∈ gws := gi4 (List.mem_of_getElem? (i := 225) rfl) rfl
theorem ls_X8_harmOf : Cond.selects yX8_harmOf.cls yX8_harmOf yX8_harmOf ∈ gws := gi4 (List.mem_of_getElem? (i := 226) rfl) rfl
theorem lk_X8_harmOf : Cond.code yX8_harmOf cX8_harmOf 4 (Option.some FieldType.int) ∈ gws := gi4 (List.mem_of_getElem? (i := 227) rfl) rfl
theorem lm_X10_333 : Cond.methodLink RX10 333 yX10_allGuiltyWith ∈ gws := gi4 (List.mem_of_getElem? (i := 228) rfl) rfl
theorem li_X10_allGuiltyWith : Cond.instanceMethod yX10_allGuiltyWith ∈ gws := gi4 (List.mem_of_getElem? (i := 230) rfl) rfl
theorem lk_X10_allGuiltyWith : Cond.code yX10_allGuiltyWith cX10_allGuiltyWith 4 (Option.some FieldType.boolean) ∈ gws := gi4 (List.mem_of_getElem? (i := 231) rfl) rfl
theorem lm_L_124 : Cond.methodLink RL 124 yX10_cover ∈ gws := gi4 (List.mem_of_getElem? (i := 232) rfl) rfl
theorem li_X10_cover : Cond.instanceMethod yX10_cover ∈ gws := gi4 (List.mem_of_getElem? (i := 233) rfl) rfl
theorem ls_X10_cover : Cond.selects yX10_cover.cls yX10_cover yX10_cover ∈ gws := gi4 (List.mem_of_getElem? (i := 234) rfl) rfl
theorem lk_X10_cover : Cond.code yX10_cover cX10_cover 3 (Option.some FieldType.int) ∈ gws := gi4 (List.mem_of_getElem? (i := 235) rfl) rfl
theorem lm_L_128 : Cond.methodLink RL 128 yX10_soon ∈ gws := gi4 (List.mem_of_getElem? (i := 236) rfl) rfl
theorem li_X10_soon : Cond.instanceMethod yX10_soon ∈ gws := gi4 (List.mem_of_getElem? (i := 237) rfl) rfl
theorem ls_X10_soon : Cond.selects yX10_soon.cls yX10_soon yX10_soon ∈ gws := gi4 (List.mem_of_getElem? (i := 238) rfl) rfl
theorem lk_X10_soon : Cond.code yX10_soon cX10_soon 3 (Option.some FieldType.int) ∈ gws := gi4 (List.mem_of_getElem? (i := 239) rfl) rfl
theorem lm_X10_339 : Cond.methodLink RX10 339 yX0_isGuiltyIn ∈ gws := gi5 (List.mem_of_getElem? (i := 0) rfl) rfl
theorem li_X0_isGuiltyIn : Cond.instanceMethod yX0_isGuiltyIn ∈ gws := gi5 (List.mem_of_getElem? (i := 1) rfl) rfl
theorem ls_X0_isGuiltyIn : Cond.selects yX0_isGuiltyIn.cls yX0_isGuiltyIn yX0_isGuiltyIn ∈ gws := gi5 (List.mem_of_getElem? (i := 2) rfl) rfl
theorem lk_X0_isGuiltyIn : Cond.code yX0_isGuiltyIn cX0_isGuiltyIn 5 (Option.some FieldType.boolean) ∈ gws := gi5 (List.mem_of_getElem? (i := 3) rfl) rfl
theorem lm_X0_82 : Cond.methodLink RX0 82 yX4_deedsIn ∈ gws := gi5 (List.mem_of_getElem? (i := 4) rfl) rfl
theorem lm_X0_85 : Cond.methodLink RX0 85 yX0_readIn ∈ gws := gi5 (List.mem_of_getElem? (i := 5) rfl) rfl
theorem lm_L_132 : Cond.methodLink RL 132 yX10_clean ∈ gws := gi5 (List.mem_of_getElem? (i := 6) rfl) rfl
theorem li_X10_clean : Cond.instanceMethod yX10_clean ∈ gws := gi5 (List.mem_of_getElem? (i := 7) rfl) rfl
theorem ls_X10_clean : Cond.selects yX10_clean.cls yX10_clean yX10_clean ∈ gws := gi5 (List.mem_of_getElem? (i := 8) rfl) rfl
theorem lk_X10_clean : Cond.code yX10_clean cX10_clean 4 (Option.some FieldType.int) ∈ gws := gi5 (List.mem_of_getElem? (i := 9) rfl) rfl
theorem lm_X10_342 : Cond.methodLink RX10 342 yJ9_max_7cf53 ∈ gws := gi5 (List.mem_of_getElem? (i := 10) rfl) rfl
theorem lm_L_136 : Cond.methodLink RL 136 yX10_bargain ∈ gws := gi5 (List.mem_of_getElem? (i := 11) rfl) rfl
theorem li_X10_bargain : Cond.instanceMethod yX10_bargain ∈ gws := gi5 (List.mem_of_getElem? (i := 12) rfl) rfl
theorem ls_X10_bargain : Cond.selects yX10_bargain.cls yX10_bargain yX10_bargain ∈ gws := gi5 (List.mem_of_getElem? (i := 13) rfl) rfl
theorem lk_X10_bargain : Cond.code yX10_bargain cX10_bargain 7 (Option.some FieldType.int) ∈ gws := gi5 (List.mem_of_getElem? (i := 14) rfl) rfl
theorem lm_L_140 : Cond.methodLink RL 140 yX10_seen ∈ gws := gi5 (List.mem_of_getElem? (i := 15) rfl) rfl
theorem li_X10_seen : Cond.instanceMethod yX10_seen ∈ gws := gi5 (List.mem_of_getElem? (i := 16) rfl) rfl
theorem ls_X10_seen : Cond.selects yX10_seen.cls yX10_seen yX10_seen ∈ gws := gi5 (List.mem_of_getElem? (i := 17) rfl) rfl
theorem lk_X10_seen : Cond.code yX10_seen cX10_seen 4 (Option.some FieldType.int) ∈ gws := gi5 (List.mem_of_getElem? (i := 18) rfl) rfl
theorem lm_X10_350 : Cond.methodLink RX10 350 yX6_add ∈ gws := gi5 (List.mem_of_getElem? (i := 19) rfl) rfl
theorem li_X6_add : Cond.instanceMethod yX6_add ∈ gws := gi5 (List.mem_of_getElem? (i := 20) rfl) rfl
theorem ls_X6_add : Cond.selects yX6_add.cls yX6_add yX6_add ∈ gws := gi5 (List.mem_of_getElem? (i := 21) rfl) rfl
theorem lk_X6_add : Cond.code yX6_add cX6_add 4 (Option.some FieldType.int) ∈ gws := gi5 (List.mem_of_getElem? (i := 22) rfl) rfl
theorem lm_L_145 : Cond.methodLink RL 145 yX10_sets ∈ gws := gi5 (List.mem_of_getElem? (i := 23) rfl) rfl
theorem li_X10_sets : Cond.instanceMethod yX10_sets ∈ gws := gi5 (List.mem_of_getElem? (i := 24) rfl) rfl
theorem ls_X10_sets : Cond.selects yX10_sets.cls yX10_sets yX10_sets ∈ gws := gi5 (List.mem_of_getElem? (i := 25) rfl) rfl
theorem lk_X10_sets : Cond.code yX10_sets cX10_sets 3 (Option.some FieldType.int) ∈ gws := gi5 (List.mem_of_getElem? (i := 26) rfl) rfl
theorem lm_X10_353 : Cond.methodLink RX10 353 yX6_fittingSet ∈ gws := gi5 (List.mem_of_getElem? (i := 27) rfl) rfl
theorem li_X6_fittingSet : Cond.instanceMethod yX6_fittingSet ∈ gws := gi5 (List.mem_of_getElem? (i := 28) rfl) rfl
theorem ls_X6_fittingSet : Cond.selects yX6_fittingSet.cls yX6_fittingSet yX6_fittingSet ∈ gws := gi5 (List.mem_of_getElem? (i := 29) rfl) rfl
theorem lk_X6_fittingSet : Cond.code yX6_fittingSet cX6_fittingSet 6 (Option.some FieldType.int) ∈ gws := gi5 (List.mem_of_getElem? (i := 30) rfl) rfl
theorem lm_X6_51 : Cond.methodLink RX6 51 yX8_weightOf ∈ gws := gi5 (List.mem_of_getElem? (i := 31) rfl) rfl
theorem lm_X6_55 : Cond.methodLink RX6 55 yJ6_bitCount_0f7a4 ∈ gws := gi5 (List.mem_of_getElem? (i := 32) rfl) rfl
theorem lm_X6_60 : Cond.methodLink RX6 60 yX6_fits ∈ gws := gi5 (List.mem_of_getElem? (i := 33) rfl) rfl
theorem li_X6_fits : Cond.instanceMethod yX6_fits ∈ gws := gi5 (List.mem_of_getElem? (i := 35) rfl) rfl
theorem lk_X6_fits : Cond.code yX6_fits cX6_fits 5 (Option.some FieldType.boolean) ∈ gws := gi5 (List.mem_of_getElem? (i := 36) rfl) rfl
theorem lm_X6_40 : Cond.methodLink RX6 40 yX0_read ∈ gws := gi5 (List.mem_of_getElem? (i := 37) rfl) rfl
theorem lm_L_149 : Cond.methodLink RL 149 yX10_ask ∈ gws := gi5 (List.mem_of_getElem? (i := 38) rfl) rfl
theorem li_X10_ask : Cond.instanceMethod yX10_ask ∈ gws := gi5 (List.mem_of_getElem? (i := 39) rfl) rfl
theorem ls_X10_ask : Cond.selects yX10_ask.cls yX10_ask yX10_ask ∈ gws := gi5 (List.mem_of_getElem? (i := 40) rfl) rfl
theorem lk_X10_ask : Cond.code yX10_ask cX10_ask 2 (Option.some FieldType.int) ∈ gws := gi5 (List.mem_of_getElem? (i := 41) rfl) rfl
theorem lm_X10_356 : Cond.methodLink RX10 356 yX6_bestBeard ∈ gws := gi5 (List.mem_of_getElem? (i := 42) rfl) rfl
theorem li_X6_bestBeard : Cond.instanceMethod yX6_bestBeard ∈ gws := gi5 (List.mem_of_getElem? (i := 43) rfl) rfl
theorem ls_X6_bestBeard : Cond.selects yX6_bestBeard.cls yX6_bestBeard yX6_bestBeard ∈ gws := gi5 (List.mem_of_getElem? (i := 44) rfl) rfl
theorem lk_X6_bestBeard : Cond.code yX6_bestBeard cX6_bestBeard 8 (Option.some FieldType.int) ∈ gws := gi5 (List.mem_of_getElem? (i := 45) rfl) rfl
theorem lm_X6_64 : Cond.methodLink RX6 64 yX6_gatherCases ∈ gws := gi5 (List.mem_of_getElem? (i := 46) rfl) rfl
theorem li_X6_gatherCases : Cond.instanceMethod yX6_gatherCases ∈ gws := gi5 (List.mem_of_getElem? (i := 48) rfl) rfl
theorem lk_X6_gatherCases : Cond.code yX6_gatherCases cX6_gatherCases 6 (Option.some FieldType.int) ∈ gws := gi5 (List.mem_of_getElem? (i := 49) rfl) rfl
theorem lm_X6_80 : Cond.methodLink RX6 80 yJ7_fill_53178 ∈ gws := gi5 (List.mem_of_getElem? (i := 50) rfl) rfl
theorem lm_X6_67 : Cond.methodLink RX6 67 yX0_heedsBeard ∈ gws := gi5 (List.mem_of_getElem? (i := 51) rfl) rfl
theorem li_X0_heedsBeard : Cond.instanceMethod yX0_heedsBeard ∈ gws := gi5 (List.mem_of_getElem? (i := 52) rfl) rfl
theorem ls_X0_heedsBeard : Cond.selects yX0_heedsBeard.cls yX0_heedsBeard yX0_heedsBeard ∈ gws := gi5 (List.mem_of_getElem? (i := 53) rfl) rfl
theorem lk_X0_heedsBeard : Cond.code yX0_heedsBeard cX0_heedsBeard 2 (Option.some FieldType.boolean) ∈ gws := gi5 (List.mem_of_getElem? (i := 54) rfl) rfl
theorem lm_X6_71 : Cond.methodLink RX6 71 yX6_guiltyAt ∈ gws := gi5 (List.mem_of_getElem? (i := 55) rfl) rfl
theorem li_X6_guiltyAt : Cond.instanceMethod yX6_guiltyAt ∈ gws := gi5 (List.mem_of_getElem? (i := 57) rfl) rfl
theorem lk_X6_guiltyAt : Cond.code yX6_guiltyAt cX6_guiltyAt 6 (Option.some FieldType.int) ∈ gws := gi5 (List.mem_of_getElem? (i := 58) rfl) rfl
theorem lm_X6_75 : Cond.methodLink RX6 75 yJ9_abs_0f7a4 ∈ gws := gi5 (List.mem_of_getElem? (i := 59) rfl) rfl
theorem li_J9_abs_0f7a4 : Cond.static yJ9_abs_0f7a4 ∈ gws := gi5 (List.mem_of_getElem? (i := 60) rfl) rfl
theorem lk_J9_abs_0f7a4 : Cond.code yJ9_abs_0f7a4 cJ9_abs_0f7a4 1 (Option.some FieldType.int) ∈ gws := gi5 (List.mem_of_getElem? (i := 61) rfl) rfl
theorem lm_L_153 : Cond.methodLink RL 153 yX10_game ∈ gws := gi5 (List.mem_of_getElem? (i := 62) rfl) rfl
theorem li_X10_game : Cond.instanceMethod yX10_game ∈ gws := gi5 (List.mem_of_getElem? (i := 63) rfl) rfl
theorem ls_X10_game : Cond.selects yX10_game.cls yX10_game yX10_game ∈ gws := gi5 (List.mem_of_getElem? (i := 64) rfl) rfl
theorem lk_X10_game : Cond.code yX10_game cX10_game 6 (Option.some FieldType.int) ∈ gws := gi5 (List.mem_of_getElem? (i := 65) rfl) rfl
theorem lm_X10_359 : Cond.methodLink RX10 359 yX10_verdictsOn ∈ gws := gi5 (List.mem_of_getElem? (i := 66) rfl) rfl
theorem li_X10_verdictsOn : Cond.instanceMethod yX10_verdictsOn ∈ gws := gi5 (List.mem_of_getElem? (i := 68) rfl) rfl
theorem lk_X10_verdictsOn : Cond.code yX10_verdictsOn cX10_verdictsOn 8 (Option.some FieldType.int) ∈ gws := gi5 (List.mem_of_getElem? (i := 69) rfl) rfl
theorem lm_X10_362 : Cond.methodLink RX10 362 yX10_gainOfPerson ∈ gws := gi5 (List.mem_of_getElem? (i := 70) rfl) rfl
theorem li_X10_gainOfPerson : Cond.static yX10_gainOfPerson ∈ gws := gi5 (List.mem_of_getElem? (i := 71) rfl) rfl
theorem lk_X10_gainOfPerson : Cond.code yX10_gainOfPerson cX10_gainOfPerson 3 (Option.some FieldType.int) ∈ gws := gi5 (List.mem_of_getElem? (i := 72) rfl) rfl
theorem lm_X10_366 : Cond.methodLink RX10 366 yX10_gainOfBarber ∈ gws := gi5 (List.mem_of_getElem? (i := 73) rfl) rfl
theorem li_X10_gainOfBarber : Cond.static yX10_gainOfBarber ∈ gws := gi5 (List.mem_of_getElem? (i := 74) rfl) rfl
theorem lk_X10_gainOfBarber : Cond.code yX10_gainOfBarber cX10_gainOfBarber 4 (Option.some FieldType.int) ∈ gws := gi5 (List.mem_of_getElem? (i := 75) rfl) rfl
theorem lm_L_158 : Cond.methodLink RL 158 yX10_rests ∈ gws := gi5 (List.mem_of_getElem? (i := 76) rfl) rfl
theorem li_X10_rests : Cond.instanceMethod yX10_rests ∈ gws := gi5 (List.mem_of_getElem? (i := 77) rfl) rfl
theorem ls_X10_rests : Cond.selects yX10_rests.cls yX10_rests yX10_rests ∈ gws := gi5 (List.mem_of_getElem? (i := 78) rfl) rfl
theorem lk_X10_rests : Cond.code yX10_rests cX10_rests 7 (Option.some FieldType.int) ∈ gws := gi5 (List.mem_of_getElem? (i := 79) rfl) rfl
theorem lm_X10_369 : Cond.methodLink RX10 369 yX10_isRest ∈ gws := gi5 (List.mem_of_getElem? (i := 80) rfl) rfl
theorem li_X10_isRest : Cond.static yX10_isRest ∈ gws := gi5 (List.mem_of_getElem? (i := 81) rfl) rfl
theorem lk_X10_isRest : Cond.code yX10_isRest cX10_isRest 4 (Option.some FieldType.boolean) ∈ gws := gi5 (List.mem_of_getElem? (i := 82) rfl) rfl
theorem lm_L_162 : Cond.methodLink RL 162 yX10_odds ∈ gws := gi5 (List.mem_of_getElem? (i := 83) rfl) rfl
theorem li_X10_odds : Cond.instanceMethod yX10_odds ∈ gws := gi5 (List.mem_of_getElem? (i := 84) rfl) rfl
theorem ls_X10_odds : Cond.selects yX10_odds.cls yX10_odds yX10_odds ∈ gws := gi5 (List.mem_of_getElem? (i := 85) rfl) rfl
theorem lk_X10_odds : Cond.code yX10_odds cX10_odds 10 (Option.some FieldType.int) ∈ gws := gi5 (List.mem_of_getElem? (i := 86) rfl) rfl
theorem lm_X10_372 : Cond.methodLink RX10 372 yX10_partOf ∈ gws := gi5 (List.mem_of_getElem? (i := 87) rfl) rfl
theorem li_X10_partOf : Cond.instanceMethod yX10_partOf ∈ gws := gi5 (List.mem_of_getElem? (i := 89) rfl) rfl
theorem lk_X10_partOf : Cond.code yX10_partOf cX10_partOf 9 (Option.some FieldType.long) ∈ gws := gi5 (List.mem_of_getElem? (i := 90) rfl) rfl
theorem lq_X10_376 : Cond.constantLong RX10 376 (1000000000) ∈ gws := gi5 (List.mem_of_getElem? (i := 91) rfl) rfl
theorem lq_X10_378 : Cond.constantLong RX10 378 (100) ∈ gws := gi5 (List.mem_of_getElem? (i := 92) rfl) rfl
theorem lm_L_166 : Cond.methodLink RL 166 yX10_shares ∈ gws := gi5 (List.mem_of_getElem? (i := 93) rfl) rfl
theorem li_X10_shares : Cond.instanceMethod yX10_shares ∈ gws := gi5 (List.mem_of_getElem? (i := 94) rfl) rfl
theorem ls_X10_shares : Cond.selects yX10_shares.cls yX10_shares yX10_shares ∈ gws := gi5 (List.mem_of_getElem? (i := 95) rfl) rfl
theorem lk_X10_shares : Cond.code yX10_shares cX10_shares 5 (Option.some FieldType.int) ∈ gws := gi5 (List.mem_of_getElem? (i := 96) rfl) rfl
theorem lm_L_170 : Cond.methodLink RL 170 yX10_owners ∈ gws := gi5 (List.mem_of_getElem? (i := 97) rfl) rfl
theorem li_X10_owners : Cond.instanceMethod yX10_owners ∈ gws := gi5 (List.mem_of_getElem? (i := 98) rfl) rfl
theorem ls_X10_owners : Cond.selects yX10_owners.cls yX10_owners yX10_owners ∈ gws := gi5 (List.mem_of_getElem? (i := 99) rfl) rfl
theorem lk_X10_owners : Cond.code yX10_owners cX10_owners 4 (Option.some FieldType.int) ∈ gws := gi5 (List.mem_of_getElem? (i := 100) rfl) rfl
theorem lm_L_174 : Cond.methodLink RL 174 yX10_wish ∈ gws := gi5 (List.mem_of_getElem? (i := 101) rfl) rfl
theorem li_X10_wish : Cond.instanceMethod yX10_wish ∈ gws := gi5 (List.mem_of_getElem? (i := 102) rfl) rfl
theorem ls_X10_wish : Cond.selects yX10_wish.cls yX10_wish yX10_wish ∈ gws := gi5 (List.mem_of_getElem? (i := 103) rfl) rfl
theorem lk_X10_wish : Cond.code yX10_wish cX10_wish 2 (Option.some FieldType.int) ∈ gws := gi5 (List.mem_of_getElem? (i := 104) rfl) rfl
theorem lm_X10_380 : Cond.methodLink RX10 380 yX10_daysToWish ∈ gws := gi5 (List.mem_of_getElem? (i := 105) rfl) rfl
theorem li_X10_daysToWish : Cond.instanceMethod yX10_daysToWish ∈ gws := gi5 (List.mem_of_getElem? (i := 107) rfl) rfl
theorem lk_X10_daysToWish : Cond.code yX10_daysToWish cX10_daysToWish 2 (Option.some FieldType.int) ∈ gws := gi5 (List.mem_of_getElem? (i := 108) rfl) rfl
theorem lm_X10_383 : Cond.methodLink RX10 383 yJ9_floorMod_7cf53 ∈ gws := gi5 (List.mem_of_getElem? (i := 109) rfl) rfl
theorem li_J9_floorMod_7cf53 : Cond.static yJ9_floorMod_7cf53 ∈ gws := gi5 (List.mem_of_getElem? (i := 110) rfl) rfl
theorem lk_J9_floorMod_7cf53 : Cond.code yJ9_floorMod_7cf53 cJ9_floorMod_7cf53 3 (Option.some FieldType.int) ∈ gws := gi5 (List.mem_of_getElem? (i := 111) rfl) rfl
theorem lm_L_178 : Cond.methodLink RL 178 yX10_all ∈ gws := gi5 (List.mem_of_getElem? (i := 112) rfl) rfl
theorem li_X10_all : Cond.instanceMethod yX10_all ∈ gws := gi5 (List.mem_of_getElem? (i := 113) rfl) rfl
theorem ls_X10_all : Cond.selects yX10_all.cls yX10_all yX10_all ∈ gws := gi5 (List.mem_of_getElem? (i := 114) rfl) rfl
theorem lk_X10_all : Cond.code yX10_all cX10_all 2 (Option.some FieldType.int) ∈ gws := gi5 (List.mem_of_getElem? (i := 115) rfl) rfl
theorem lm_X10_386 : Cond.methodLink RX10 386 yX10_firstOfMost ∈ gws := gi5 (List.mem_of_getElem? (i := 116) rfl) rfl
theorem li_X10_firstOfMost : Cond.instanceMethod yX10_firstOfMost ∈ gws := gi5 (List.mem_of_getElem? (i := 118) rfl) rfl
theorem lk_X10_firstOfMost : Cond.code yX10_firstOfMost cX10_firstOfMost 5 (Option.some FieldType.int) ∈ gws := gi5 (List.mem_of_getElem? (i := 119) rfl) rfl
theorem lm_X10_398 : Cond.methodLink RX10 398 yX10_measure ∈ gws := gi5 (List.mem_of_getElem? (i := 120) rfl) rfl
theorem li_X10_measure : Cond.instanceMethod yX10_measure ∈ gws := gi5 (List.mem_of_getElem? (i := 122) rfl) rfl
theorem lk_X10_measure : Cond.code yX10_measure cX10_measure 3 (Option.some FieldType.int) ∈ gws := gi5 (List.mem_of_getElem? (i := 123) rfl) rfl
theorem lm_X10_165 : Cond.methodLink RX10 165 yX4_beardOf ∈ gws := gi5 (List.mem_of_getElem? (i := 124) rfl) rfl
theorem lm_X10_175 : Cond.methodLink RX10 175 yX4_shavedOf ∈ gws := gi5 (List.mem_of_getElem? (i := 125) rfl) rfl
theorem lm_X10_389 : Cond.methodLink RX10 389 yX10_guiltyPeople ∈ gws := gi5 (List.mem_of_getElem? (i := 126) rfl) rfl
theorem li_X10_guiltyPeople : Cond.instanceMethod yX10_guiltyPeople ∈ gws := gi5 (List.mem_of_getElem? (i := 128) rfl) rfl
theorem lk_X10_guiltyPeople : Cond.code yX10_guiltyPeople cX10_guiltyPeople 3 (Option.some FieldType.int) ∈ gws := gi5 (List.mem_of_getElem? (i := 129) rfl) rfl
theorem lm_X10_392 : Cond.methodLink RX10 392 yX10_innocentPeople ∈ gws := gi5 (List.mem_of_getElem? (i := 130) rfl) rfl
theorem li_X10_innocentPeople : Cond.instanceMethod yX10_innocentPeople ∈ gws := gi5 (List.mem_of_getElem? (i := 132) rfl) rfl
theorem lk_X10_innocentPeople : Cond.code yX10_innocentPeople cX10_innocentPeople 3 (Option.some FieldType.int) ∈ gws := gi5 (List.mem_of_getElem? (i := 133) rfl) rfl
theorem lm_X10_395 : Cond.methodLink RX10 395 yX10_servedPeople ∈ gws := gi5 (List.mem_of_getElem? (i := 134) rfl) rfl
theorem li_X10_servedPeople : Cond.instanceMethod yX10_servedPeople ∈ gws := gi5 (List.mem_of_getElem? (i := 136) rfl) rfl
theorem lk_X10_servedPeople : Cond.code yX10_servedPeople cX10_servedPeople 3 (Option.some FieldType.int) ∈ gws := gi5 (List.mem_of_getElem? (i := 137) rfl) rfl
theorem lm_L_182 : Cond.methodLink RL 182 yX10_image ∈ gws := gi5 (List.mem_of_getElem? (i := 138) rfl) rfl
theorem li_X10_image : Cond.instanceMethod yX10_image ∈ gws := gi5 (List.mem_of_getElem? (i := 139) rfl) rfl
theorem ls_X10_image : Cond.selects yX10_image.cls yX10_image yX10_image ∈ gws := gi5 (List.mem_of_getElem? (i := 140) rfl) rfl
theorem lk_X10_image : Cond.code yX10_image cX10_image 1 (Option.some FieldType.int) ∈ gws := gi5 (List.mem_of_getElem? (i := 141) rfl) rfl
theorem lm_L_186 : Cond.methodLink RL 186 yX10_back ∈ gws := gi5 (List.mem_of_getElem? (i := 142) rfl) rfl
theorem li_X10_back : Cond.instanceMethod yX10_back ∈ gws := gi5 (List.mem_of_getElem? (i := 143) rfl) rfl
theorem ls_X10_back : Cond.selects yX10_back.cls yX10_back yX10_back ∈ gws := gi5 (List.mem_of_getElem? (i := 144) rfl) rfl
theorem lk_X10_back : Cond.code yX10_back cX10_back 1 (Option.some FieldType.int) ∈ gws := gi5 (List.mem_of_getElem? (i := 145) rfl) rfl
theorem lm_L_190 : Cond.methodLink RL 190 yX10_count ∈ gws := gi5 (List.mem_of_getElem? (i := 146) rfl) rfl
theorem li_X10_count : Cond.instanceMethod yX10_count ∈ gws := gi5 (List.mem_of_getElem? (i := 147) rfl) rfl
theorem ls_X10_count : Cond.selects yX10_count.cls yX10_count yX10_count ∈ gws := gi5 (List.mem_of_getElem? (i := 148) rfl) rfl
theorem lk_X10_count : Cond.code yX10_count cX10_count 2 (Option.some FieldType.int) ∈ gws := gi5 (List.mem_of_getElem? (i := 149) rfl) rfl
theorem lm_X10_407 : Cond.methodLink RX10 407 yX10_countOfLife ∈ gws := gi5 (List.mem_of_getElem? (i := 150) rfl) rfl
theorem li_X10_countOfLife : Cond.instanceMethod yX10_countOfLife ∈ gws := gi5 (List.mem_of_getElem? (i := 152) rfl) rfl
theorem lk_X10_countOfLife : Cond.code yX10_countOfLife cX10_countOfLife 2 (Option.some FieldType.int) ∈ gws := gi5 (List.mem_of_getElem? (i := 153) rfl) rfl
theorem lm_L_38 : Cond.methodLink RL 38 yL_person ∈ gws := gi5 (List.mem_of_getElem? (i := 154) rfl) rfl
theorem li_L_person : Cond.static yL_person ∈ gws := gi5 (List.mem_of_getElem? (i := 155) rfl) rfl
theorem lc_L_13 : Cond.classLink RL 13 "java/util/NoSuchElementException" ∈ gws := gi5 (List.mem_of_getElem? (i := 157) rfl) rfl
theorem lm_L_7 : Cond.methodLink RL 7 yX10_person ∈ gws := gi5 (List.mem_of_getElem? (i := 158) rfl) rfl
theorem li_X10_person : Cond.instanceMethod yX10_person ∈ gws := gi5 (List.mem_of_getElem? (i := 159) rfl) rfl
theorem ls_X10_person : Cond.selects yX10_person.cls yX10_person yX10_person ∈ gws := gi5 (List.mem_of_getElem? (i := 160) rfl) rfl
theorem lk_X10_person : Cond.code yX10_person cX10_person 3 (Option.some FieldType.int) ∈ gws := gi5 (List.mem_of_getElem? (i := 161) rfl) rfl
theorem lc_X10_162 : Cond.classLink RX10 162 "java/util/NoSuchElementException" ∈ gws := gi5 (List.mem_of_getElem? (i := 162) rfl) rfl
theorem lo_X10_164 : Cond.methodLink RX10 164 ⟨"java/util/NoSuchElementException", "<init>", "()V"⟩ ∈ gws := gi5 (List.mem_of_getElem? (i := 201) rfl) rfl
theorem lm_X10_178 : Cond.methodLink RX10 178 yX4_went ∈ gws := gi5 (List.mem_of_getElem? (i := 223) rfl) rfl
theorem lc_L_16 : Cond.classLink RL 16 "GuiltyShaveModel" ∈ gws := gi5 (List.mem_of_getElem? (i := 224) rfl) rfl
theorem lt_X11 : Cond.instantiable RX11 47 ∈ gws := gi5 (List.mem_of_getElem? (i := 225) rfl) rfl
theorem lm_L_18 : Cond.methodLink RL 18 yX11_init ∈ gws := gi5 (List.mem_of_getElem? (i := 226) rfl) rfl
theorem li_X11_init : Cond.instanceMethod yX11_init ∈ gws := gi5 (List.mem_of_getElem? (i := 227) rfl) rfl
theorem lk_X11_init : Cond.code yX11_init cX11_init 1 (Option.none : Option FieldType) ∈ gws := gi5 (List.mem_of_getElem? (i := 228) rfl) rfl
theorem lo_X11_3 : Cond.methodLink RX11 3 ⟨"java/lang/Object", "<init>", "()V"⟩ ∈ gws := gi5 (List.mem_of_getElem? (i := 229) rfl) rfl
theorem lf_X11_90 : Cond.fieldLink RX11 90 (TX11 0).1 (TX11 0).2.1 (TX11 0).2.2.1 ∈ gws := gi5 (List.mem_of_getElem? (i := 232) rfl) rfl
theorem lf_X11_9 : Cond.fieldLink RX11 9 (TX11 1).1 (TX11 1).2.1 (TX11 1).2.2.1 ∈ gws := gi5 (List.mem_of_getElem? (i := 233) rfl) rfl
theorem lf_X11_13 : Cond.fieldLink RX11 13 (TX11 2).1 (TX11 2).2.1 (TX11 2).2.2.1 ∈ gws := gi5 (List.mem_of_getElem? (i := 234) rfl) rfl
theorem lf_X11_16 : Cond.fieldLink RX11 16 (TX11 3).1 (TX11 3).2.1 (TX11 3).2.2.1 ∈ gws := gi5 (List.mem_of_getElem? (i := 235) rfl) rfl
theorem lf_X11_20 : Cond.fieldLink RX11 20 (TX11 4).1 (TX11 4).2.1 (TX11 4).2.2.1 ∈ gws := gi5 (List.mem_of_getElem? (i := 236) rfl) rfl
theorem lf_X11_23 : Cond.fieldLink RX11 23 (TX11 5).1 (TX11 5).2.1 (TX11 5).2.2.1 ∈ gws := gi5 (List.mem_of_getElem? (i := 237) rfl) rfl
theorem lf_X11_103 : Cond.fieldLink RX11 103 (TX11 6).1 (TX11 6).2.1 (TX11 6).2.2.1 ∈ gws := gi5 (List.mem_of_getElem? (i := 238) rfl) rfl
theorem lf_X11_277 : Cond.fieldLink RX11 277 (TX11 7).1 (TX11 7).2.1 (TX11 7).2.2.1 ∈ gws := gi5 (List.mem_of_getElem? (i := 239) rfl) rfl
theorem lf_X11_119 : Cond.fieldLink RX11 119 (TX11 8).1 (TX11 8).2.1 (TX11 8).2.2.1 ∈ gws := gi6 (List.mem_of_getElem? (i := 0) rfl) rfl
theorem lf_X11_116 : Cond.fieldLink RX11 116 (TX11 9).1 (TX11 9).2.1 (TX11 9).2.2.1 ∈ gws := gi6 (List.mem_of_getElem? (i := 1) rfl) rfl
theorem lf_X11_113 : Cond.fieldLink RX11 113 (TX11 10).1 (TX11 10).2.1 (TX11 10).2.2.1 ∈ gws := gi6 (List.mem_of_getElem? (i := 2) rfl) rfl
theorem lf_X11_122 : Cond.fieldLink RX11 122 (TX11 11).1 (TX11 11).2.1 (TX11 11).2.2.1 ∈ gws := gi6 (List.mem_of_getElem? (i := 3) rfl) rfl
theorem lf_X11_125 : Cond.fieldLink RX11 125 (TX11 12).1 (TX11 12).2.1 (TX11 12).2.2.1 ∈ gws := gi6 (List.mem_of_getElem? (i := 4) rfl) rfl
theorem lf_X11_195 : Cond.fieldLink RX11 195 (TX11 13).1 (TX11 13).2.1 (TX11 13).2.2.1 ∈ gws := gi6 (List.mem_of_getElem? (i := 5) rfl) rfl
theorem lf_X11_198 : Cond.fieldLink RX11 198 (TX11 14).1 (TX11 14).2.1 (TX11 14).2.2.1 ∈ gws := gi6 (List.mem_of_getElem? (i := 6) rfl) rfl
theorem lf_X11_28 : Cond.fieldLink RX11 28 (TX11 15).1 (TX11 15).2.1 (TX11 15).2.2.1 ∈ gws := gi6 (List.mem_of_getElem? (i := 7) rfl) rfl
theorem lf_X11_34 : Cond.fieldLink RX11 34 (TX11 16).1 (TX11 16).2.1 (TX11 16).2.2.1 ∈ gws := gi6 (List.mem_of_getElem? (i := 8) rfl) rfl
theorem lf_X11_191 : Cond.fieldLink RX11 191 (TX11 17).1 (TX11 17).2.1 (TX11 17).2.2.1 ∈ gws := gi6 (List.mem_of_getElem? (i := 9) rfl) rfl
theorem lf_X11_37 : Cond.fieldLink RX11 37 (TX11 18).1 (TX11 18).2.1 (TX11 18).2.2.1 ∈ gws := gi6 (List.mem_of_getElem? (i := 10) rfl) rfl
theorem lf_X11_40 : Cond.fieldLink RX11 40 (TX11 19).1 (TX11 19).2.1 (TX11 19).2.2.1 ∈ gws := gi6 (List.mem_of_getElem? (i := 11) rfl) rfl
theorem lf_X11_43 : Cond.fieldLink RX11 43 (TX11 20).1 (TX11 20).2.1 (TX11 20).2.2.1 ∈ gws := gi6 (List.mem_of_getElem? (i := 12) rfl) rfl
theorem lf_X11_46 : Cond.fieldLink RX11 46 (TX11 21).1 (TX11 21).2.1 (TX11 21).2.2.1 ∈ gws := gi6 (List.mem_of_getElem? (i := 13) rfl) rfl
theorem lf_X11_49 : Cond.fieldLink RX11 49 (TX11 22).1 (TX11 22).2.1 (TX11 22).2.2.1 ∈ gws := gi6 (List.mem_of_getElem? (i := 14) rfl) rfl
theorem lf_X11_52 : Cond.fieldLink RX11 52 (TX11 23).1 (TX11 23).2.1 (TX11 23).2.2.1 ∈ gws := gi6 (List.mem_of_getElem? (i := 15) rfl) rfl
theorem lf_X11_55 : Cond.fieldLink RX11 55 (TX11 24).1 (TX11 24).2.1 (TX11 24).2.2.1 ∈ gws := gi6 (List.mem_of_getElem? (i := 16) rfl) rfl
theorem lf_X11_58 : Cond.fieldLink RX11 58 (TX11 25).1 (TX11 25).2.1 (TX11 25).2.2.1 ∈ gws := gi6 (List.mem_of_getElem? (i := 17) rfl) rfl
theorem lf_X11_285 : Cond.fieldLink RX11 285 (TX11 26).1 (TX11 26).2.1 (TX11 26).2.2.1 ∈ gws := gi6 (List.mem_of_getElem? (i := 18) rfl) rfl
theorem lf_X11_288 : Cond.fieldLink RX11 288 (TX11 27).1 (TX11 27).2.1 (TX11 27).2.2.1 ∈ gws := gi6 (List.mem_of_getElem? (i := 19) rfl) rfl
theorem lf_X11_239 : Cond.fieldLink RX11 239 (TX11 28).1 (TX11 28).2.1 (TX11 28).2.2.1 ∈ gws := gi6 (List.mem_of_getElem? (i := 20) rfl) rfl
theorem lf_X11_242 : Cond.fieldLink RX11 242 (TX11 29).1 (TX11 29).2.1 (TX11 29).2.2.1 ∈ gws := gi6 (List.mem_of_getElem? (i := 21) rfl) rfl
theorem lf_X11_280 : Cond.fieldLink RX11 280 (TX11 30).1 (TX11 30).2.1 (TX11 30).2.2.1 ∈ gws := gi6 (List.mem_of_getElem? (i := 22) rfl) rfl
theorem lf_X11_236 : Cond.fieldLink RX11 236 (TX11 31).1 (TX11 31).2.1 (TX11 31).2.2.1 ∈ gws := gi6 (List.mem_of_getElem? (i := 23) rfl) rfl
theorem lf_X11_61 : Cond.fieldLink RX11 61 (TX11 32).1 (TX11 32).2.1 (TX11 32).2.2.1 ∈ gws := gi6 (List.mem_of_getElem? (i := 24) rfl) rfl
theorem lf_X11_64 : Cond.fieldLink RX11 64 (TX11 33).1 (TX11 33).2.1 (TX11 33).2.2.1 ∈ gws := gi6 (List.mem_of_getElem? (i := 25) rfl) rfl
theorem lf_X11_67 : Cond.fieldLink RX11 67 (TX11 34).1 (TX11 34).2.1 (TX11 34).2.2.1 ∈ gws := gi6 (List.mem_of_getElem? (i := 26) rfl) rfl
theorem lf_X11_71 : Cond.fieldLink RX11 71 (TX11 35).1 (TX11 35).2.1 (TX11 35).2.2.1 ∈ gws := gi6 (List.mem_of_getElem? (i := 27) rfl) rfl
theorem lf_X11_74 : Cond.fieldLink RX11 74 (TX11 36).1 (TX11 36).2.1 (TX11 36).2.2.1 ∈ gws := gi6 (List.mem_of_getElem? (i := 28) rfl) rfl
theorem lf_X11_78 : Cond.fieldLink RX11 78 (TX11 37).1 (TX11 37).2.1 (TX11 37).2.2.1 ∈ gws := gi6 (List.mem_of_getElem? (i := 29) rfl) rfl
theorem lf_X11_81 : Cond.fieldLink RX11 81 (TX11 38).1 (TX11 38).2.1 (TX11 38).2.2.1 ∈ gws := gi6 (List.mem_of_getElem? (i := 30) rfl) rfl
theorem lf_X11_294 : Cond.fieldLink RX11 294 (TX11 39).1 (TX11 39).2.1 (TX11 39).2.2.1 ∈ gws := gi6 (List.mem_of_getElem? (i := 31) rfl) rfl
theorem lf_X11_393 : Cond.fieldLink RX11 393 (TX11 40).1 (TX11 40).2.1 (TX11 40).2.2.1 ∈ gws := gi6 (List.mem_of_getElem? (i := 32) rfl) rfl
theorem lf_X11_421 : Cond.fieldLink RX11 421 (TX11 41).1 (TX11 41).2.1 (TX11 41).2.2.1 ∈ gws := gi6 (List.mem_of_getElem? (i := 33) rfl) rfl
theorem lf_X11_424 : Cond.fieldLink RX11 424 (TX11 42).1 (TX11 42).2.1 (TX11 42).2.2.1 ∈ gws := gi6 (List.mem_of_getElem? (i := 34) rfl) rfl
theorem lf_X11_84 : Cond.fieldLink RX11 84 (TX11 43).1 (TX11 43).2.1 (TX11 43).2.2.1 ∈ gws := gi6 (List.mem_of_getElem? (i := 35) rfl) rfl
theorem lf_X11_291 : Cond.fieldLink RX11 291 (TX11 44).1 (TX11 44).2.1 (TX11 44).2.2.1 ∈ gws := gi6 (List.mem_of_getElem? (i := 36) rfl) rfl
theorem lf_X11_87 : Cond.fieldLink RX11 87 (TX11 45).1 (TX11 45).2.1 (TX11 45).2.2.1 ∈ gws := gi6 (List.mem_of_getElem? (i := 37) rfl) rfl
theorem lf_X11_297 : Cond.fieldLink RX11 297 (TX11 46).1 (TX11 46).2.1 (TX11 46).2.2.1 ∈ gws := gi6 (List.mem_of_getElem? (i := 38) rfl) rfl
theorem la_long : Cond.arrayClass .long ∈ gws := gi6 (List.mem_of_getElem? (i := 134) rfl) rfl
theorem lm_L_44 : Cond.methodLink RL 44 yX11_thrown ∈ gws := gi6 (List.mem_of_getElem? (i := 135) rfl) rfl
theorem li_X11_thrown : Cond.instanceMethod yX11_thrown ∈ gws := gi6 (List.mem_of_getElem? (i := 136) rfl) rfl
theorem ls_X11_thrown : Cond.selects yX11_thrown.cls yX11_thrown yX11_thrown ∈ gws := gi6 (List.mem_of_getElem? (i := 137) rfl) rfl
theorem lk_X11_thrown : Cond.code yX11_thrown cX11_thrown 1 (Option.some FieldType.int) ∈ gws := gi6 (List.mem_of_getElem? (i := 138) rfl) rfl
theorem lm_L_23 : Cond.methodLink RL 23 yX11_feed ∈ gws := gi6 (List.mem_of_getElem? (i := 139) rfl) rfl
theorem li_X11_feed : Cond.instanceMethod yX11_feed ∈ gws := gi6 (List.mem_of_getElem? (i := 140) rfl) rfl
theorem ls_X11_feed : Cond.selects yX11_feed.cls yX11_feed yX11_feed ∈ gws := gi6 (List.mem_of_getElem? (i := 141) rfl) rfl
theorem lk_X11_feed : Cond.code yX11_feed cX11_feed 6 (Option.some FieldType.int) ∈ gws := gi6 (List.mem_of_getElem? (i := 142) rfl) rfl
theorem lm_X11_105 : Cond.methodLink RX11 105 yX11_bytesIn ∈ gws := gi6 (List.mem_of_getElem? (i := 143) rfl) rfl
theorem li_X11_bytesIn : Cond.static yX11_bytesIn ∈ gws := gi6 (List.mem_of_getElem? (i := 144) rfl) rfl
theorem lk_X11_bytesIn : Cond.code yX11_bytesIn cX11_bytesIn 3 (Option.some FieldType.int) ∈ gws := gi6 (List.mem_of_getElem? (i := 145) rfl) rfl
theorem lm_X11_109 : Cond.methodLink RX11 109 yX11_put ∈ gws := gi6 (List.mem_of_getElem? (i := 146) rfl) rfl
theorem li_X11_put : Cond.instanceMethod yX11_put ∈ gws := gi6 (List.mem_of_getElem? (i := 148) rfl) rfl
theorem lk_X11_put : Cond.code yX11_put cX11_put 3 (Option.none : Option FieldType) ∈ gws := gi6 (List.mem_of_getElem? (i := 149) rfl) rfl
theorem lm_L_28 : Cond.methodLink RL 28 yX11_end ∈ gws := gi6 (List.mem_of_getElem? (i := 150) rfl) rfl
theorem li_X11_end : Cond.instanceMethod yX11_end ∈ gws := gi6 (List.mem_of_getElem? (i := 151) rfl) rfl
theorem ls_X11_end : Cond.selects yX11_end.cls yX11_end yX11_end ∈ gws := gi6 (List.mem_of_getElem? (i := 152) rfl) rfl
theorem lk_X11_end : Cond.code yX11_end cX11_end 2 (Option.some FieldType.boolean) ∈ gws := gi6 (List.mem_of_getElem? (i := 153) rfl) rfl
theorem lm_L_33 : Cond.methodLink RL 33 yX11_fault ∈ gws := gi6 (List.mem_of_getElem? (i := 154) rfl) rfl
theorem li_X11_fault : Cond.instanceMethod yX11_fault ∈ gws := gi6 (List.mem_of_getElem? (i := 155) rfl) rfl
theorem ls_X11_fault : Cond.selects yX11_fault.cls yX11_fault yX11_fault ∈ gws := gi6 (List.mem_of_getElem? (i := 156) rfl) rfl
theorem lk_X11_fault : Cond.code yX11_fault cX11_fault 2 (Option.some FieldType.int) ∈ gws := gi6 (List.mem_of_getElem? (i := 157) rfl) rfl
theorem lq_X11_266 : Cond.constantLong RX11 266 (2) ∈ gws := gi6 (List.mem_of_getElem? (i := 158) rfl) rfl
theorem lm_X11_211 : Cond.methodLink RX11 211 yX11_isIn ∈ gws := gi6 (List.mem_of_getElem? (i := 159) rfl) rfl
theorem li_X11_isIn : Cond.static yX11_isIn ∈ gws := gi6 (List.mem_of_getElem? (i := 160) rfl) rfl
theorem lk_X11_isIn : Cond.code yX11_isIn cX11_isIn 6 (Option.some FieldType.boolean) ∈ gws := gi6 (List.mem_of_getElem? (i := 161) rfl) rfl
theorem lm_X11_268 : Cond.methodLink RX11 268 yX11_readTown ∈ gws := gi6 (List.mem_of_getElem? (i := 162) rfl) rfl
theorem li_X11_readTown : Cond.instanceMethod yX11_readTown ∈ gws := gi6 (List.mem_of_getElem? (i := 164) rfl) rfl
theorem lk_X11_readTown : Cond.code yX11_readTown cX11_readTown 2 (Option.none : Option FieldType) ∈ gws := gi6 (List.mem_of_getElem? (i := 165) rfl) rfl
theorem lm_X11_201 : Cond.methodLink RX11 201 yX11_starts ∈ gws := gi6 (List.mem_of_getElem? (i := 166) rfl) rfl
theorem li_X11_starts : Cond.instanceMethod yX11_starts ∈ gws := gi6 (List.mem_of_getElem? (i := 168) rfl) rfl
theorem lk_X11_starts : Cond.code yX11_starts cX11_starts 4 (Option.none : Option FieldType) ∈ gws := gi6 (List.mem_of_getElem? (i := 169) rfl) rfl
theorem lm_X11_215 : Cond.methodLink RX11 215 yX11_usual ∈ gws := gi6 (List.mem_of_getElem? (i := 170) rfl) rfl
theorem li_X11_usual : Cond.static yX11_usual ∈ gws := gi6 (List.mem_of_getElem? (i := 171) rfl) rfl
theorem lk_X11_usual : Cond.code yX11_usual cX11_usual 2 (Option.some FieldType.int) ∈ gws := gi6 (List.mem_of_getElem? (i := 172) rfl) rfl
theorem lm_X11_255 : Cond.methodLink RX11 255 yX11_readClause ∈ gws := gi6 (List.mem_of_getElem? (i := 173) rfl) rfl
theorem li_X11_readClause : Cond.instanceMethod yX11_readClause ∈ gws := gi6 (List.mem_of_getElem? (i := 175) rfl) rfl
theorem lk_X11_readClause : Cond.code yX11_readClause cX11_readClause 3 (Option.none : Option FieldType) ∈ gws := gi6 (List.mem_of_getElem? (i := 176) rfl) rfl
theorem lm_X11_132 : Cond.methodLink RX11 132 yX11_look ∈ gws := gi6 (List.mem_of_getElem? (i := 177) rfl) rfl
theorem li_X11_look : Cond.instanceMethod yX11_look ∈ gws := gi6 (List.mem_of_getElem? (i := 179) rfl) rfl
theorem lk_X11_look : Cond.code yX11_look cX11_look 1 (Option.some FieldType.int) ∈ gws := gi6 (List.mem_of_getElem? (i := 180) rfl) rfl
theorem lm_X11_128 : Cond.methodLink RX11 128 yX11_fails ∈ gws := gi6 (List.mem_of_getElem? (i := 181) rfl) rfl
theorem li_X11_fails : Cond.instanceMethod yX11_fails ∈ gws := gi6 (List.mem_of_getElem? (i := 183) rfl) rfl
theorem lk_X11_fails : Cond.code yX11_fails cX11_fails 1 (Option.some FieldType.boolean) ∈ gws := gi6 (List.mem_of_getElem? (i := 184) rfl) rfl
theorem lm_X11_247 : Cond.methodLink RX11 247 yX11_readItems ∈ gws := gi6 (List.mem_of_getElem? (i := 186) rfl) rfl
theorem li_X11_readItems : Cond.instanceMethod yX11_readItems ∈ gws := gi6 (List.mem_of_getElem? (i := 188) rfl) rfl
theorem lk_X11_readItems : Cond.code yX11_readItems cX11_readItems 7 (Option.none : Option FieldType) ∈ gws := gi6 (List.mem_of_getElem? (i := 189) rfl) rfl
theorem lm_X11_93 : Cond.methodLink RX11 93 yJ0_length_8abf5 ∈ gws := gi6 (List.mem_of_getElem? (i := 190) rfl) rfl
theorem lm_X11_219 : Cond.methodLink RX11 219 yX11_spotOf ∈ gws := gi6 (List.mem_of_getElem? (i := 191) rfl) rfl
theorem li_X11_spotOf : Cond.static yX11_spotOf ∈ gws := gi6 (List.mem_of_getElem? (i := 192) rfl) rfl
theorem lk_X11_spotOf : Cond.code yX11_spotOf cX11_spotOf 3 (Option.some FieldType.int) ∈ gws := gi6 (List.mem_of_getElem? (i := 193) rfl) rfl
theorem lm_X11_99 : Cond.methodLink RX11 99 yJ0_charAt_5068e ∈ gws := gi6 (List.mem_of_getElem? (i := 194) rfl) rfl
theorem lm_X11_223 : Cond.methodLink RX11 223 yX11_has ∈ gws := gi6 (List.mem_of_getElem? (i := 195) rfl) rfl
theorem li_X11_has : Cond.static yX11_has ∈ gws := gi6 (List.mem_of_getElem? (i := 196) rfl) rfl
theorem lk_X11_has : Cond.code yX11_has cX11_has 2 (Option.some FieldType.boolean) ∈ gws := gi6 (List.mem_of_getElem? (i := 197) rfl) rfl
theorem lm_X11_227 : Cond.methodLink RX11 227 yX11_leastOf ∈ gws := gi6 (List.mem_of_getElem? (i := 198) rfl) rfl
theorem li_X11_leastOf : Cond.static yX11_leastOf ∈ gws := gi6 (List.mem_of_getElem? (i := 199) rfl) rfl
theorem lk_X11_leastOf : Cond.code yX11_leastOf cX11_leastOf 2 (Option.some FieldType.int) ∈ gws := gi6 (List.mem_of_getElem? (i := 200) rfl) rfl
theorem lm_X11_230 : Cond.methodLink RX11 230 yX11_mostOf ∈ gws := gi6 (List.mem_of_getElem? (i := 201) rfl) rfl
theorem li_X11_mostOf : Cond.static yX11_mostOf ∈ gws := gi6 (List.mem_of_getElem? (i := 202) rfl) rfl
theorem lk_X11_mostOf : Cond.code yX11_mostOf cX11_mostOf 2 (Option.some FieldType.int) ∈ gws := gi6 (List.mem_of_getElem? (i := 203) rfl) rfl
theorem lm_X11_233 : Cond.methodLink RX11 233 yX11_number ∈ gws := gi6 (List.mem_of_getElem? (i := 204) rfl) rfl
theorem li_X11_number : Cond.instanceMethod yX11_number ∈ gws := gi6 (List.mem_of_getElem? (i := 206) rfl) rfl
theorem lk_X11_number : Cond.code yX11_number cX11_number 5 (Option.some FieldType.int) ∈ gws := gi6 (List.mem_of_getElem? (i := 207) rfl) rfl
theorem lm_X11_162 : Cond.methodLink RX11 162 yX11_isDigit ∈ gws := gi6 (List.mem_of_getElem? (i := 208) rfl) rfl
theorem li_X11_isDigit : Cond.instanceMethod yX11_isDigit ∈ gws := gi6 (List.mem_of_getElem? (i := 210) rfl) rfl
theorem lk_X11_isDigit : Cond.code yX11_isDigit cX11_isDigit 1 (Option.some FieldType.boolean) ∈ gws := gi6 (List.mem_of_getElem? (i := 211) rfl) rfl
theorem lm_X11_208 : Cond.methodLink RX11 208 yX11_here ∈ gws := gi6 (List.mem_of_getElem? (i := 212) rfl) rfl
theorem li_X11_here : Cond.instanceMethod yX11_here ∈ gws := gi6 (List.mem_of_getElem? (i := 214) rfl) rfl
theorem lk_X11_here : Cond.code yX11_here cX11_here 1 (Option.some FieldType.int) ∈ gws := gi6 (List.mem_of_getElem? (i := 215) rfl) rfl
theorem lm_X11_271 : Cond.methodLink RX11 271 yX11_goThrough ∈ gws := gi6 (List.mem_of_getElem? (i := 218) rfl) rfl
theorem li_X11_goThrough : Cond.instanceMethod yX11_goThrough ∈ gws := gi6 (List.mem_of_getElem? (i := 220) rfl) rfl
theorem lk_X11_goThrough : Cond.code yX11_goThrough cX11_goThrough 4 (Option.none : Option FieldType) ∈ gws := gi6 (List.mem_of_getElem? (i := 221) rfl) rfl
theorem lm_X11_205 : Cond.methodLink RX11 205 yX11_clause ∈ gws := gi6 (List.mem_of_getElem? (i := 222) rfl) rfl
theorem li_X11_clause : Cond.instanceMethod yX11_clause ∈ gws := gi6 (List.mem_of_getElem? (i := 224) rfl) rfl
theorem lk_X11_clause : Cond.code yX11_clause cX11_clause 5 (Option.none : Option FieldType) ∈ gws := gi6 (List.mem_of_getElem? (i := 225) rfl) rfl
theorem lm_X11_148 : Cond.methodLink RX11 148 yX11_isAmong ∈ gws := gi6 (List.mem_of_getElem? (i := 226) rfl) rfl
theorem li_X11_isAmong : Cond.static yX11_isAmong ∈ gws := gi6 (List.mem_of_getElem? (i := 227) rfl) rfl
theorem lk_X11_isAmong : Cond.code yX11_isAmong cX11_isAmong 3 (Option.some FieldType.boolean) ∈ gws := gi6 (List.mem_of_getElem? (i := 228) rfl) rfl
theorem lm_X11_158 : Cond.methodLink RX11 158 yX11_takes ∈ gws := gi6 (List.mem_of_getElem? (i := 229) rfl) rfl
theorem li_X11_takes : Cond.instanceMethod yX11_takes ∈ gws := gi6 (List.mem_of_getElem? (i := 231) rfl) rfl
theorem lk_X11_takes : Cond.code yX11_takes cX11_takes 2 (Option.some FieldType.boolean) ∈ gws := gi6 (List.mem_of_getElem? (i := 232) rfl) rfl
theorem lm_X11_181 : Cond.methodLink RX11 181 yX11_condition ∈ gws := gi6 (List.mem_of_getElem? (i := 233) rfl) rfl
theorem li_X11_condition : Cond.instanceMethod yX11_condition ∈ gws := gi6 (List.mem_of_getElem? (i := 235) rfl) rfl
theorem lk_X11_condition : Cond.code yX11_condition cX11_condition 5 (Option.some FieldType.boolean) ∈ gws := gi6 (List.mem_of_getElem? (i := 236) rfl) rfl
theorem lm_X11_188 : Cond.methodLink RX11 188 yX11_part ∈ gws := gi6 (List.mem_of_getElem? (i := 237) rfl) rfl
theorem li_X11_part : Cond.instanceMethod yX11_part ∈ gws := gi6 (List.mem_of_getElem? (i := 239) rfl) rfl
theorem lk_X11_part : Cond.code yX11_part cX11_part 5 (Option.some FieldType.boolean) ∈ gws := gi7 (List.mem_of_getElem? (i := 0) rfl) rfl
theorem lm_X11_185 : Cond.methodLink RX11 185 yX11_compares ∈ gws := gi7 (List.mem_of_getElem? (i := 1) rfl) rfl
theorem li_X11_compares : Cond.instanceMethod yX11_compares ∈ gws := gi7 (List.mem_of_getElem? (i := 3) rfl) rfl
theorem lk_X11_compares : Cond.code yX11_compares cX11_compares 6 (Option.some FieldType.boolean) ∈ gws := gi7 (List.mem_of_getElem? (i := 4) rfl) rfl
theorem lm_X11_155 : Cond.methodLink RX11 155 yX11_sum ∈ gws := gi7 (List.mem_of_getElem? (i := 5) rfl) rfl
theorem li_X11_sum : Cond.instanceMethod yX11_sum ∈ gws := gi7 (List.mem_of_getElem? (i := 7) rfl) rfl
theorem lk_X11_sum : Cond.code yX11_sum cX11_sum 5 (Option.some FieldType.int) ∈ gws := gi7 (List.mem_of_getElem? (i := 8) rfl) rfl
theorem lm_X11_172 : Cond.methodLink RX11 172 yX11_term ∈ gws := gi7 (List.mem_of_getElem? (i := 9) rfl) rfl
theorem li_X11_term : Cond.instanceMethod yX11_term ∈ gws := gi7 (List.mem_of_getElem? (i := 11) rfl) rfl
theorem lk_X11_term : Cond.code yX11_term cX11_term 5 (Option.some FieldType.int) ∈ gws := gi7 (List.mem_of_getElem? (i := 12) rfl) rfl
theorem lm_X11_165 : Cond.methodLink RX11 165 yX11_atom ∈ gws := gi7 (List.mem_of_getElem? (i := 13) rfl) rfl
theorem li_X11_atom : Cond.instanceMethod yX11_atom ∈ gws := gi7 (List.mem_of_getElem? (i := 15) rfl) rfl
theorem lk_X11_atom : Cond.code yX11_atom cX11_atom 4 (Option.some FieldType.int) ∈ gws := gi7 (List.mem_of_getElem? (i := 16) rfl) rfl
theorem lm_X11_152 : Cond.methodLink RX11 152 yX11_goesIn ∈ gws := gi7 (List.mem_of_getElem? (i := 17) rfl) rfl
theorem li_X11_goesIn : Cond.instanceMethod yX11_goesIn ∈ gws := gi7 (List.mem_of_getElem? (i := 19) rfl) rfl
theorem lk_X11_goesIn : Cond.code yX11_goesIn cX11_goesIn 1 (Option.some FieldType.boolean) ∈ gws := gi7 (List.mem_of_getElem? (i := 20) rfl) rfl
theorem lm_X11_168 : Cond.methodLink RX11 168 yX11_within ∈ gws := gi7 (List.mem_of_getElem? (i := 21) rfl) rfl
theorem li_X11_within : Cond.static yX11_within ∈ gws := gi7 (List.mem_of_getElem? (i := 22) rfl) rfl
theorem lk_X11_within : Cond.code yX11_within cX11_within 2 (Option.some FieldType.int) ∈ gws := gi7 (List.mem_of_getElem? (i := 23) rfl) rfl
theorem lq_X11_135 : Cond.constantLong RX11 135 (-1000000) ∈ gws := gi7 (List.mem_of_getElem? (i := 24) rfl) rfl
theorem lq_X11_137 : Cond.constantLong RX11 137 (1000000) ∈ gws := gi7 (List.mem_of_getElem? (i := 25) rfl) rfl
theorem lm_X11_139 : Cond.methodLink RX11 139 yJ9_min_f86c9 ∈ gws := gi7 (List.mem_of_getElem? (i := 26) rfl) rfl
theorem li_J9_min_f86c9 : Cond.static yJ9_min_f86c9 ∈ gws := gi7 (List.mem_of_getElem? (i := 27) rfl) rfl
theorem lk_J9_min_f86c9 : Cond.code yJ9_min_f86c9 cJ9_min_f86c9 4 (Option.some FieldType.long) ∈ gws := gi7 (List.mem_of_getElem? (i := 28) rfl) rfl
theorem lm_X11_145 : Cond.methodLink RX11 145 yJ9_max_f86c9 ∈ gws := gi7 (List.mem_of_getElem? (i := 29) rfl) rfl
theorem li_J9_max_f86c9 : Cond.static yJ9_max_f86c9 ∈ gws := gi7 (List.mem_of_getElem? (i := 30) rfl) rfl
theorem lk_J9_max_f86c9 : Cond.code yJ9_max_f86c9 cJ9_max_f86c9 4 (Option.some FieldType.long) ∈ gws := gi7 (List.mem_of_getElem? (i := 31) rfl) rfl
theorem lm_X11_175 : Cond.methodLink RX11 175 yX11_isSign ∈ gws := gi7 (List.mem_of_getElem? (i := 32) rfl) rfl
theorem li_X11_isSign : Cond.static yX11_isSign ∈ gws := gi7 (List.mem_of_getElem? (i := 33) rfl) rfl
theorem lk_X11_isSign : Cond.code yX11_isSign cX11_isSign 1 (Option.some FieldType.boolean) ∈ gws := gi7 (List.mem_of_getElem? (i := 34) rfl) rfl
theorem lm_X11_178 : Cond.methodLink RX11 178 yX11_unit ∈ gws := gi7 (List.mem_of_getElem? (i := 35) rfl) rfl
theorem li_X11_unit : Cond.instanceMethod yX11_unit ∈ gws := gi7 (List.mem_of_getElem? (i := 37) rfl) rfl
theorem lk_X11_unit : Cond.code yX11_unit cX11_unit 3 (Option.some FieldType.boolean) ∈ gws := gi7 (List.mem_of_getElem? (i := 38) rfl) rfl
theorem lm_X11_274 : Cond.methodLink RX11 274 yX11_readPlan ∈ gws := gi7 (List.mem_of_getElem? (i := 39) rfl) rfl
theorem li_X11_readPlan : Cond.instanceMethod yX11_readPlan ∈ gws := gi7 (List.mem_of_getElem? (i := 41) rfl) rfl
theorem lk_X11_readPlan : Cond.code yX11_readPlan cX11_readPlan 3 (Option.none : Option FieldType) ∈ gws := gi7 (List.mem_of_getElem? (i := 42) rfl) rfl
theorem lm_X11_263 : Cond.methodLink RX11 263 yX11_readStep ∈ gws := gi7 (List.mem_of_getElem? (i := 43) rfl) rfl
theorem li_X11_readStep : Cond.instanceMethod yX11_readStep ∈ gws := gi7 (List.mem_of_getElem? (i := 45) rfl) rfl
theorem lk_X11_readStep : Cond.code yX11_readStep cX11_readStep 3 (Option.none : Option FieldType) ∈ gws := gi7 (List.mem_of_getElem? (i := 46) rfl) rfl
theorem lm_X11_260 : Cond.methodLink RX11 260 yX11_digit ∈ gws := gi7 (List.mem_of_getElem? (i := 48) rfl) rfl
theorem li_X11_digit : Cond.instanceMethod yX11_digit ∈ gws := gi7 (List.mem_of_getElem? (i := 50) rfl) rfl
theorem lk_X11_digit : Cond.code yX11_digit cX11_digit 2 (Option.some FieldType.int) ∈ gws := gi7 (List.mem_of_getElem? (i := 51) rfl) rfl
theorem lm_L_37 : Cond.methodLink RL 37 yX11_text ∈ gws := gi7 (List.mem_of_getElem? (i := 52) rfl) rfl
theorem li_X11_text : Cond.instanceMethod yX11_text ∈ gws := gi7 (List.mem_of_getElem? (i := 53) rfl) rfl
theorem ls_X11_text : Cond.selects yX11_text.cls yX11_text yX11_text ∈ gws := gi7 (List.mem_of_getElem? (i := 54) rfl) rfl
theorem lk_X11_text : Cond.code yX11_text cX11_text 4 (Option.some FieldType.int) ∈ gws := gi7 (List.mem_of_getElem? (i := 55) rfl) rfl
theorem lm_X11_283 : Cond.methodLink RX11 283 yX11_fault ∈ gws := gi7 (List.mem_of_getElem? (i := 56) rfl) rfl
theorem lm_L_43 : Cond.methodLink RL 43 yX11_person ∈ gws := gi7 (List.mem_of_getElem? (i := 57) rfl) rfl
theorem li_X11_person : Cond.instanceMethod yX11_person ∈ gws := gi7 (List.mem_of_getElem? (i := 58) rfl) rfl
theorem ls_X11_person : Cond.selects yX11_person.cls yX11_person yX11_person ∈ gws := gi7 (List.mem_of_getElem? (i := 59) rfl) rfl
theorem lk_X11_person : Cond.code yX11_person cX11_person 3 (Option.some FieldType.int) ∈ gws := gi7 (List.mem_of_getElem? (i := 60) rfl) rfl
theorem lm_X11_342 : Cond.methodLink RX11 342 yX11_isPerson ∈ gws := gi7 (List.mem_of_getElem? (i := 61) rfl) rfl
theorem li_X11_isPerson : Cond.instanceMethod yX11_isPerson ∈ gws := gi7 (List.mem_of_getElem? (i := 63) rfl) rfl
theorem lk_X11_isPerson : Cond.code yX11_isPerson cX11_isPerson 2 (Option.some FieldType.boolean) ∈ gws := gi7 (List.mem_of_getElem? (i := 64) rfl) rfl
theorem lq_X11_345 : Cond.constantLong RX11 345 (4) ∈ gws := gi7 (List.mem_of_getElem? (i := 65) rfl) rfl
theorem lm_L_51 : Cond.methodLink RL 51 yX11_deed ∈ gws := gi7 (List.mem_of_getElem? (i := 66) rfl) rfl
theorem li_X11_deed : Cond.instanceMethod yX11_deed ∈ gws := gi7 (List.mem_of_getElem? (i := 67) rfl) rfl
theorem ls_X11_deed : Cond.selects yX11_deed.cls yX11_deed yX11_deed ∈ gws := gi7 (List.mem_of_getElem? (i := 68) rfl) rfl
theorem lk_X11_deed : Cond.code yX11_deed cX11_deed 3 (Option.some FieldType.int) ∈ gws := gi7 (List.mem_of_getElem? (i := 69) rfl) rfl
theorem lm_X11_347 : Cond.methodLink RX11 347 yX11_isDeed ∈ gws := gi7 (List.mem_of_getElem? (i := 70) rfl) rfl
theorem li_X11_isDeed : Cond.instanceMethod yX11_isDeed ∈ gws := gi7 (List.mem_of_getElem? (i := 72) rfl) rfl
theorem lk_X11_isDeed : Cond.code yX11_isDeed cX11_isDeed 2 (Option.some FieldType.boolean) ∈ gws := gi7 (List.mem_of_getElem? (i := 73) rfl) rfl
theorem lm_L_55 : Cond.methodLink RL 55 yX11_left ∈ gws := gi7 (List.mem_of_getElem? (i := 74) rfl) rfl
theorem li_X11_left : Cond.instanceMethod yX11_left ∈ gws := gi7 (List.mem_of_getElem? (i := 75) rfl) rfl
theorem ls_X11_left : Cond.selects yX11_left.cls yX11_left yX11_left ∈ gws := gi7 (List.mem_of_getElem? (i := 76) rfl) rfl
theorem lk_X11_left : Cond.code yX11_left cX11_left 3 (Option.some FieldType.int) ∈ gws := gi7 (List.mem_of_getElem? (i := 77) rfl) rfl
theorem lm_X11_300 : Cond.methodLink RX11 300 yX11_left0 ∈ gws := gi7 (List.mem_of_getElem? (i := 78) rfl) rfl
theorem li_X11_left0 : Cond.static yX11_left0 ∈ gws := gi7 (List.mem_of_getElem? (i := 79) rfl) rfl
theorem lk_X11_left0 : Cond.code yX11_left0 cX11_left0 3 (Option.some FieldType.int) ∈ gws := gi7 (List.mem_of_getElem? (i := 80) rfl) rfl
theorem lm_L_59 : Cond.methodLink RL 59 yX11_law ∈ gws := gi7 (List.mem_of_getElem? (i := 81) rfl) rfl
theorem li_X11_law : Cond.instanceMethod yX11_law ∈ gws := gi7 (List.mem_of_getElem? (i := 82) rfl) rfl
theorem ls_X11_law : Cond.selects yX11_law.cls yX11_law yX11_law ∈ gws := gi7 (List.mem_of_getElem? (i := 83) rfl) rfl
theorem lk_X11_law : Cond.code yX11_law cX11_law 2 (Option.some FieldType.boolean) ∈ gws := gi7 (List.mem_of_getElem? (i := 84) rfl) rfl
theorem lm_L_63 : Cond.methodLink RL 63 yX11_rumour ∈ gws := gi7 (List.mem_of_getElem? (i := 85) rfl) rfl
theorem li_X11_rumour : Cond.instanceMethod yX11_rumour ∈ gws := gi7 (List.mem_of_getElem? (i := 86) rfl) rfl
theorem ls_X11_rumour : Cond.selects yX11_rumour.cls yX11_rumour yX11_rumour ∈ gws := gi7 (List.mem_of_getElem? (i := 87) rfl) rfl
theorem lk_X11_rumour : Cond.code yX11_rumour cX11_rumour 2 (Option.some FieldType.boolean) ∈ gws := gi7 (List.mem_of_getElem? (i := 88) rfl) rfl
theorem lq_X11_308 : Cond.constantLong RX11 308 (9) ∈ gws := gi7 (List.mem_of_getElem? (i := 89) rfl) rfl
theorem lm_L_67 : Cond.methodLink RL 67 yX11_commit ∈ gws := gi7 (List.mem_of_getElem? (i := 90) rfl) rfl
theorem li_X11_commit : Cond.instanceMethod yX11_commit ∈ gws := gi7 (List.mem_of_getElem? (i := 91) rfl) rfl
theorem ls_X11_commit : Cond.selects yX11_commit.cls yX11_commit yX11_commit ∈ gws := gi7 (List.mem_of_getElem? (i := 92) rfl) rfl
theorem lk_X11_commit : Cond.code yX11_commit cX11_commit 3 (Option.some FieldType.int) ∈ gws := gi7 (List.mem_of_getElem? (i := 93) rfl) rfl
theorem lm_X11_350 : Cond.methodLink RX11 350 yX11_canCommit ∈ gws := gi7 (List.mem_of_getElem? (i := 94) rfl) rfl
theorem li_X11_canCommit : Cond.instanceMethod yX11_canCommit ∈ gws := gi7 (List.mem_of_getElem? (i := 96) rfl) rfl
theorem lk_X11_canCommit : Cond.code yX11_canCommit cX11_canCommit 4 (Option.some FieldType.boolean) ∈ gws := gi7 (List.mem_of_getElem? (i := 97) rfl) rfl
theorem lm_X11_354 : Cond.methodLink RX11 354 yX11_remember ∈ gws := gi7 (List.mem_of_getElem? (i := 98) rfl) rfl
theorem li_X11_remember : Cond.instanceMethod yX11_remember ∈ gws := gi7 (List.mem_of_getElem? (i := 100) rfl) rfl
theorem lk_X11_remember : Cond.code yX11_remember cX11_remember 2 (Option.none : Option FieldType) ∈ gws := gi7 (List.mem_of_getElem? (i := 101) rfl) rfl
theorem lm_X11_357 : Cond.methodLink RX11 357 yX11_commits ∈ gws := gi7 (List.mem_of_getElem? (i := 102) rfl) rfl
theorem li_X11_commits : Cond.instanceMethod yX11_commits ∈ gws := gi7 (List.mem_of_getElem? (i := 104) rfl) rfl
theorem lk_X11_commits : Cond.code yX11_commits cX11_commits 4 (Option.none : Option FieldType) ∈ gws := gi7 (List.mem_of_getElem? (i := 105) rfl) rfl
theorem lm_X11_316 : Cond.methodLink RX11 316 yJ9_min_7cf53 ∈ gws := gi7 (List.mem_of_getElem? (i := 106) rfl) rfl
theorem lm_X11_361 : Cond.methodLink RX11 361 yX11_guiltOf ∈ gws := gi7 (List.mem_of_getElem? (i := 107) rfl) rfl
theorem li_X11_guiltOf : Cond.instanceMethod yX11_guiltOf ∈ gws := gi7 (List.mem_of_getElem? (i := 109) rfl) rfl
theorem lk_X11_guiltOf : Cond.code yX11_guiltOf cX11_guiltOf 2 (Option.some FieldType.int) ∈ gws := gi7 (List.mem_of_getElem? (i := 110) rfl) rfl
theorem lm_X11_335 : Cond.methodLink RX11 335 yX11_setOf ∈ gws := gi7 (List.mem_of_getElem? (i := 111) rfl) rfl
theorem li_X11_setOf : Cond.instanceMethod yX11_setOf ∈ gws := gi7 (List.mem_of_getElem? (i := 113) rfl) rfl
theorem lk_X11_setOf : Cond.code yX11_setOf cX11_setOf 5 (Option.some FieldType.int) ∈ gws := gi7 (List.mem_of_getElem? (i := 114) rfl) rfl
theorem lm_X11_324 : Cond.methodLink RX11 324 yX11_sumOf ∈ gws := gi7 (List.mem_of_getElem? (i := 115) rfl) rfl
theorem li_X11_sumOf : Cond.instanceMethod yX11_sumOf ∈ gws := gi7 (List.mem_of_getElem? (i := 117) rfl) rfl
theorem lk_X11_sumOf : Cond.code yX11_sumOf cX11_sumOf 5 (Option.some FieldType.int) ∈ gws := gi7 (List.mem_of_getElem? (i := 118) rfl) rfl
theorem lm_L_72 : Cond.methodLink RL 72 yX11_sell ∈ gws := gi7 (List.mem_of_getElem? (i := 119) rfl) rfl
theorem li_X11_sell : Cond.instanceMethod yX11_sell ∈ gws := gi7 (List.mem_of_getElem? (i := 120) rfl) rfl
theorem ls_X11_sell : Cond.selects yX11_sell.cls yX11_sell yX11_sell ∈ gws := gi7 (List.mem_of_getElem? (i := 121) rfl) rfl
theorem lk_X11_sell : Cond.code yX11_sell cX11_sell 4 (Option.some FieldType.int) ∈ gws := gi7 (List.mem_of_getElem? (i := 122) rfl) rfl
theorem lm_L_76 : Cond.methodLink RL 76 yX11_atone ∈ gws := gi7 (List.mem_of_getElem? (i := 123) rfl) rfl
theorem li_X11_atone : Cond.instanceMethod yX11_atone ∈ gws := gi7 (List.mem_of_getElem? (i := 124) rfl) rfl
theorem ls_X11_atone : Cond.selects yX11_atone.cls yX11_atone yX11_atone ∈ gws := gi7 (List.mem_of_getElem? (i := 125) rfl) rfl
theorem lk_X11_atone : Cond.code yX11_atone cX11_atone 3 (Option.some FieldType.int) ∈ gws := gi7 (List.mem_of_getElem? (i := 126) rfl) rfl
theorem lm_X11_364 : Cond.methodLink RX11 364 yX11_canAtone ∈ gws := gi7 (List.mem_of_getElem? (i := 127) rfl) rfl
theorem li_X11_canAtone : Cond.instanceMethod yX11_canAtone ∈ gws := gi7 (List.mem_of_getElem? (i := 129) rfl) rfl
theorem lk_X11_canAtone : Cond.code yX11_canAtone cX11_canAtone 4 (Option.some FieldType.boolean) ∈ gws := gi7 (List.mem_of_getElem? (i := 130) rfl) rfl
theorem lm_X11_367 : Cond.methodLink RX11 367 yX11_atones ∈ gws := gi7 (List.mem_of_getElem? (i := 131) rfl) rfl
theorem li_X11_atones : Cond.static yX11_atones ∈ gws := gi7 (List.mem_of_getElem? (i := 132) rfl) rfl
theorem lk_X11_atones : Cond.code yX11_atones cX11_atones 3 (Option.none : Option FieldType) ∈ gws := gi7 (List.mem_of_getElem? (i := 133) rfl) rfl
theorem lm_L_80 : Cond.methodLink RL 80 yX11_shave ∈ gws := gi7 (List.mem_of_getElem? (i := 134) rfl) rfl
theorem li_X11_shave : Cond.instanceMethod yX11_shave ∈ gws := gi7 (List.mem_of_getElem? (i := 135) rfl) rfl
theorem ls_X11_shave : Cond.selects yX11_shave.cls yX11_shave yX11_shave ∈ gws := gi7 (List.mem_of_getElem? (i := 136) rfl) rfl
theorem lk_X11_shave : Cond.code yX11_shave cX11_shave 2 (Option.some FieldType.int) ∈ gws := gi7 (List.mem_of_getElem? (i := 137) rfl) rfl
theorem lm_X11_374 : Cond.methodLink RX11 374 yX11_canGo ∈ gws := gi7 (List.mem_of_getElem? (i := 138) rfl) rfl
theorem li_X11_canGo : Cond.instanceMethod yX11_canGo ∈ gws := gi7 (List.mem_of_getElem? (i := 140) rfl) rfl
theorem lk_X11_canGo : Cond.code yX11_canGo cX11_canGo 3 (Option.some FieldType.boolean) ∈ gws := gi7 (List.mem_of_getElem? (i := 141) rfl) rfl
theorem lm_X11_377 : Cond.methodLink RX11 377 yX11_goes ∈ gws := gi7 (List.mem_of_getElem? (i := 142) rfl) rfl
theorem li_X11_goes : Cond.instanceMethod yX11_goes ∈ gws := gi7 (List.mem_of_getElem? (i := 144) rfl) rfl
theorem lk_X11_goes : Cond.code yX11_goes cX11_goes 4 (Option.some FieldType.int) ∈ gws := gi7 (List.mem_of_getElem? (i := 145) rfl) rfl
theorem lm_X11_370 : Cond.methodLink RX11 370 yX11_isGuilty ∈ gws := gi7 (List.mem_of_getElem? (i := 146) rfl) rfl
theorem li_X11_isGuilty : Cond.instanceMethod yX11_isGuilty ∈ gws := gi7 (List.mem_of_getElem? (i := 148) rfl) rfl
theorem lk_X11_isGuilty : Cond.code yX11_isGuilty cX11_isGuilty 3 (Option.some FieldType.boolean) ∈ gws := gi7 (List.mem_of_getElem? (i := 149) rfl) rfl
theorem lm_X11_339 : Cond.methodLink RX11 339 yX11_readWith ∈ gws := gi7 (List.mem_of_getElem? (i := 150) rfl) rfl
theorem li_X11_readWith : Cond.instanceMethod yX11_readWith ∈ gws := gi7 (List.mem_of_getElem? (i := 152) rfl) rfl
theorem lk_X11_readWith : Cond.code yX11_readWith cX11_readWith 4 (Option.some FieldType.int) ∈ gws := gi7 (List.mem_of_getElem? (i := 153) rfl) rfl
theorem lm_X11_327 : Cond.methodLink RX11 327 yJ6_bitCount_0f7a4 ∈ gws := gi7 (List.mem_of_getElem? (i := 154) rfl) rfl
theorem lm_X11_332 : Cond.methodLink RX11 332 yX11_readBy ∈ gws := gi7 (List.mem_of_getElem? (i := 155) rfl) rfl
theorem li_X11_readBy : Cond.instanceMethod yX11_readBy ∈ gws := gi7 (List.mem_of_getElem? (i := 157) rfl) rfl
theorem lk_X11_readBy : Cond.code yX11_readBy cX11_readBy 8 (Option.some FieldType.int) ∈ gws := gi7 (List.mem_of_getElem? (i := 158) rfl) rfl
theorem lm_X11_318 : Cond.methodLink RX11 318 yJ9_max_7cf53 ∈ gws := gi7 (List.mem_of_getElem? (i := 159) rfl) rfl
theorem lm_X11_320 : Cond.methodLink RX11 320 yX11_worthOf ∈ gws := gi7 (List.mem_of_getElem? (i := 160) rfl) rfl
theorem li_X11_worthOf : Cond.instanceMethod yX11_worthOf ∈ gws := gi7 (List.mem_of_getElem? (i := 162) rfl) rfl
theorem lk_X11_worthOf : Cond.code yX11_worthOf cX11_worthOf 10 (Option.some FieldType.int) ∈ gws := gi7 (List.mem_of_getElem? (i := 163) rfl) rfl
theorem lq_X11_304 : Cond.constantLong RX11 304 (100) ∈ gws := gi7 (List.mem_of_getElem? (i := 164) rfl) rfl
theorem lq_X11_306 : Cond.constantLong RX11 306 (10) ∈ gws := gi7 (List.mem_of_getElem? (i := 165) rfl) rfl
theorem lq_X11_310 : Cond.constantLong RX11 310 (7) ∈ gws := gi7 (List.mem_of_getElem? (i := 166) rfl) rfl
theorem lq_X11_312 : Cond.constantLong RX11 312 (1000) ∈ gws := gi7 (List.mem_of_getElem? (i := 167) rfl) rfl
theorem lq_X11_314 : Cond.constantLong RX11 314 (8191) ∈ gws := gi7 (List.mem_of_getElem? (i := 168) rfl) rfl
theorem lm_L_84 : Cond.methodLink RL 84 yX11_give ∈ gws := gi7 (List.mem_of_getElem? (i := 169) rfl) rfl
theorem li_X11_give : Cond.instanceMethod yX11_give ∈ gws := gi7 (List.mem_of_getElem? (i := 170) rfl) rfl
theorem ls_X11_give : Cond.selects yX11_give.cls yX11_give yX11_give ∈ gws := gi7 (List.mem_of_getElem? (i := 171) rfl) rfl
theorem lk_X11_give : Cond.code yX11_give cX11_give 2 (Option.some FieldType.int) ∈ gws := gi7 (List.mem_of_getElem? (i := 172) rfl) rfl
theorem lq_X11_380 : Cond.constantLong RX11 380 (50) ∈ gws := gi7 (List.mem_of_getElem? (i := 173) rfl) rfl
theorem lm_L_88 : Cond.methodLink RL 88 yX11_day ∈ gws := gi7 (List.mem_of_getElem? (i := 174) rfl) rfl
theorem li_X11_day : Cond.instanceMethod yX11_day ∈ gws := gi7 (List.mem_of_getElem? (i := 175) rfl) rfl
theorem ls_X11_day : Cond.selects yX11_day.cls yX11_day yX11_day ∈ gws := gi7 (List.mem_of_getElem? (i := 176) rfl) rfl
theorem lk_X11_day : Cond.code yX11_day cX11_day 1 (Option.some FieldType.int) ∈ gws := gi7 (List.mem_of_getElem? (i := 177) rfl) rfl
theorem lm_X11_390 : Cond.methodLink RX11 390 yX11_goDay ∈ gws := gi7 (List.mem_of_getElem? (i := 178) rfl) rfl
theorem li_X11_goDay : Cond.instanceMethod yX11_goDay ∈ gws := gi7 (List.mem_of_getElem? (i := 180) rfl) rfl
theorem lk_X11_goDay : Cond.code yX11_goDay cX11_goDay 5 (Option.some FieldType.int) ∈ gws := gi7 (List.mem_of_getElem? (i := 181) rfl) rfl
theorem lm_X11_382 : Cond.methodLink RX11 382 yX11_smooth ∈ gws := gi7 (List.mem_of_getElem? (i := 182) rfl) rfl
theorem li_X11_smooth : Cond.instanceMethod yX11_smooth ∈ gws := gi7 (List.mem_of_getElem? (i := 184) rfl) rfl
theorem lk_X11_smooth : Cond.code yX11_smooth cX11_smooth 4 (Option.some FieldType.int) ∈ gws := gi7 (List.mem_of_getElem? (i := 185) rfl) rfl
theorem lm_X11_386 : Cond.methodLink RX11 386 yX11_ages ∈ gws := gi7 (List.mem_of_getElem? (i := 186) rfl) rfl
theorem li_X11_ages : Cond.instanceMethod yX11_ages ∈ gws := gi7 (List.mem_of_getElem? (i := 188) rfl) rfl
theorem lk_X11_ages : Cond.code yX11_ages cX11_ages 4 (Option.none : Option FieldType) ∈ gws := gi7 (List.mem_of_getElem? (i := 189) rfl) rfl
theorem lm_L_95 : Cond.methodLink RL 95 yX11_years ∈ gws := gi7 (List.mem_of_getElem? (i := 190) rfl) rfl
theorem li_X11_years : Cond.instanceMethod yX11_years ∈ gws := gi7 (List.mem_of_getElem? (i := 191) rfl) rfl
theorem ls_X11_years : Cond.selects yX11_years.cls yX11_years yX11_years ∈ gws := gi7 (List.mem_of_getElem? (i := 192) rfl) rfl
theorem lk_X11_years : Cond.code yX11_years cX11_years 9 (Option.some FieldType.int) ∈ gws := gi7 (List.mem_of_getElem? (i := 193) rfl) rfl
theorem lq_X11_401 : Cond.constantLong RX11 401 (30) ∈ gws := gi7 (List.mem_of_getElem? (i := 194) rfl) rfl
theorem lm_X11_403 : Cond.methodLink RX11 403 yX11_draw ∈ gws := gi7 (List.mem_of_getElem? (i := 195) rfl) rfl
theorem li_X11_draw : Cond.instanceMethod yX11_draw ∈ gws := gi7 (List.mem_of_getElem? (i := 197) rfl) rfl
theorem lk_X11_draw : Cond.code yX11_draw cX11_draw 2 (Option.some FieldType.int) ∈ gws := gi7 (List.mem_of_getElem? (i := 198) rfl) rfl
theorem lq_X11_397 : Cond.constantLong RX11 397 (6364136223846793005) ∈ gws := gi7 (List.mem_of_getElem? (i := 199) rfl) rfl
theorem lq_X11_399 : Cond.constantLong RX11 399 (1442695040888963407) ∈ gws := gi7 (List.mem_of_getElem? (i := 200) rfl) rfl
theorem lm_L_99 : Cond.methodLink RL 99 yX11_undo ∈ gws := gi7 (List.mem_of_getElem? (i := 201) rfl) rfl
theorem li_X11_undo : Cond.instanceMethod yX11_undo ∈ gws := gi7 (List.mem_of_getElem? (i := 202) rfl) rfl
theorem ls_X11_undo : Cond.selects yX11_undo.cls yX11_undo yX11_undo ∈ gws := gi7 (List.mem_of_getElem? (i := 203) rfl) rfl
theorem lk_X11_undo : Cond.code yX11_undo cX11_undo 2 (Option.some FieldType.int) ∈ gws := gi7 (List.mem_of_getElem? (i := 204) rfl) rfl
theorem lm_L_103 : Cond.methodLink RL 103 yX11_log ∈ gws := gi7 (List.mem_of_getElem? (i := 205) rfl) rfl
theorem li_X11_log : Cond.instanceMethod yX11_log ∈ gws := gi7 (List.mem_of_getElem? (i := 206) rfl) rfl
theorem ls_X11_log : Cond.selects yX11_log.cls yX11_log yX11_log ∈ gws := gi7 (List.mem_of_getElem? (i := 207) rfl) rfl
theorem lk_X11_log : Cond.code yX11_log cX11_log 3 (Option.some FieldType.int) ∈ gws := gi7 (List.mem_of_getElem? (i := 208) rfl) rfl
theorem lm_L_107 : Cond.methodLink RL 107 yX11_step ∈ gws := gi7 (List.mem_of_getElem? (i := 209) rfl) rfl
theorem li_X11_step : Cond.instanceMethod yX11_step ∈ gws := gi7 (List.mem_of_getElem? (i := 210) rfl) rfl
theorem ls_X11_step : Cond.selects yX11_step.cls yX11_step yX11_step ∈ gws := gi7 (List.mem_of_getElem? (i := 211) rfl) rfl
theorem lk_X11_step : Cond.code yX11_step cX11_step 4 (Option.some FieldType.int) ∈ gws := gi7 (List.mem_of_getElem? (i := 212) rfl) rfl
theorem lm_X11_406 : Cond.methodLink RX11 406 yX11_isPlan ∈ gws := gi7 (List.mem_of_getElem? (i := 213) rfl) rfl
theorem li_X11_isPlan : Cond.instanceMethod yX11_isPlan ∈ gws := gi7 (List.mem_of_getElem? (i := 215) rfl) rfl
theorem lk_X11_isPlan : Cond.code yX11_isPlan cX11_isPlan 2 (Option.some FieldType.boolean) ∈ gws := gi7 (List.mem_of_getElem? (i := 216) rfl) rfl
theorem lq_X11_409 : Cond.constant RX11 409 (-1000000) ∈ gws := gi7 (List.mem_of_getElem? (i := 217) rfl) rfl
theorem lm_L_111 : Cond.methodLink RL 111 yX11_run ∈ gws := gi7 (List.mem_of_getElem? (i := 218) rfl) rfl
theorem li_X11_run : Cond.instanceMethod yX11_run ∈ gws := gi7 (List.mem_of_getElem? (i := 219) rfl) rfl
theorem ls_X11_run : Cond.selects yX11_run.cls yX11_run yX11_run ∈ gws := gi7 (List.mem_of_getElem? (i := 220) rfl) rfl
theorem lk_X11_run : Cond.code yX11_run cX11_run 4 (Option.some FieldType.int) ∈ gws := gi7 (List.mem_of_getElem? (i := 221) rfl) rfl
theorem lm_X11_410 : Cond.methodLink RX11 410 yX11_copy ∈ gws := gi7 (List.mem_of_getElem? (i := 222) rfl) rfl
theorem li_X11_copy : Cond.static yX11_copy ∈ gws := gi7 (List.mem_of_getElem? (i := 223) rfl) rfl
theorem lk_X11_copy : Cond.code yX11_copy cX11_copy 3 (Option.none : Option FieldType) ∈ gws := gi7 (List.mem_of_getElem? (i := 224) rfl) rfl
theorem lm_X11_414 : Cond.methodLink RX11 414 yX11_canStep ∈ gws := gi7 (List.mem_of_getElem? (i := 225) rfl) rfl
theorem li_X11_canStep : Cond.instanceMethod yX11_canStep ∈ gws := gi7 (List.mem_of_getElem? (i := 227) rfl) rfl
theorem lk_X11_canStep : Cond.code yX11_canStep cX11_canStep 4 (Option.some FieldType.boolean) ∈ gws := gi7 (List.mem_of_getElem? (i := 228) rfl) rfl
theorem lm_X11_417 : Cond.methodLink RX11 417 yX11_goStep ∈ gws := gi7 (List.mem_of_getElem? (i := 229) rfl) rfl
theorem li_X11_goStep : Cond.instanceMethod yX11_goStep ∈ gws := gi7 (List.mem_of_getElem? (i := 231) rfl) rfl
theorem lk_X11_goStep : Cond.code yX11_goStep cX11_goStep 6 (Option.none : Option FieldType) ∈ gws := gi7 (List.mem_of_getElem? (i := 232) rfl) rfl
theorem lm_L_115 : Cond.methodLink RL 115 yX11_perform ∈ gws := gi7 (List.mem_of_getElem? (i := 233) rfl) rfl
theorem li_X11_perform : Cond.instanceMethod yX11_perform ∈ gws := gi7 (List.mem_of_getElem? (i := 234) rfl) rfl
theorem ls_X11_perform : Cond.selects yX11_perform.cls yX11_perform yX11_perform ∈ gws := gi7 (List.mem_of_getElem? (i := 235) rfl) rfl
theorem lk_X11_perform : Cond.code yX11_perform cX11_perform 3 (Option.some FieldType.int) ∈ gws := gi7 (List.mem_of_getElem? (i := 236) rfl) rfl
theorem lm_L_119 : Cond.methodLink RL 119 yX11_skin ∈ gws := gi7 (List.mem_of_getElem? (i := 237) rfl) rfl
theorem li_X11_skin : Cond.instanceMethod yX11_skin ∈ gws := gi7 (List.mem_of_getElem? (i := 238) rfl) rfl
theorem ls_X11_skin : Cond.selects yX11_skin.cls yX11_skin yX11_skin ∈ gws := gi7 (List.mem_of_getElem? (i := 239) rfl) rfl
theorem lk_X11_skin : Cond.code yX11_skin cX11_skin 4 (Option.some FieldType.int) ∈ gws := gi8 (List.mem_of_getElem? (i := 0) rfl) rfl
theorem lm_L_123 : Cond.methodLink RL 123 yX11_least ∈ gws := gi8 (List.mem_of_getElem? (i := 1) rfl) rfl
theorem li_X11_least : Cond.instanceMethod yX11_least ∈ gws := gi8 (List.mem_of_getElem? (i := 2) rfl) rfl
theorem ls_X11_least : Cond.selects yX11_least.cls yX11_least yX11_least ∈ gws := gi8 (List.mem_of_getElem? (i := 3) rfl) rfl
theorem lk_X11_least : Cond.code yX11_least cX11_least 5 (Option.some FieldType.int) ∈ gws := gi8 (List.mem_of_getElem? (i := 4) rfl) rfl
theorem lm_X11_427 : Cond.methodLink RX11 427 yX11_meetsSet ∈ gws := gi8 (List.mem_of_getElem? (i := 5) rfl) rfl
theorem li_X11_meetsSet : Cond.instanceMethod yX11_meetsSet ∈ gws := gi8 (List.mem_of_getElem? (i := 7) rfl) rfl
theorem lk_X11_meetsSet : Cond.code yX11_meetsSet cX11_meetsSet 4 (Option.none : Option FieldType) ∈ gws := gi8 (List.mem_of_getElem? (i := 8) rfl) rfl
theorem lm_L_127 : Cond.methodLink RL 127 yX11_cover ∈ gws := gi8 (List.mem_of_getElem? (i := 9) rfl) rfl
theorem li_X11_cover : Cond.instanceMethod yX11_cover ∈ gws := gi8 (List.mem_of_getElem? (i := 10) rfl) rfl
theorem ls_X11_cover : Cond.selects yX11_cover.cls yX11_cover yX11_cover ∈ gws := gi8 (List.mem_of_getElem? (i := 11) rfl) rfl
theorem lk_X11_cover : Cond.code yX11_cover cX11_cover 4 (Option.some FieldType.int) ∈ gws := gi8 (List.mem_of_getElem? (i := 12) rfl) rfl
theorem lm_X11_431 : Cond.methodLink RX11 431 yX11_areGuilty ∈ gws := gi8 (List.mem_of_getElem? (i := 13) rfl) rfl
theorem li_X11_areGuilty : Cond.instanceMethod yX11_areGuilty ∈ gws := gi8 (List.mem_of_getElem? (i := 15) rfl) rfl
theorem lk_X11_areGuilty : Cond.code yX11_areGuilty cX11_areGuilty 4 (Option.some FieldType.boolean) ∈ gws := gi8 (List.mem_of_getElem? (i := 16) rfl) rfl
theorem lm_X11_434 : Cond.methodLink RX11 434 yX11_harmOf ∈ gws := gi8 (List.mem_of_getElem? (i := 17) rfl) rfl
theorem li_X11_harmOf : Cond.instanceMethod yX11_harmOf ∈ gws := gi8 (List.mem_of_getElem? (i := 19) rfl) rfl
theorem lk_X11_harmOf : Cond.code yX11_harmOf cX11_harmOf 5 (Option.some FieldType.int) ∈ gws := gi8 (List.mem_of_getElem? (i := 20) rfl) rfl
theorem lm_L_131 : Cond.methodLink RL 131 yX11_soon ∈ gws := gi8 (List.mem_of_getElem? (i := 21) rfl) rfl
theorem li_X11_soon : Cond.instanceMethod yX11_soon ∈ gws := gi8 (List.mem_of_getElem? (i := 22) rfl) rfl
theorem ls_X11_soon : Cond.selects yX11_soon.cls yX11_soon yX11_soon ∈ gws := gi8 (List.mem_of_getElem? (i := 23) rfl) rfl
theorem lk_X11_soon : Cond.code yX11_soon cX11_soon 3 (Option.some FieldType.int) ∈ gws := gi8 (List.mem_of_getElem? (i := 24) rfl) rfl
theorem lm_L_135 : Cond.methodLink RL 135 yX11_clean ∈ gws := gi8 (List.mem_of_getElem? (i := 25) rfl) rfl
theorem li_X11_clean : Cond.instanceMethod yX11_clean ∈ gws := gi8 (List.mem_of_getElem? (i := 26) rfl) rfl
theorem ls_X11_clean : Cond.selects yX11_clean.cls yX11_clean yX11_clean ∈ gws := gi8 (List.mem_of_getElem? (i := 27) rfl) rfl
theorem lk_X11_clean : Cond.code yX11_clean cX11_clean 4 (Option.some FieldType.int) ∈ gws := gi8 (List.mem_of_getElem? (i := 28) rfl) rfl
theorem lm_L_139 : Cond.methodLink RL 139 yX11_bargain ∈ gws := gi8 (List.mem_of_getElem? (i := 29) rfl) rfl
theorem li_X11_bargain : Cond.instanceMethod yX11_bargain ∈ gws := gi8 (List.mem_of_getElem? (i := 30) rfl) rfl
theorem ls_X11_bargain : Cond.selects yX11_bargain.cls yX11_bargain yX11_bargain ∈ gws := gi8 (List.mem_of_getElem? (i := 31) rfl) rfl
theorem lk_X11_bargain : Cond.code yX11_bargain cX11_bargain 6 (Option.some FieldType.int) ∈ gws := gi8 (List.mem_of_getElem? (i := 32) rfl) rfl
theorem lm_L_144 : Cond.methodLink RL 144 yX11_seen ∈ gws := gi8 (List.mem_of_getElem? (i := 33) rfl) rfl
theorem li_X11_seen : Cond.instanceMethod yX11_seen ∈ gws := gi8 (List.mem_of_getElem? (i := 34) rfl) rfl
theorem ls_X11_seen : Cond.selects yX11_seen.cls yX11_seen yX11_seen ∈ gws := gi8 (List.mem_of_getElem? (i := 35) rfl) rfl
theorem lk_X11_seen : Cond.code yX11_seen cX11_seen 4 (Option.some FieldType.int) ∈ gws := gi8 (List.mem_of_getElem? (i := 36) rfl) rfl
theorem lq_X11_437 : Cond.constantLong RX11 437 (99) ∈ gws := gi8 (List.mem_of_getElem? (i := 37) rfl) rfl
theorem lm_L_148 : Cond.methodLink RL 148 yX11_sets ∈ gws := gi8 (List.mem_of_getElem? (i := 38) rfl) rfl
theorem li_X11_sets : Cond.instanceMethod yX11_sets ∈ gws := gi8 (List.mem_of_getElem? (i := 39) rfl) rfl
theorem ls_X11_sets : Cond.selects yX11_sets.cls yX11_sets yX11_sets ∈ gws := gi8 (List.mem_of_getElem? (i := 40) rfl) rfl
theorem lk_X11_sets : Cond.code yX11_sets cX11_sets 5 (Option.some FieldType.int) ∈ gws := gi8 (List.mem_of_getElem? (i := 41) rfl) rfl
theorem lm_X11_443 : Cond.methodLink RX11 443 yX11_isSet ∈ gws := gi8 (List.mem_of_getElem? (i := 42) rfl) rfl
theorem li_X11_isSet : Cond.instanceMethod yX11_isSet ∈ gws := gi8 (List.mem_of_getElem? (i := 44) rfl) rfl
theorem lk_X11_isSet : Cond.code yX11_isSet cX11_isSet 4 (Option.some FieldType.boolean) ∈ gws := gi8 (List.mem_of_getElem? (i := 45) rfl) rfl
theorem lm_X11_439 : Cond.methodLink RX11 439 yX11_wouldBe ∈ gws := gi8 (List.mem_of_getElem? (i := 46) rfl) rfl
theorem li_X11_wouldBe : Cond.instanceMethod yX11_wouldBe ∈ gws := gi8 (List.mem_of_getElem? (i := 48) rfl) rfl
theorem lk_X11_wouldBe : Cond.code yX11_wouldBe cX11_wouldBe 4 (Option.some FieldType.boolean) ∈ gws := gi8 (List.mem_of_getElem? (i := 49) rfl) rfl
theorem lm_L_152 : Cond.methodLink RL 152 yX11_ask ∈ gws := gi8 (List.mem_of_getElem? (i := 50) rfl) rfl
theorem li_X11_ask : Cond.instanceMethod yX11_ask ∈ gws := gi8 (List.mem_of_getElem? (i := 51) rfl) rfl
theorem ls_X11_ask : Cond.selects yX11_ask.cls yX11_ask yX11_ask ∈ gws := gi8 (List.mem_of_getElem? (i := 52) rfl) rfl
theorem lk_X11_ask : Cond.code yX11_ask cX11_ask 8 (Option.some FieldType.int) ∈ gws := gi8 (List.mem_of_getElem? (i := 53) rfl) rfl
theorem lm_X11_446 : Cond.methodLink RX11 446 yJ9_abs_0f7a4 ∈ gws := gi8 (List.mem_of_getElem? (i := 54) rfl) rfl
theorem lm_L_157 : Cond.methodLink RL 157 yX11_game ∈ gws := gi8 (List.mem_of_getElem? (i := 55) rfl) rfl
theorem li_X11_game : Cond.instanceMethod yX11_game ∈ gws := gi8 (List.mem_of_getElem? (i := 56) rfl) rfl
theorem ls_X11_game : Cond.selects yX11_game.cls yX11_game yX11_game ∈ gws := gi8 (List.mem_of_getElem? (i := 57) rfl) rfl
theorem lk_X11_game : Cond.code yX11_game cX11_game 5 (Option.some FieldType.int) ∈ gws := gi8 (List.mem_of_getElem? (i := 58) rfl) rfl
theorem lq_X11_452 : Cond.constantLong RX11 452 (3) ∈ gws := gi8 (List.mem_of_getElem? (i := 59) rfl) rfl
theorem lm_X11_454 : Cond.methodLink RX11 454 yX11_gameOf ∈ gws := gi8 (List.mem_of_getElem? (i := 60) rfl) rfl
theorem li_X11_gameOf : Cond.instanceMethod yX11_gameOf ∈ gws := gi8 (List.mem_of_getElem? (i := 62) rfl) rfl
theorem lk_X11_gameOf : Cond.code yX11_gameOf cX11_gameOf 6 (Option.some FieldType.int) ∈ gws := gi8 (List.mem_of_getElem? (i := 63) rfl) rfl
theorem lm_X11_449 : Cond.methodLink RX11 449 yX11_seems ∈ gws := gi8 (List.mem_of_getElem? (i := 64) rfl) rfl
theorem li_X11_seems : Cond.instanceMethod yX11_seems ∈ gws := gi8 (List.mem_of_getElem? (i := 66) rfl) rfl
theorem lk_X11_seems : Cond.code yX11_seems cX11_seems 4 (Option.some FieldType.boolean) ∈ gws := gi8 (List.mem_of_getElem? (i := 67) rfl) rfl
theorem lm_L_161 : Cond.methodLink RL 161 yX11_rests ∈ gws := gi8 (List.mem_of_getElem? (i := 68) rfl) rfl
theorem li_X11_rests : Cond.instanceMethod yX11_rests ∈ gws := gi8 (List.mem_of_getElem? (i := 69) rfl) rfl
theorem ls_X11_rests : Cond.selects yX11_rests.cls yX11_rests yX11_rests ∈ gws := gi8 (List.mem_of_getElem? (i := 70) rfl) rfl
theorem lk_X11_rests : Cond.code yX11_rests cX11_rests 8 (Option.some FieldType.int) ∈ gws := gi8 (List.mem_of_getElem? (i := 71) rfl) rfl
theorem lm_L_165 : Cond.methodLink RL 165 yX11_odds ∈ gws := gi8 (List.mem_of_getElem? (i := 72) rfl) rfl
theorem li_X11_odds : Cond.instanceMethod yX11_odds ∈ gws := gi8 (List.mem_of_getElem? (i := 73) rfl) rfl
theorem ls_X11_odds : Cond.selects yX11_odds.cls yX11_odds yX11_odds ∈ gws := gi8 (List.mem_of_getElem? (i := 74) rfl) rfl
theorem lk_X11_odds : Cond.code yX11_odds cX11_odds 3 (Option.some FieldType.int) ∈ gws := gi8 (List.mem_of_getElem? (i := 75) rfl) rfl
theorem lq_X11_462 : Cond.constant RX11 462 (1000000000) ∈ gws := gi8 (List.mem_of_getElem? (i := 76) rfl) rfl
theorem lm_X11_458 : Cond.methodLink RX11 458 yX11_oddsFrom ∈ gws := gi8 (List.mem_of_getElem? (i := 77) rfl) rfl
theorem li_X11_oddsFrom : Cond.instanceMethod yX11_oddsFrom ∈ gws := gi8 (List.mem_of_getElem? (i := 79) rfl) rfl
theorem lk_X11_oddsFrom : Cond.code yX11_oddsFrom cX11_oddsFrom 7 (Option.some FieldType.int) ∈ gws := gi8 (List.mem_of_getElem? (i := 80) rfl) rfl
theorem lm_L_169 : Cond.methodLink RL 169 yX11_shares ∈ gws := gi8 (List.mem_of_getElem? (i := 81) rfl) rfl
theorem li_X11_shares : Cond.instanceMethod yX11_shares ∈ gws := gi8 (List.mem_of_getElem? (i := 82) rfl) rfl
theorem ls_X11_shares : Cond.selects yX11_shares.cls yX11_shares yX11_shares ∈ gws := gi8 (List.mem_of_getElem? (i := 83) rfl) rfl
theorem lk_X11_shares : Cond.code yX11_shares cX11_shares 5 (Option.some FieldType.int) ∈ gws := gi8 (List.mem_of_getElem? (i := 84) rfl) rfl
theorem lq_X11_463 : Cond.constantLong RX11 463 (999) ∈ gws := gi8 (List.mem_of_getElem? (i := 85) rfl) rfl
theorem lm_L_173 : Cond.methodLink RL 173 yX11_owners ∈ gws := gi8 (List.mem_of_getElem? (i := 86) rfl) rfl
theorem li_X11_owners : Cond.instanceMethod yX11_owners ∈ gws := gi8 (List.mem_of_getElem? (i := 87) rfl) rfl
theorem ls_X11_owners : Cond.selects yX11_owners.cls yX11_owners yX11_owners ∈ gws := gi8 (List.mem_of_getElem? (i := 88) rfl) rfl
theorem lk_X11_owners : Cond.code yX11_owners cX11_owners 4 (Option.some FieldType.int) ∈ gws := gi8 (List.mem_of_getElem? (i := 89) rfl) rfl
theorem lm_L_177 : Cond.methodLink RL 177 yX11_wish ∈ gws := gi8 (List.mem_of_getElem? (i := 90) rfl) rfl
theorem li_X11_wish : Cond.instanceMethod yX11_wish ∈ gws := gi8 (List.mem_of_getElem? (i := 91) rfl) rfl
theorem ls_X11_wish : Cond.selects yX11_wish.cls yX11_wish yX11_wish ∈ gws := gi8 (List.mem_of_getElem? (i := 92) rfl) rfl
theorem lk_X11_wish : Cond.code yX11_wish cX11_wish 2 (Option.some FieldType.int) ∈ gws := gi8 (List.mem_of_getElem? (i := 93) rfl) rfl
theorem lm_X11_465 : Cond.methodLink RX11 465 yX11_wishOf ∈ gws := gi8 (List.mem_of_getElem? (i := 94) rfl) rfl
theorem li_X11_wishOf : Cond.instanceMethod yX11_wishOf ∈ gws := gi8 (List.mem_of_getElem? (i := 96) rfl) rfl
theorem lk_X11_wishOf : Cond.code yX11_wishOf cX11_wishOf 2 (Option.some FieldType.int) ∈ gws := gi8 (List.mem_of_getElem? (i := 97) rfl) rfl
theorem lm_L_181 : Cond.methodLink RL 181 yX11_all ∈ gws := gi8 (List.mem_of_getElem? (i := 98) rfl) rfl
theorem li_X11_all : Cond.instanceMethod yX11_all ∈ gws := gi8 (List.mem_of_getElem? (i := 99) rfl) rfl
theorem ls_X11_all : Cond.selects yX11_all.cls yX11_all yX11_all ∈ gws := gi8 (List.mem_of_getElem? (i := 100) rfl) rfl
theorem lk_X11_all : Cond.code yX11_all cX11_all 4 (Option.some FieldType.int) ∈ gws := gi8 (List.mem_of_getElem? (i := 101) rfl) rfl
theorem lm_X11_471 : Cond.methodLink RX11 471 yX11_greatest ∈ gws := gi8 (List.mem_of_getElem? (i := 102) rfl) rfl
theorem li_X11_greatest : Cond.instanceMethod yX11_greatest ∈ gws := gi8 (List.mem_of_getElem? (i := 104) rfl) rfl
theorem lk_X11_greatest : Cond.code yX11_greatest cX11_greatest 5 (Option.some FieldType.int) ∈ gws := gi8 (List.mem_of_getElem? (i := 105) rfl) rfl
theorem lm_X11_468 : Cond.methodLink RX11 468 yX11_valueOf ∈ gws := gi8 (List.mem_of_getElem? (i := 106) rfl) rfl
theorem li_X11_valueOf : Cond.instanceMethod yX11_valueOf ∈ gws := gi8 (List.mem_of_getElem? (i := 108) rfl) rfl
theorem lk_X11_valueOf : Cond.code yX11_valueOf cX11_valueOf 3 (Option.some FieldType.int) ∈ gws := gi8 (List.mem_of_getElem? (i := 109) rfl) rfl
theorem lm_X11_474 : Cond.methodLink RX11 474 yX11_served ∈ gws := gi8 (List.mem_of_getElem? (i := 110) rfl) rfl
theorem li_X11_served : Cond.instanceMethod yX11_served ∈ gws := gi8 (List.mem_of_getElem? (i := 112) rfl) rfl
theorem lk_X11_served : Cond.code yX11_served cX11_served 4 (Option.some FieldType.int) ∈ gws := gi8 (List.mem_of_getElem? (i := 113) rfl) rfl
theorem lm_L_185 : Cond.methodLink RL 185 yX11_image ∈ gws := gi8 (List.mem_of_getElem? (i := 114) rfl) rfl
theorem li_X11_image : Cond.instanceMethod yX11_image ∈ gws := gi8 (List.mem_of_getElem? (i := 115) rfl) rfl
theorem ls_X11_image : Cond.selects yX11_image.cls yX11_image yX11_image ∈ gws := gi8 (List.mem_of_getElem? (i := 116) rfl) rfl
theorem lk_X11_image : Cond.code yX11_image cX11_image 2 (Option.some FieldType.int) ∈ gws := gi8 (List.mem_of_getElem? (i := 117) rfl) rfl
theorem lm_L_189 : Cond.methodLink RL 189 yX11_back ∈ gws := gi8 (List.mem_of_getElem? (i := 118) rfl) rfl
theorem li_X11_back : Cond.instanceMethod yX11_back ∈ gws := gi8 (List.mem_of_getElem? (i := 119) rfl) rfl
theorem ls_X11_back : Cond.selects yX11_back.cls yX11_back yX11_back ∈ gws := gi8 (List.mem_of_getElem? (i := 120) rfl) rfl
theorem lk_X11_back : Cond.code yX11_back cX11_back 2 (Option.some FieldType.int) ∈ gws := gi8 (List.mem_of_getElem? (i := 121) rfl) rfl
theorem lm_L_193 : Cond.methodLink RL 193 yX11_count ∈ gws := gi8 (List.mem_of_getElem? (i := 122) rfl) rfl
theorem li_X11_count : Cond.instanceMethod yX11_count ∈ gws := gi8 (List.mem_of_getElem? (i := 123) rfl) rfl
theorem ls_X11_count : Cond.selects yX11_count.cls yX11_count yX11_count ∈ gws := gi8 (List.mem_of_getElem? (i := 124) rfl) rfl
theorem lk_X11_count : Cond.code yX11_count cX11_count 2 (Option.some FieldType.int) ∈ gws := gi8 (List.mem_of_getElem? (i := 125) rfl) rfl
theorem lq_L_89 : Cond.constantLong RL 89 (4294967295) ∈ gws := gi8 (List.mem_of_getElem? (i := 126) rfl) rfl
theorem lo_J0_15 : Cond.fieldLink RJ0 15 "java/lang/String" "coder" "B" ∈ gws := gi8 (List.mem_of_getElem? (i := 143) rfl) rfl
theorem lo_J0_9 : Cond.fieldLink RJ0 9 "java/lang/String" "value" "[B" ∈ gws := gi8 (List.mem_of_getElem? (i := 144) rfl) rfl
theorem ls_X8_readsClauses : Cond.selects yX8_readsClauses.cls yX8_readsClauses yX8_readsClauses ∈ gws := gi_p (List.mem_of_getElem? (i := 0) rfl) rfl
theorem ls_X8_kindOf : Cond.selects yX8_kindOf.cls yX8_kindOf yX8_kindOf ∈ gws := gi_p (List.mem_of_getElem? (i := 1) rfl) rfl
theorem ls_X8_readsItems : Cond.selects yX8_readsItems.cls yX8_readsItems yX8_readsItems ∈ gws := gi_p (List.mem_of_getElem? (i := 2) rfl) rfl
theorem ls_X8_settle : Cond.selects yX8_settle.cls yX8_settle yX8_settle ∈ gws := gi_p (List.mem_of_getElem? (i := 3) rfl) rfl
theorem ls_X3_readsClause : Cond.selects yX3_readsClause.cls yX3_readsClause yX3_readsClause ∈ gws := gi_p (List.mem_of_getElem? (i := 4) rfl) rfl
theorem ls_X3_readsJoined : Cond.selects yX3_readsJoined.cls yX3_readsJoined yX3_readsJoined ∈ gws := gi_p (List.mem_of_getElem? (i := 5) rfl) rfl
theorem ls_X3_readsUnit : Cond.selects yX3_readsUnit.cls yX3_readsUnit yX3_readsUnit ∈ gws := gi_p (List.mem_of_getElem? (i := 6) rfl) rfl
theorem ls_X3_readsInner : Cond.selects yX3_readsInner.cls yX3_readsInner yX3_readsInner ∈ gws := gi_p (List.mem_of_getElem? (i := 7) rfl) rfl
theorem ls_X3_jointIn : Cond.selects yX3_jointIn.cls yX3_jointIn yX3_jointIn ∈ gws := gi_p (List.mem_of_getElem? (i := 8) rfl) rfl
theorem ls_X3_indexIn : Cond.selects yX3_indexIn.cls yX3_indexIn yX3_indexIn ∈ gws := gi_p (List.mem_of_getElem? (i := 9) rfl) rfl
theorem ls_X3_readsAtom : Cond.selects yX3_readsAtom.cls yX3_readsAtom yX3_readsAtom ∈ gws := gi_p (List.mem_of_getElem? (i := 10) rfl) rfl
theorem ls_X9_readsSteps : Cond.selects yX9_readsSteps.cls yX9_readsSteps yX9_readsSteps ∈ gws := gi_p (List.mem_of_getElem? (i := 11) rfl) rfl
theorem ls_X9_readsStep : Cond.selects yX9_readsStep.cls yX9_readsStep yX9_readsStep ∈ gws := gi_p (List.mem_of_getElem? (i := 12) rfl) rfl
theorem ls_X10_foundTown : Cond.selects yX10_foundTown.cls yX10_foundTown yX10_foundTown ∈ gws := gi_p (List.mem_of_getElem? (i := 13) rfl) rfl
theorem ls_X10_addLaw : Cond.selects yX10_addLaw.cls yX10_addLaw yX10_addLaw ∈ gws := gi_p (List.mem_of_getElem? (i := 14) rfl) rfl
theorem ls_X10_addWeek : Cond.selects yX10_addWeek.cls yX10_addWeek yX10_addWeek ∈ gws := gi_p (List.mem_of_getElem? (i := 15) rfl) rfl
theorem ls_X4_setLeft : Cond.selects yX4_setLeft.cls yX4_setLeft yX4_setLeft ∈ gws := gi_p (List.mem_of_getElem? (i := 16) rfl) rfl
theorem ls_X10_goToBarber : Cond.selects yX10_goToBarber.cls yX10_goToBarber yX10_goToBarber ∈ gws := gi_p (List.mem_of_getElem? (i := 17) rfl) rfl
theorem ls_X0_book : Cond.selects yX0_book.cls yX0_book yX0_book ∈ gws := gi_p (List.mem_of_getElem? (i := 18) rfl) rfl
theorem ls_X2_valueOf : Cond.selects yX2_valueOf.cls yX2_valueOf yX2_valueOf ∈ gws := gi_p (List.mem_of_getElem? (i := 19) rfl) rfl
theorem ls_X10_noTown : Cond.selects yX10_noTown.cls yX10_noTown yX10_noTown ∈ gws := gi_p (List.mem_of_getElem? (i := 20) rfl) rfl
theorem ls_X4_write : Cond.selects yX4_write.cls yX4_write yX4_write ∈ gws := gi_p (List.mem_of_getElem? (i := 21) rfl) rfl
theorem ls_X4_wishersAmong : Cond.selects yX4_wishersAmong.cls yX4_wishersAmong yX4_wishersAmong ∈ gws := gi_p (List.mem_of_getElem? (i := 22) rfl) rfl
theorem ls_X10_liveByDraws : Cond.selects yX10_liveByDraws.cls yX10_liveByDraws yX10_liveByDraws ∈ gws := gi_p (List.mem_of_getElem? (i := 23) rfl) rfl
theorem ls_X10_weekOf : Cond.selects yX10_weekOf.cls yX10_weekOf yX10_weekOf ∈ gws := gi_p (List.mem_of_getElem? (i := 24) rfl) rfl
theorem ls_X10_mayTakeStep : Cond.selects yX10_mayTakeStep.cls yX10_mayTakeStep yX10_mayTakeStep ∈ gws := gi_p (List.mem_of_getElem? (i := 25) rfl) rfl
theorem ls_X10_takeStep : Cond.selects yX10_takeStep.cls yX10_takeStep yX10_takeStep ∈ gws := gi_p (List.mem_of_getElem? (i := 26) rfl) rfl
theorem ls_X10_cheapest : Cond.selects yX10_cheapest.cls yX10_cheapest yX10_cheapest ∈ gws := gi_p (List.mem_of_getElem? (i := 27) rfl) rfl
theorem ls_X10_harmAmong : Cond.selects yX10_harmAmong.cls yX10_harmAmong yX10_harmAmong ∈ gws := gi_p (List.mem_of_getElem? (i := 28) rfl) rfl
theorem ls_X10_allGuiltyWith : Cond.selects yX10_allGuiltyWith.cls yX10_allGuiltyWith yX10_allGuiltyWith ∈ gws := gi_p (List.mem_of_getElem? (i := 29) rfl) rfl
theorem ls_X6_fits : Cond.selects yX6_fits.cls yX6_fits yX6_fits ∈ gws := gi_p (List.mem_of_getElem? (i := 30) rfl) rfl
theorem ls_X6_gatherCases : Cond.selects yX6_gatherCases.cls yX6_gatherCases yX6_gatherCases ∈ gws := gi_p (List.mem_of_getElem? (i := 31) rfl) rfl
theorem ls_X6_guiltyAt : Cond.selects yX6_guiltyAt.cls yX6_guiltyAt yX6_guiltyAt ∈ gws := gi_p (List.mem_of_getElem? (i := 32) rfl) rfl
theorem ls_X10_verdictsOn : Cond.selects yX10_verdictsOn.cls yX10_verdictsOn yX10_verdictsOn ∈ gws := gi_p (List.mem_of_getElem? (i := 33) rfl) rfl
theorem ls_X10_partOf : Cond.selects yX10_partOf.cls yX10_partOf yX10_partOf ∈ gws := gi_p (List.mem_of_getElem? (i := 34) rfl) rfl
theorem ls_X10_daysToWish : Cond.selects yX10_daysToWish.cls yX10_daysToWish yX10_daysToWish ∈ gws := gi_p (List.mem_of_getElem? (i := 35) rfl) rfl
theorem ls_X10_firstOfMost : Cond.selects yX10_firstOfMost.cls yX10_firstOfMost yX10_firstOfMost ∈ gws := gi_p (List.mem_of_getElem? (i := 36) rfl) rfl
theorem ls_X10_measure : Cond.selects yX10_measure.cls yX10_measure yX10_measure ∈ gws := gi_p (List.mem_of_getElem? (i := 37) rfl) rfl
theorem ls_X10_guiltyPeople : Cond.selects yX10_guiltyPeople.cls yX10_guiltyPeople yX10_guiltyPeople ∈ gws := gi_p (List.mem_of_getElem? (i := 38) rfl) rfl
theorem ls_X10_innocentPeople : Cond.selects yX10_innocentPeople.cls yX10_innocentPeople yX10_innocentPeople ∈ gws := gi_p (List.mem_of_getElem? (i := 39) rfl) rfl
theorem ls_X10_servedPeople : Cond.selects yX10_servedPeople.cls yX10_servedPeople yX10_servedPeople ∈ gws := gi_p (List.mem_of_getElem? (i := 40) rfl) rfl
theorem ls_X10_countOfLife : Cond.selects yX10_countOfLife.cls yX10_countOfLife yX10_countOfLife ∈ gws := gi_p (List.mem_of_getElem? (i := 41) rfl) rfl
theorem ls_X11_put : Cond.selects yX11_put.cls yX11_put yX11_put ∈ gws := gi_p (List.mem_of_getElem? (i := 43) rfl) rfl
theorem ls_X11_readTown : Cond.selects yX11_readTown.cls yX11_readTown yX11_readTown ∈ gws := gi_p (List.mem_of_getElem? (i := 44) rfl) rfl
theorem ls_X11_starts : Cond.selects yX11_starts.cls yX11_starts yX11_starts ∈ gws := gi_p (List.mem_of_getElem? (i := 45) rfl) rfl
theorem ls_X11_readClause : Cond.selects yX11_readClause.cls yX11_readClause yX11_readClause ∈ gws := gi_p (List.mem_of_getElem? (i := 46) rfl) rfl
theorem ls_X11_look : Cond.selects yX11_look.cls yX11_look yX11_look ∈ gws := gi_p (List.mem_of_getElem? (i := 47) rfl) rfl
theorem ls_X11_fails : Cond.selects yX11_fails.cls yX11_fails yX11_fails ∈ gws := gi_p (List.mem_of_getElem? (i := 48) rfl) rfl
theorem ls_X11_readItems : Cond.selects yX11_readItems.cls yX11_readItems yX11_readItems ∈ gws := gi_p (List.mem_of_getElem? (i := 49) rfl) rfl
theorem ls_X11_number : Cond.selects yX11_number.cls yX11_number yX11_number ∈ gws := gi_p (List.mem_of_getElem? (i := 50) rfl) rfl
theorem ls_X11_isDigit : Cond.selects yX11_isDigit.cls yX11_isDigit yX11_isDigit ∈ gws := gi_p (List.mem_of_getElem? (i := 51) rfl) rfl
theorem ls_X11_here : Cond.selects yX11_here.cls yX11_here yX11_here ∈ gws := gi_p (List.mem_of_getElem? (i := 52) rfl) rfl
theorem ls_X11_goThrough : Cond.selects yX11_goThrough.cls yX11_goThrough yX11_goThrough ∈ gws := gi_p (List.mem_of_getElem? (i := 53) rfl) rfl
theorem ls_X11_clause : Cond.selects yX11_clause.cls yX11_clause yX11_clause ∈ gws := gi_p (List.mem_of_getElem? (i := 54) rfl) rfl
theorem ls_X11_takes : Cond.selects yX11_takes.cls yX11_takes yX11_takes ∈ gws := gi_p (List.mem_of_getElem? (i := 55) rfl) rfl
theorem ls_X11_condition : Cond.selects yX11_condition.cls yX11_condition yX11_condition ∈ gws := gi_p (List.mem_of_getElem? (i := 56) rfl) rfl
theorem ls_X11_part : Cond.selects yX11_part.cls yX11_part yX11_part ∈ gws := gi_p (List.mem_of_getElem? (i := 57) rfl) rfl
theorem ls_X11_compares : Cond.selects yX11_compares.cls yX11_compares yX11_compares ∈ gws := gi_p (List.mem_of_getElem? (i := 58) rfl) rfl
theorem ls_X11_sum : Cond.selects yX11_sum.cls yX11_sum yX11_sum ∈ gws := gi_p (List.mem_of_getElem? (i := 59) rfl) rfl
theorem ls_X11_term : Cond.selects yX11_term.cls yX11_term yX11_term ∈ gws := gi_p (List.mem_of_getElem? (i := 60) rfl) rfl
theorem ls_X11_atom : Cond.selects yX11_atom.cls yX11_atom yX11_atom ∈ gws := gi_p (List.mem_of_getElem? (i := 61) rfl) rfl
theorem ls_X11_goesIn : Cond.selects yX11_goesIn.cls yX11_goesIn yX11_goesIn ∈ gws := gi_p (List.mem_of_getElem? (i := 62) rfl) rfl
theorem ls_X11_unit : Cond.selects yX11_unit.cls yX11_unit yX11_unit ∈ gws := gi_p (List.mem_of_getElem? (i := 63) rfl) rfl
theorem ls_X11_readPlan : Cond.selects yX11_readPlan.cls yX11_readPlan yX11_readPlan ∈ gws := gi_p (List.mem_of_getElem? (i := 64) rfl) rfl
theorem ls_X11_readStep : Cond.selects yX11_readStep.cls yX11_readStep yX11_readStep ∈ gws := gi_p (List.mem_of_getElem? (i := 65) rfl) rfl
theorem ls_X11_digit : Cond.selects yX11_digit.cls yX11_digit yX11_digit ∈ gws := gi_p (List.mem_of_getElem? (i := 66) rfl) rfl
theorem ls_X11_isPerson : Cond.selects yX11_isPerson.cls yX11_isPerson yX11_isPerson ∈ gws := gi_p (List.mem_of_getElem? (i := 67) rfl) rfl
theorem ls_X11_isDeed : Cond.selects yX11_isDeed.cls yX11_isDeed yX11_isDeed ∈ gws := gi_p (List.mem_of_getElem? (i := 68) rfl) rfl
theorem ls_X11_canCommit : Cond.selects yX11_canCommit.cls yX11_canCommit yX11_canCommit ∈ gws := gi_p (List.mem_of_getElem? (i := 69) rfl) rfl
theorem ls_X11_remember : Cond.selects yX11_remember.cls yX11_remember yX11_remember ∈ gws := gi_p (List.mem_of_getElem? (i := 70) rfl) rfl
theorem ls_X11_commits : Cond.selects yX11_commits.cls yX11_commits yX11_commits ∈ gws := gi_p (List.mem_of_getElem? (i := 71) rfl) rfl
theorem ls_X11_guiltOf : Cond.selects yX11_guiltOf.cls yX11_guiltOf yX11_guiltOf ∈ gws := gi_p (List.mem_of_getElem? (i := 72) rfl) rfl
theorem ls_X11_setOf : Cond.selects yX11_setOf.cls yX11_setOf yX11_setOf ∈ gws := gi_p (List.mem_of_getElem? (i := 73) rfl) rfl
theorem ls_X11_sumOf : Cond.selects yX11_sumOf.cls yX11_sumOf yX11_sumOf ∈ gws := gi_p (List.mem_of_getElem? (i := 74) rfl) rfl
theorem ls_X11_canAtone : Cond.selects yX11_canAtone.cls yX11_canAtone yX11_canAtone ∈ gws := gi_p (List.mem_of_getElem? (i := 75) rfl) rfl
theorem ls_X11_canGo : Cond.selects yX11_canGo.cls yX11_canGo yX11_canGo ∈ gws := gi_p (List.mem_of_getElem? (i := 76) rfl) rfl
theorem ls_X11_goes : Cond.selects yX11_goes.cls yX11_goes yX11_goes ∈ gws := gi_p (List.mem_of_getElem? (i := 77) rfl) rfl
theorem ls_X11_isGuilty : Cond.selects yX11_isGuilty.cls yX11_isGuilty yX11_isGuilty ∈ gws := gi_p (List.mem_of_getElem? (i := 78) rfl) rfl
theorem ls_X11_readWith : Cond.selects yX11_readWith.cls yX11_readWith yX11_readWith ∈ gws := gi_p (List.mem_of_getElem? (i := 79) rfl) rfl
theorem ls_X11_readBy : Cond.selects yX11_readBy.cls yX11_readBy yX11_readBy ∈ gws := gi_p (List.mem_of_getElem? (i := 80) rfl) rfl
theorem ls_X11_worthOf : Cond.selects yX11_worthOf.cls yX11_worthOf yX11_worthOf ∈ gws := gi_p (List.mem_of_getElem? (i := 81) rfl) rfl
theorem ls_X11_goDay : Cond.selects yX11_goDay.cls yX11_goDay yX11_goDay ∈ gws := gi_p (List.mem_of_getElem? (i := 82) rfl) rfl
theorem ls_X11_smooth : Cond.selects yX11_smooth.cls yX11_smooth yX11_smooth ∈ gws := gi_p (List.mem_of_getElem? (i := 83) rfl) rfl
theorem ls_X11_ages : Cond.selects yX11_ages.cls yX11_ages yX11_ages ∈ gws := gi_p (List.mem_of_getElem? (i := 84) rfl) rfl
theorem ls_X11_draw : Cond.selects yX11_draw.cls yX11_draw yX11_draw ∈ gws := gi_p (List.mem_of_getElem? (i := 85) rfl) rfl
theorem ls_X11_isPlan : Cond.selects yX11_isPlan.cls yX11_isPlan yX11_isPlan ∈ gws := gi_p (List.mem_of_getElem? (i := 86) rfl) rfl
theorem ls_X11_canStep : Cond.selects yX11_canStep.cls yX11_canStep yX11_canStep ∈ gws := gi_p (List.mem_of_getElem? (i := 87) rfl) rfl
theorem ls_X11_goStep : Cond.selects yX11_goStep.cls yX11_goStep yX11_goStep ∈ gws := gi_p (List.mem_of_getElem? (i := 88) rfl) rfl
theorem ls_X11_meetsSet : Cond.selects yX11_meetsSet.cls yX11_meetsSet yX11_meetsSet ∈ gws := gi_p (List.mem_of_getElem? (i := 89) rfl) rfl
theorem ls_X11_areGuilty : Cond.selects yX11_areGuilty.cls yX11_areGuilty yX11_areGuilty ∈ gws := gi_p (List.mem_of_getElem? (i := 90) rfl) rfl
theorem ls_X11_harmOf : Cond.selects yX11_harmOf.cls yX11_harmOf yX11_harmOf ∈ gws := gi_p (List.mem_of_getElem? (i := 91) rfl) rfl
theorem ls_X11_isSet : Cond.selects yX11_isSet.cls yX11_isSet yX11_isSet ∈ gws := gi_p (List.mem_of_getElem? (i := 92) rfl) rfl
theorem ls_X11_wouldBe : Cond.selects yX11_wouldBe.cls yX11_wouldBe yX11_wouldBe ∈ gws := gi_p (List.mem_of_getElem? (i := 93) rfl) rfl
theorem ls_X11_gameOf : Cond.selects yX11_gameOf.cls yX11_gameOf yX11_gameOf ∈ gws := gi_p (List.mem_of_getElem? (i := 94) rfl) rfl
theorem ls_X11_seems : Cond.selects yX11_seems.cls yX11_seems yX11_seems ∈ gws := gi_p (List.mem_of_getElem? (i := 95) rfl) rfl
theorem ls_X11_oddsFrom : Cond.selects yX11_oddsFrom.cls yX11_oddsFrom yX11_oddsFrom ∈ gws := gi_p (List.mem_of_getElem? (i := 96) rfl) rfl
theorem ls_X11_wishOf : Cond.selects yX11_wishOf.cls yX11_wishOf yX11_wishOf ∈ gws := gi_p (List.mem_of_getElem? (i := 97) rfl) rfl
theorem ls_X11_greatest : Cond.selects yX11_greatest.cls yX11_greatest yX11_greatest ∈ gws := gi_p (List.mem_of_getElem? (i := 98) rfl) rfl
theorem ls_X11_valueOf : Cond.selects yX11_valueOf.cls yX11_valueOf yX11_valueOf ∈ gws := gi_p (List.mem_of_getElem? (i := 99) rfl) rfl
theorem ls_X11_served : Cond.selects yX11_served.cls yX11_served yX11_served ∈ gws := gi_p (List.mem_of_getElem? (i := 100) rfl) rfl
