section W0
variable {X : gX} {M : gM} {d : Nat}
theorem lg_le0 (x z : Int64) : lg_cmp x z ≤ 0 ↔ ¬ z < x := by rw [← lg_gt, Int32.not_lt]
theorem lg_ge0 (x z : Int64) : 0 ≤ lg_cmp x z ↔ ¬ x < z := by rw [← lg_lt, Int32.not_lt]
theorem lg_eq0 (x z : Int64) : lg_cmp x z = 0 ↔ x = z := by
  unfold lg_cmp
  by_cases h1 : z < x
  · rw [if_pos h1]
    exact ⟨fun q => absurd q (by decide), fun q => by rw [q] at h1; exact absurd h1 Int64.lt_irrefl⟩
  · rw [if_neg h1]
    by_cases h2 : x = z
    · rw [if_pos h2]; exact ⟨fun _ => h2, fun _ => rfl⟩
    · rw [if_neg h2]; exact ⟨fun q => absurd q (by decide), fun q => absurd q h2⟩
def clampL (v : Int64) : Int32 := (if 1000000 < v then 1000000 else if v < -1000000 then -1000000 else v).toInt32
/-- two numbers joined by a sign -/
def jv (s : Nat) (a b : Int64) : Int64 := if s = 6 then a ||| b else if s = 7 then a &&& b else if s = 9 then (if a = b then 1 else 0) else if s = 10 then (if a < b then 1 else 0) else if s = 11 then (if b < a then 1 else 0) else if s = 12 then a + b else if s = 13 then a - b else if s = 14 then a * b else if b = 0 then 0 else a / b
set_option maxRecDepth 20000 in
theorem c_joined_6 (hx : gXok X) {a b : Int64} : gDet X (d + 0) yX2_joined cX2_joined 7 (some .int) [.int (nI 6), .long a, .long b] M (some (.int (clampL (jv 6 a b)))) M := by
  refine gMet.of hx (by decide) (Nat.le_of_ble_eq_true rfl) ?_
  refine g_iload_n dX2_joined_0 rfl rfl rfl ?_
  refine g_tableIn (off := 51) (tgt := 52) dX2_joined_1 (by decide) (by decide) (by decide) (by decide) ?_
  refine g_lload_n dX2_joined_52 rfl rfl rfl ?_
  refine g_lload_n dX2_joined_53 rfl rfl rfl ?_
  refine g_lor dX2_joined_54 rfl ?_
  refine g_lstore dX2_joined_55 (by decide) rfl ?_
  refine g_goto (tgt := 155) dX2_joined_57 (by decide) ?_
  refine g_lload dX2_joined_155 rfl rfl ?_
  refine g_ldc2 dX2_joined_157 lq_X2_43 rfl ?_
  refine g_lcmp dX2_joined_160 rfl ?_
  refine g_if_le (tgt := 170) dX2_joined_161 (by decide) rfl (fun h161 => ?_) (fun h161 => ?_)
  · have h161 := (lg_le0 _ _).mp h161
    refine g_lload dX2_joined_170 rfl rfl ?_
    refine g_ldc2 dX2_joined_172 lq_X2_45 rfl ?_
    refine g_lcmp dX2_joined_175 rfl ?_
    refine g_if_ge (tgt := 185) dX2_joined_176 (by decide) rfl (fun h176 => ?_) (fun h176 => ?_)
    · have h176 := (lg_ge0 _ _).mp h176
      refine g_lload dX2_joined_185 rfl rfl ?_
      refine g_l2i dX2_joined_187 rfl ?_
      exact g_iret dX2_joined_188 rfl rfl ⟨by rw [show jv 6 a b = a ||| b from rfl]; unfold clampL; rw [if_neg h161, if_neg h176], rfl⟩
    · have h176 := Classical.not_not.mp (fun q => h176 ((lg_ge0 _ _).mpr q))
      refine g_ldc2 dX2_joined_179 lq_X2_45 rfl ?_
      refine g_goto (tgt := 187) dX2_joined_182 (by decide) ?_
      refine g_l2i dX2_joined_187 rfl ?_
      exact g_iret dX2_joined_188 rfl rfl ⟨by rw [show jv 6 a b = a ||| b from rfl]; unfold clampL; rw [if_neg h161, if_pos h176], rfl⟩
  · have h161 := Classical.not_not.mp (fun q => h161 ((lg_le0 _ _).mpr q))
    refine g_ldc2 dX2_joined_164 lq_X2_43 rfl ?_
    refine g_goto (tgt := 187) dX2_joined_167 (by decide) ?_
    refine g_l2i dX2_joined_187 rfl ?_
    exact g_iret dX2_joined_188 rfl rfl ⟨by rw [show jv 6 a b = a ||| b from rfl]; unfold clampL; rw [if_pos h161], rfl⟩
set_option maxRecDepth 20000 in
theorem c_joined_7 (hx : gXok X) {a b : Int64} : gDet X (d + 0) yX2_joined cX2_joined 7 (some .int) [.int (nI 7), .long a, .long b] M (some (.int (clampL (jv 7 a b)))) M := by
  refine gMet.of hx (by decide) (Nat.le_of_ble_eq_true rfl) ?_
  refine g_iload_n dX2_joined_0 rfl rfl rfl ?_
  refine g_tableIn (off := 59) (tgt := 60) dX2_joined_1 (by decide) (by decide) (by decide) (by decide) ?_
  refine g_lload_n dX2_joined_60 rfl rfl rfl ?_
  refine g_lload_n dX2_joined_61 rfl rfl rfl ?_
  refine g_land dX2_joined_62 rfl ?_
  refine g_lstore dX2_joined_63 (by decide) rfl ?_
  refine g_goto (tgt := 155) dX2_joined_65 (by decide) ?_
  refine g_lload dX2_joined_155 rfl rfl ?_
  refine g_ldc2 dX2_joined_157 lq_X2_43 rfl ?_
  refine g_lcmp dX2_joined_160 rfl ?_
  refine g_if_le (tgt := 170) dX2_joined_161 (by decide) rfl (fun h161 => ?_) (fun h161 => ?_)
  · have h161 := (lg_le0 _ _).mp h161
    refine g_lload dX2_joined_170 rfl rfl ?_
    refine g_ldc2 dX2_joined_172 lq_X2_45 rfl ?_
    refine g_lcmp dX2_joined_175 rfl ?_
    refine g_if_ge (tgt := 185) dX2_joined_176 (by decide) rfl (fun h176 => ?_) (fun h176 => ?_)
    · have h176 := (lg_ge0 _ _).mp h176
      refine g_lload dX2_joined_185 rfl rfl ?_
      refine g_l2i dX2_joined_187 rfl ?_
      exact g_iret dX2_joined_188 rfl rfl ⟨by rw [show jv 7 a b = a &&& b from rfl]; unfold clampL; rw [if_neg h161, if_neg h176], rfl⟩
    · have h176 := Classical.not_not.mp (fun q => h176 ((lg_ge0 _ _).mpr q))
      refine g_ldc2 dX2_joined_179 lq_X2_45 rfl ?_
      refine g_goto (tgt := 187) dX2_joined_182 (by decide) ?_
      refine g_l2i dX2_joined_187 rfl ?_
      exact g_iret dX2_joined_188 rfl rfl ⟨by rw [show jv 7 a b = a &&& b from rfl]; unfold clampL; rw [if_neg h161, if_pos h176], rfl⟩
  · have h161 := Classical.not_not.mp (fun q => h161 ((lg_le0 _ _).mpr q))
    refine g_ldc2 dX2_joined_164 lq_X2_43 rfl ?_
    refine g_goto (tgt := 187) dX2_joined_167 (by decide) ?_
    refine g_l2i dX2_joined_187 rfl ?_
    exact g_iret dX2_joined_188 rfl rfl ⟨by rw [show jv 7 a b = a &&& b from rfl]; unfold clampL; rw [if_pos h161], rfl⟩
set_option maxRecDepth 20000 in
theorem c_joined_9 (hx : gXok X) {a b : Int64} : gDet X (d + 0) yX2_joined cX2_joined 7 (some .int) [.int (nI 9), .long a, .long b] M (some (.int (clampL (jv 9 a b)))) M := by
  refine gMet.of hx (by decide) (Nat.le_of_ble_eq_true rfl) ?_
  refine g_iload_n dX2_joined_0 rfl rfl rfl ?_
  refine g_tableIn (off := 67) (tgt := 68) dX2_joined_1 (by decide) (by decide) (by decide) (by decide) ?_
  refine g_lload_n dX2_joined_68 rfl rfl rfl ?_
  refine g_lload_n dX2_joined_69 rfl rfl rfl ?_
  refine g_lcmp dX2_joined_70 rfl ?_
  refine g_if_ne (tgt := 78) dX2_joined_71 (by decide) rfl (fun h71 => ?_) (fun h71 => ?_)
  · have hc : ¬ a = b := fun q => h71 ((lg_eq0 _ _).mpr q)
    refine g_lconst (v := 0) dX2_joined_78 (by decide) rfl ?_
    refine g_lstore dX2_joined_79 (by decide) rfl ?_
    refine g_goto (tgt := 155) dX2_joined_81 (by decide) ?_
    refine g_lload dX2_joined_155 rfl rfl ?_
    refine g_ldc2 dX2_joined_157 lq_X2_43 rfl ?_
    refine g_lcmp dX2_joined_160 rfl ?_
    refine g_if_le (tgt := 170) dX2_joined_161 (by decide) rfl (fun h161 => ?_) (fun h161 => ?_)
    · have h161 := (lg_le0 _ _).mp h161
      refine g_lload dX2_joined_170 rfl rfl ?_
      refine g_ldc2 dX2_joined_172 lq_X2_45 rfl ?_
      refine g_lcmp dX2_joined_175 rfl ?_
      refine g_if_ge (tgt := 185) dX2_joined_176 (by decide) rfl (fun h176 => ?_) (fun h176 => ?_)
      · have h176 := (lg_ge0 _ _).mp h176
        refine g_lload dX2_joined_185 rfl rfl ?_
        refine g_l2i dX2_joined_187 rfl ?_
        exact g_iret dX2_joined_188 rfl rfl ⟨by rw [show jv 9 a b = 0 from (if_neg hc : (if a = b then (1 : Int64) else 0) = 0)]; unfold clampL; rw [if_neg h161, if_neg h176], rfl⟩
      · have h176 := Classical.not_not.mp (fun q => h176 ((lg_ge0 _ _).mpr q))
        refine g_ldc2 dX2_joined_179 lq_X2_45 rfl ?_
        refine g_goto (tgt := 187) dX2_joined_182 (by decide) ?_
        refine g_l2i dX2_joined_187 rfl ?_
        exact g_iret dX2_joined_188 rfl rfl ⟨by rw [show jv 9 a b = 0 from (if_neg hc : (if a = b then (1 : Int64) else 0) = 0)]; unfold clampL; rw [if_neg h161, if_pos h176], rfl⟩
    · have h161 := Classical.not_not.mp (fun q => h161 ((lg_le0 _ _).mpr q))
      refine g_ldc2 dX2_joined_164 lq_X2_43 rfl ?_
      refine g_goto (tgt := 187) dX2_joined_167 (by decide) ?_
      refine g_l2i dX2_joined_187 rfl ?_
      exact g_iret dX2_joined_188 rfl rfl ⟨by rw [show jv 9 a b = 0 from (if_neg hc : (if a = b then (1 : Int64) else 0) = 0)]; unfold clampL; rw [if_pos h161], rfl⟩
  · have hc : a = b := (lg_eq0 _ _).mp h71
    refine g_lconst (v := 1) dX2_joined_74 (by decide) rfl ?_
    refine g_goto (tgt := 79) dX2_joined_75 (by decide) ?_
    refine g_lstore dX2_joined_79 (by decide) rfl ?_
    refine g_goto (tgt := 155) dX2_joined_81 (by decide) ?_
    refine g_lload dX2_joined_155 rfl rfl ?_
    refine g_ldc2 dX2_joined_157 lq_X2_43 rfl ?_
    refine g_lcmp dX2_joined_160 rfl ?_
    refine g_if_le (tgt := 170) dX2_joined_161 (by decide) rfl (fun h161 => ?_) (fun h161 => ?_)
    · have h161 := (lg_le0 _ _).mp h161
      refine g_lload dX2_joined_170 rfl rfl ?_
      refine g_ldc2 dX2_joined_172 lq_X2_45 rfl ?_
      refine g_lcmp dX2_joined_175 rfl ?_
      refine g_if_ge (tgt := 185) dX2_joined_176 (by decide) rfl (fun h176 => ?_) (fun h176 => ?_)
      · have h176 := (lg_ge0 _ _).mp h176
        refine g_lload dX2_joined_185 rfl rfl ?_
        refine g_l2i dX2_joined_187 rfl ?_
        exact g_iret dX2_joined_188 rfl rfl ⟨by rw [show jv 9 a b = 1 from (if_pos hc : (if a = b then (1 : Int64) else 0) = 1)]; unfold clampL; rw [if_neg h161, if_neg h176], rfl⟩
      · have h176 := Classical.not_not.mp (fun q => h176 ((lg_ge0 _ _).mpr q))
        refine g_ldc2 dX2_joined_179 lq_X2_45 rfl ?_
        refine g_goto (tgt := 187) dX2_joined_182 (by decide) ?_
        refine g_l2i dX2_joined_187 rfl ?_
        exact g_iret dX2_joined_188 rfl rfl ⟨by rw [show jv 9 a b = 1 from (if_pos hc : (if a = b then (1 : Int64) else 0) = 1)]; unfold clampL; rw [if_neg h161, if_pos h176], rfl⟩
    · have h161 := Classical.not_not.mp (fun q => h161 ((lg_le0 _ _).mpr q))
      refine g_ldc2 dX2_joined_164 lq_X2_43 rfl ?_
      refine g_goto (tgt := 187) dX2_joined_167 (by decide) ?_
      refine g_l2i dX2_joined_187 rfl ?_
      exact g_iret dX2_joined_188 rfl rfl ⟨by rw [show jv 9 a b = 1 from (if_pos hc : (if a = b then (1 : Int64) else 0) = 1)]; unfold clampL; rw [if_pos h161], rfl⟩
set_option maxRecDepth 20000 in
theorem c_joined_10 (hx : gXok X) {a b : Int64} : gDet X (d + 0) yX2_joined cX2_joined 7 (some .int) [.int (nI 10), .long a, .long b] M (some (.int (clampL (jv 10 a b)))) M := by
  refine gMet.of hx (by decide) (Nat.le_of_ble_eq_true rfl) ?_
  refine g_iload_n dX2_joined_0 rfl rfl rfl ?_
  refine g_tableIn (off := 83) (tgt := 84) dX2_joined_1 (by decide) (by decide) (by decide) (by decide) ?_
  refine g_lload_n dX2_joined_84 rfl rfl rfl ?_
  refine g_lload_n dX2_joined_85 rfl rfl rfl ?_
  refine g_lcmp dX2_joined_86 rfl ?_
  refine g_if_ge (tgt := 94) dX2_joined_87 (by decide) rfl (fun h87 => ?_) (fun h87 => ?_)
  · have hc : ¬ a < b := (lg_ge0 _ _).mp h87
    refine g_lconst (v := 0) dX2_joined_94 (by decide) rfl ?_
    refine g_lstore dX2_joined_95 (by decide) rfl ?_
    refine g_goto (tgt := 155) dX2_joined_97 (by decide) ?_
    refine g_lload dX2_joined_155 rfl rfl ?_
    refine g_ldc2 dX2_joined_157 lq_X2_43 rfl ?_
    refine g_lcmp dX2_joined_160 rfl ?_
    refine g_if_le (tgt := 170) dX2_joined_161 (by decide) rfl (fun h161 => ?_) (fun h161 => ?_)
    · have h161 := (lg_le0 _ _).mp h161
      refine g_lload dX2_joined_170 rfl rfl ?_
      refine g_ldc2 dX2_joined_172 lq_X2_45 rfl ?_
      refine g_lcmp dX2_joined_175 rfl ?_
      refine g_if_ge (tgt := 185) dX2_joined_176 (by decide) rfl (fun h176 => ?_) (fun h176 => ?_)
      · have h176 := (lg_ge0 _ _).mp h176
        refine g_lload dX2_joined_185 rfl rfl ?_
        refine g_l2i dX2_joined_187 rfl ?_
        exact g_iret dX2_joined_188 rfl rfl ⟨by rw [show jv 10 a b = 0 from (if_neg hc : (if a < b then (1 : Int64) else 0) = 0)]; unfold clampL; rw [if_neg h161, if_neg h176], rfl⟩
      · have h176 := Classical.not_not.mp (fun q => h176 ((lg_ge0 _ _).mpr q))
        refine g_ldc2 dX2_joined_179 lq_X2_45 rfl ?_
        refine g_goto (tgt := 187) dX2_joined_182 (by decide) ?_
        refine g_l2i dX2_joined_187 rfl ?_
        exact g_iret dX2_joined_188 rfl rfl ⟨by rw [show jv 10 a b = 0 from (if_neg hc : (if a < b then (1 : Int64) else 0) = 0)]; unfold clampL; rw [if_neg h161, if_pos h176], rfl⟩
    · have h161 := Classical.not_not.mp (fun q => h161 ((lg_le0 _ _).mpr q))
      refine g_ldc2 dX2_joined_164 lq_X2_43 rfl ?_
      refine g_goto (tgt := 187) dX2_joined_167 (by decide) ?_
      refine g_l2i dX2_joined_187 rfl ?_
      exact g_iret dX2_joined_188 rfl rfl ⟨by rw [show jv 10 a b = 0 from (if_neg hc : (if a < b then (1 : Int64) else 0) = 0)]; unfold clampL; rw [if_pos h161], rfl⟩
  · have hc : a < b := Classical.not_not.mp (fun q => h87 ((lg_ge0 _ _).mpr q))
    refine g_lconst (v := 1) dX2_joined_90 (by decide) rfl ?_
    refine g_goto (tgt := 95) dX2_joined_91 (by decide) ?_
    refine g_lstore dX2_joined_95 (by decide) rfl ?_
    refine g_goto (tgt := 155) dX2_joined_97 (by decide) ?_
    refine g_lload dX2_joined_155 rfl rfl ?_
    refine g_ldc2 dX2_joined_157 lq_X2_43 rfl ?_
    refine g_lcmp dX2_joined_160 rfl ?_
    refine g_if_le (tgt := 170) dX2_joined_161 (by decide) rfl (fun h161 => ?_) (fun h161 => ?_)
    · have h161 := (lg_le0 _ _).mp h161
      refine g_lload dX2_joined_170 rfl rfl ?_
      refine g_ldc2 dX2_joined_172 lq_X2_45 rfl ?_
      refine g_lcmp dX2_joined_175 rfl ?_
      refine g_if_ge (tgt := 185) dX2_joined_176 (by decide) rfl (fun h176 => ?_) (fun h176 => ?_)
      · have h176 := (lg_ge0 _ _).mp h176
        refine g_lload dX2_joined_185 rfl rfl ?_
        refine g_l2i dX2_joined_187 rfl ?_
        exact g_iret dX2_joined_188 rfl rfl ⟨by rw [show jv 10 a b = 1 from (if_pos hc : (if a < b then (1 : Int64) else 0) = 1)]; unfold clampL; rw [if_neg h161, if_neg h176], rfl⟩
      · have h176 := Classical.not_not.mp (fun q => h176 ((lg_ge0 _ _).mpr q))
        refine g_ldc2 dX2_joined_179 lq_X2_45 rfl ?_
        refine g_goto (tgt := 187) dX2_joined_182 (by decide) ?_
        refine g_l2i dX2_joined_187 rfl ?_
        exact g_iret dX2_joined_188 rfl rfl ⟨by rw [show jv 10 a b = 1 from (if_pos hc : (if a < b then (1 : Int64) else 0) = 1)]; unfold clampL; rw [if_neg h161, if_pos h176], rfl⟩
    · have h161 := Classical.not_not.mp (fun q => h161 ((lg_le0 _ _).mpr q))
      refine g_ldc2 dX2_joined_164 lq_X2_43 rfl ?_
      refine g_goto (tgt := 187) dX2_joined_167 (by decide) ?_
      refine g_l2i dX2_joined_187 rfl ?_
      exact g_iret dX2_joined_188 rfl rfl ⟨by rw [show jv 10 a b = 1 from (if_pos hc : (if a < b then (1 : Int64) else 0) = 1)]; unfold clampL; rw [if_pos h161], rfl⟩
set_option maxRecDepth 20000 in
theorem c_joined_11 (hx : gXok X) {a b : Int64} : gDet X (d + 0) yX2_joined cX2_joined 7 (some .int) [.int (nI 11), .long a, .long b] M (some (.int (clampL (jv 11 a b)))) M := by
  refine gMet.of hx (by decide) (Nat.le_of_ble_eq_true rfl) ?_
  refine g_iload_n dX2_joined_0 rfl rfl rfl ?_
  refine g_tableIn (off := 99) (tgt := 100) dX2_joined_1 (by decide) (by decide) (by decide) (by decide) ?_
  refine g_lload_n dX2_joined_100 rfl rfl rfl ?_
  refine g_lload_n dX2_joined_101 rfl rfl rfl ?_
  refine g_lcmp dX2_joined_102 rfl ?_
  refine g_if_le (tgt := 110) dX2_joined_103 (by decide) rfl (fun h103 => ?_) (fun h103 => ?_)
  · have hc : ¬ b < a := (lg_le0 _ _).mp h103
    refine g_lconst (v := 0) dX2_joined_110 (by decide) rfl ?_
    refine g_lstore dX2_joined_111 (by decide) rfl ?_
    refine g_goto (tgt := 155) dX2_joined_113 (by decide) ?_
    refine g_lload dX2_joined_155 rfl rfl ?_
    refine g_ldc2 dX2_joined_157 lq_X2_43 rfl ?_
    refine g_lcmp dX2_joined_160 rfl ?_
    refine g_if_le (tgt := 170) dX2_joined_161 (by decide) rfl (fun h161 => ?_) (fun h161 => ?_)
    · have h161 := (lg_le0 _ _).mp h161
      refine g_lload dX2_joined_170 rfl rfl ?_
      refine g_ldc2 dX2_joined_172 lq_X2_45 rfl ?_
      refine g_lcmp dX2_joined_175 rfl ?_
      refine g_if_ge (tgt := 185) dX2_joined_176 (by decide) rfl (fun h176 => ?_) (fun h176 => ?_)
      · have h176 := (lg_ge0 _ _).mp h176
        refine g_lload dX2_joined_185 rfl rfl ?_
        refine g_l2i dX2_joined_187 rfl ?_
        exact g_iret dX2_joined_188 rfl rfl ⟨by rw [show jv 11 a b = 0 from (if_neg hc : (if b < a then (1 : Int64) else 0) = 0)]; unfold clampL; rw [if_neg h161, if_neg h176], rfl⟩
      · have h176 := Classical.not_not.mp (fun q => h176 ((lg_ge0 _ _).mpr q))
        refine g_ldc2 dX2_joined_179 lq_X2_45 rfl ?_
        refine g_goto (tgt := 187) dX2_joined_182 (by decide) ?_
        refine g_l2i dX2_joined_187 rfl ?_
        exact g_iret dX2_joined_188 rfl rfl ⟨by rw [show jv 11 a b = 0 from (if_neg hc : (if b < a then (1 : Int64) else 0) = 0)]; unfold clampL; rw [if_neg h161, if_pos h176], rfl⟩
    · have h161 := Classical.not_not.mp (fun q => h161 ((lg_le0 _ _).mpr q))
      refine g_ldc2 dX2_joined_164 lq_X2_43 rfl ?_
      refine g_goto (tgt := 187) dX2_joined_167 (by decide) ?_
      refine g_l2i dX2_joined_187 rfl ?_
      exact g_iret dX2_joined_188 rfl rfl ⟨by rw [show jv 11 a b = 0 from (if_neg hc : (if b < a then (1 : Int64) else 0) = 0)]; unfold clampL; rw [if_pos h161], rfl⟩
  · have hc : b < a := Classical.not_not.mp (fun q => h103 ((lg_le0 _ _).mpr q))
    refine g_lconst (v := 1) dX2_joined_106 (by decide) rfl ?_
    refine g_goto (tgt := 111) dX2_joined_107 (by decide) ?_
    refine g_lstore dX2_joined_111 (by decide) rfl ?_
    refine g_goto (tgt := 155) dX2_joined_113 (by decide) ?_
    refine g_lload dX2_joined_155 rfl rfl ?_
    refine g_ldc2 dX2_joined_157 lq_X2_43 rfl ?_
    refine g_lcmp dX2_joined_160 rfl ?_
    refine g_if_le (tgt := 170) dX2_joined_161 (by decide) rfl (fun h161 => ?_) (fun h161 => ?_)
    · have h161 := (lg_le0 _ _).mp h161
      refine g_lload dX2_joined_170 rfl rfl ?_
      refine g_ldc2 dX2_joined_172 lq_X2_45 rfl ?_
      refine g_lcmp dX2_joined_175 rfl ?_
      refine g_if_ge (tgt := 185) dX2_joined_176 (by decide) rfl (fun h176 => ?_) (fun h176 => ?_)
      · have h176 := (lg_ge0 _ _).mp h176
        refine g_lload dX2_joined_185 rfl rfl ?_
        refine g_l2i dX2_joined_187 rfl ?_
        exact g_iret dX2_joined_188 rfl rfl ⟨by rw [show jv 11 a b = 1 from (if_pos hc : (if b < a then (1 : Int64) else 0) = 1)]; unfold clampL; rw [if_neg h161, if_neg h176], rfl⟩
      · have h176 := Classical.not_not.mp (fun q => h176 ((lg_ge0 _ _).mpr q))
        refine g_ldc2 dX2_joined_179 lq_X2_45 rfl ?_
        refine g_goto (tgt := 187) dX2_joined_182 (by decide) ?_
        refine g_l2i dX2_joined_187 rfl ?_
        exact g_iret dX2_joined_188 rfl rfl ⟨by rw [show jv 11 a b = 1 from (if_pos hc : (if b < a then (1 : Int64) else 0) = 1)]; unfold clampL; rw [if_neg h161, if_pos h176], rfl⟩
    · have h161 := Classical.not_not.mp (fun q => h161 ((lg_le0 _ _).mpr q))
      refine g_ldc2 dX2_joined_164 lq_X2_43 rfl ?_
      refine g_goto (tgt := 187) dX2_joined_167 (by decide) ?_
      refine g_l2i dX2_joined_187 rfl ?_
      exact g_iret dX2_joined_188 rfl rfl ⟨by rw [show jv 11 a b = 1 from (if_pos hc : (if b < a then (1 : Int64) else 0) = 1)]; unfold clampL; rw [if_pos h161], rfl⟩
set_option maxRecDepth 20000 in
theorem c_joined_12 (hx : gXok X) {a b : Int64} : gDet X (d + 0) yX2_joined cX2_joined 7 (some .int) [.int (nI 12), .long a, .long b] M (some (.int (clampL (jv 12 a b)))) M := by
  refine gMet.of hx (by decide) (Nat.le_of_ble_eq_true rfl) ?_
  refine g_iload_n dX2_joined_0 rfl rfl rfl ?_
  refine g_tableIn (off := 115) (tgt := 116) dX2_joined_1 (by decide) (by decide) (by decide) (by decide) ?_
  refine g_lload_n dX2_joined_116 rfl rfl rfl ?_
  refine g_lload_n dX2_joined_117 rfl rfl rfl ?_
  refine g_ladd dX2_joined_118 rfl ?_
  refine g_lstore dX2_joined_119 (by decide) rfl ?_
  refine g_goto (tgt := 155) dX2_joined_121 (by decide) ?_
  refine g_lload dX2_joined_155 rfl rfl ?_
  refine g_ldc2 dX2_joined_157 lq_X2_43 rfl ?_
  refine g_lcmp dX2_joined_160 rfl ?_
  refine g_if_le (tgt := 170) dX2_joined_161 (by decide) rfl (fun h161 => ?_) (fun h161 => ?_)
  · have h161 := (lg_le0 _ _).mp h161
    refine g_lload dX2_joined_170 rfl rfl ?_
    refine g_ldc2 dX2_joined_172 lq_X2_45 rfl ?_
    refine g_lcmp dX2_joined_175 rfl ?_
    refine g_if_ge (tgt := 185) dX2_joined_176 (by decide) rfl (fun h176 => ?_) (fun h176 => ?_)
    · have h176 := (lg_ge0 _ _).mp h176
      refine g_lload dX2_joined_185 rfl rfl ?_
      refine g_l2i dX2_joined_187 rfl ?_
      exact g_iret dX2_joined_188 rfl rfl ⟨by rw [show jv 12 a b = a + b from rfl]; unfold clampL; rw [if_neg h161, if_neg h176], rfl⟩
    · have h176 := Classical.not_not.mp (fun q => h176 ((lg_ge0 _ _).mpr q))
      refine g_ldc2 dX2_joined_179 lq_X2_45 rfl ?_
      refine g_goto (tgt := 187) dX2_joined_182 (by decide) ?_
      refine g_l2i dX2_joined_187 rfl ?_
      exact g_iret dX2_joined_188 rfl rfl ⟨by rw [show jv 12 a b = a + b from rfl]; unfold clampL; rw [if_neg h161, if_pos h176], rfl⟩
  · have h161 := Classical.not_not.mp (fun q => h161 ((lg_le0 _ _).mpr q))
    refine g_ldc2 dX2_joined_164 lq_X2_43 rfl ?_
    refine g_goto (tgt := 187) dX2_joined_167 (by decide) ?_
    refine g_l2i dX2_joined_187 rfl ?_
    exact g_iret dX2_joined_188 rfl rfl ⟨by rw [show jv 12 a b = a + b from rfl]; unfold clampL; rw [if_pos h161], rfl⟩
set_option maxRecDepth 20000 in
theorem c_joined_13 (hx : gXok X) {a b : Int64} : gDet X (d + 0) yX2_joined cX2_joined 7 (some .int) [.int (nI 13), .long a, .long b] M (some (.int (clampL (jv 13 a b)))) M := by
  refine gMet.of hx (by decide) (Nat.le_of_ble_eq_true rfl) ?_
  refine g_iload_n dX2_joined_0 rfl rfl rfl ?_
  refine g_tableIn (off := 123) (tgt := 124) dX2_joined_1 (by decide) (by decide) (by decide) (by decide) ?_
  refine g_lload_n dX2_joined_124 rfl rfl rfl ?_
  refine g_lload_n dX2_joined_125 rfl rfl rfl ?_
  refine g_lsub dX2_joined_126 rfl ?_
  refine g_lstore dX2_joined_127 (by decide) rfl ?_
  refine g_goto (tgt := 155) dX2_joined_129 (by decide) ?_
  refine g_lload dX2_joined_155 rfl rfl ?_
  refine g_ldc2 dX2_joined_157 lq_X2_43 rfl ?_
  refine g_lcmp dX2_joined_160 rfl ?_
  refine g_if_le (tgt := 170) dX2_joined_161 (by decide) rfl (fun h161 => ?_) (fun h161 => ?_)
  · have h161 := (lg_le0 _ _).mp h161
    refine g_lload dX2_joined_170 rfl rfl ?_
    refine g_ldc2 dX2_joined_172 lq_X2_45 rfl ?_
    refine g_lcmp dX2_joined_175 rfl ?_
    refine g_if_ge (tgt := 185) dX2_joined_176 (by decide) rfl (fun h176 => ?_) (fun h176 => ?_)
    · have h176 := (lg_ge0 _ _).mp h176
      refine g_lload dX2_joined_185 rfl rfl ?_
      refine g_l2i dX2_joined_187 rfl ?_
      exact g_iret dX2_joined_188 rfl rfl ⟨by rw [show jv 13 a b = a - b from rfl]; unfold clampL; rw [if_neg h161, if_neg h176], rfl⟩
    · have h176 := Classical.not_not.mp (fun q => h176 ((lg_ge0 _ _).mpr q))
      refine g_ldc2 dX2_joined_179 lq_X2_45 rfl ?_
      refine g_goto (tgt := 187) dX2_joined_182 (by decide) ?_
      refine g_l2i dX2_joined_187 rfl ?_
      exact g_iret dX2_joined_188 rfl rfl ⟨by rw [show jv 13 a b = a - b from rfl]; unfold clampL; rw [if_neg h161, if_pos h176], rfl⟩
  · have h161 := Classical.not_not.mp (fun q => h161 ((lg_le0 _ _).mpr q))
    refine g_ldc2 dX2_joined_164 lq_X2_43 rfl ?_
    refine g_goto (tgt := 187) dX2_joined_167 (by decide) ?_
    refine g_l2i dX2_joined_187 rfl ?_
    exact g_iret dX2_joined_188 rfl rfl ⟨by rw [show jv 13 a b = a - b from rfl]; unfold clampL; rw [if_pos h161], rfl⟩
set_option maxRecDepth 20000 in
theorem c_joined_14 (hx : gXok X) {a b : Int64} : gDet X (d + 0) yX2_joined cX2_joined 7 (some .int) [.int (nI 14), .long a, .long b] M (some (.int (clampL (jv 14 a b)))) M := by
  refine gMet.of hx (by decide) (Nat.le_of_ble_eq_true rfl) ?_
  refine g_iload_n dX2_joined_0 rfl rfl rfl ?_
  refine g_tableIn (off := 131) (tgt := 132) dX2_joined_1 (by decide) (by decide) (by decide) (by decide) ?_
  refine g_lload_n dX2_joined_132 rfl rfl rfl ?_
  refine g_lload_n dX2_joined_133 rfl rfl rfl ?_
  refine g_lmul dX2_joined_134 rfl ?_
  refine g_lstore dX2_joined_135 (by decide) rfl ?_
  refine g_goto (tgt := 155) dX2_joined_137 (by decide) ?_
  refine g_lload dX2_joined_155 rfl rfl ?_
  refine g_ldc2 dX2_joined_157 lq_X2_43 rfl ?_
  refine g_lcmp dX2_joined_160 rfl ?_
  refine g_if_le (tgt := 170) dX2_joined_161 (by decide) rfl (fun h161 => ?_) (fun h161 => ?_)
  · have h161 := (lg_le0 _ _).mp h161
    refine g_lload dX2_joined_170 rfl rfl ?_
    refine g_ldc2 dX2_joined_172 lq_X2_45 rfl ?_
    refine g_lcmp dX2_joined_175 rfl ?_
    refine g_if_ge (tgt := 185) dX2_joined_176 (by decide) rfl (fun h176 => ?_) (fun h176 => ?_)
    · have h176 := (lg_ge0 _ _).mp h176
      refine g_lload dX2_joined_185 rfl rfl ?_
      refine g_l2i dX2_joined_187 rfl ?_
      exact g_iret dX2_joined_188 rfl rfl ⟨by rw [show jv 14 a b = a * b from rfl]; unfold clampL; rw [if_neg h161, if_neg h176], rfl⟩
    · have h176 := Classical.not_not.mp (fun q => h176 ((lg_ge0 _ _).mpr q))
      refine g_ldc2 dX2_joined_179 lq_X2_45 rfl ?_
      refine g_goto (tgt := 187) dX2_joined_182 (by decide) ?_
      refine g_l2i dX2_joined_187 rfl ?_
      exact g_iret dX2_joined_188 rfl rfl ⟨by rw [show jv 14 a b = a * b from rfl]; unfold clampL; rw [if_neg h161, if_pos h176], rfl⟩
  · have h161 := Classical.not_not.mp (fun q => h161 ((lg_le0 _ _).mpr q))
    refine g_ldc2 dX2_joined_164 lq_X2_43 rfl ?_
    refine g_goto (tgt := 187) dX2_joined_167 (by decide) ?_
    refine g_l2i dX2_joined_187 rfl ?_
    exact g_iret dX2_joined_188 rfl rfl ⟨by rw [show jv 14 a b = a * b from rfl]; unfold clampL; rw [if_pos h161], rfl⟩
set_option maxRecDepth 20000 in
theorem c_joined_15 (hx : gXok X) {a b : Int64} : gDet X (d + 0) yX2_joined cX2_joined 7 (some .int) [.int (nI 15), .long a, .long b] M (some (.int (clampL (jv 15 a b)))) M := by
  refine gMet.of hx (by decide) (Nat.le_of_ble_eq_true rfl) ?_
  refine g_iload_n dX2_joined_0 rfl rfl rfl ?_
  refine g_tableOut (tgt := 140) dX2_joined_1 (by decide) (by decide) ?_
  refine g_lload_n dX2_joined_140 rfl rfl rfl ?_
  refine g_lconst (v := 0) dX2_joined_141 (by decide) rfl ?_
  refine g_lcmp dX2_joined_142 rfl ?_
  refine g_if_ne (tgt := 150) dX2_joined_143 (by decide) rfl (fun h143 => ?_) (fun h143 => ?_)
  · have h143 : ¬ b = 0 := fun q => h143 ((lg_eq0 _ _).mpr q)
    refine g_lload_n dX2_joined_150 rfl rfl rfl ?_
    refine g_lload_n dX2_joined_151 rfl rfl rfl ?_
    refine g_ldiv dX2_joined_152 h143 rfl ?_
    refine g_lstore dX2_joined_153 (by decide) rfl ?_
    refine g_lload dX2_joined_155 rfl rfl ?_
    refine g_ldc2 dX2_joined_157 lq_X2_43 rfl ?_
    refine g_lcmp dX2_joined_160 rfl ?_
    refine g_if_le (tgt := 170) dX2_joined_161 (by decide) rfl (fun h161 => ?_) (fun h161 => ?_)
    · have h161 := (lg_le0 _ _).mp h161
      refine g_lload dX2_joined_170 rfl rfl ?_
      refine g_ldc2 dX2_joined_172 lq_X2_45 rfl ?_
      refine g_lcmp dX2_joined_175 rfl ?_
      refine g_if_ge (tgt := 185) dX2_joined_176 (by decide) rfl (fun h176 => ?_) (fun h176 => ?_)
      · have h176 := (lg_ge0 _ _).mp h176
        refine g_lload dX2_joined_185 rfl rfl ?_
        refine g_l2i dX2_joined_187 rfl ?_
        exact g_iret dX2_joined_188 rfl rfl ⟨by rw [show jv 15 a b = a / b from (if_neg h143 : (if b = 0 then (0 : Int64) else a / b) = a / b)]; unfold clampL; rw [if_neg h161, if_neg h176], rfl⟩
      · have h176 := Classical.not_not.mp (fun q => h176 ((lg_ge0 _ _).mpr q))
        refine g_ldc2 dX2_joined_179 lq_X2_45 rfl ?_
        refine g_goto (tgt := 187) dX2_joined_182 (by decide) ?_
        refine g_l2i dX2_joined_187 rfl ?_
        exact g_iret dX2_joined_188 rfl rfl ⟨by rw [show jv 15 a b = a / b from (if_neg h143 : (if b = 0 then (0 : Int64) else a / b) = a / b)]; unfold clampL; rw [if_neg h161, if_pos h176], rfl⟩
    · have h161 := Classical.not_not.mp (fun q => h161 ((lg_le0 _ _).mpr q))
      refine g_ldc2 dX2_joined_164 lq_X2_43 rfl ?_
      refine g_goto (tgt := 187) dX2_joined_167 (by decide) ?_
      refine g_l2i dX2_joined_187 rfl ?_
      exact g_iret dX2_joined_188 rfl rfl ⟨by rw [show jv 15 a b = a / b from (if_neg h143 : (if b = 0 then (0 : Int64) else a / b) = a / b)]; unfold clampL; rw [if_pos h161], rfl⟩
  · have h143 : b = 0 := (lg_eq0 _ _).mp h143
    refine g_lconst (v := 0) dX2_joined_146 (by decide) rfl ?_
    refine g_goto (tgt := 153) dX2_joined_147 (by decide) ?_
    refine g_lstore dX2_joined_153 (by decide) rfl ?_
    refine g_lload dX2_joined_155 rfl rfl ?_
    refine g_ldc2 dX2_joined_157 lq_X2_43 rfl ?_
    refine g_lcmp dX2_joined_160 rfl ?_
    refine g_if_le (tgt := 170) dX2_joined_161 (by decide) rfl (fun h161 => ?_) (fun h161 => ?_)
    · have h161 := (lg_le0 _ _).mp h161
      refine g_lload dX2_joined_170 rfl rfl ?_
      refine g_ldc2 dX2_joined_172 lq_X2_45 rfl ?_
      refine g_lcmp dX2_joined_175 rfl ?_
      refine g_if_ge (tgt := 185) dX2_joined_176 (by decide) rfl (fun h176 => ?_) (fun h176 => ?_)
      · have h176 := (lg_ge0 _ _).mp h176
        refine g_lload dX2_joined_185 rfl rfl ?_
        refine g_l2i dX2_joined_187 rfl ?_
        exact g_iret dX2_joined_188 rfl rfl ⟨by rw [show jv 15 a b = 0 from (if_pos h143 : (if b = 0 then (0 : Int64) else a / b) = 0)]; unfold clampL; rw [if_neg h161, if_neg h176], rfl⟩
      · have h176 := Classical.not_not.mp (fun q => h176 ((lg_ge0 _ _).mpr q))
        refine g_ldc2 dX2_joined_179 lq_X2_45 rfl ?_
        refine g_goto (tgt := 187) dX2_joined_182 (by decide) ?_
        refine g_l2i dX2_joined_187 rfl ?_
        exact g_iret dX2_joined_188 rfl rfl ⟨by rw [show jv 15 a b = 0 from (if_pos h143 : (if b = 0 then (0 : Int64) else a / b) = 0)]; unfold clampL; rw [if_neg h161, if_pos h176], rfl⟩
    · have h161 := Classical.not_not.mp (fun q => h161 ((lg_le0 _ _).mpr q))
      refine g_ldc2 dX2_joined_164 lq_X2_43 rfl ?_
      refine g_goto (tgt := 187) dX2_joined_167 (by decide) ?_
      refine g_l2i dX2_joined_187 rfl ?_
      exact g_iret dX2_joined_188 rfl rfl ⟨by rw [show jv 15 a b = 0 from (if_pos h143 : (if b = 0 then (0 : Int64) else a / b) = 0)]; unfold clampL; rw [if_pos h161], rfl⟩
theorem c_joined (hx : gXok X) {s : Nat} {a b : Int64} (h1 : 6 ≤ s) (h2 : s ≤ 15) (h3 : s ≠ 8) : gDet X (d + 0) yX2_joined cX2_joined 7 (some .int) [.int (nI s), .long a, .long b] M (some (.int (clampL (jv s a b)))) M := by
  rcases (show s = 6 ∨ s = 7 ∨ s = 9 ∨ s = 10 ∨ s = 11 ∨ s = 12 ∨ s = 13 ∨ s = 14 ∨ s = 15 by omega) with rfl | rfl | rfl | rfl | rfl | rfl | rfl | rfl | rfl
  · exact c_joined_6 hx
  · exact c_joined_7 hx
  · exact c_joined_9 hx
  · exact c_joined_10 hx
  · exact c_joined_11 hx
  · exact c_joined_12 hx
  · exact c_joined_13 hx
  · exact c_joined_14 hx
  · exact c_joined_15 hx
end W0
