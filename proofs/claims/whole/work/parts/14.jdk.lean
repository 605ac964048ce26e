/-! memory: what a write leaves -/
theorem va_up_up {α : Type} (f : Nat → α) (a : Nat) (v w : α) : va_up (va_up f a v) a w = va_up f a w := by
  funext k
  by_cases h : k = a
  · subst h; rw [va_up_self, va_up_self]
  · rw [va_up_ne _ _ h, va_up_ne _ _ h, va_up_ne _ _ h]
theorem gmi_F (M : gM) (a : Nat) (f : Nat → Int32) : gmi (gwF M a f) a = f := va_up_self _ _ _
theorem gmi_Fn (M : gM) {a b : Nat} (f : Nat → Int32) (h : b ≠ a) : gmi (gwF M a f) b = gmi M b := va_up_ne _ _ h
theorem gwF_F (M : gM) (a : Nat) (f g : Nat → Int32) : gwF (gwF M a f) a g = gwF M a g := by
  show (M.1, M.2.1, va_up (va_up M.2.2.1 a f) a g, M.2.2.2.1, M.2.2.2.2) = _
  rw [va_up_up]
  rfl
theorem gwI_F (M : gM) (a i : Nat) (f : Nat → Int32) (v : Int32) : gwI (gwF M a f) a i v = gwF M a (va_up f i v) := by
  unfold gwI
  rw [gmi_F, gwF_F]
theorem gwF_self (M : gM) (a : Nat) : gwF M a (gmi M a) = M := by
  have h : va_up M.2.2.1 a (M.2.2.1 a) = M.2.2.1 := by
    funext k
    by_cases h : k = a
    · subst h; rw [va_up_self]
    · rw [va_up_ne _ _ h]
  show (M.1, M.2.1, va_up M.2.2.1 a (M.2.2.1 a), M.2.2.2.1, M.2.2.2.2) = M
  rw [h]
theorem gmi_I (M : gM) (a i : Nat) (v : Int32) : gmi (gwI M a i v) a = va_up (gmi M a) i v := va_up_self _ _ _
theorem gmi_In (M : gM) {a b : Nat} (i : Nat) (v : Int32) (h : b ≠ a) : gmi (gwI M a i v) b = gmi M b := va_up_ne _ _ h
def imin (x z : Int32) : Int32 := if z < x then z else x
def imax (x z : Int32) : Int32 := if x < z then z else x
def iabs (x : Int32) : Int32 := if 0 ≤ x then x else -x
def lmin (x z : Int64) : Int64 := if z < x then z else x
def lmax (x z : Int64) : Int64 := if x < z then z else x
def ush (x z : Int32) : Int32 := (x.toUInt32 >>> (z.toUInt32 &&& Int32.toUInt32 31)).toInt32
def ibc1 (x : Int32) : Int32 := x - (ush x 1 &&& 1431655765)
def ibc2 (x : Int32) : Int32 := (x &&& 858993459) + (ush x 2 &&& 858993459)
def ibc3 (x : Int32) : Int32 := (x + ush x 4) &&& 252645135
def ibc4 (x : Int32) : Int32 := x + ush x 8
def ibc5 (x : Int32) : Int32 := x + ush x 16
def ibc (x : Int32) : Int32 := ibc5 (ibc4 (ibc3 (ibc2 (ibc1 x)))) &&& 63
theorem ibc_le : ∀ n, n < 256 → ibc (nI n) = nI ((ibc (nI n)).toNatClampNeg) ∧ (ibc (nI n)).toNatClampNeg ≤ 8 := by decide +kernel
section J0
variable {X : gX} {R : Room} {Z : gZt} {N : Nat → Prop} {y : MethodName} {cc : ByteArray} {nL : Nat} {ret : Option FieldType} {pc pc' : Nat} {lv : List (Nat × Value)} {st : List Value} {M : gM} {bc bs d : Nat}
theorem g_alen {a n : Nat} (hd : decode cc pc = .ok (.arraylength, 1)) (hk : gkd M a = 32) (hn : gln M a = n) (hp : pc + 1 = pc') (k : gW X R Z N y cc nL ret pc' lv (.int (nI n) :: st) M bc bs) : gW X R Z N y cc nL ret pc lv (.ref a :: st) M bc bs := by
  subst hp
  intro ad0 ad p e s m args below meth c H locs cells slots ls hF hR hS hN h1 h2 hl
  obtain ⟨hA, hc⟩ := g_arr (j := 0) hR hk hn
  exact W.alen (n := nI n) hF.1 hF.2.1 hc (g_arrT hF.2.2.2.2.2.2.2.2.1 (j := 0) rfl _ _) (by rw [arrV_size]; rfl) rfl rfl hd (k ad0 ad p e s m args below meth c H locs cells slots ls hF hR hS hN h1 h2 hl)
theorem gMet.ofF {av : List Value} {mc ms : Nat} {Q : Option Value → gM → Prop} (hx : gXok X) (hy : plainFor y = true) (hlen : (lg_sl av).length ≤ nL) (k : gW X (gRoom d mc ms) (gZ X N mc ms Q) N y cc nL ret 0 (lv_args 0 av) [] M mc ms) : gMet X d y cc nL ret av M N mc ms Q := by
  intro ad0
  refine va_MetF (cc := cc) (maxL := nL) (ret := ret) hy rfl ?_
  intro p e s m args below meth c s₁ B hml hv
  obtain ⟨rfl, hR, hK, hz⟩ := hv
  have hts := atoms_spec (ws := Cond.code y cc nL ret :: gws) B.pre
  have hl := lv_entry (av.map (gT ad0)) (n := nL) (by rw [g_sl]; exact hlen)
  rw [lg_entry_eq]
  rw [g_args] at hl
  exact k ad0 ad0 p e s m _ below meth c s.heap [] 0 0 _ ⟨B.exec, B.bytes, hml, findClass_of_methodNamed B.named, fun w hw => hts w (List.mem_cons_of_mem _ hw), B.notSynchronized, B.returns, (name_of_methodNamed B.named B.method).1, hK, hz, hx⟩ hR va_S.rf (fun _ _ => rfl) (by show 0 + mc ≤ mc; omega) (by show 0 + ms ≤ ms; omega) hl
set_option maxRecDepth 20000 in
theorem c_min (hx : gXok X) {x z : Int32} : gDet X (d + 0) yJ9_min_7cf53 cJ9_min_7cf53 2 (some .int) [.int x, .int z] M (some (.int (imin x z))) M := by
  refine gMet.ofF hx (by decide +kernel) (Nat.le_of_ble_eq_true rfl) ?_
  refine g_iload_n dJ9_min_7cf53_0 rfl rfl rfl ?_
  refine g_iload_n dJ9_min_7cf53_1 rfl rfl rfl ?_
  refine g_icmp_gt (tgt := 9) dJ9_min_7cf53_2 (by decide) rfl (fun h2 => ?_) (fun h2 => ?_)
  · refine g_iload_n dJ9_min_7cf53_9 rfl rfl rfl ?_
    exact g_iret dJ9_min_7cf53_10 rfl rfl ⟨by unfold imin; rw [if_pos h2], rfl⟩
  · refine g_iload_n dJ9_min_7cf53_5 rfl rfl rfl ?_
    refine g_goto (tgt := 10) dJ9_min_7cf53_6 (by decide) ?_
    exact g_iret dJ9_min_7cf53_10 rfl rfl ⟨by unfold imin; rw [if_neg h2], rfl⟩
set_option maxRecDepth 20000 in
theorem c_max (hx : gXok X) {x z : Int32} : gDet X (d + 0) yJ9_max_7cf53 cJ9_max_7cf53 2 (some .int) [.int x, .int z] M (some (.int (imax x z))) M := by
  refine gMet.ofF hx (by decide +kernel) (Nat.le_of_ble_eq_true rfl) ?_
  refine g_iload_n dJ9_max_7cf53_0 rfl rfl rfl ?_
  refine g_iload_n dJ9_max_7cf53_1 rfl rfl rfl ?_
  refine g_icmp_lt (tgt := 9) dJ9_max_7cf53_2 (by decide) rfl (fun h2 => ?_) (fun h2 => ?_)
  · refine g_iload_n dJ9_max_7cf53_9 rfl rfl rfl ?_
    exact g_iret dJ9_max_7cf53_10 rfl rfl ⟨by unfold imax; rw [if_pos h2], rfl⟩
  · refine g_iload_n dJ9_max_7cf53_5 rfl rfl rfl ?_
    refine g_goto (tgt := 10) dJ9_max_7cf53_6 (by decide) ?_
    exact g_iret dJ9_max_7cf53_10 rfl rfl ⟨by unfold imax; rw [if_neg h2], rfl⟩
set_option maxRecDepth 20000 in
theorem c_abs (hx : gXok X) {x : Int32} : gDet X (d + 0) yJ9_abs_0f7a4 cJ9_abs_0f7a4 1 (some .int) [.int x] M (some (.int (iabs x))) M := by
  refine gMet.ofF hx (by decide +kernel) (Nat.le_of_ble_eq_true rfl) ?_
  refine g_iload_n dJ9_abs_0f7a4_0 rfl rfl rfl ?_
  refine g_if_ge (tgt := 9) dJ9_abs_0f7a4_1 (by decide) rfl (fun h1 => ?_) (fun h1 => ?_)
  · refine g_iload_n dJ9_abs_0f7a4_9 rfl rfl rfl ?_
    exact g_iret dJ9_abs_0f7a4_10 rfl rfl ⟨by unfold iabs; rw [if_pos h1], rfl⟩
  · refine g_iload_n dJ9_abs_0f7a4_4 rfl rfl rfl ?_
    refine g_ineg dJ9_abs_0f7a4_5 rfl ?_
    refine g_goto (tgt := 10) dJ9_abs_0f7a4_6 (by decide) ?_
    exact g_iret dJ9_abs_0f7a4_10 rfl rfl ⟨by unfold iabs; rw [if_neg h1], rfl⟩
set_option maxRecDepth 20000 in
theorem c_bitCount (hx : gXok X) {x : Int32} : gDet X (d + 0) yJ6_bitCount_0f7a4 cJ6_bitCount_0f7a4 1 (some .int) [.int x] M (some (.int (ibc x))) M := by
  refine gMet.of hx (by decide) (Nat.le_of_ble_eq_true rfl) ?_
  refine g_iload_n dJ6_bitCount_0f7a4_0 rfl rfl rfl ?_
  refine g_iload_n dJ6_bitCount_0f7a4_1 rfl rfl rfl ?_
  refine g_iconst (v := 1) dJ6_bitCount_0f7a4_2 (by decide) rfl ?_
  refine g_iushr dJ6_bitCount_0f7a4_3 rfl ?_
  refine g_ldcw dJ6_bitCount_0f7a4_4 lq_J6_265 rfl ?_
  refine g_iand dJ6_bitCount_0f7a4_7 rfl ?_
  refine g_isub dJ6_bitCount_0f7a4_8 rfl ?_
  refine g_istore_n dJ6_bitCount_0f7a4_9 rfl (by decide) rfl ?_
  refine g_iload_n dJ6_bitCount_0f7a4_10 rfl rfl rfl ?_
  refine g_ldcw dJ6_bitCount_0f7a4_11 lq_J6_266 rfl ?_
  refine g_iand dJ6_bitCount_0f7a4_14 rfl ?_
  refine g_iload_n dJ6_bitCount_0f7a4_15 rfl rfl rfl ?_
  refine g_iconst (v := 2) dJ6_bitCount_0f7a4_16 (by decide) rfl ?_
  refine g_iushr dJ6_bitCount_0f7a4_17 rfl ?_
  refine g_ldcw dJ6_bitCount_0f7a4_18 lq_J6_266 rfl ?_
  refine g_iand dJ6_bitCount_0f7a4_21 rfl ?_
  refine g_iadd dJ6_bitCount_0f7a4_22 rfl ?_
  refine g_istore_n dJ6_bitCount_0f7a4_23 rfl (by decide) rfl ?_
  refine g_iload_n dJ6_bitCount_0f7a4_24 rfl rfl rfl ?_
  refine g_iload_n dJ6_bitCount_0f7a4_25 rfl rfl rfl ?_
  refine g_iconst (v := 4) dJ6_bitCount_0f7a4_26 (by decide) rfl ?_
  refine g_iushr dJ6_bitCount_0f7a4_27 rfl ?_
  refine g_iadd dJ6_bitCount_0f7a4_28 rfl ?_
  refine g_ldcw dJ6_bitCount_0f7a4_29 lq_J6_267 rfl ?_
  refine g_iand dJ6_bitCount_0f7a4_32 rfl ?_
  refine g_istore_n dJ6_bitCount_0f7a4_33 rfl (by decide) rfl ?_
  refine g_iload_n dJ6_bitCount_0f7a4_34 rfl rfl rfl ?_
  refine g_iload_n dJ6_bitCount_0f7a4_35 rfl rfl rfl ?_
  refine g_bipush (v := 8) dJ6_bitCount_0f7a4_36 (by decide) rfl ?_
  refine g_iushr dJ6_bitCount_0f7a4_38 rfl ?_
  refine g_iadd dJ6_bitCount_0f7a4_39 rfl ?_
  refine g_istore_n dJ6_bitCount_0f7a4_40 rfl (by decide) rfl ?_
  refine g_iload_n dJ6_bitCount_0f7a4_41 rfl rfl rfl ?_
  refine g_iload_n dJ6_bitCount_0f7a4_42 rfl rfl rfl ?_
  refine g_bipush (v := 16) dJ6_bitCount_0f7a4_43 (by decide) rfl ?_
  refine g_iushr dJ6_bitCount_0f7a4_45 rfl ?_
  refine g_iadd dJ6_bitCount_0f7a4_46 rfl ?_
  refine g_istore_n dJ6_bitCount_0f7a4_47 rfl (by decide) rfl ?_
  refine g_iload_n dJ6_bitCount_0f7a4_48 rfl rfl rfl ?_
  refine g_bipush (v := 63) dJ6_bitCount_0f7a4_49 (by decide) rfl ?_
  refine g_iand dJ6_bitCount_0f7a4_51 rfl ?_
  exact g_iret dJ6_bitCount_0f7a4_52 rfl rfl ⟨rfl, rfl⟩
theorem lg_gt (x z : Int64) : 0 < lg_cmp x z ↔ z < x := by
  unfold lg_cmp
  by_cases h1 : z < x
  · rw [if_pos h1]
    exact ⟨fun _ => h1, fun _ => by decide⟩
  · rw [if_neg h1]
    by_cases h2 : x = z
    · rw [if_pos h2]
      exact ⟨fun q => absurd q (by decide), fun q => absurd q h1⟩
    · rw [if_neg h2]
      exact ⟨fun q => absurd q (by decide), fun q => absurd q h1⟩
theorem lg_lt (x z : Int64) : lg_cmp x z < 0 ↔ x < z := by
  unfold lg_cmp
  by_cases h1 : z < x
  · rw [if_pos h1]
    exact ⟨fun q => absurd q (by decide), fun q => absurd (Int64.lt_trans h1 q) Int64.lt_irrefl⟩
  · rw [if_neg h1]
    by_cases h2 : x = z
    · rw [if_pos h2, h2]
      exact ⟨fun q => absurd q (by decide), fun q => absurd q Int64.lt_irrefl⟩
    · rw [if_neg h2]
      exact ⟨fun _ => Int64.lt_of_le_of_ne (Int64.not_lt.mp h1) h2, fun _ => by decide⟩
set_option maxRecDepth 20000 in
theorem c_lmin (hx : gXok X) {x z : Int64} : gDet X (d + 0) yJ9_min_f86c9 cJ9_min_f86c9 4 (some .long) [.long x, .long z] M (some (.long (lmin x z))) M := by
  refine gMet.ofF hx (by decide +kernel) (Nat.le_of_ble_eq_true rfl) ?_
  refine g_lload_n dJ9_min_f86c9_0 rfl rfl rfl ?_
  refine g_lload_n dJ9_min_f86c9_1 rfl rfl rfl ?_
  refine g_lcmp dJ9_min_f86c9_2 rfl ?_
  refine g_if_gt (tgt := 10) dJ9_min_f86c9_3 (by decide) rfl (fun h3 => ?_) (fun h3 => ?_)
  · refine g_lload_n dJ9_min_f86c9_10 rfl rfl rfl ?_
    exact g_lret dJ9_min_f86c9_11 rfl ⟨by unfold lmin; rw [if_pos ((lg_gt x z).mp h3)], rfl⟩
  · refine g_lload_n dJ9_min_f86c9_6 rfl rfl rfl ?_
    refine g_goto (tgt := 11) dJ9_min_f86c9_7 (by decide) ?_
    exact g_lret dJ9_min_f86c9_11 rfl ⟨by unfold lmin; rw [if_neg (fun q => h3 ((lg_gt x z).mpr q))], rfl⟩
set_option maxRecDepth 20000 in
theorem c_lmax (hx : gXok X) {x z : Int64} : gDet X (d + 0) yJ9_max_f86c9 cJ9_max_f86c9 4 (some .long) [.long x, .long z] M (some (.long (lmax x z))) M := by
  refine gMet.ofF hx (by decide +kernel) (Nat.le_of_ble_eq_true rfl) ?_
  refine g_lload_n dJ9_max_f86c9_0 rfl rfl rfl ?_
  refine g_lload_n dJ9_max_f86c9_1 rfl rfl rfl ?_
  refine g_lcmp dJ9_max_f86c9_2 rfl ?_
  refine g_if_lt (tgt := 10) dJ9_max_f86c9_3 (by decide) rfl (fun h3 => ?_) (fun h3 => ?_)
  · refine g_lload_n dJ9_max_f86c9_10 rfl rfl rfl ?_
    exact g_lret dJ9_max_f86c9_11 rfl ⟨by unfold lmax; rw [if_pos ((lg_lt x z).mp h3)], rfl⟩
  · refine g_lload_n dJ9_max_f86c9_6 rfl rfl rfl ?_
    refine g_goto (tgt := 11) dJ9_max_f86c9_7 (by decide) ?_
    exact g_lret dJ9_max_f86c9_11 rfl ⟨by unfold lmax; rw [if_neg (fun q => h3 ((lg_lt x z).mpr q))], rfl⟩
def ifmod (x z : Int32) : Int32 := if 0 ≤ x ^^^ z then x - x / z * z else if x - x / z * z = 0 then x - x / z * z else x - x / z * z + z
set_option maxRecDepth 20000 in
theorem c_floorMod (hx : gXok X) {x z : Int32} (hz : ¬ z = 0) : gDet X (d + 0) yJ9_floorMod_7cf53 cJ9_floorMod_7cf53 3 (some .int) [.int x, .int z] M (some (.int (ifmod x z))) M := by
  refine gMet.ofF hx (by decide +kernel) (Nat.le_of_ble_eq_true rfl) ?_
  refine g_iload_n dJ9_floorMod_7cf53_0 rfl rfl rfl ?_
  refine g_iload_n dJ9_floorMod_7cf53_1 rfl rfl rfl ?_
  refine g_irem dJ9_floorMod_7cf53_2 hz rfl ?_
  refine g_istore_n dJ9_floorMod_7cf53_3 rfl (by decide) rfl ?_
  refine g_iload_n dJ9_floorMod_7cf53_4 rfl rfl rfl ?_
  refine g_iload_n dJ9_floorMod_7cf53_5 rfl rfl rfl ?_
  refine g_ixor dJ9_floorMod_7cf53_6 rfl ?_
  refine g_if_ge (tgt := 18) dJ9_floorMod_7cf53_7 (by decide) rfl (fun h7 => ?_) (fun h7 => ?_)
  · refine g_iload_n dJ9_floorMod_7cf53_18 rfl rfl rfl ?_
    exact g_iret dJ9_floorMod_7cf53_19 rfl rfl ⟨by unfold ifmod; rw [if_pos h7], rfl⟩
  · refine g_iload_n dJ9_floorMod_7cf53_10 rfl rfl rfl ?_
    refine g_if_eq (tgt := 18) dJ9_floorMod_7cf53_11 (by decide) rfl (fun h11 => ?_) (fun h11 => ?_)
    · refine g_iload_n dJ9_floorMod_7cf53_18 rfl rfl rfl ?_
      exact g_iret dJ9_floorMod_7cf53_19 rfl rfl ⟨by unfold ifmod; rw [if_neg h7, if_pos h11], rfl⟩
    · refine g_iload_n dJ9_floorMod_7cf53_14 rfl rfl rfl ?_
      refine g_iload_n dJ9_floorMod_7cf53_15 rfl rfl rfl ?_
      refine g_iadd dJ9_floorMod_7cf53_16 rfl ?_
      exact g_iret dJ9_floorMod_7cf53_17 rfl rfl ⟨by unfold ifmod; rw [if_neg h7, if_neg h11], rfl⟩
def fillF (f : Nat → Int32) (v : Int32) (i : Nat) : Nat → Int32 := fun k => if k < i then v else f k
theorem fillF_0 (f : Nat → Int32) (v : Int32) : fillF f v 0 = f := by funext k; simp [fillF]
theorem fillF_s (f : Nat → Int32) (v : Int32) (i : Nat) : va_up (fillF f v i) i v = fillF f v (i + 1) := by
  funext k
  by_cases h : k = i
  · subst h; rw [va_up_self]; simp [fillF]
  · rw [va_up_ne _ _ h]
    unfold fillF
    by_cases h2 : k < i
    · rw [if_pos h2, if_pos (by omega)]
    · rw [if_neg h2, if_neg (by omega)]
set_option maxRecDepth 20000 in
theorem c_fill (hx : gXok X) {a n : Nat} (hk : gkd M a = 32) (hn : gln M a = n) (h31 : n < 2 ^ 31) {v : Int32} : gDet X (d + 0) yJ7_fill_53178 cJ7_fill_53178 4 none [.ref a, .int v] M none (gwF M a (fillF (gmi M a) v n)) := by
  refine gMet.of hx (by decide) (Nat.le_of_ble_eq_true rfl) ?_
  refine g_iconst (v := 0) dJ7_fill_53178_0 (by decide) rfl ?_
  refine g_istore_n dJ7_fill_53178_1 rfl (by decide) rfl ?_
  refine g_aload_n dJ7_fill_53178_2 rfl rfl rfl ?_
  refine g_alen dJ7_fill_53178_3 hk hn rfl ?_
  refine g_istore_n dJ7_fill_53178_4 rfl (by decide) rfl ?_
  refine g_loop (fun i => [(0, .ref a), (1, .int v), (2, .int (nI i)), (3, .int (nI n))]) (fun i => gwF M a (fillF (gmi M a) v i)) n 0 (by omega) ⟨rfl, rfl, rfl, rfl, trivial⟩ (by rw [fillF_0, gwF_self]) ?_ (fun i _ hi ih => ?_)
  · refine g_iload_n dJ7_fill_53178_5 rfl rfl rfl ?_
    refine g_iload_n dJ7_fill_53178_6 rfl rfl rfl ?_
    refine g_icmp_ge (tgt := 20) dJ7_fill_53178_7 (by decide) rfl (fun _ => ?_) (fun h => absurd (nI_le (by omega) (by omega)) h)
    exact g_vret dJ7_fill_53178_20 rfl ⟨rfl, rfl⟩
  · refine g_iload_n dJ7_fill_53178_5 rfl rfl rfl ?_
    refine g_iload_n dJ7_fill_53178_6 rfl rfl rfl ?_
    refine g_icmp_ge (tgt := 20) dJ7_fill_53178_7 (by decide) rfl (fun h => absurd h (nI_ge (by omega) (by omega))) (fun _ => ?_)
    refine g_aload_n dJ7_fill_53178_10 rfl rfl rfl ?_
    refine g_iload_n dJ7_fill_53178_11 rfl rfl rfl ?_
    refine g_iload_n dJ7_fill_53178_12 rfl rfl rfl ?_
    refine g_iast (i := i) dJ7_fill_53178_13 hk hn (nI_toInt (by omega)) hi rfl ?_
    rw [gwI_F, fillF_s]
    refine g_iincV (c := 1) dJ7_fill_53178_14 rfl (by decide) (by decide) rfl ?_
    refine g_goto (tgt := 5) dJ7_fill_53178_17 (by decide) ?_
    exact g_go ih ⟨rfl, rfl, by rw [← nI_1]; rfl, rfl, trivial⟩
end J0
