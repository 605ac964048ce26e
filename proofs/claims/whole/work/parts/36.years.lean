section Y0
variable {X : gX} {M : gM} {d : Nat}
theorem va_up_id {α : Type} (f : Nat → α) (i : Nat) : va_up f i (f i) = f := by
  funext k
  by_cases h : k = i
  · subst h; rw [va_up_self]
  · rw [va_up_ne _ _ h]
theorem gwF_id (M : gM) (a : Nat) : gwF M a (gmi M a) = M := by
  show (M.1, M.2.1, va_up M.2.2.1 a (M.2.2.1 a), M.2.2.2.1, M.2.2.2.2) = M
  rw [va_up_id]
theorem gwL_id (M : gM) (a i : Nat) : gwL M a i (gml M a i) = M := by
  show (M.1, M.2.1, M.2.2.1, M.2.2.2.1, va_up M.2.2.2.2 a (va_up (M.2.2.2.2 a) i (M.2.2.2.2 a i))) = M
  rw [va_up_id, va_up_id]
theorem gwL_L (M : gM) (a i : Nat) (v w : Int64) : gwL (gwL M a i v) a i w = gwL M a i w := by
  show (M.1, M.2.1, M.2.2.1, M.2.2.2.1, va_up (va_up M.2.2.2.2 a (va_up (M.2.2.2.2 a) i v)) a (va_up ((va_up M.2.2.2.2 a (va_up (M.2.2.2.2 a) i v)) a) i w)) = _
  rw [va_up_self, va_up_up, va_up_up]
  rfl
theorem c_drawX (hx : gXok X) (hL : gLay M) {x : Int64} {n : Int32} (h1 : 1 ≤ n) (hn : ¬ n.toInt64 = 0) : gDet X (d + 0) yX1_draw cX1_draw 2 (some .int) [.ref 81, .int n] (gwL M 81 0 x) (some (.int (drawN (nextX x) n))) (gwL M 81 0 (nextX x)) := by
  have h := c_draw (X := X) (d := d) (M := gwL M 81 0 x) hx (gLay_L hL) h1 hn
  rw [gml_L, va_up_self, gwL_L] at h
  exact h
theorem n64 {n : Nat} (h : 1 ≤ n) (h2 : n ≤ 100) : 1 ≤ nI n ∧ ¬ (nI n).toInt64 = 0 := by
  refine ⟨(qle 1 n rfl rfl (by decide) (by omega)).mpr h, fun q => ?_⟩
  have e : (nI n).toInt64.toInt = 0 := by rw [q]; rfl
  rw [Int32.toInt_toInt64, nI_toInt (by omega)] at e
  omega
/-- a day by draws -/
def drP (M : gM) (x : Int64) : Int32 := drawN (nextX x) (gmi M 3 7)
def drD (M : gM) (x : Int64) : Int32 := drawN (nextX (nextX x)) (gmi M 3 8)
def drL (x : Int64) : Int32 := drawN (nextX (nextX (nextX x))) 10
def drQ (M : gM) (x : Int64) : Int32 := drawN (nextX (nextX (nextX (nextX x)))) (gmi M 3 7)
def liveF1 (M : gM) (x : Int64) : Nat → Int32 := if mayTake M 25 (drP M x) (drD M x) then takeF (gmi M 25) (12 + tn (drP M x) * 8 + tn (drD M x)) (gmi M 9 (tn (drD M x))) (gmi M 8 (tn (drD M x))) else gmi M 25
abbrev mayGoF (M : gM) (F : Nat → Int32) (x : Int32) : Prop := inP M x ∧ ¬ F 60 >>> (x &&& 31) &&& 1 = 1
def liveF (M : gM) (EV : EVt) (x : Int64) : Nat → Int32 := if drL x < gmi M 0 15 ∧ mayGoF M (liveF1 M x) (drQ M x) then goF (gunF M EV (liveF1 M x) (tn (drQ M x))) (liveF1 M x) (tn (drQ M x)) (gmi M 3 9) else liveF1 M x
def liveX (M : gM) (x : Int64) : Int64 := if drL x < gmi M 0 15 then nextX (nextX (nextX (nextX x))) else nextX (nextX (nextX x))
def liveM (M : gM) (EV : EVt) : gM := gwF (gwL M 81 0 (liveX M (gml M 81 0))) 25 (liveF M EV (gml M 81 0))
theorem live1_left (hT : TownOK M) (hl : LeftOK M 25) (x : Int64) : LeftF (liveF1 M x) := by
  unfold liveF1
  split
  · rename_i h
    exact LeftF_take (LeftF_of hl) ⟨_, hT.2.2.2.2.1 _ (inD_row hT h.1.2)⟩
  · exact LeftF_of hl
theorem live1_66 (hT : TownOK M) (x : Int64) : liveF1 M x 66 = gmi M 25 66 := by
  unfold liveF1
  split
  · rename_i h
    have := inD_row hT h.1.2
    have := inP_row hT h.1.1
    unfold takeF
    rw [va_up_ne _ _ (by decide), va_up_ne _ _ (by omega)]
  · rfl
theorem live_left (hT : TownOK M) (hl : LeftOK M 25) (EV : EVt) (x : Int64) : LeftF (liveF M EV x) := by
  unfold liveF
  split
  · rename_i h
    exact LeftF_go (live1_left hT hl x) (inP_row hT h.2.1)
  · exact live1_left hT hl x
theorem live_66 (hT : TownOK M) (EV : EVt) (x : Int64) : liveF M EV x 66 = gmi M 25 66 := by
  unfold liveF
  split
  · rename_i h
    rw [goF_66 (inP_row hT h.2.1), live1_66 hT]
  · exact live1_66 hT x
theorem CourtSem_L {EV : EVt} {a i : Nat} {v : Int64} (h : CourtSem M EV) : CourtSem (gwL M a i v) EV := h
theorem TownOK_L {a i : Nat} {v : Int64} (h : TownOK M) : TownOK (gwL M a i v) := h
theorem LeftOK_L {a i r : Nat} {v : Int64} (h : LeftOK M r) : LeftOK (gwL M a i v) r := h
set_option maxRecDepth 20000 in
set_option maxHeartbeats 1000000 in
theorem c_live0 (hx : gXok X) (hL : gLay M) (hT : TownOK M) (hl : LeftOK M 25) {EV : EVt} (hC : CourtSem M EV) (hp : 1 ≤ tv M 3 7) (hq : 1 ≤ tv M 3 8) {x : Int64} : gPos X (d + 6) yX10_liveByDraws cX10_liveByDraws 4 none [.ref 0] (gwL M 81 0 x) (fun v M2 => v = none ∧ gFr scr0 (gwF (gwL M 81 0 (liveX M x)) 25 (liveF M EV x)) M2) := by
  have h6 := hT.1.2
  have h8 := hT.2.1.2
  have np := n64 hp (show tv M 3 7 ≤ 100 by omega)
  have nd := n64 hq (show tv M 3 8 ≤ 100 by omega)
  rw [← hT.1.1] at np
  rw [← hT.2.1.1] at nd
  have hL0 := hL
  refine gMet.of hx (by decide) (Nat.le_of_ble_eq_true rfl) ?_
  have fin : ∀ F, liveF1 M x = F → LeftF F → gW X (gRoom (d + 6) 0 0) (gZ X gN0 0 0 (fun v M2 => v = none ∧ gFr scr0 (gwF (gwL M 81 0 (liveX M x)) 25 (liveF M EV x)) M2)) gN0 yX10_liveByDraws cX10_liveByDraws 4 none 51 [(0, .ref 0)] [] (gwF (gwL M 81 0 (nextX (nextX x))) 25 F) 0 0 := by
    intro F hF hlF
    unfold liveX liveF
    rw [hF]
    refine g_aload_n dX10_liveByDraws_51 rfl rfl rfl ?_
    refine g_getR dX10_liveByDraws_52 ff_X10_87 rfl (k0 (gLay_F (gLay_L hL))) (r0_14 (gLay_F (gLay_L hL))) rfl ?_
    refine g_bipush (v := 10) dX10_liveByDraws_55 (by decide) rfl ?_
    refine g_callVdi (ci := 1) dX10_liveByDraws_57 lm_X10_280 mv_X1_draw (c_drawX (d := d) (M := gwF M 25 F) hx (gLay_F hL0) (by decide) (by decide)) rfl rfl (k81 (gLay_F (gLay_L hL))) rfl rfl (Nat.le_of_ble_eq_true rfl) (gFit_room (by omega)) rfl ?_
    refine g_aload_n dX10_liveByDraws_60 rfl rfl rfl ?_
    refine g_getI dX10_liveByDraws_61 ff_X10_91 rfl (k0 (gLay_L (gLay_F hL))) rfl ?_
    rw [show gmi (gwL (gwF M 25 F) 81 0 (nextX (nextX (nextX x)))) 0 = gmi M 0 from gmi_Fn M F (show (0 : Nat) ≠ 25 by decide)]
    refine g_icmp_ge (tgt := 103) dX10_liveByDraws_64 (by decide) rfl (fun h64 => ?_) (fun h64 => ?_)
    · exact g_vret dX10_liveByDraws_103 rfl (⟨rfl, by first | exact hf | (rw [if_neg (fun q => h90 q.2)]; exact gFr.rf) | (have h64b : ¬ drL x < gmi M 0 15 := Int32.not_lt.mpr h64; rw [if_neg h64b, if_neg (fun q => h64b q.1)]; exact gFr.rf)⟩)
    · rw [if_pos (show drL x < gmi M 0 15 from Int32.not_le.mp h64)]
      refine g_aload_n dX10_liveByDraws_67 rfl rfl rfl ?_
      refine g_getR dX10_liveByDraws_68 ff_X10_87 rfl (k0 (gLay_L (gLay_F hL))) (r0_14 (gLay_L (gLay_F hL))) rfl ?_
      refine g_aload_n dX10_liveByDraws_71 rfl rfl rfl ?_
      refine g_getR dX10_liveByDraws_72 ff_X10_19 rfl (k0 (gLay_L (gLay_F hL))) (r0_1 (gLay_L (gLay_F hL))) rfl ?_
      refine g_getI dX10_liveByDraws_75 ff_X10_141 rfl (k3 (gLay_L (gLay_F hL))) rfl ?_
      refine g_callVdi (ci := 1) dX10_liveByDraws_78 lm_X10_280 mv_X1_draw (c_drawX (d := d) (M := gwF M 25 F) (n := gmi M 3 7) hx (gLay_F hL0) np.1 np.2) rfl rfl (k81 (gLay_L (gLay_F hL))) rfl rfl (Nat.le_of_ble_eq_true rfl) (gFit_room (by omega)) rfl ?_
      refine g_istore_n dX10_liveByDraws_81 rfl (by decide) rfl ?_
      refine g_aload_n dX10_liveByDraws_82 rfl rfl rfl ?_
      refine g_getR dX10_liveByDraws_83 ff_X10_58 rfl (k0 (gLay_L (gLay_F hL))) (r0_8 (gLay_L (gLay_F hL))) rfl ?_
      refine g_iload_n dX10_liveByDraws_86 rfl rfl rfl ?_
      refine g_callVdi (ci := 4) dX10_liveByDraws_87 lm_X10_232 mv_X4_mayGo (c_mayGo_now (d := d) hx (gLay_L (gLay_F hL))) rfl rfl (k24 (gLay_L (gLay_F hL))) rfl rfl (Nat.le_of_ble_eq_true rfl) (gFit_room (by omega)) rfl ?_
      rw [show gmi (gwL (gwF M 25 F) 81 0 (nextX (nextX (nextX (nextX x))))) 25 = F from gmi_F M 25 F]
      refine g_ieq (tgt := 103) dX10_liveByDraws_90 (by decide) rfl (fun h90 => ?_) (fun h90 => ?_)
      · exact g_vret dX10_liveByDraws_103 rfl (⟨rfl, by first | exact hf | (rw [if_neg (fun q => h90 q.2)]; exact gFr.rf) | (have h64b : ¬ drL x < gmi M 0 15 := Int32.not_lt.mpr h64; rw [if_neg h64b, if_neg (fun q => h64b q.1)]; exact gFr.rf)⟩)
      · have h90b : mayGoF M F (drQ M x) := h90
        rw [if_pos ⟨Int32.not_le.mp h64, h90b⟩]
        have hin := h90b.1
        show gW X (gRoom (d + 6) 0 0) _ gN0 yX10_liveByDraws cX10_liveByDraws 4 none 93 [(3, .int (drQ M x)), (0, .ref 0)] [] (gwF (gwL M 81 0 (nextX (nextX (nextX (nextX x))))) 25 F) 0 0
        generalize hgq : drQ M x = q at *
        obtain ⟨ex_, lk⟩ := in_row hT.1.1 (by have := hT.1.2; omega) (hin)
        have mk := Nat.lt_of_lt_of_le lk hT.1.2
        generalize gk : tn q = k at *
        subst ex_
        have hc := c_goTo_now (X := X) (d := d) (M := gwF (gwL M 81 0 (nextX (nextX (nextX (nextX x))))) 25 F) hx (gLay_F (gLay_L hL0)) hT (LeftOK_of (by rw [gmi_F]; exact hlF)) (CourtSem_fr (S := fun c => c = 25) ⟨by decide, fun k => ⟨by omega, by omega, by omega, by omega⟩⟩ (gFr.wF rfl) (CourtSem_L hC)) mk
        rw [gmi_F, gunF_eq (M := M) (gmi_Fn (gwL M 81 0 _) F (show (3 : Nat) ≠ 25 by decide)) (gmi_Fn (gwL M 81 0 _) F (show (5 : Nat) ≠ 25 by decide)) (gmi_Fn (gwL M 81 0 _) F (show (7 : Nat) ≠ 25 by decide)), gmi_Fn (gwL M 81 0 _) F (show (3 : Nat) ≠ 25 by decide), gwF_F] at hc
        refine g_aload_n dX10_liveByDraws_93 rfl rfl rfl ?_
        refine g_aload_n dX10_liveByDraws_94 rfl rfl rfl ?_
        refine g_getR dX10_liveByDraws_95 ff_X10_58 rfl (k0 (gLay_F (gLay_L hL))) (r0_8 (gLay_F (gLay_L hL))) rfl ?_
        refine g_iload_n dX10_liveByDraws_98 rfl rfl rfl ?_
        refine g_callVq (ci := 10) dX10_liveByDraws_99 lm_X10_235 mv_X10_goToBarber (hc) rfl rfl (k0 (gLay_F (gLay_L hL))) rfl rfl (Nat.le_of_ble_eq_true rfl) (gFit_room (by omega)) rfl (fun v M2 hQ => ?_)
        obtain ⟨rfl, hf⟩ := hQ
        refine g_pop dX10_liveByDraws_102 rfl rfl ?_
        exact g_vret dX10_liveByDraws_103 rfl (⟨rfl, by first | exact hf | (rw [if_neg (fun q => h90 q.2)]; exact gFr.rf) | (have h64b : ¬ drL x < gmi M 0 15 := Int32.not_lt.mpr h64; rw [if_neg h64b, if_neg (fun q => h64b q.1)]; exact gFr.rf)⟩)
  refine g_aload_n dX10_liveByDraws_0 rfl rfl rfl ?_
  refine g_getR dX10_liveByDraws_1 ff_X10_87 rfl (k0 (gLay_L hL)) (r0_14 (gLay_L hL)) rfl ?_
  refine g_aload_n dX10_liveByDraws_4 rfl rfl rfl ?_
  refine g_getR dX10_liveByDraws_5 ff_X10_19 rfl (k0 (gLay_L hL)) (r0_1 (gLay_L hL)) rfl ?_
  refine g_getI dX10_liveByDraws_8 ff_X10_141 rfl (k3 (gLay_L hL)) rfl ?_
  refine g_callVdi (ci := 1) dX10_liveByDraws_11 lm_X10_280 mv_X1_draw (c_drawX (d := d) (n := gmi M 3 7) hx hL0 np.1 np.2) rfl rfl (k81 (gLay_L hL)) rfl rfl (Nat.le_of_ble_eq_true rfl) (gFit_room (by omega)) rfl ?_
  refine g_istore_n dX10_liveByDraws_14 rfl (by decide) rfl ?_
  refine g_aload_n dX10_liveByDraws_15 rfl rfl rfl ?_
  refine g_getR dX10_liveByDraws_16 ff_X10_87 rfl (k0 (gLay_L hL)) (r0_14 (gLay_L hL)) rfl ?_
  refine g_aload_n dX10_liveByDraws_19 rfl rfl rfl ?_
  refine g_getR dX10_liveByDraws_20 ff_X10_19 rfl (k0 (gLay_L hL)) (r0_1 (gLay_L hL)) rfl ?_
  refine g_getI dX10_liveByDraws_23 ff_X10_283 rfl (k3 (gLay_L hL)) rfl ?_
  refine g_callVdi (ci := 1) dX10_liveByDraws_26 lm_X10_280 mv_X1_draw (c_drawX (d := d) (n := gmi M 3 8) hx hL0 nd.1 nd.2) rfl rfl (k81 (gLay_L hL)) rfl rfl (Nat.le_of_ble_eq_true rfl) (gFit_room (by omega)) rfl ?_
  refine g_istore_n dX10_liveByDraws_29 rfl (by decide) rfl ?_
  refine g_aload_n dX10_liveByDraws_30 rfl rfl rfl ?_
  refine g_getR dX10_liveByDraws_31 ff_X10_58 rfl (k0 (gLay_L hL)) (r0_8 (gLay_L hL)) rfl ?_
  refine g_iload_n dX10_liveByDraws_34 rfl rfl rfl ?_
  refine g_iload_n dX10_liveByDraws_35 rfl rfl rfl ?_
  refine g_callVdi (ci := 4) dX10_liveByDraws_36 lm_X10_204 mv_X4_mayTakeOn (c_mayTakeOn_now (d := d) hx (gLay_L hL) (TownOK_L hT)) rfl rfl (k24 (gLay_L hL)) rfl rfl (Nat.le_of_ble_eq_true rfl) (gFit_room (by omega)) rfl ?_
  refine g_ieq (tgt := 51) dX10_liveByDraws_39 (by decide) rfl (fun h39 => ?_) (fun h39 => ?_)
  · have h39b : ¬ mayTake M 25 (drP M x) (drD M x) := h39
    have e1 : liveF1 M x = gmi M 25 := if_neg h39b
    have := fin _ e1 (LeftF_of hl)
    rw [show gwF (gwL M 81 0 (nextX (nextX x))) 25 (gmi M 25) = gwL M 81 0 (nextX (nextX x)) from gwF_id (gwL M 81 0 (nextX (nextX x))) 25] at this
    exact g_go this ⟨rfl, trivial⟩
  · have h39b : mayTake M 25 (drP M x) (drD M x) := h39
    have e1 : liveF1 M x = takeF (gmi M 25) (12 + tn (drP M x) * 8 + tn (drD M x)) (gmi M 9 (tn (drD M x))) (gmi M 8 (tn (drD M x))) := if_pos h39b
    have hgo := fin _ e1 (e1 ▸ live1_left hT hl x)
    refine g_aload_n dX10_liveByDraws_42 rfl rfl rfl ?_
    refine g_getR dX10_liveByDraws_43 ff_X10_58 rfl (k0 (gLay_L hL)) (r0_8 (gLay_L hL)) rfl ?_
    refine g_iload_n dX10_liveByDraws_46 rfl rfl rfl ?_
    refine g_iload_n dX10_liveByDraws_47 rfl rfl rfl ?_
    show gW X (gRoom (d + 6) 0 0) _ gN0 yX10_liveByDraws cX10_liveByDraws 4 none 48 [(2, .int (drD M x)), (1, .int (drP M x)), (0, .ref 0)] [.int (drD M x), .int (drP M x), .ref 24] (gwL M 81 0 (nextX (nextX x))) 0 0
    clear h39 fin e1
    generalize hgp : drP M x = p' at *
    generalize hgd : drD M x = e' at *
    obtain ⟨ex_, lk⟩ := in_row hT.1.1 (by have := hT.1.2; omega) (h39b.1.1)
    have mk := Nat.lt_of_lt_of_le lk hT.1.2
    generalize gk : tn p' = k at *
    subst ex_
    obtain ⟨ex_, le⟩ := in_row hT.2.1.1 (by have := hT.2.1.2; omega) (h39b.1.2)
    have me := Nat.lt_of_lt_of_le le hT.2.1.2
    generalize ge : tn e' = e at *
    subst ex_
    refine g_callVdv (ci := 4) dX10_liveByDraws_48 lm_X10_211 mv_X4_takeOn (c_takeOn_now (d := d) hx (gLay_L hL0) mk me) rfl rfl (k24 (gLay_L hL)) rfl rfl (Nat.le_of_ble_eq_true rfl) (gFit_room (by omega)) rfl ?_
    rw [gwI_def (gwL M 81 0 (nextX (nextX x))), gwI_F, gmi_F]
    exact g_go hgo ⟨rfl, trivial⟩
theorem c_live (hx : gXok X) (hL : gLay M) (hT : TownOK M) (hl : LeftOK M 25) {EV : EVt} (hC : CourtSem M EV) (hp : 1 ≤ tv M 3 7) (hq : 1 ≤ tv M 3 8) : gPos X (d + 6) yX10_liveByDraws cX10_liveByDraws 4 none [.ref 0] M (fun v M2 => v = none ∧ gFr scr0 (liveM M EV) M2) := by
  have h := c_live0 (X := X) (d := d) hx hL hT hl hC hp hq (x := gml M 81 0)
  rw [gwL_id] at h
  exact h
/-- a day goes by -/
def dayM (M : gM) : gM := gwF (gwF M 26 (dayE M 25 26)) 25 (dayR M 25)
def yrSt (EV : EVt) : Nat → gM → gM
  | 0, M => M
  | n + 1, M => yrSt EV n (dayM (liveM (keepM M) EV))
theorem liveM_fr {M2 : gM} {EV : EVt} (h : gFr scr0 M M2) : gFr scr0 (liveM M EV) (liveM M2 EV) := by
  have e0 : gmi M2 0 = gmi M 0 := h.2.2.2 0 (scr0_lo (by decide) (by decide))
  have e3 : gmi M2 3 = gmi M 3 := h.2.2.2 3 (scr0_lo (by decide) (by decide))
  have e5 : gmi M2 5 = gmi M 5 := h.2.2.2 5 (scr0_lo (by decide) (by decide))
  have e7 : gmi M2 7 = gmi M 7 := h.2.2.2 7 (scr0_lo (by decide) (by decide))
  have e8 : gmi M2 8 = gmi M 8 := h.2.2.2 8 (scr0_lo (by decide) (by decide))
  have e9 : gmi M2 9 = gmi M 9 := h.2.2.2 9 (scr0_lo (by decide) (by decide))
  have e25 : gmi M2 25 = gmi M 25 := h.2.2.2 25 (scr0_lo (by decide) (by decide))
  have el : gml M2 81 = gml M 81 := h.2.2.1 81
  unfold liveM
  have eX : liveX M2 (gml M2 81 0) = liveX M (gml M 81 0) := by unfold liveX; rw [e0, el]
  have e1 : liveF1 M2 (gml M 81 0) = liveF1 M (gml M 81 0) := by unfold liveF1 mayTake inP inD drP drD; rw [e3, e8, e9, e25]
  have eF : liveF M2 EV (gml M2 81 0) = liveF M EV (gml M 81 0) := by unfold liveF mayGoF inP drQ; rw [el, e1, e0, e3, gunF_eq e3 e5 e7]
  rw [eX, eF]
  refine gFr.congF ⟨h.1, h.2.1, fun c => ?_, h.2.2.2⟩
  show va_up M2.2.2.2.2 81 (va_up (gml M2 81) 0 _) c = va_up M.2.2.2.2 81 (va_up (gml M 81) 0 _) c
  by_cases hc : c = 81
  · subst hc; rw [va_up_self, va_up_self, el]
  · rw [va_up_ne _ _ hc, va_up_ne _ _ hc]; exact h.2.2.1 c
theorem dayM_fr {M2 : gM} (h : gFr scr0 M M2) : gFr scr0 (dayM M) (dayM M2) := by
  have e3 : gmi M2 3 = gmi M 3 := h.2.2.2 3 (scr0_lo (by decide) (by decide))
  have e6 : gmi M2 6 = gmi M 6 := h.2.2.2 6 (scr0_lo (by decide) (by decide))
  have e25 : gmi M2 25 = gmi M 25 := h.2.2.2 25 (scr0_lo (by decide) (by decide))
  have e26 : gmi M2 26 = gmi M 26 := h.2.2.2 26 (scr0_lo (by decide) (by decide))
  unfold dayM
  rw [dayE_eq e3 e25 e26, dayR_eq e3 e6 e25]
  exact h.congF.congF
/-- what a day by draws needs -/
def Ys (M : gM) (EV : EVt) (D : Nat) : Prop := gLay M ∧ TownOK M ∧ LeftOK M 25 ∧ gmi M 25 66 = nI D ∧ CourtSem M EV ∧ PLay M ∧ okv M 33 2 39
theorem Ys_S {M2 : gM} {EV : EVt} {D E : Nat} {S : Nat → Prop} (hk : (∀ c, gkd M2 c = gkd M c ∧ gln M2 c = gln M c) ∧ ∀ c, gmr M2 c = gmr M c) (hm : ∀ c, ¬ S c → gmi M2 c = gmi M c) (hs : ∀ c, S c → c = 25 ∨ c = 26 ∨ (34 ≤ c ∧ c < 75) ∨ scr0 c) (hl : LeftF (gmi M2 25)) (hd : gmi M2 25 66 = nI E) (h : Ys M EV D) : Ys M2 EV E := by
  obtain ⟨h1, h2, h3, h4, h5, h6, h7⟩ := h
  have hf : gFr S M (M2.1, M2.2.1, M2.2.2.1, M2.2.2.2.1, M.2.2.2.2) := ⟨hk.1, hk.2, fun _ => rfl, hm⟩
  have hns : ∀ c, c ≠ 25 → c ≠ 26 → ¬ (34 ≤ c ∧ c < 75) → ¬ scr0 c → ¬ S c := fun c a b e f q => (hs c q).elim a (fun q => q.elim b (fun q => q.elim e f))
  have hC := CourtSem_fr ⟨hns 20 (by decide) (by decide) (by decide) scr0_court.1, fun k => ⟨hns _ (by omega) (by omega) (by omega) (scr0_court.2 k).1, hns _ (by omega) (by omega) (by omega) (scr0_court.2 k).2.1, hns _ (by omega) (by omega) (by omega) (scr0_court.2 k).2.2.1, hns _ (by omega) (by omega) (by omega) (scr0_court.2 k).2.2.2⟩⟩ hf h5
  have hTn := hf.town (fun c a b => hns c (by omega) (by omega) (by omega) (scr0_town c a b)) h2
  have hLn := hf.lay h1
  have hPn := hf.play h6
  exact ⟨hLn, hTn, LeftOK_of hl, hd, hC, hPn, okv_eq (hm 33 (hns 33 (by decide) (by decide) (by decide) (scr0_lo (by decide) (by decide)))) h7⟩
theorem Ys_fr {M2 : gM} {EV : EVt} {D : Nat} (h : gFr scr0 M M2) (hs : Ys M EV D) : Ys M2 EV D := by
  have e25 : gmi M2 25 = gmi M 25 := h.2.2.2 25 (scr0_lo (by decide) (by decide))
  exact Ys_S ⟨h.1, h.2.1⟩ h.2.2.2 (fun c q => Or.inr (Or.inr (Or.inr q))) (by rw [e25]; exact LeftF_of hs.2.2.1) (by rw [e25]; exact hs.2.2.2.1) hs
theorem Ys_keep {EV : EVt} {D : Nat} (hs : Ys M EV D) : Ys (keepM M) EV D := by
  obtain ⟨h1, h2, h3, h4, h5, h6, h7⟩ := hs
  exact ⟨keep_lay h7 h1, keep_town h7 h2, keep_left h7 h3, by rw [keep_mi h7 (by decide)]; exact h4, CourtSem_fr ⟨by decide, fun k => ⟨by omega, by omega, by omega, by omega⟩⟩ (keep_fr h7) h5, (keep_fr h7).play h6, keepM_ok h7⟩
theorem Ys_live {EV : EVt} {D : Nat} (hs : Ys M EV D) : Ys (liveM M EV) EV D := by
  refine Ys_S (M := M) (S := fun c => c = 25) ⟨fun c => ⟨rfl, rfl⟩, fun c => rfl⟩ (fun c hc => gmi_Fn _ _ hc) (fun c q => Or.inl q) ?_ ?_ hs
  · unfold liveM; rw [gmi_F]; exact live_left hs.2.1 hs.2.2.1 EV _
  · unfold liveM; rw [gmi_F, live_66 hs.2.1]; exact hs.2.2.2.1
theorem Ys_day {EV : EVt} {D : Nat} (hs : Ys M EV D) : Ys (dayM M) EV (D + 1) := by
  refine Ys_S (M := M) (S := fun c => c = 25 ∨ c = 26) ⟨fun c => ⟨rfl, rfl⟩, fun c => rfl⟩ (fun c hc => gm2 (by omega) (by omega)) (fun c q => by omega) ?_ ?_ hs
  · unfold dayM; rw [gmi_F]; exact LeftF_day hs.2.1 (LeftF_of hs.2.2.1)
  · unfold dayM; rw [gmi_F, dayR_66 25 hs.2.1, hs.2.2.2.1, nI_1]
abbrev mayYears (M : gM) (x : Int32) : Prop := ¬ gmi M 3 7 = 0 ∧ ¬ x < 1 ∧ ¬ 30 < x ∧ gmi M 25 66 + x ≤ 999
theorem tv_ge1 {c i b : Nat} (h : okv M c i b) (h0 : ¬ gmi M c i = 0) : 1 ≤ tv M c i := by
  by_cases e : tv M c i = 0
  · exact absurd (by rw [h.1, e]; rfl) h0
  · omega
set_option maxRecDepth 20000 in
set_option maxHeartbeats 1000000 in
theorem c_years (hx : gXok X) {EV : EVt} {D : Nat} (hs : Ys M EV D) (hD : D ≤ 999) (hq : 1 ≤ tv M 3 7 → 1 ≤ tv M 3 8) {x : Int32} {v : Int64} : gPos X (d + 7) yX10_years cX10_years 5 (some .int) [.ref 0, .int x, .long v] M (fun w M2 => w = some (.int (if mayYears M x then gmi M 25 66 + x else -1)) ∧ gFr scr0 (if mayYears M x then yrSt EV (tn x) (gwL M 81 0 v) else M) M2) := by
  have hL := hs.1
  have hT := hs.2.1
  refine gMet.of hx (by decide) (Nat.le_of_ble_eq_true rfl) ?_
  refine g_aload_n dX10_years_0 rfl rfl rfl ?_
  refine g_callVdi (ci := 10) dX10_years_1 lm_X10_250 mv_X10_noTown (c_noTown (d := d) hx hL) rfl rfl (k0 hL) rfl rfl (Nat.le_of_ble_eq_true rfl) (gFit_room (by omega)) rfl ?_
  refine g_ine (tgt := 35) dX10_years_4 (by decide) rfl (fun h4 => ?_) (fun h4 => ?_)
  · rw [if_neg (show ¬ mayYears M x by grind), if_neg (show ¬ mayYears M x by grind)]
    refine g_iconst (v := -1) dX10_years_35 (by decide) rfl ?_
    exact g_iret dX10_years_36 rfl (by first | rfl | exact b01) (⟨by first | rfl | assumption | exact gFr.rf | grind [ib], by first | rfl | assumption | exact gFr.rf | grind [ib]⟩)
  · refine g_iload_n dX10_years_7 rfl rfl rfl ?_
    refine g_iconst (v := 1) dX10_years_8 (by decide) rfl ?_
    refine g_icmp_lt (tgt := 35) dX10_years_9 (by decide) rfl (fun h9 => ?_) (fun h9 => ?_)
    · rw [if_neg (show ¬ mayYears M x by grind), if_neg (show ¬ mayYears M x by grind)]
      refine g_iconst (v := -1) dX10_years_35 (by decide) rfl ?_
      exact g_iret dX10_years_36 rfl (by first | rfl | exact b01) (⟨by first | rfl | assumption | exact gFr.rf | grind [ib], by first | rfl | assumption | exact gFr.rf | grind [ib]⟩)
    · refine g_iload_n dX10_years_12 rfl rfl rfl ?_
      refine g_bipush (v := 30) dX10_years_13 (by decide) rfl ?_
      refine g_icmp_gt (tgt := 35) dX10_years_15 (by decide) rfl (fun h15 => ?_) (fun h15 => ?_)
      · rw [if_neg (show ¬ mayYears M x by grind), if_neg (show ¬ mayYears M x by grind)]
        refine g_iconst (v := -1) dX10_years_35 (by decide) rfl ?_
        exact g_iret dX10_years_36 rfl (by first | rfl | exact b01) (⟨by first | rfl | assumption | exact gFr.rf | grind [ib], by first | rfl | assumption | exact gFr.rf | grind [ib]⟩)
      · refine g_aload_n dX10_years_18 rfl rfl rfl ?_
        refine g_getR dX10_years_19 ff_X10_58 rfl (k0 hL) (r0_8 hL) rfl ?_
        refine g_bipush (v := 66) dX10_years_22 (by decide) rfl ?_
        refine g_callVdi (ci := 4) dX10_years_24 lm_X10_254 mv_X4_get (c_get_now (d := d) (i := 66) hx hL (by decide)) rfl rfl (k24 hL) rfl rfl (Nat.le_of_ble_eq_true rfl) (gFit_room (by omega)) rfl ?_
        refine g_iload_n dX10_years_27 rfl rfl rfl ?_
        refine g_iadd dX10_years_28 rfl ?_
        refine g_sipush (v := 999) dX10_years_29 (by decide) rfl ?_
        refine g_icmp_le (tgt := 37) dX10_years_32 (by decide) rfl (fun h32 => ?_) (fun h32 => ?_)
        · have hm : mayYears M x := ⟨h4, h9, h15, h32⟩
          rw [if_pos hm, if_pos hm]
          obtain ⟨ex, lk⟩ := in_row (x := x) (b := 31) (n := 31) rfl (by omega) ⟨Int32.le_of_lt (Int32.lt_of_lt_of_le (by decide) (Int32.not_lt.mp h9)), Int32.lt_of_le_of_lt (Int32.not_lt.mp h15) (by decide)⟩
          generalize hk : tn x = k at *
          subst ex
          have hDk : D + k ≤ 999 := (qle (D + k) 999 (by rw [hs.2.2.2.1, nI_add]) rfl (by omega) (by decide)).mp h32
          have hp1 := tv_ge1 hT.1 h4
          have hq1 := hq hp1
          refine g_aload_n dX10_years_37 rfl rfl rfl ?_
          refine g_getR dX10_years_38 ff_X10_87 rfl (k0 hL) (r0_14 hL) rfl ?_
          refine g_lload_n dX10_years_41 rfl rfl rfl ?_
          refine g_callVdv (ci := 1) dX10_years_42 lm_X10_274 mv_X1_begin (c_dbegin (d := d) hx hL) rfl rfl (k81 hL) rfl rfl (Nat.le_of_ble_eq_true rfl) (gFit_room (by omega)) rfl ?_
          refine g_iconst (v := 0) dX10_years_45 (by decide) rfl ?_
          refine g_istore dX10_years_46 (by decide) rfl ?_
          refine g_loopM (fun i => [(0, .ref 0), (1, .int (nI k)), (4, .int (nI i))]) (fun i M1 => ∃ Mi, gFr scr0 Mi M1 ∧ Ys Mi EV (D + i) ∧ gmi Mi 3 = gmi M 3 ∧ yrSt EV (k - i) Mi = yrSt EV k (gwL M 81 0 v)) k 0 (Nat.zero_le _) ⟨rfl, rfl, rfl, trivial⟩ ⟨gwL M 81 0 v, gFr.rf, hs, rfl, rfl⟩ (fun M1 hI => ?_) (fun i M1 _ hi hI ih => ?_)
          · obtain ⟨Mi, hf, hY, e3, hg⟩ := hI
            have hY1 := Ys_fr hf hY
            rw [Nat.sub_self] at hg
            refine g_iload dX10_years_48 rfl rfl ?_
            refine g_iload_n dX10_years_50 rfl rfl rfl ?_
            refine g_icmp_ge (tgt := 82) dX10_years_51 (by decide) rfl (fun _ => ?_) (fun h_ => absurd (nI_le (Nat.le_refl _) (by omega)) h_)
            refine g_aload_n dX10_years_82 rfl rfl rfl ?_
            refine g_getR dX10_years_83 ff_X10_58 rfl (k0 hY1.1) (r0_8 hY1.1) rfl ?_
            refine g_bipush (v := 66) dX10_years_86 (by decide) rfl ?_
            refine g_callVdi (ci := 4) dX10_years_88 lm_X10_254 mv_X4_get (c_get_now (d := d) (i := 66) hx hY1.1 (by decide)) rfl rfl (k24 hY1.1) rfl rfl (Nat.le_of_ble_eq_true rfl) (gFit_room (by omega)) rfl ?_
            exact g_iret dX10_years_91 rfl (by first | rfl | exact b01) (⟨by rw [hY1.2.2.2.1, hs.2.2.2.1, nI_add], by rw [← hg]; exact hf⟩)
          · obtain ⟨Mi, hf, hY, e3, hg⟩ := hI
            have hY1 := Ys_fr hf hY
            have e31 : gmi M1 3 = gmi M 3 := (hf.2.2.2 3 (scr0_lo (by decide) (by decide))).trans e3
            have hYk := Ys_keep hY1
            have hn1 := hY1.2.2.2.2.2.2
            have hn0 := hY.2.2.2.2.2.2
            have e3k : gmi (keepM M1) 3 = gmi M 3 := (keep_mi hn1 (by decide)).trans e31
            rw [show k - i = (k - (i + 1)) + 1 by omega] at hg
            rw [show yrSt EV ((k - (i + 1)) + 1) Mi = yrSt EV (k - (i + 1)) (dayM (liveM (keepM Mi) EV)) from rfl] at hg
            have hL1 := hY1.1
            refine g_iload dX10_years_48 rfl rfl ?_
            refine g_iload_n dX10_years_50 rfl rfl rfl ?_
            refine g_icmp_ge (tgt := 82) dX10_years_51 (by decide) rfl (fun h_ => absurd h_ (nI_ge hi (by omega))) (fun _ => ?_)
            refine g_aload_n dX10_years_54 rfl rfl rfl ?_
            refine g_getR dX10_years_55 ff_X10_71 rfl (k0 hY1.1) (r0_12 hY1.1) rfl ?_
            refine g_aload_n dX10_years_58 rfl rfl rfl ?_
            refine g_getR dX10_years_59 ff_X10_58 rfl (k0 hY1.1) (r0_8 hY1.1) rfl ?_
            refine g_callVdv (ci := 5) dX10_years_62 lm_X10_207 mv_X5_keep (c_keep (d := d) hx hY1.1 hY1.2.2.2.2.2.1 hn1) rfl rfl (k33 hY1.1) rfl rfl (Nat.le_of_ble_eq_true rfl) (gFit_room (by omega)) rfl ?_
            refine g_aload_n dX10_years_65 rfl rfl rfl ?_
            refine g_callVq (ci := 10) dX10_years_66 lm_X10_277 mv_X10_liveByDraws (c_live (d := d) hx hYk.1 hYk.2.1 hYk.2.2.1 hYk.2.2.2.2.1 (by rw [tv_eq e3k]; exact hp1) (by rw [tv_eq e3k]; exact hq1)) rfl rfl (k0 hYk.1) rfl rfl (Nat.le_of_ble_eq_true rfl) (gFit_room (by omega)) rfl (fun v M2 hQ => ?_)
            obtain ⟨rfl, hf⟩ := hQ
            have hYl := Ys_fr hf (Ys_live hYk)
            have hfl : gFr scr0 (liveM (keepM Mi) EV) M2 := (liveM_fr (keepM_fr hn0 ‹gFr scr0 Mi M1›)).tr hf
            refine g_aload_n dX10_years_69 rfl rfl rfl ?_
            refine g_getR dX10_years_70 ff_X10_58 rfl (k0 hYl.1) (r0_8 hYl.1) rfl ?_
            refine g_callVdv (ci := 4) dX10_years_73 lm_X10_266 mv_X4_passDay (c_passDay_now (d := d) hx hYl.1 hYl.2.1 (okv_of hYl.2.2.2.1 (show D + i ≤ 999 by omega) (by decide)).1) rfl rfl (k24 hYl.1) rfl rfl (Nat.le_of_ble_eq_true rfl) (gFit_room (by omega)) rfl ?_
            refine g_iincV (c := 1) dX10_years_76 rfl (by decide) (by decide) rfl ?_
            refine g_goto (tgt := 48) dX10_years_79 (by decide) ?_
            exact g_go (ih _ ⟨_, dayM_fr hfl, Ys_day (Ys_live (Ys_keep hY)), by show gmi (gwF (gwF (gwF (gwL (keepM Mi) 81 0 _) 25 _) 26 _) 25 _) 3 = _; rw [gmi_Fn _ _ (by decide), gmi_Fn _ _ (by decide), gmi_Fn _ _ (by decide)]; exact (keep_mi hn0 (by decide)).trans e3, hg⟩) ⟨rfl, rfl, by rw [← nI_1 i]; rfl, trivial⟩
        · rw [if_neg (show ¬ mayYears M x by grind), if_neg (show ¬ mayYears M x by grind)]
          refine g_iconst (v := -1) dX10_years_35 (by decide) rfl ?_
          exact g_iret dX10_years_36 rfl (by first | rfl | exact b01) (⟨by first | rfl | assumption | exact gFr.rf | grind [ib], by first | rfl | assumption | exact gFr.rf | grind [ib]⟩)
end Y0
