noncomputable def bFillB (J : gI) (G : gF) (v i : Nat) : gI := bBegun_I (bArm_I (gs J 0 0 13 (if J 0 0 13 < J 0 0 7 - J 7 v 2 then J 0 0 7 - J 7 v 2 else J 0 0 13)) G v i (J 0 0 7) (bMilkAt_r J G i (J 0 0 7))) (gf G 1 0 (some v)) i (J 0 0 7)
theorem bArm_0 {I : gI} {F : gF} {v i : Nat} {m h0 : Int32} : (bArm_I I F v i m h0) 0 = I 0 := by
  funext a b
  simp [bArm_I, gr]
set_option maxHeartbeats 4000000 in
set_option maxRecDepth 100000 in
theorem fill_tail {D : va_G} {E : gEc} {ad : gAd} {lc ln : Nat} {l : Launch} {A : Nat → Prop} {Rn : gR} {post : Option Value → gAd → gCe → Prop} {J : gI} {G : gF} {v i nc nv nw : Nat} (h : gOkM l (gRm 3 0 0) cX5_fillBox 3 none yX5_fillBox.cls yX5_fillBox.name D A E 0 0 post Rn) (hC : CI J G lc ln nc nv nw) (hvl : v < ln) (hil : i < lc) (hc : J 7 v 0 = nI i) (hi : i < nc) (hpost : ∀ J2 : gI, J2 = bFillB J G v i → post none ad (cX E ad J2 (gf G 1 0 (some v)) lc ln)) : Rn 35 [(1, .ref (ad 7 v)), (0, .ref (ad 0 0))] [] ad (cX E ad J G lc ln) 0 0 := by
  refine r_aload_n h.ok dX5_fillBox_35 1 rfl ?_
  refine r_aload_n h.ok dX5_fillBox_36 0 rfl ?_
  refine r_get (v := .int (J 7 v 0)) h.ok 0 dX5_fillBox_37 (xo_7 hvl _) rfl inX4 (by decide) wfl_X5_159 rfl ?_
  refine r_callV h.ok [.int (J 7 v 0)] [] dX5_fillBox_40 (c_X5_cowAt_s D E ad J G lc ln nc nv nw hC (J 7 v 0) i hc hi) wml_X5_60 wim_X5_cowAt wse_X5_cowAt win_X5 wco_X5_cowAt yok_X5_cowAt (xo_0 _) rfl rfl ⟨by decide, by decide, by simp [gRm], by simp [gRm]⟩ (Nat.le_of_ble_eq_true rfl) rfl ?_
  show Rn 43 [(1, .ref (ad 7 v)), (0, .ref (ad 0 0))] [.ref (ad 4 i)] ad (cX E ad J G lc ln) 0 0
  refine r_astore_n (lv' := [(2, .ref (ad 4 i)), (1, .ref (ad 7 v)), (0, .ref (ad 0 0))]) h.ok dX5_fillBox_43 (by decide) rfl ?_
  refine r_aload_n h.ok dX5_fillBox_44 0 rfl ?_
  refine r_ifnonnull h.ok 49 dX5_fillBox_45 (by decide) ?_
  refine r_aload_n h.ok dX5_fillBox_49 2 rfl ?_
  refine r_aload_n h.ok dX5_fillBox_50 2 rfl ?_
  refine r_get (v := .int (J 0 0 13)) h.ok 13 dX5_fillBox_51 (xo_0 _) rfl inX5 (by decide) wfl_X5_208 rfl ?_
  refine r_aload_n h.ok dX5_fillBox_54 2 rfl ?_
  refine r_get (v := .int (J 0 0 7)) h.ok 7 dX5_fillBox_55 (xo_0 _) rfl inX5 (by decide) wfl_X5_54 rfl ?_
  refine r_aload_n h.ok dX5_fillBox_58 1 rfl ?_
  refine r_get (v := .int (J 7 v 2)) h.ok 2 dX5_fillBox_59 (xo_7 hvl _) rfl inX4 (by decide) wfl_X5_221 rfl ?_
  refine r_isub h.ok dX5_fillBox_62 ?_
  refine r_mmax h.ok dX5_fillBox_63 wml_X5_224 ⟨by decide, Nat.le_of_ble_eq_true rfl, by decide, by decide⟩ ?_
  refine r_topi (fun g e_g => ?_)
  refine r_put (ty := tyX5) h.ok 13 dX5_fillBox_66 (xo_0 _) rfl inX5 tyX5_ok nmX5 (by decide) wfl_X5_208 rfl rfl rfl (by simp) (cX_put (r' := upd (J 0 0) 13 g) (xo_0 _)) ?_
  refine r_aload_n h.ok dX5_fillBox_69 2 rfl ?_
  refine r_get h.ok 3 dX5_fillBox_70 (xo_0 _) rfl inX5 (by decide) wfl_X5_31 rfl ?_
  refine r_aload_n h.ok dX5_fillBox_73 1 rfl ?_
  refine r_aload_n h.ok dX5_fillBox_74 0 rfl ?_
  refine r_aload_n h.ok dX5_fillBox_75 2 rfl ?_
  refine r_get (v := .int (J 0 0 7)) h.ok 7 dX5_fillBox_76 (xo_0 _) rfl inX5 (by decide) wfl_X5_54 (congrArg (fun z => some (Value.int z)) (by simp [gr, upd] : (gs J 0 0 13 g) 0 0 7 = J 0 0 7)) ?_
  refine r_callV h.ok [.ref (ad 7 v), .ref (ad 4 i), .int (J 0 0 7)] [] dX5_fillBox_79 (c_X0_begin D E ad (gs J 0 0 13 g) G lc ln v i hvl hil (J 0 0 7) (bMilkAt_r J G i (J 0 0 7)) (by simp [bMilkAt_r, gr])) wml_X5_229 wim_X0_begin wse_X0_begin win_X0 wco_X0_begin yok_X0_begin (xo_2 _) rfl rfl ⟨by decide, by decide, by simp [gRm], by simp [gRm]⟩ (Nat.le_of_ble_eq_true rfl) rfl ?_
  show Rn 82 [(2, .ref (ad 4 i)), (1, .ref (ad 7 v)), (0, .ref (ad 0 0))] [] ad (cX E ad (bArm_I (gs J 0 0 13 g) G v i (J 0 0 7) (bMilkAt_r J G i (J 0 0 7))) (gf G 1 0 (some v)) lc ln) 0 0
  refine r_aload_n h.ok dX5_fillBox_82 0 rfl ?_
  refine r_aload_n h.ok dX5_fillBox_83 2 rfl ?_
  refine r_get (v := .int (J 0 0 7)) h.ok 7 dX5_fillBox_84 (xo_0 _) rfl inX5 (by decide) wfl_X5_54 (congrArg (fun z => some (Value.int z)) ((by rw [bArm_0]; simp [gr, upd]) : (bArm_I (gs J 0 0 13 g) G v i (J 0 0 7) (bMilkAt_r J G i (J 0 0 7))) 0 0 7 = J 0 0 7)) ?_
  refine r_callV h.ok [.int (J 0 0 7)] [] dX5_fillBox_87 (c_X1_beginMilking D E ad (bArm_I (gs J 0 0 13 g) G v i (J 0 0 7) (bMilkAt_r J G i (J 0 0 7))) (gf G 1 0 (some v)) lc ln i hil (J 0 0 7)) wml_X5_233 wim_X1_beginMilking wse_X1_beginMilking win_X1 wco_X1_beginMilking yok_X1_beginMilking (xo_4 hil _) rfl rfl ⟨by decide, by decide, by simp [gRm], by simp [gRm]⟩ (Nat.le_of_ble_eq_true rfl) rfl ?_
  show Rn 90 [(2, .ref (ad 4 i)), (1, .ref (ad 7 v)), (0, .ref (ad 0 0))] [] ad (cX E ad (bBegun_I (bArm_I (gs J 0 0 13 g) G v i (J 0 0 7) (bMilkAt_r J G i (J 0 0 7))) (gf G 1 0 (some v)) i (J 0 0 7)) (gf G 1 0 (some v)) lc ln) 0 0
  refine r_vret h dX5_fillBox_90 ⟨by decide, by decide⟩ (hpost _ (by unfold bFillB; rw [e_g]))
theorem CI_take {I : gI} {F : gF} {lc ln nc nv nw a : Nat} (h : CI I F lc ln nc nv nw) (h0 : 0 < nw) (ha : a < nw) : CI (gs I 1 0 1 (I 1 0 1 - 1)) (gSh F a (nw - 1)) lc ln nc nv (nw - 1) := by
  obtain ⟨kn, k12, klc, kf2, kv, k500, kln, kf3, kw, kw12, kq, kb, kc⟩ := h
  have e1 : (gSh F a (nw - 1)) 1 0 = F 1 0 := by simp [gSh]
  refine ⟨by simp [gr, kn], k12, klc, ?_, by simp [gr, kv], k500, kln, ?_, by simp [gr, upd, kw]; exact nI_m1 h0, by omega, ?_, ?_, ?_⟩
  · intro j hj; simp [gSh]; exact kf2 j hj
  · intro j hj; simp [gSh]; exact kf3 j hj
  · intro j hj
    by_cases q : a ≤ j
    · have e : (gSh F a (nw - 1)) 0 j = F 0 (j + 1) := by unfold gSh; rw [if_pos ⟨rfl, q, hj⟩]
      unfold qv
      rw [e]
      exact kq (j + 1) (by omega)
    · have e : (gSh F a (nw - 1)) 0 j = F 0 j := by unfold gSh; rw [if_neg (by omega)]
      unfold qv
      rw [e]
      exact kq j (by omega)
  · unfold bv
    rw [e1]
    exact kb
  · intro v hv; simp [gr]; exact kc v hv
noncomputable def bFill_I (I : gI) (F : gF) (nw : Nat) : gI := if I 0 0 8 = 0 then I else if bBusy_r I F = 0 then (if nw = 0 then I else bFillB (gs I 1 0 1 (I 1 0 1 - 1)) (gSh F (bCh I F nw (I 0 0 7)) (nw - 1)) (qv F (bCh I F nw (I 0 0 7))) (I 7 (qv F (bCh I F nw (I 0 0 7))) 0).toNatClampNeg) else I
noncomputable def bFill_F (I : gI) (F : gF) (nw : Nat) : gF := if I 0 0 8 = 0 then F else if bBusy_r I F = 0 then (if nw = 0 then F else gf (gSh F (bCh I F nw (I 0 0 7)) (nw - 1)) 1 0 (some (qv F (bCh I F nw (I 0 0 7))))) else F
set_option maxHeartbeats 4000000 in
set_option maxRecDepth 100000 in
theorem c_X5_fillBox (D : va_G) (E : gEc) (ad : gAd) (I : gI) (F : gF) (lc ln : Nat) (nc nv nw : Nat) (hC : CI I F lc ln nc nv nw) : gCon D E yX5_fillBox cX5_fillBox 3 none 3 0 0 [.ref (ad 0 0)] ad (cX E ad I F lc ln) (gPd none ad (cX E ad (bFill_I I F nw) (bFill_F I F nw) lc ln)) := by
  refine gCon.of (by decide) (Nat.le_of_ble_eq_true rfl) ?_
  intro l A Rn h
  have hC0 := hC
  obtain ⟨kn, k12, klc, kf2, kv, k500, kln, kf3, kw, kw12, kq, kb, kc⟩ := hC
  show Rn 0 [(0, .ref (ad 0 0))] [] ad (cX E ad I F lc ln) 0 0
  refine r_aload_n h.ok dX5_fillBox_0 0 rfl ?_
  refine r_get (v := .int (I 0 0 8)) h.ok 8 dX5_fillBox_1 (xo_0 _) rfl inX5 (by decide) wfl_X5_42 rfl ?_
  refine r_if_eq h.ok 17 dX5_fillBox_4 (by decide) (fun c_4 => ?_) (fun c_4 => ?_)
  · refine r_vret h dX5_fillBox_17 ⟨by decide, by decide⟩ ⟨rfl, rfl, (by unfold bFill_I bFill_F; simp only [if_pos c_4])⟩
  · refine r_aload_n h.ok dX5_fillBox_7 0 rfl ?_
    refine r_get h.ok 3 dX5_fillBox_8 (xo_0 _) rfl inX5 (by decide) wfl_X5_31 rfl ?_
    refine r_callV h.ok [] [] dX5_fillBox_11 (c_X0_isBusy D E ad I F lc ln hC0.hbv) wml_X5_112 wim_X0_isBusy wse_X0_isBusy win_X0 wco_X0_isBusy yok_X0_isBusy (xo_2 _) rfl rfl ⟨by decide, by decide, by simp [gRm], by simp [gRm]⟩ (Nat.le_of_ble_eq_true rfl) rfl ?_
    show Rn 14 [(0, .ref (ad 0 0))] [.int (bBusy_r I F)] ad (cX E ad I F lc ln) 0 0
    refine r_if_eq h.ok 18 dX5_fillBox_14 (by decide) (fun c_14 => ?_) (fun c_14 => ?_)
    · refine r_aload_n h.ok dX5_fillBox_18 0 rfl ?_
      refine r_get h.ok 2 dX5_fillBox_19 (xo_0 _) rfl inX5 (by decide) wfl_X5_24 rfl ?_
      refine r_aload_n h.ok dX5_fillBox_22 0 rfl ?_
      refine r_get (v := .int (I 0 0 7)) h.ok 7 dX5_fillBox_23 (xo_0 _) rfl inX5 (by decide) wfl_X5_54 rfl ?_
      by_cases c_26 : nw = 0
      · refine r_callV h.ok [.int (I 0 0 7)] [] dX5_fillBox_26 (c_X2_takeNext_n D E ad I F lc ln nc nv nw hC0 (I 0 0 7) c_26) wml_X5_218 wim_X2_takeNext wse_X2_takeNext win_X2 wco_X2_takeNext yok_X2_takeNext (xo_1 _) rfl rfl ⟨by decide, by decide, by simp [gRm], by simp [gRm]⟩ (Nat.le_of_ble_eq_true rfl) rfl ?_
        show Rn 29 [(0, .ref (ad 0 0))] [.null] ad (cX E ad I F lc ln) 0 0
        refine r_astore_nN (lv' := [(1, .null), (0, .ref (ad 0 0))]) h.ok dX5_fillBox_29 (by decide) rfl ?_
        refine r_aload_nN h.ok dX5_fillBox_30 0 rfl ?_
        refine r_ifnonnullN h.ok dX5_fillBox_31 ?_
        refine r_vret h dX5_fillBox_34 ⟨by decide, by decide⟩ ⟨rfl, rfl, (by unfold bFill_I bFill_F; simp only [if_neg c_4, if_pos c_14, if_pos c_26])⟩
      · refine r_callV h.ok [.int (I 0 0 7)] [] dX5_fillBox_26 (c_X2_takeNext_s D E ad I F lc ln nc nv nw hC0 (I 0 0 7) (Nat.pos_of_ne_zero c_26)) wml_X5_218 wim_X2_takeNext wse_X2_takeNext win_X2 wco_X2_takeNext yok_X2_takeNext (xo_1 _) rfl rfl ⟨by decide, by decide, by simp [gRm], by simp [gRm]⟩ (Nat.le_of_ble_eq_true rfl) rfl ?_
        show Rn 29 [(0, .ref (ad 0 0))] [.ref (ad 7 (qv F (bCh I F nw (I 0 0 7))))] ad (cX E ad (gs I 1 0 1 (I 1 0 1 - 1)) (gSh F (bCh I F nw (I 0 0 7)) (nw - 1)) lc ln) 0 0
        refine r_astore_n (lv' := [(1, .ref (ad 7 (qv F (bCh I F nw (I 0 0 7))))), (0, .ref (ad 0 0))]) h.ok dX5_fillBox_29 (by decide) rfl ?_
        refine r_aload_n h.ok dX5_fillBox_30 0 rfl ?_
        refine r_ifnonnull h.ok 35 dX5_fillBox_31 (by decide) ?_
        have a0 : bCh I F nw (I 0 0 7) < nw := gSt_getD (Nat.pos_of_ne_zero c_26)
        have v0 := (kq _ a0).2
        have c0 := kc _ v0
        exact fill_tail h (CI_take hC0 (Nat.pos_of_ne_zero c_26) a0) (Nat.lt_of_lt_of_le v0 kln) (Nat.lt_of_lt_of_le (vp_lt c0) klc) (by simp [gr]; exact vp_eq c0) (vp_lt c0) (fun J2 hJ2 => ⟨rfl, rfl, (by unfold bFill_I bFill_F; simp only [if_neg c_4, if_pos c_14, if_neg c_26]; rw [hJ2])⟩)
    · refine r_vret h dX5_fillBox_17 ⟨by decide, by decide⟩ ⟨rfl, rfl, (by unfold bFill_I bFill_F; simp only [if_neg c_4, if_neg c_14])⟩
