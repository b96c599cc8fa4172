theorem bCh_0 {I : gI} {F : gF} {m : Int32} : bCh I F 0 m = 0 := rfl
set_option maxHeartbeats 4000000 in
set_option maxRecDepth 100000 in
theorem c_X2_takeNext_n (D : va_G) (E : gEc) (ad : gAd) (I : gI) (F : gF) (lc ln : Nat) (nc nv nw : Nat) (hC : CI I F lc ln nc nv nw) (m : Int32) (h0 : nw = 0) : gCon D E yX2_takeNext cX2_takeNext 4 (some (.object "MilkBox$Visit")) 2 0 0 [.ref (ad 1 0), .int m] ad (cX E ad I F lc ln) (gPd (some (.null)) ad (cX E ad I F lc ln)) := by
  refine gCon.of (by decide) (Nat.le_of_ble_eq_true rfl) ?_
  intro l A Rn h
  have hC0 := hC
  obtain ⟨kn, k12, klc, kf2, kv, k500, kln, kf3, kw, kw12, kq, kb, kc⟩ := hC
  show Rn 0 [(0, .ref (ad 1 0)), (1, .int m)] [] ad (cX E ad I F lc ln) 0 0
  refine r_aload_n h.ok dX2_takeNext_0 0 rfl ?_
  refine r_iload_n h.ok dX2_takeNext_1 1 rfl ?_
  refine r_callV h.ok [.int m] [] dX2_takeNext_2 (c_X2_choose D E ad I F lc ln nc nv nw hC0 m) wml_X2_28 wim_X2_choose wse_X2_choose win_X2 wco_X2_choose yok_X2_choose (xo_1 _) rfl rfl ⟨by decide, by decide, by simp [gRm], by simp [gRm]⟩ (Nat.le_of_ble_eq_true rfl) rfl ?_
  show Rn 5 [(0, .ref (ad 1 0)), (1, .int m)] [.int (nI (bCh I F nw m))] ad (cX E ad I F lc ln) 0 0
  refine r_istore_n (lv' := [(2, .int (nI (bCh I F nw m))), (0, .ref (ad 1 0)), (1, .int m)]) h.ok dX2_takeNext_5 (by decide) rfl ?_
  refine r_aload_n h.ok dX2_takeNext_6 1 rfl ?_
  refine r_iload_n h.ok dX2_takeNext_7 0 rfl ?_
  refine r_callV h.ok [.int (nI (bCh I F nw m))] [] dX2_takeNext_8 (c_X2_at_n D E ad I F lc ln nc nv nw hC0 (nI (bCh I F nw m)) (fun q => absurd (vp_lt q) (by omega))) wml_X2_21 wim_X2_at wse_X2_at win_X2 wco_X2_at yok_X2_at (xo_1 _) rfl rfl ⟨by decide, by decide, by simp [gRm], by simp [gRm]⟩ (Nat.le_of_ble_eq_true rfl) rfl ?_
  show Rn 11 [(2, .int (nI (bCh I F nw m))), (0, .ref (ad 1 0)), (1, .int m)] [.null] ad (cX E ad I F lc ln) 0 0
  refine r_astore_nN (lv' := [(3, .null), (2, .int (nI (bCh I F nw m))), (0, .ref (ad 1 0)), (1, .int m)]) h.ok dX2_takeNext_11 (by decide) rfl ?_
  refine r_aload_nN h.ok dX2_takeNext_12 0 rfl ?_
  refine r_ifnullN h.ok 21 dX2_takeNext_13 (by decide) ?_
  refine r_aload_nN h.ok dX2_takeNext_21 0 rfl ?_
  refine r_aret h dX2_takeNext_22 ⟨by decide, by decide⟩ (Or.inl rfl) ⟨rfl, rfl, rfl⟩
set_option maxHeartbeats 4000000 in
set_option maxRecDepth 100000 in
theorem c_X2_takeNext_s (D : va_G) (E : gEc) (ad : gAd) (I : gI) (F : gF) (lc ln : Nat) (nc nv nw : Nat) (hC : CI I F lc ln nc nv nw) (m : Int32) (h0 : 0 < nw) : gCon D E yX2_takeNext cX2_takeNext 4 (some (.object "MilkBox$Visit")) 2 0 0 [.ref (ad 1 0), .int m] ad (cX E ad I F lc ln) (gPd (some (.ref (ad 7 (qv F (bCh I F nw m))))) ad (cX E ad (gs I 1 0 1 (I 1 0 1 - 1)) (gSh F (bCh I F nw m) (nw - 1)) lc ln)) := by
  refine gCon.of (by decide) (Nat.le_of_ble_eq_true rfl) ?_
  intro l A Rn h
  have hC0 := hC
  obtain ⟨kn, k12, klc, kf2, kv, k500, kln, kf3, kw, kw12, kq, kb, kc⟩ := hC
  show Rn 0 [(0, .ref (ad 1 0)), (1, .int m)] [] ad (cX E ad I F lc ln) 0 0
  refine r_aload_n h.ok dX2_takeNext_0 0 rfl ?_
  refine r_iload_n h.ok dX2_takeNext_1 1 rfl ?_
  refine r_callV h.ok [.int m] [] dX2_takeNext_2 (c_X2_choose D E ad I F lc ln nc nv nw hC0 m) wml_X2_28 wim_X2_choose wse_X2_choose win_X2 wco_X2_choose yok_X2_choose (xo_1 _) rfl rfl ⟨by decide, by decide, by simp [gRm], by simp [gRm]⟩ (Nat.le_of_ble_eq_true rfl) rfl ?_
  show Rn 5 [(0, .ref (ad 1 0)), (1, .int m)] [.int (nI (bCh I F nw m))] ad (cX E ad I F lc ln) 0 0
  obtain ⟨x2, hx2⟩ : ∃ z : Int32, z = nI (bCh I F nw m) := ⟨_, rfl⟩
  rw [← hx2]
  refine r_istore_n (lv' := [(2, .int x2), (0, .ref (ad 1 0)), (1, .int m)]) h.ok dX2_takeNext_5 (by decide) rfl ?_
  refine r_aload_n h.ok dX2_takeNext_6 1 rfl ?_
  refine r_iload_n h.ok dX2_takeNext_7 0 rfl ?_
  refine r_callV h.ok [.int x2] [] dX2_takeNext_8 (c_X2_at_s D E ad I F lc ln nc nv nw hC0 x2 (bCh I F nw m) hx2 (gSt_getD h0)) wml_X2_21 wim_X2_at wse_X2_at win_X2 wco_X2_at yok_X2_at (xo_1 _) rfl rfl ⟨by decide, by decide, by simp [gRm], by simp [gRm]⟩ (Nat.le_of_ble_eq_true rfl) rfl ?_
  show Rn 11 [(2, .int x2), (0, .ref (ad 1 0)), (1, .int m)] [.ref (ad 7 (qv F (bCh I F nw m)))] ad (cX E ad I F lc ln) 0 0
  refine r_astore_n (lv' := [(3, .ref (ad 7 (qv F (bCh I F nw m)))), (2, .int x2), (0, .ref (ad 1 0)), (1, .int m)]) h.ok dX2_takeNext_11 (by decide) rfl ?_
  refine r_aload_n h.ok dX2_takeNext_12 0 rfl ?_
  refine r_ifnull h.ok dX2_takeNext_13 ?_
  refine r_aload_n h.ok dX2_takeNext_16 2 rfl ?_
  refine r_iload_n h.ok dX2_takeNext_17 1 rfl ?_
  refine r_callV h.ok [.int x2] [] dX2_takeNext_18 (c_X2_closeUp D E ad I F lc ln nc nv nw hC0 x2 (bCh I F nw m) hx2 (gSt_getD h0)) wml_X2_32 wim_X2_closeUp wse_X2_closeUp win_X2 wco_X2_closeUp yok_X2_closeUp (xo_1 _) rfl rfl ⟨by decide, by decide, by simp [gRm], by simp [gRm]⟩ (Nat.le_of_ble_eq_true rfl) rfl ?_
  show Rn 21 [(3, .ref (ad 7 (qv F (bCh I F nw m)))), (2, .int x2), (0, .ref (ad 1 0)), (1, .int m)] [] ad (cX E ad (gs I 1 0 1 (I 1 0 1 - 1)) (gSh F (bCh I F nw m) (nw - 1)) lc ln) 0 0
  refine r_aload_n h.ok dX2_takeNext_21 0 rfl ?_
  refine r_aret h dX2_takeNext_22 ⟨by decide, by decide⟩ (Or.inr ⟨_, rfl⟩) ⟨rfl, rfl, rfl⟩
theorem gs_same {I : gI} {k i s : Nat} {v : Int32} (h : I k i s = v) : gs I k i s v = I := by
  funext k' i' s'
  by_cases hk : k' = k ∧ i' = i
  · obtain ⟨rfl, rfl⟩ := hk
    by_cases hs : s' = s
    · subst hs; simp [gr, upd, h]
    · simp [gr, upd, hs]
  · simp [gr, hk]
noncomputable def bArm_I (I : gI) (F : gF) (v i : Nat) (m h0 : Int32) : gI := gs (gs (gs (gs (gs (gs (gs (gs (gs (gs (gs (gs (gs (gs I 2 0 1 h0) 2 0 2 0) 2 0 3 (m + 2)) 2 0 3 ((m + 2) + (if 3 < (I 5 i 0) then 3 else (I 5 i 0)))) 2 0 2 (0 + (if (I 5 i 0) ≤ 3 then h0 / 4 + (h0 - h0 / 4 * 4) else 0))) 2 0 3 (((m + 2) + (if 3 < (I 5 i 0) then 3 else (I 5 i 0))) + (if 3 < (I 5 i 1) then 3 else (I 5 i 1)))) 2 0 2 ((0 + (if (I 5 i 0) ≤ 3 then h0 / 4 + (h0 - h0 / 4 * 4) else 0)) + (if (I 5 i 1) ≤ 3 then h0 / 4 else 0))) 2 0 3 ((((m + 2) + (if 3 < (I 5 i 0) then 3 else (I 5 i 0))) + (if 3 < (I 5 i 1) then 3 else (I 5 i 1))) + (if 3 < (I 5 i 2) then 3 else (I 5 i 2)))) 2 0 2 (((0 + (if (I 5 i 0) ≤ 3 then h0 / 4 + (h0 - h0 / 4 * 4) else 0)) + (if (I 5 i 1) ≤ 3 then h0 / 4 else 0)) + (if (I 5 i 2) ≤ 3 then h0 / 4 else 0))) 2 0 3 (((((m + 2) + (if 3 < (I 5 i 0) then 3 else (I 5 i 0))) + (if 3 < (I 5 i 1) then 3 else (I 5 i 1))) + (if 3 < (I 5 i 2) then 3 else (I 5 i 2))) + (if 3 < (I 5 i 3) then 3 else (I 5 i 3)))) 2 0 2 ((((0 + (if (I 5 i 0) ≤ 3 then h0 / 4 + (h0 - h0 / 4 * 4) else 0)) + (if (I 5 i 1) ≤ 3 then h0 / 4 else 0)) + (if (I 5 i 2) ≤ 3 then h0 / 4 else 0)) + (if (I 5 i 3) ≤ 3 then h0 / 4 else 0))) 2 0 4 ((((((m + 2) + (if 3 < (I 5 i 0) then 3 else (I 5 i 0))) + (if 3 < (I 5 i 1) then 3 else (I 5 i 1))) + (if 3 < (I 5 i 2) then 3 else (I 5 i 2))) + (if 3 < (I 5 i 3) then 3 else (I 5 i 3))) + (((((((0 + (if (I 5 i 0) ≤ 3 then h0 / 4 + (h0 - h0 / 4 * 4) else 0)) + (if (I 5 i 1) ≤ 3 then h0 / 4 else 0)) + (if (I 5 i 2) ≤ 3 then h0 / 4 else 0)) + (if (I 5 i 3) ≤ 3 then h0 / 4 else 0)) + 20) - 1) / 20))) 7 v 6 m) 7 v 10 ((((0 + (if (I 5 i 0) ≤ 3 then 0 else 1)) + (if (I 5 i 1) ≤ 3 then 0 else 1)) + (if (I 5 i 2) ≤ 3 then 0 else 1)) + (if (I 5 i 3) ≤ 3 then 0 else 1))
noncomputable def bArm_F (I : gI) (F : gF) (v i : Nat) (m h0 : Int32) : gF := gf F 1 0 (some v)
set_option maxHeartbeats 4000000 in
set_option maxRecDepth 100000 in
theorem c_X0_begin (D : va_G) (E : gEc) (ad : gAd) (I : gI) (F : gF) (lc ln : Nat) (v i : Nat) (hv : v < ln) (hi : i < lc) (m h0 : Int32) (hh0 : h0 = bMilkAt_r I F i m) : gCon D E yX0_begin cX0_begin 7 none 2 0 0 [.ref (ad 2 0), .ref (ad 7 v), .ref (ad 4 i), .int m] ad (cX E ad I F lc ln) (gPd none ad (cX E ad (bArm_I I F v i m h0) (bArm_F I F v i m h0) lc ln)) := by
  refine gCon.of (by decide) (Nat.le_of_ble_eq_true rfl) ?_
  intro l A Rn h
  show Rn 0 [(0, .ref (ad 2 0)), (1, .ref (ad 7 v)), (2, .ref (ad 4 i)), (3, .int m)] [] ad (cX E ad I F lc ln) 0 0
  refine r_aload_n h.ok dX0_begin_0 0 rfl ?_
  refine r_aload_n h.ok dX0_begin_1 1 rfl ?_
  refine r_put (ty := tyX0) h.ok 0 dX0_begin_2 (xo_2 _) rfl inX0 tyX0_ok nmX0 (by decide) wfl_X0_9 rfl rfl rfl (by simp) (cX_put2 (some v)) ?_
  refine r_aload_n h.ok dX0_begin_5 0 rfl ?_
  refine r_aload_n h.ok dX0_begin_6 2 rfl ?_
  refine r_iload_n h.ok dX0_begin_7 3 rfl ?_
  refine r_callV h.ok [.int m] [.ref (ad 2 0)] dX0_begin_8 (c_X1_milkAt D E ad I (gf F 1 0 (some v)) lc ln i hi m) wml_X0_21 wim_X1_milkAt wse_X1_milkAt win_X1 wco_X1_milkAt yok_X1_milkAt (xo_4 hi _) rfl rfl ⟨by decide, by decide, by simp [gRm], by simp [gRm]⟩ (Nat.le_of_ble_eq_true rfl) rfl ?_
  show Rn 11 [(0, .ref (ad 2 0)), (1, .ref (ad 7 v)), (2, .ref (ad 4 i)), (3, .int m)] [.int (bMilkAt_r I (gf F 1 0 (some v)) i m), .ref (ad 2 0)] ad (cX E ad I (gf F 1 0 (some v)) lc ln) 0 0
  rw [show bMilkAt_r I (gf F 1 0 (some v)) i m = h0 from by rw [hh0]; simp [bMilkAt_r]]
  refine r_put (ty := tyX0) h.ok 1 dX0_begin_11 (xo_2 _) rfl inX0 tyX0_ok nmX0 (by decide) wfl_X0_27 rfl rfl rfl (by simp) (cX_put (r' := upd (I 2 0) 1 h0) (xo_2 _)) ?_
  refine r_aload_n h.ok dX0_begin_14 0 rfl ?_
  refine r_iconst (v := 0) h.ok dX0_begin_15 (by decide) ?_
  refine r_put (ty := tyX0) h.ok 2 dX0_begin_16 (xo_2 _) rfl inX0 tyX0_ok nmX0 (by decide) wfl_X0_30 rfl rfl rfl (by simp) (cX_put (r' := upd ((gs I 2 0 1 h0) 2 0) 2 0) (xo_2 _)) ?_
  refine r_aload_n h.ok dX0_begin_19 0 rfl ?_
  refine r_iload_n h.ok dX0_begin_20 3 rfl ?_
  refine r_iconst (v := 2) h.ok dX0_begin_21 (by decide) ?_
  refine r_iadd h.ok dX0_begin_22 ?_
  refine r_put (ty := tyX0) h.ok 3 dX0_begin_23 (xo_2 _) rfl inX0 tyX0_ok nmX0 (by decide) wfl_X0_33 rfl rfl rfl (by simp) (cX_put (r' := upd ((gs (gs I 2 0 1 h0) 2 0 2 0) 2 0) 3 (m + 2)) (xo_2 _)) ?_
  refine r_iconst (v := 0) h.ok dX0_begin_26 (by decide) ?_
  refine r_istore (lv' := [(4, .int 0), (0, .ref (ad 2 0)), (1, .ref (ad 7 v)), (2, .ref (ad 4 i)), (3, .int m)]) h.ok dX0_begin_27 (by decide) rfl ?_
  refine r_iconst (v := 0) h.ok dX0_begin_29 (by decide) ?_
  refine r_istore (lv' := [(5, .int 0), (4, .int 0), (0, .ref (ad 2 0)), (1, .ref (ad 7 v)), (2, .ref (ad 4 i)), (3, .int m)]) h.ok dX0_begin_30 (by decide) rfl ?_
  refine r_iload h.ok dX0_begin_32 0 rfl ?_
  refine r_aload_n h.ok dX0_begin_34 4 rfl ?_
  refine r_get h.ok 4 dX0_begin_35 (xo_4 hi _) rfl inX1 (by decide) wfl_X0_36 rfl ?_
  refine r_alen (t0 := 0) (v := 4) h.ok dX0_begin_38 (xo_5 hi _) rfl (show Int32.ofNat 4 = 4 by decide) ?_
  refine r_icmp_ge h.ok 99 dX0_begin_39 (by decide) (fun q => absurd q (by decide)) (fun _ => ?_)
  refine r_aload_n h.ok dX0_begin_42 4 rfl ?_
  refine r_get h.ok 4 dX0_begin_43 (xo_4 hi _) rfl inX1 (by decide) wfl_X0_36 rfl ?_
  refine r_iload h.ok dX0_begin_46 0 rfl ?_
  refine x_iald (v := I 5 i 0) h.ok 0 dX0_begin_48 (xo_5 hi _) (by decide) (by decide) (by decide) rfl ?_
  refine r_topi (fun n_0 e_n_0 => ?_)
  refine r_istore (lv' := [(6, .int n_0), (5, .int 0), (4, .int 0), (0, .ref (ad 2 0)), (1, .ref (ad 7 v)), (2, .ref (ad 4 i)), (3, .int m)]) h.ok dX0_begin_49 (by decide) rfl ?_
  refine r_aload_n h.ok dX0_begin_51 3 rfl ?_
  refine r_dup h.ok dX0_begin_52 rfl ?_
  refine r_get (v := .int (m + 2)) h.ok 3 dX0_begin_53 (xo_2 _) rfl inX0 (by decide) wfl_X0_33 (congrArg (fun z => some (Value.int z)) (by simp [gr, upd] : (gs (gs (gs I 2 0 1 h0) 2 0 2 0) 2 0 3 (m + 2)) 2 0 3 = m + 2)) ?_
  refine r_iload h.ok dX0_begin_56 0 rfl ?_
  refine r_iconst (v := 3) h.ok dX0_begin_58 (by decide) ?_
  refine r_mmin h.ok dX0_begin_59 wml_X0_40 ⟨by decide, Nat.le_of_ble_eq_true rfl, by decide, by decide⟩ ?_
  refine r_topi (fun p_0 e_p_0 => ?_)
  refine r_iadd h.ok dX0_begin_62 ?_
  refine r_put (ty := tyX0) h.ok 3 dX0_begin_63 (xo_2 _) rfl inX0 tyX0_ok nmX0 (by decide) wfl_X0_33 rfl rfl rfl (by simp) (cX_put (r' := upd ((gs (gs (gs I 2 0 1 h0) 2 0 2 0) 2 0 3 (m + 2)) 2 0) 3 ((m + 2) + p_0)) (xo_2 _)) ?_
  refine r_iload h.ok dX0_begin_66 0 rfl ?_
  refine r_iconst (v := 3) h.ok dX0_begin_68 (by decide) ?_
  have K_69_0 : ∀ (d_0 l_0 : Int32), (d_0 = (0 + (if n_0 ≤ 3 then h0 / 4 + (h0 - h0 / 4 * 4) else 0))) → (l_0 = (0 + (if n_0 ≤ 3 then 0 else 1))) → Rn 93 [(4, .int l_0), (6, .int n_0), (5, .int 0), (0, .ref (ad 2 0)), (1, .ref (ad 7 v)), (2, .ref (ad 4 i)), (3, .int m)] [] ad (cX E ad (gs (gs (gs (gs (gs I 2 0 1 h0) 2 0 2 0) 2 0 3 (m + 2)) 2 0 3 ((m + 2) + p_0)) 2 0 2 d_0) (gf F 1 0 (some v)) lc ln) 0 0 := by
    intro d_0 l_0  e_d_0 e_l_0
    refine r_iinc (v := 1) (lv' := [(5, .int 1), (4, .int l_0), (6, .int n_0), (0, .ref (ad 2 0)), (1, .ref (ad 7 v)), (2, .ref (ad 4 i)), (3, .int m)]) h.ok dX0_begin_93 2 rfl (by decide) (by decide) rfl ?_
    refine r_goto h.ok 32 dX0_begin_96 (by decide) ?_
    refine r_iload h.ok dX0_begin_32 0 rfl ?_
    refine r_aload_n h.ok dX0_begin_34 5 rfl ?_
    refine r_get h.ok 4 dX0_begin_35 (xo_4 hi _) rfl inX1 (by decide) wfl_X0_36 rfl ?_
    refine r_alen (t0 := 0) (v := 4) h.ok dX0_begin_38 (xo_5 hi _) rfl (show Int32.ofNat 4 = 4 by decide) ?_
    refine r_icmp_ge h.ok 99 dX0_begin_39 (by decide) (fun q => absurd q (by decide)) (fun _ => ?_)
    refine r_aload_n h.ok dX0_begin_42 5 rfl ?_
    refine r_get h.ok 4 dX0_begin_43 (xo_4 hi _) rfl inX1 (by decide) wfl_X0_36 rfl ?_
    refine r_iload h.ok dX0_begin_46 0 rfl ?_
    refine x_iald (v := I 5 i 1) h.ok 1 dX0_begin_48 (xo_5 hi _) (by decide) (by decide) (by decide) rfl ?_
    refine r_topi (fun n_1 e_n_1 => ?_)
    refine r_istore (lv' := [(6, .int n_1), (5, .int 1), (4, .int l_0), (0, .ref (ad 2 0)), (1, .ref (ad 7 v)), (2, .ref (ad 4 i)), (3, .int m)]) h.ok dX0_begin_49 (by decide) rfl ?_
    refine r_aload_n h.ok dX0_begin_51 3 rfl ?_
    refine r_dup h.ok dX0_begin_52 rfl ?_
    refine r_get (v := .int ((m + 2) + p_0)) h.ok 3 dX0_begin_53 (xo_2 _) rfl inX0 (by decide) wfl_X0_33 (congrArg (fun z => some (Value.int z)) (by simp [gr, upd] : (gs (gs (gs (gs (gs I 2 0 1 h0) 2 0 2 0) 2 0 3 (m + 2)) 2 0 3 ((m + 2) + p_0)) 2 0 2 d_0) 2 0 3 = (m + 2) + p_0)) ?_
    refine r_iload h.ok dX0_begin_56 0 rfl ?_
    refine r_iconst (v := 3) h.ok dX0_begin_58 (by decide) ?_
    refine r_mmin h.ok dX0_begin_59 wml_X0_40 ⟨by decide, Nat.le_of_ble_eq_true rfl, by decide, by decide⟩ ?_
    refine r_topi (fun p_1 e_p_1 => ?_)
    refine r_iadd h.ok dX0_begin_62 ?_
    refine r_put (ty := tyX0) h.ok 3 dX0_begin_63 (xo_2 _) rfl inX0 tyX0_ok nmX0 (by decide) wfl_X0_33 rfl rfl rfl (by simp) (cX_put (r' := upd ((gs (gs (gs (gs (gs I 2 0 1 h0) 2 0 2 0) 2 0 3 (m + 2)) 2 0 3 ((m + 2) + p_0)) 2 0 2 d_0) 2 0) 3 (((m + 2) + p_0) + p_1)) (xo_2 _)) ?_
    refine r_iload h.ok dX0_begin_66 0 rfl ?_
    refine r_iconst (v := 3) h.ok dX0_begin_68 (by decide) ?_
    have K_69_1 : ∀ (d_1 l_1 : Int32), (d_1 = (d_0 + (if n_1 ≤ 3 then h0 / 4 else 0))) → (l_1 = (l_0 + (if n_1 ≤ 3 then 0 else 1))) → Rn 93 [(4, .int l_1), (6, .int n_1), (5, .int 1), (0, .ref (ad 2 0)), (1, .ref (ad 7 v)), (2, .ref (ad 4 i)), (3, .int m)] [] ad (cX E ad (gs (gs (gs (gs (gs (gs (gs I 2 0 1 h0) 2 0 2 0) 2 0 3 (m + 2)) 2 0 3 ((m + 2) + p_0)) 2 0 2 d_0) 2 0 3 (((m + 2) + p_0) + p_1)) 2 0 2 d_1) (gf F 1 0 (some v)) lc ln) 0 0 := by
      intro d_1 l_1  e_d_1 e_l_1
      refine r_iinc (v := 2) (lv' := [(5, .int 2), (4, .int l_1), (6, .int n_1), (0, .ref (ad 2 0)), (1, .ref (ad 7 v)), (2, .ref (ad 4 i)), (3, .int m)]) h.ok dX0_begin_93 2 rfl (by decide) (by decide) rfl ?_
      refine r_goto h.ok 32 dX0_begin_96 (by decide) ?_
      refine r_iload h.ok dX0_begin_32 0 rfl ?_
      refine r_aload_n h.ok dX0_begin_34 5 rfl ?_
      refine r_get h.ok 4 dX0_begin_35 (xo_4 hi _) rfl inX1 (by decide) wfl_X0_36 rfl ?_
      refine r_alen (t0 := 0) (v := 4) h.ok dX0_begin_38 (xo_5 hi _) rfl (show Int32.ofNat 4 = 4 by decide) ?_
      refine r_icmp_ge h.ok 99 dX0_begin_39 (by decide) (fun q => absurd q (by decide)) (fun _ => ?_)
      refine r_aload_n h.ok dX0_begin_42 5 rfl ?_
      refine r_get h.ok 4 dX0_begin_43 (xo_4 hi _) rfl inX1 (by decide) wfl_X0_36 rfl ?_
      refine r_iload h.ok dX0_begin_46 0 rfl ?_
      refine x_iald (v := I 5 i 2) h.ok 2 dX0_begin_48 (xo_5 hi _) (by decide) (by decide) (by decide) rfl ?_
      refine r_topi (fun n_2 e_n_2 => ?_)
      refine r_istore (lv' := [(6, .int n_2), (5, .int 2), (4, .int l_1), (0, .ref (ad 2 0)), (1, .ref (ad 7 v)), (2, .ref (ad 4 i)), (3, .int m)]) h.ok dX0_begin_49 (by decide) rfl ?_
      refine r_aload_n h.ok dX0_begin_51 3 rfl ?_
      refine r_dup h.ok dX0_begin_52 rfl ?_
      refine r_get (v := .int (((m + 2) + p_0) + p_1)) h.ok 3 dX0_begin_53 (xo_2 _) rfl inX0 (by decide) wfl_X0_33 (congrArg (fun z => some (Value.int z)) (by simp [gr, upd] : (gs (gs (gs (gs (gs (gs (gs I 2 0 1 h0) 2 0 2 0) 2 0 3 (m + 2)) 2 0 3 ((m + 2) + p_0)) 2 0 2 d_0) 2 0 3 (((m + 2) + p_0) + p_1)) 2 0 2 d_1) 2 0 3 = ((m + 2) + p_0) + p_1)) ?_
      refine r_iload h.ok dX0_begin_56 0 rfl ?_
      refine r_iconst (v := 3) h.ok dX0_begin_58 (by decide) ?_
      refine r_mmin h.ok dX0_begin_59 wml_X0_40 ⟨by decide, Nat.le_of_ble_eq_true rfl, by decide, by decide⟩ ?_
      refine r_topi (fun p_2 e_p_2 => ?_)
      refine r_iadd h.ok dX0_begin_62 ?_
      refine r_put (ty := tyX0) h.ok 3 dX0_begin_63 (xo_2 _) rfl inX0 tyX0_ok nmX0 (by decide) wfl_X0_33 rfl rfl rfl (by simp) (cX_put (r' := upd ((gs (gs (gs (gs (gs (gs (gs I 2 0 1 h0) 2 0 2 0) 2 0 3 (m + 2)) 2 0 3 ((m + 2) + p_0)) 2 0 2 d_0) 2 0 3 (((m + 2) + p_0) + p_1)) 2 0 2 d_1) 2 0) 3 ((((m + 2) + p_0) + p_1) + p_2)) (xo_2 _)) ?_
      refine r_iload h.ok dX0_begin_66 0 rfl ?_
      refine r_iconst (v := 3) h.ok dX0_begin_68 (by decide) ?_
      have K_69_2 : ∀ (d_2 l_2 : Int32), (d_2 = (d_1 + (if n_2 ≤ 3 then h0 / 4 else 0))) → (l_2 = (l_1 + (if n_2 ≤ 3 then 0 else 1))) → Rn 93 [(4, .int l_2), (6, .int n_2), (5, .int 2), (0, .ref (ad 2 0)), (1, .ref (ad 7 v)), (2, .ref (ad 4 i)), (3, .int m)] [] ad (cX E ad (gs (gs (gs (gs (gs (gs (gs (gs (gs I 2 0 1 h0) 2 0 2 0) 2 0 3 (m + 2)) 2 0 3 ((m + 2) + p_0)) 2 0 2 d_0) 2 0 3 (((m + 2) + p_0) + p_1)) 2 0 2 d_1) 2 0 3 ((((m + 2) + p_0) + p_1) + p_2)) 2 0 2 d_2) (gf F 1 0 (some v)) lc ln) 0 0 := by
        intro d_2 l_2  e_d_2 e_l_2
        refine r_iinc (v := 3) (lv' := [(5, .int 3), (4, .int l_2), (6, .int n_2), (0, .ref (ad 2 0)), (1, .ref (ad 7 v)), (2, .ref (ad 4 i)), (3, .int m)]) h.ok dX0_begin_93 2 rfl (by decide) (by decide) rfl ?_
        refine r_goto h.ok 32 dX0_begin_96 (by decide) ?_
        refine r_iload h.ok dX0_begin_32 0 rfl ?_
        refine r_aload_n h.ok dX0_begin_34 5 rfl ?_
        refine r_get h.ok 4 dX0_begin_35 (xo_4 hi _) rfl inX1 (by decide) wfl_X0_36 rfl ?_
        refine r_alen (t0 := 0) (v := 4) h.ok dX0_begin_38 (xo_5 hi _) rfl (show Int32.ofNat 4 = 4 by decide) ?_
        refine r_icmp_ge h.ok 99 dX0_begin_39 (by decide) (fun q => absurd q (by decide)) (fun _ => ?_)
        refine r_aload_n h.ok dX0_begin_42 5 rfl ?_
        refine r_get h.ok 4 dX0_begin_43 (xo_4 hi _) rfl inX1 (by decide) wfl_X0_36 rfl ?_
        refine r_iload h.ok dX0_begin_46 0 rfl ?_
        refine x_iald (v := I 5 i 3) h.ok 3 dX0_begin_48 (xo_5 hi _) (by decide) (by decide) (by decide) rfl ?_
        refine r_topi (fun n_3 e_n_3 => ?_)
        refine r_istore (lv' := [(6, .int n_3), (5, .int 3), (4, .int l_2), (0, .ref (ad 2 0)), (1, .ref (ad 7 v)), (2, .ref (ad 4 i)), (3, .int m)]) h.ok dX0_begin_49 (by decide) rfl ?_
        refine r_aload_n h.ok dX0_begin_51 3 rfl ?_
        refine r_dup h.ok dX0_begin_52 rfl ?_
        refine r_get (v := .int ((((m + 2) + p_0) + p_1) + p_2)) h.ok 3 dX0_begin_53 (xo_2 _) rfl inX0 (by decide) wfl_X0_33 (congrArg (fun z => some (Value.int z)) (by simp [gr, upd] : (gs (gs (gs (gs (gs (gs (gs (gs (gs I 2 0 1 h0) 2 0 2 0) 2 0 3 (m + 2)) 2 0 3 ((m + 2) + p_0)) 2 0 2 d_0) 2 0 3 (((m + 2) + p_0) + p_1)) 2 0 2 d_1) 2 0 3 ((((m + 2) + p_0) + p_1) + p_2)) 2 0 2 d_2) 2 0 3 = (((m + 2) + p_0) + p_1) + p_2)) ?_
        refine r_iload h.ok dX0_begin_56 0 rfl ?_
        refine r_iconst (v := 3) h.ok dX0_begin_58 (by decide) ?_
        refine r_mmin h.ok dX0_begin_59 wml_X0_40 ⟨by decide, Nat.le_of_ble_eq_true rfl, by decide, by decide⟩ ?_
        refine r_topi (fun p_3 e_p_3 => ?_)
        refine r_iadd h.ok dX0_begin_62 ?_
        refine r_put (ty := tyX0) h.ok 3 dX0_begin_63 (xo_2 _) rfl inX0 tyX0_ok nmX0 (by decide) wfl_X0_33 rfl rfl rfl (by simp) (cX_put (r' := upd ((gs (gs (gs (gs (gs (gs (gs (gs (gs I 2 0 1 h0) 2 0 2 0) 2 0 3 (m + 2)) 2 0 3 ((m + 2) + p_0)) 2 0 2 d_0) 2 0 3 (((m + 2) + p_0) + p_1)) 2 0 2 d_1) 2 0 3 ((((m + 2) + p_0) + p_1) + p_2)) 2 0 2 d_2) 2 0) 3 (((((m + 2) + p_0) + p_1) + p_2) + p_3)) (xo_2 _)) ?_
        refine r_iload h.ok dX0_begin_66 0 rfl ?_
        refine r_iconst (v := 3) h.ok dX0_begin_68 (by decide) ?_
        have K_69_3 : ∀ (d_3 l_3 : Int32), (d_3 = (d_2 + (if n_3 ≤ 3 then h0 / 4 else 0))) → (l_3 = (l_2 + (if n_3 ≤ 3 then 0 else 1))) → Rn 93 [(4, .int l_3), (6, .int n_3), (5, .int 3), (0, .ref (ad 2 0)), (1, .ref (ad 7 v)), (2, .ref (ad 4 i)), (3, .int m)] [] ad (cX E ad (gs (gs (gs (gs (gs (gs (gs (gs (gs (gs (gs I 2 0 1 h0) 2 0 2 0) 2 0 3 (m + 2)) 2 0 3 ((m + 2) + p_0)) 2 0 2 d_0) 2 0 3 (((m + 2) + p_0) + p_1)) 2 0 2 d_1) 2 0 3 ((((m + 2) + p_0) + p_1) + p_2)) 2 0 2 d_2) 2 0 3 (((((m + 2) + p_0) + p_1) + p_2) + p_3)) 2 0 2 d_3) (gf F 1 0 (some v)) lc ln) 0 0 := by
          intro d_3 l_3  e_d_3 e_l_3
          refine r_iinc (v := 4) (lv' := [(5, .int 4), (4, .int l_3), (6, .int n_3), (0, .ref (ad 2 0)), (1, .ref (ad 7 v)), (2, .ref (ad 4 i)), (3, .int m)]) h.ok dX0_begin_93 2 rfl (by decide) (by decide) rfl ?_
          refine r_goto h.ok 32 dX0_begin_96 (by decide) ?_
          refine r_iload h.ok dX0_begin_32 0 rfl ?_
          refine r_aload_n h.ok dX0_begin_34 5 rfl ?_
          refine r_get h.ok 4 dX0_begin_35 (xo_4 hi _) rfl inX1 (by decide) wfl_X0_36 rfl ?_
          refine r_alen (t0 := 0) (v := 4) h.ok dX0_begin_38 (xo_5 hi _) rfl (show Int32.ofNat 4 = 4 by decide) ?_
          refine r_icmp_ge h.ok 99 dX0_begin_39 (by decide) (fun _ => ?_) (fun q => absurd q (by decide))
          refine r_aload_n h.ok dX0_begin_99 3 rfl ?_
          refine r_aload_n h.ok dX0_begin_100 3 rfl ?_
          refine r_get (v := .int (((((m + 2) + p_0) + p_1) + p_2) + p_3)) h.ok 3 dX0_begin_101 (xo_2 _) rfl inX0 (by decide) wfl_X0_33 (congrArg (fun z => some (Value.int z)) (by simp [gr, upd] : (gs (gs (gs (gs (gs (gs (gs (gs (gs (gs (gs I 2 0 1 h0) 2 0 2 0) 2 0 3 (m + 2)) 2 0 3 ((m + 2) + p_0)) 2 0 2 d_0) 2 0 3 (((m + 2) + p_0) + p_1)) 2 0 2 d_1) 2 0 3 ((((m + 2) + p_0) + p_1) + p_2)) 2 0 2 d_2) 2 0 3 (((((m + 2) + p_0) + p_1) + p_2) + p_3)) 2 0 2 d_3) 2 0 3 = ((((m + 2) + p_0) + p_1) + p_2) + p_3)) ?_
          refine r_aload_n h.ok dX0_begin_104 3 rfl ?_
          refine r_get (v := .int d_3) h.ok 2 dX0_begin_105 (xo_2 _) rfl inX0 (by decide) wfl_X0_30 (congrArg (fun z => some (Value.int z)) (by simp [gr, upd] : (gs (gs (gs (gs (gs (gs (gs (gs (gs (gs (gs I 2 0 1 h0) 2 0 2 0) 2 0 3 (m + 2)) 2 0 3 ((m + 2) + p_0)) 2 0 2 d_0) 2 0 3 (((m + 2) + p_0) + p_1)) 2 0 2 d_1) 2 0 3 ((((m + 2) + p_0) + p_1) + p_2)) 2 0 2 d_2) 2 0 3 (((((m + 2) + p_0) + p_1) + p_2) + p_3)) 2 0 2 d_3) 2 0 2 = d_3)) ?_
          refine r_bipush (v := 20) h.ok dX0_begin_108 (by decide) ?_
          refine r_iadd h.ok dX0_begin_110 ?_
          refine r_iconst (v := 1) h.ok dX0_begin_111 (by decide) ?_
          refine r_isub h.ok dX0_begin_112 ?_
          refine r_bipush (v := 20) h.ok dX0_begin_113 (by decide) ?_
          refine r_idiv h.ok dX0_begin_115 (by decide) ?_
          refine r_iadd h.ok dX0_begin_116 ?_
          refine r_put (ty := tyX0) h.ok 4 dX0_begin_117 (xo_2 _) rfl inX0 tyX0_ok nmX0 (by decide) wfl_X0_49 rfl rfl rfl (by simp) (cX_put (r' := upd ((gs (gs (gs (gs (gs (gs (gs (gs (gs (gs (gs I 2 0 1 h0) 2 0 2 0) 2 0 3 (m + 2)) 2 0 3 ((m + 2) + p_0)) 2 0 2 d_0) 2 0 3 (((m + 2) + p_0) + p_1)) 2 0 2 d_1) 2 0 3 ((((m + 2) + p_0) + p_1) + p_2)) 2 0 2 d_2) 2 0 3 (((((m + 2) + p_0) + p_1) + p_2) + p_3)) 2 0 2 d_3) 2 0) 4 ((((((m + 2) + p_0) + p_1) + p_2) + p_3) + (((d_3 + 20) - 1) / 20))) (xo_2 _)) ?_
          refine r_aload_n h.ok dX0_begin_120 4 rfl ?_
          refine r_iload_n h.ok dX0_begin_121 6 rfl ?_
          refine r_put (ty := tyX4) h.ok 6 dX0_begin_122 (xo_7 hv _) rfl inX4 tyX4_ok nmX4 (by decide) wfl_X0_52 rfl rfl rfl (by simp) (cX_put (r' := upd ((gs (gs (gs (gs (gs (gs (gs (gs (gs (gs (gs (gs I 2 0 1 h0) 2 0 2 0) 2 0 3 (m + 2)) 2 0 3 ((m + 2) + p_0)) 2 0 2 d_0) 2 0 3 (((m + 2) + p_0) + p_1)) 2 0 2 d_1) 2 0 3 ((((m + 2) + p_0) + p_1) + p_2)) 2 0 2 d_2) 2 0 3 (((((m + 2) + p_0) + p_1) + p_2) + p_3)) 2 0 2 d_3) 2 0 4 ((((((m + 2) + p_0) + p_1) + p_2) + p_3) + (((d_3 + 20) - 1) / 20))) 7 v) 6 m) (xo_7 hv _)) ?_
          refine r_aload_n h.ok dX0_begin_125 4 rfl ?_
          refine r_iload h.ok dX0_begin_126 1 rfl ?_
          refine r_put (ty := tyX4) h.ok 10 dX0_begin_128 (xo_7 hv _) rfl inX4 tyX4_ok nmX4 (by decide) wfl_X0_55 rfl rfl rfl (by simp) (cX_put (r' := upd ((gs (gs (gs (gs (gs (gs (gs (gs (gs (gs (gs (gs (gs I 2 0 1 h0) 2 0 2 0) 2 0 3 (m + 2)) 2 0 3 ((m + 2) + p_0)) 2 0 2 d_0) 2 0 3 (((m + 2) + p_0) + p_1)) 2 0 2 d_1) 2 0 3 ((((m + 2) + p_0) + p_1) + p_2)) 2 0 2 d_2) 2 0 3 (((((m + 2) + p_0) + p_1) + p_2) + p_3)) 2 0 2 d_3) 2 0 4 ((((((m + 2) + p_0) + p_1) + p_2) + p_3) + (((d_3 + 20) - 1) / 20))) 7 v 6 m) 7 v) 10 l_3) (xo_7 hv _)) ?_
          refine r_vret h dX0_begin_131 ⟨by decide, by decide⟩ ⟨rfl, rfl, (by subst e_l_3; subst e_d_3; subst e_p_3; subst e_n_3; subst e_l_2; subst e_d_2; subst e_p_2; subst e_n_2; subst e_l_1; subst e_d_1; subst e_p_1; subst e_n_1; subst e_l_0; subst e_d_0; subst e_p_0; subst e_n_0; unfold bArm_I; rfl)⟩
        refine r_icmp_le h.ok 78 dX0_begin_69 (by decide) (fun c_69_3 => ?_) (fun c_69_3 => ?_)
        · refine r_aload_n h.ok dX0_begin_78 3 rfl ?_
          refine r_dup h.ok dX0_begin_79 rfl ?_
          refine r_get (v := .int d_2) h.ok 2 dX0_begin_80 (xo_2 _) rfl inX0 (by decide) wfl_X0_30 (congrArg (fun z => some (Value.int z)) (by simp [gr, upd] : (gs (gs (gs (gs (gs (gs (gs (gs (gs (gs I 2 0 1 h0) 2 0 2 0) 2 0 3 (m + 2)) 2 0 3 ((m + 2) + p_0)) 2 0 2 d_0) 2 0 3 (((m + 2) + p_0) + p_1)) 2 0 2 d_1) 2 0 3 ((((m + 2) + p_0) + p_1) + p_2)) 2 0 2 d_2) 2 0 3 (((((m + 2) + p_0) + p_1) + p_2) + p_3)) 2 0 2 = d_2)) ?_
          refine r_aload_n h.ok dX0_begin_83 3 rfl ?_
          refine r_iload h.ok dX0_begin_84 1 rfl ?_
          refine r_callV h.ok [.int 3] [.int d_2, .ref (ad 2 0)] dX0_begin_86 (c_X0_milkOfTeat D E ad (gs (gs (gs (gs (gs (gs (gs (gs (gs (gs I 2 0 1 h0) 2 0 2 0) 2 0 3 (m + 2)) 2 0 3 ((m + 2) + p_0)) 2 0 2 d_0) 2 0 3 (((m + 2) + p_0) + p_1)) 2 0 2 d_1) 2 0 3 ((((m + 2) + p_0) + p_1) + p_2)) 2 0 2 d_2) 2 0 3 (((((m + 2) + p_0) + p_1) + p_2) + p_3)) (gf F 1 0 (some v)) lc ln 3) wml_X0_46 wim_X0_milkOfTeat wse_X0_milkOfTeat win_X0 wco_X0_milkOfTeat yok_X0_milkOfTeat (xo_2 _) rfl rfl ⟨by decide, by decide, by simp [gRm], by simp [gRm]⟩ (Nat.le_of_ble_eq_true rfl) rfl ?_
          show Rn 89 [(6, .int n_3), (5, .int 3), (4, .int l_2), (0, .ref (ad 2 0)), (1, .ref (ad 7 v)), (2, .ref (ad 4 i)), (3, .int m)] [.int (bTeat_r (gs (gs (gs (gs (gs (gs (gs (gs (gs (gs I 2 0 1 h0) 2 0 2 0) 2 0 3 (m + 2)) 2 0 3 ((m + 2) + p_0)) 2 0 2 d_0) 2 0 3 (((m + 2) + p_0) + p_1)) 2 0 2 d_1) 2 0 3 ((((m + 2) + p_0) + p_1) + p_2)) 2 0 2 d_2) 2 0 3 (((((m + 2) + p_0) + p_1) + p_2) + p_3)) (gf F 1 0 (some v)) 3), .int d_2, .ref (ad 2 0)] ad (cX E ad (gs (gs (gs (gs (gs (gs (gs (gs (gs (gs I 2 0 1 h0) 2 0 2 0) 2 0 3 (m + 2)) 2 0 3 ((m + 2) + p_0)) 2 0 2 d_0) 2 0 3 (((m + 2) + p_0) + p_1)) 2 0 2 d_1) 2 0 3 ((((m + 2) + p_0) + p_1) + p_2)) 2 0 2 d_2) 2 0 3 (((((m + 2) + p_0) + p_1) + p_2) + p_3)) (gf F 1 0 (some v)) lc ln) 0 0
          rw [show bTeat_r (gs (gs (gs (gs (gs (gs (gs (gs (gs (gs I 2 0 1 h0) 2 0 2 0) 2 0 3 (m + 2)) 2 0 3 ((m + 2) + p_0)) 2 0 2 d_0) 2 0 3 (((m + 2) + p_0) + p_1)) 2 0 2 d_1) 2 0 3 ((((m + 2) + p_0) + p_1) + p_2)) 2 0 2 d_2) 2 0 3 (((((m + 2) + p_0) + p_1) + p_2) + p_3)) (gf F 1 0 (some v)) 3 = h0 / 4 from by simp [bTeat_r, gr, upd]]
          refine r_iadd h.ok dX0_begin_89 ?_
          refine r_put (ty := tyX0) h.ok 2 dX0_begin_90 (xo_2 _) rfl inX0 tyX0_ok nmX0 (by decide) wfl_X0_30 rfl rfl rfl (by simp) (cX_put (r' := upd ((gs (gs (gs (gs (gs (gs (gs (gs (gs (gs I 2 0 1 h0) 2 0 2 0) 2 0 3 (m + 2)) 2 0 3 ((m + 2) + p_0)) 2 0 2 d_0) 2 0 3 (((m + 2) + p_0) + p_1)) 2 0 2 d_1) 2 0 3 ((((m + 2) + p_0) + p_1) + p_2)) 2 0 2 d_2) 2 0 3 (((((m + 2) + p_0) + p_1) + p_2) + p_3)) 2 0) 2 (d_2 + (h0 / 4))) (xo_2 _)) ?_
          refine r_lv (lv' := [(4, .int l_2), (6, .int n_3), (5, .int 3), (0, .ref (ad 2 0)), (1, .ref (ad 7 v)), (2, .ref (ad 4 i)), (3, .int m)]) h.ok [2, 0, 1, 3, 4, 5, 6] rfl ?_
          show Rn 93 [(4, .int l_2), (6, .int n_3), (5, .int 3), (0, .ref (ad 2 0)), (1, .ref (ad 7 v)), (2, .ref (ad 4 i)), (3, .int m)] [] ad (cX E ad (gs (gs (gs (gs (gs (gs (gs (gs (gs (gs (gs I 2 0 1 h0) 2 0 2 0) 2 0 3 (m + 2)) 2 0 3 ((m + 2) + p_0)) 2 0 2 d_0) 2 0 3 (((m + 2) + p_0) + p_1)) 2 0 2 d_1) 2 0 3 ((((m + 2) + p_0) + p_1) + p_2)) 2 0 2 d_2) 2 0 3 (((((m + 2) + p_0) + p_1) + p_2) + p_3)) 2 0 2 (d_2 + (h0 / 4))) (gf F 1 0 (some v)) lc ln) 0 0
          exact K_69_3 _ _ (by rw [if_pos c_69_3]) (by rw [if_pos c_69_3]; exact (Int32.add_zero _).symm)
        · refine r_iinc (v := l_2 + 1) (lv' := [(4, .int (l_2 + 1)), (6, .int n_3), (5, .int 3), (0, .ref (ad 2 0)), (1, .ref (ad 7 v)), (2, .ref (ad 4 i)), (3, .int m)]) h.ok dX0_begin_72 2 rfl rfl (by decide) rfl ?_
          refine r_goto h.ok 93 dX0_begin_75 (by decide) ?_
          show Rn 93 [(4, .int (l_2 + 1)), (6, .int n_3), (5, .int 3), (0, .ref (ad 2 0)), (1, .ref (ad 7 v)), (2, .ref (ad 4 i)), (3, .int m)] [] ad (cX E ad (gs (gs (gs (gs (gs (gs (gs (gs (gs (gs I 2 0 1 h0) 2 0 2 0) 2 0 3 (m + 2)) 2 0 3 ((m + 2) + p_0)) 2 0 2 d_0) 2 0 3 (((m + 2) + p_0) + p_1)) 2 0 2 d_1) 2 0 3 ((((m + 2) + p_0) + p_1) + p_2)) 2 0 2 d_2) 2 0 3 (((((m + 2) + p_0) + p_1) + p_2) + p_3)) (gf F 1 0 (some v)) lc ln) 0 0
          rw [show gs (gs (gs (gs (gs (gs (gs (gs (gs (gs I 2 0 1 h0) 2 0 2 0) 2 0 3 (m + 2)) 2 0 3 ((m + 2) + p_0)) 2 0 2 d_0) 2 0 3 (((m + 2) + p_0) + p_1)) 2 0 2 d_1) 2 0 3 ((((m + 2) + p_0) + p_1) + p_2)) 2 0 2 d_2) 2 0 3 (((((m + 2) + p_0) + p_1) + p_2) + p_3) = gs (gs (gs (gs (gs (gs (gs (gs (gs (gs (gs I 2 0 1 h0) 2 0 2 0) 2 0 3 (m + 2)) 2 0 3 ((m + 2) + p_0)) 2 0 2 d_0) 2 0 3 (((m + 2) + p_0) + p_1)) 2 0 2 d_1) 2 0 3 ((((m + 2) + p_0) + p_1) + p_2)) 2 0 2 d_2) 2 0 3 (((((m + 2) + p_0) + p_1) + p_2) + p_3)) 2 0 2 d_2 from (gs_same (by simp [gr, upd])).symm]
          exact K_69_3 _ _ (by rw [if_neg c_69_3]; exact (Int32.add_zero _).symm) (by rw [if_neg c_69_3])
      refine r_icmp_le h.ok 78 dX0_begin_69 (by decide) (fun c_69_2 => ?_) (fun c_69_2 => ?_)
      · refine r_aload_n h.ok dX0_begin_78 3 rfl ?_
        refine r_dup h.ok dX0_begin_79 rfl ?_
        refine r_get (v := .int d_1) h.ok 2 dX0_begin_80 (xo_2 _) rfl inX0 (by decide) wfl_X0_30 (congrArg (fun z => some (Value.int z)) (by simp [gr, upd] : (gs (gs (gs (gs (gs (gs (gs (gs I 2 0 1 h0) 2 0 2 0) 2 0 3 (m + 2)) 2 0 3 ((m + 2) + p_0)) 2 0 2 d_0) 2 0 3 (((m + 2) + p_0) + p_1)) 2 0 2 d_1) 2 0 3 ((((m + 2) + p_0) + p_1) + p_2)) 2 0 2 = d_1)) ?_
        refine r_aload_n h.ok dX0_begin_83 3 rfl ?_
        refine r_iload h.ok dX0_begin_84 1 rfl ?_
        refine r_callV h.ok [.int 2] [.int d_1, .ref (ad 2 0)] dX0_begin_86 (c_X0_milkOfTeat D E ad (gs (gs (gs (gs (gs (gs (gs (gs I 2 0 1 h0) 2 0 2 0) 2 0 3 (m + 2)) 2 0 3 ((m + 2) + p_0)) 2 0 2 d_0) 2 0 3 (((m + 2) + p_0) + p_1)) 2 0 2 d_1) 2 0 3 ((((m + 2) + p_0) + p_1) + p_2)) (gf F 1 0 (some v)) lc ln 2) wml_X0_46 wim_X0_milkOfTeat wse_X0_milkOfTeat win_X0 wco_X0_milkOfTeat yok_X0_milkOfTeat (xo_2 _) rfl rfl ⟨by decide, by decide, by simp [gRm], by simp [gRm]⟩ (Nat.le_of_ble_eq_true rfl) rfl ?_
        show Rn 89 [(6, .int n_2), (5, .int 2), (4, .int l_1), (0, .ref (ad 2 0)), (1, .ref (ad 7 v)), (2, .ref (ad 4 i)), (3, .int m)] [.int (bTeat_r (gs (gs (gs (gs (gs (gs (gs (gs I 2 0 1 h0) 2 0 2 0) 2 0 3 (m + 2)) 2 0 3 ((m + 2) + p_0)) 2 0 2 d_0) 2 0 3 (((m + 2) + p_0) + p_1)) 2 0 2 d_1) 2 0 3 ((((m + 2) + p_0) + p_1) + p_2)) (gf F 1 0 (some v)) 2), .int d_1, .ref (ad 2 0)] ad (cX E ad (gs (gs (gs (gs (gs (gs (gs (gs I 2 0 1 h0) 2 0 2 0) 2 0 3 (m + 2)) 2 0 3 ((m + 2) + p_0)) 2 0 2 d_0) 2 0 3 (((m + 2) + p_0) + p_1)) 2 0 2 d_1) 2 0 3 ((((m + 2) + p_0) + p_1) + p_2)) (gf F 1 0 (some v)) lc ln) 0 0
        rw [show bTeat_r (gs (gs (gs (gs (gs (gs (gs (gs I 2 0 1 h0) 2 0 2 0) 2 0 3 (m + 2)) 2 0 3 ((m + 2) + p_0)) 2 0 2 d_0) 2 0 3 (((m + 2) + p_0) + p_1)) 2 0 2 d_1) 2 0 3 ((((m + 2) + p_0) + p_1) + p_2)) (gf F 1 0 (some v)) 2 = h0 / 4 from by simp [bTeat_r, gr, upd]]
        refine r_iadd h.ok dX0_begin_89 ?_
        refine r_put (ty := tyX0) h.ok 2 dX0_begin_90 (xo_2 _) rfl inX0 tyX0_ok nmX0 (by decide) wfl_X0_30 rfl rfl rfl (by simp) (cX_put (r' := upd ((gs (gs (gs (gs (gs (gs (gs (gs I 2 0 1 h0) 2 0 2 0) 2 0 3 (m + 2)) 2 0 3 ((m + 2) + p_0)) 2 0 2 d_0) 2 0 3 (((m + 2) + p_0) + p_1)) 2 0 2 d_1) 2 0 3 ((((m + 2) + p_0) + p_1) + p_2)) 2 0) 2 (d_1 + (h0 / 4))) (xo_2 _)) ?_
        refine r_lv (lv' := [(4, .int l_1), (6, .int n_2), (5, .int 2), (0, .ref (ad 2 0)), (1, .ref (ad 7 v)), (2, .ref (ad 4 i)), (3, .int m)]) h.ok [2, 0, 1, 3, 4, 5, 6] rfl ?_
        show Rn 93 [(4, .int l_1), (6, .int n_2), (5, .int 2), (0, .ref (ad 2 0)), (1, .ref (ad 7 v)), (2, .ref (ad 4 i)), (3, .int m)] [] ad (cX E ad (gs (gs (gs (gs (gs (gs (gs (gs (gs I 2 0 1 h0) 2 0 2 0) 2 0 3 (m + 2)) 2 0 3 ((m + 2) + p_0)) 2 0 2 d_0) 2 0 3 (((m + 2) + p_0) + p_1)) 2 0 2 d_1) 2 0 3 ((((m + 2) + p_0) + p_1) + p_2)) 2 0 2 (d_1 + (h0 / 4))) (gf F 1 0 (some v)) lc ln) 0 0
        exact K_69_2 _ _ (by rw [if_pos c_69_2]) (by rw [if_pos c_69_2]; exact (Int32.add_zero _).symm)
      · refine r_iinc (v := l_1 + 1) (lv' := [(4, .int (l_1 + 1)), (6, .int n_2), (5, .int 2), (0, .ref (ad 2 0)), (1, .ref (ad 7 v)), (2, .ref (ad 4 i)), (3, .int m)]) h.ok dX0_begin_72 2 rfl rfl (by decide) rfl ?_
        refine r_goto h.ok 93 dX0_begin_75 (by decide) ?_
        show Rn 93 [(4, .int (l_1 + 1)), (6, .int n_2), (5, .int 2), (0, .ref (ad 2 0)), (1, .ref (ad 7 v)), (2, .ref (ad 4 i)), (3, .int m)] [] ad (cX E ad (gs (gs (gs (gs (gs (gs (gs (gs I 2 0 1 h0) 2 0 2 0) 2 0 3 (m + 2)) 2 0 3 ((m + 2) + p_0)) 2 0 2 d_0) 2 0 3 (((m + 2) + p_0) + p_1)) 2 0 2 d_1) 2 0 3 ((((m + 2) + p_0) + p_1) + p_2)) (gf F 1 0 (some v)) lc ln) 0 0
        rw [show gs (gs (gs (gs (gs (gs (gs (gs I 2 0 1 h0) 2 0 2 0) 2 0 3 (m + 2)) 2 0 3 ((m + 2) + p_0)) 2 0 2 d_0) 2 0 3 (((m + 2) + p_0) + p_1)) 2 0 2 d_1) 2 0 3 ((((m + 2) + p_0) + p_1) + p_2) = gs (gs (gs (gs (gs (gs (gs (gs (gs I 2 0 1 h0) 2 0 2 0) 2 0 3 (m + 2)) 2 0 3 ((m + 2) + p_0)) 2 0 2 d_0) 2 0 3 (((m + 2) + p_0) + p_1)) 2 0 2 d_1) 2 0 3 ((((m + 2) + p_0) + p_1) + p_2)) 2 0 2 d_1 from (gs_same (by simp [gr, upd])).symm]
        exact K_69_2 _ _ (by rw [if_neg c_69_2]; exact (Int32.add_zero _).symm) (by rw [if_neg c_69_2])
    refine r_icmp_le h.ok 78 dX0_begin_69 (by decide) (fun c_69_1 => ?_) (fun c_69_1 => ?_)
    · refine r_aload_n h.ok dX0_begin_78 3 rfl ?_
      refine r_dup h.ok dX0_begin_79 rfl ?_
      refine r_get (v := .int d_0) h.ok 2 dX0_begin_80 (xo_2 _) rfl inX0 (by decide) wfl_X0_30 (congrArg (fun z => some (Value.int z)) (by simp [gr, upd] : (gs (gs (gs (gs (gs (gs I 2 0 1 h0) 2 0 2 0) 2 0 3 (m + 2)) 2 0 3 ((m + 2) + p_0)) 2 0 2 d_0) 2 0 3 (((m + 2) + p_0) + p_1)) 2 0 2 = d_0)) ?_
      refine r_aload_n h.ok dX0_begin_83 3 rfl ?_
      refine r_iload h.ok dX0_begin_84 1 rfl ?_
      refine r_callV h.ok [.int 1] [.int d_0, .ref (ad 2 0)] dX0_begin_86 (c_X0_milkOfTeat D E ad (gs (gs (gs (gs (gs (gs I 2 0 1 h0) 2 0 2 0) 2 0 3 (m + 2)) 2 0 3 ((m + 2) + p_0)) 2 0 2 d_0) 2 0 3 (((m + 2) + p_0) + p_1)) (gf F 1 0 (some v)) lc ln 1) wml_X0_46 wim_X0_milkOfTeat wse_X0_milkOfTeat win_X0 wco_X0_milkOfTeat yok_X0_milkOfTeat (xo_2 _) rfl rfl ⟨by decide, by decide, by simp [gRm], by simp [gRm]⟩ (Nat.le_of_ble_eq_true rfl) rfl ?_
      show Rn 89 [(6, .int n_1), (5, .int 1), (4, .int l_0), (0, .ref (ad 2 0)), (1, .ref (ad 7 v)), (2, .ref (ad 4 i)), (3, .int m)] [.int (bTeat_r (gs (gs (gs (gs (gs (gs I 2 0 1 h0) 2 0 2 0) 2 0 3 (m + 2)) 2 0 3 ((m + 2) + p_0)) 2 0 2 d_0) 2 0 3 (((m + 2) + p_0) + p_1)) (gf F 1 0 (some v)) 1), .int d_0, .ref (ad 2 0)] ad (cX E ad (gs (gs (gs (gs (gs (gs I 2 0 1 h0) 2 0 2 0) 2 0 3 (m + 2)) 2 0 3 ((m + 2) + p_0)) 2 0 2 d_0) 2 0 3 (((m + 2) + p_0) + p_1)) (gf F 1 0 (some v)) lc ln) 0 0
      rw [show bTeat_r (gs (gs (gs (gs (gs (gs I 2 0 1 h0) 2 0 2 0) 2 0 3 (m + 2)) 2 0 3 ((m + 2) + p_0)) 2 0 2 d_0) 2 0 3 (((m + 2) + p_0) + p_1)) (gf F 1 0 (some v)) 1 = h0 / 4 from by simp [bTeat_r, gr, upd]]
      refine r_iadd h.ok dX0_begin_89 ?_
      refine r_put (ty := tyX0) h.ok 2 dX0_begin_90 (xo_2 _) rfl inX0 tyX0_ok nmX0 (by decide) wfl_X0_30 rfl rfl rfl (by simp) (cX_put (r' := upd ((gs (gs (gs (gs (gs (gs I 2 0 1 h0) 2 0 2 0) 2 0 3 (m + 2)) 2 0 3 ((m + 2) + p_0)) 2 0 2 d_0) 2 0 3 (((m + 2) + p_0) + p_1)) 2 0) 2 (d_0 + (h0 / 4))) (xo_2 _)) ?_
      refine r_lv (lv' := [(4, .int l_0), (6, .int n_1), (5, .int 1), (0, .ref (ad 2 0)), (1, .ref (ad 7 v)), (2, .ref (ad 4 i)), (3, .int m)]) h.ok [2, 0, 1, 3, 4, 5, 6] rfl ?_
      show Rn 93 [(4, .int l_0), (6, .int n_1), (5, .int 1), (0, .ref (ad 2 0)), (1, .ref (ad 7 v)), (2, .ref (ad 4 i)), (3, .int m)] [] ad (cX E ad (gs (gs (gs (gs (gs (gs (gs I 2 0 1 h0) 2 0 2 0) 2 0 3 (m + 2)) 2 0 3 ((m + 2) + p_0)) 2 0 2 d_0) 2 0 3 (((m + 2) + p_0) + p_1)) 2 0 2 (d_0 + (h0 / 4))) (gf F 1 0 (some v)) lc ln) 0 0
      exact K_69_1 _ _ (by rw [if_pos c_69_1]) (by rw [if_pos c_69_1]; exact (Int32.add_zero _).symm)
    · refine r_iinc (v := l_0 + 1) (lv' := [(4, .int (l_0 + 1)), (6, .int n_1), (5, .int 1), (0, .ref (ad 2 0)), (1, .ref (ad 7 v)), (2, .ref (ad 4 i)), (3, .int m)]) h.ok dX0_begin_72 2 rfl rfl (by decide) rfl ?_
      refine r_goto h.ok 93 dX0_begin_75 (by decide) ?_
      show Rn 93 [(4, .int (l_0 + 1)), (6, .int n_1), (5, .int 1), (0, .ref (ad 2 0)), (1, .ref (ad 7 v)), (2, .ref (ad 4 i)), (3, .int m)] [] ad (cX E ad (gs (gs (gs (gs (gs (gs I 2 0 1 h0) 2 0 2 0) 2 0 3 (m + 2)) 2 0 3 ((m + 2) + p_0)) 2 0 2 d_0) 2 0 3 (((m + 2) + p_0) + p_1)) (gf F 1 0 (some v)) lc ln) 0 0
      rw [show gs (gs (gs (gs (gs (gs I 2 0 1 h0) 2 0 2 0) 2 0 3 (m + 2)) 2 0 3 ((m + 2) + p_0)) 2 0 2 d_0) 2 0 3 (((m + 2) + p_0) + p_1) = gs (gs (gs (gs (gs (gs (gs I 2 0 1 h0) 2 0 2 0) 2 0 3 (m + 2)) 2 0 3 ((m + 2) + p_0)) 2 0 2 d_0) 2 0 3 (((m + 2) + p_0) + p_1)) 2 0 2 d_0 from (gs_same (by simp [gr, upd])).symm]
      exact K_69_1 _ _ (by rw [if_neg c_69_1]; exact (Int32.add_zero _).symm) (by rw [if_neg c_69_1])
  refine r_icmp_le h.ok 78 dX0_begin_69 (by decide) (fun c_69_0 => ?_) (fun c_69_0 => ?_)
  · refine r_aload_n h.ok dX0_begin_78 3 rfl ?_
    refine r_dup h.ok dX0_begin_79 rfl ?_
    refine r_get (v := .int 0) h.ok 2 dX0_begin_80 (xo_2 _) rfl inX0 (by decide) wfl_X0_30 (congrArg (fun z => some (Value.int z)) (by simp [gr, upd] : (gs (gs (gs (gs I 2 0 1 h0) 2 0 2 0) 2 0 3 (m + 2)) 2 0 3 ((m + 2) + p_0)) 2 0 2 = 0)) ?_
    refine r_aload_n h.ok dX0_begin_83 3 rfl ?_
    refine r_iload h.ok dX0_begin_84 1 rfl ?_
    refine r_callV h.ok [.int 0] [.int 0, .ref (ad 2 0)] dX0_begin_86 (c_X0_milkOfTeat D E ad (gs (gs (gs (gs I 2 0 1 h0) 2 0 2 0) 2 0 3 (m + 2)) 2 0 3 ((m + 2) + p_0)) (gf F 1 0 (some v)) lc ln 0) wml_X0_46 wim_X0_milkOfTeat wse_X0_milkOfTeat win_X0 wco_X0_milkOfTeat yok_X0_milkOfTeat (xo_2 _) rfl rfl ⟨by decide, by decide, by simp [gRm], by simp [gRm]⟩ (Nat.le_of_ble_eq_true rfl) rfl ?_
    show Rn 89 [(6, .int n_0), (5, .int 0), (4, .int 0), (0, .ref (ad 2 0)), (1, .ref (ad 7 v)), (2, .ref (ad 4 i)), (3, .int m)] [.int (bTeat_r (gs (gs (gs (gs I 2 0 1 h0) 2 0 2 0) 2 0 3 (m + 2)) 2 0 3 ((m + 2) + p_0)) (gf F 1 0 (some v)) 0), .int 0, .ref (ad 2 0)] ad (cX E ad (gs (gs (gs (gs I 2 0 1 h0) 2 0 2 0) 2 0 3 (m + 2)) 2 0 3 ((m + 2) + p_0)) (gf F 1 0 (some v)) lc ln) 0 0
    rw [show bTeat_r (gs (gs (gs (gs I 2 0 1 h0) 2 0 2 0) 2 0 3 (m + 2)) 2 0 3 ((m + 2) + p_0)) (gf F 1 0 (some v)) 0 = h0 / 4 + (h0 - h0 / 4 * 4) from by simp [bTeat_r, gr, upd]]
    refine r_iadd h.ok dX0_begin_89 ?_
    refine r_put (ty := tyX0) h.ok 2 dX0_begin_90 (xo_2 _) rfl inX0 tyX0_ok nmX0 (by decide) wfl_X0_30 rfl rfl rfl (by simp) (cX_put (r' := upd ((gs (gs (gs (gs I 2 0 1 h0) 2 0 2 0) 2 0 3 (m + 2)) 2 0 3 ((m + 2) + p_0)) 2 0) 2 (0 + (h0 / 4 + (h0 - h0 / 4 * 4)))) (xo_2 _)) ?_
    refine r_lv (lv' := [(4, .int 0), (6, .int n_0), (5, .int 0), (0, .ref (ad 2 0)), (1, .ref (ad 7 v)), (2, .ref (ad 4 i)), (3, .int m)]) h.ok [2, 0, 1, 3, 4, 5, 6] rfl ?_
    show Rn 93 [(4, .int 0), (6, .int n_0), (5, .int 0), (0, .ref (ad 2 0)), (1, .ref (ad 7 v)), (2, .ref (ad 4 i)), (3, .int m)] [] ad (cX E ad (gs (gs (gs (gs (gs I 2 0 1 h0) 2 0 2 0) 2 0 3 (m + 2)) 2 0 3 ((m + 2) + p_0)) 2 0 2 (0 + (h0 / 4 + (h0 - h0 / 4 * 4)))) (gf F 1 0 (some v)) lc ln) 0 0
    exact K_69_0 _ _ (by rw [if_pos c_69_0]) (by rw [if_pos c_69_0]; exact (Int32.add_zero _).symm)
  · refine r_iinc (v := 0 + 1) (lv' := [(4, .int (0 + 1)), (6, .int n_0), (5, .int 0), (0, .ref (ad 2 0)), (1, .ref (ad 7 v)), (2, .ref (ad 4 i)), (3, .int m)]) h.ok dX0_begin_72 2 rfl rfl (by decide) rfl ?_
    refine r_goto h.ok 93 dX0_begin_75 (by decide) ?_
    show Rn 93 [(4, .int (0 + 1)), (6, .int n_0), (5, .int 0), (0, .ref (ad 2 0)), (1, .ref (ad 7 v)), (2, .ref (ad 4 i)), (3, .int m)] [] ad (cX E ad (gs (gs (gs (gs I 2 0 1 h0) 2 0 2 0) 2 0 3 (m + 2)) 2 0 3 ((m + 2) + p_0)) (gf F 1 0 (some v)) lc ln) 0 0
    rw [show gs (gs (gs (gs I 2 0 1 h0) 2 0 2 0) 2 0 3 (m + 2)) 2 0 3 ((m + 2) + p_0) = gs (gs (gs (gs (gs I 2 0 1 h0) 2 0 2 0) 2 0 3 (m + 2)) 2 0 3 ((m + 2) + p_0)) 2 0 2 0 from (gs_same (by simp [gr, upd])).symm]
    exact K_69_0 _ _ (by rw [if_neg c_69_0]; exact (Int32.add_zero _).symm) (by rw [if_neg c_69_0])
