noncomputable def bFin3 (J : gI) (v i : Nat) (mk g : Int32) : gI := gs (gs (gs (gs (gs J 7 v 11 g) 4 i 9 (J 2 0 1 - mk)) 4 i 11 (J 4 i 11 + mk)) 0 0 9 (J 0 0 9 + mk)) 0 0 10 (J 0 0 10 + g)
noncomputable def bFin2 (J : gI) (F : gF) (v i : Nat) (mk wt : Int32) : gI := bFin3 (bFeed_I (gs J 7 v 9 wt) F i mk (J 0 0 7 / 1440)) v i mk (bFeed_r (gs J 7 v 9 wt) F i mk (J 0 0 7 / 1440))
noncomputable def bFin1 (J : gI) (v : Nat) (kd mk : Int32) : gI := gs (gs (gs J 7 v 5 kd) 7 v 7 (J 0 0 7)) 7 v 8 mk
noncomputable def bFinish (I : gI) (F : gF) (v i : Nat) (kd mk : Int32) : gI := bFin2 (bPut_I (bFin1 I v kd mk) F mk (bHeld_r (bFin1 I v kd mk) F i (I 0 0 7))) F v i mk (bPut_r (bFin1 I v kd mk) F mk (bHeld_r (bFin1 I v kd mk) F i (I 0 0 7)))
noncomputable def bMk (I : gI) (F : gF) (kd : Int32) : Int32 := if kd = 2 then bMilkedBy_r I F (I 0 0 7) else I 2 0 2
noncomputable def bFin_I (I : gI) (F : gF) (kd : Int32) : gI := if F 1 0 = none then I else bFinish I F (bv F) (I 7 (bv F) 0).toNatClampNeg kd (bMk I F kd)
noncomputable def bFin_F (F : gF) : gF := if F 1 0 = none then F else gf F 1 0 none
set_option maxHeartbeats 4000000 in
set_option maxRecDepth 100000 in
theorem fin_3 {D : va_G} {E : gEc} {ad : gAd} {F : gF} {lc ln : Nat} {l : Launch} {A : Nat → Prop} {Rn : gR} {post : Option Value → gAd → gCe → Prop} {J : gI} {v i : Nat} {mk g kd : Int32} (h : gOkM l (gRm 2 0 0) cX5_finishMilking 5 none yX5_finishMilking.cls yX5_finishMilking.name D A E 0 0 post Rn) (hvl : v < ln) (hil : i < lc) (hpost : post none ad (cX E ad (bFin3 J v i mk g) (gf F 1 0 none) lc ln)) : Rn 110 [(4, .int mk), (3, .ref (ad 4 i)), (2, .ref (ad 7 v)), (0, .ref (ad 0 0)), (1, .int kd)] [.int g, .ref (ad 7 v)] ad (cX E ad J F lc ln) 0 0 := by
  refine r_put (ty := tyX4) h.ok 11 dX5_finishMilking_110 (xo_7 hvl _) rfl inX4 tyX4_ok nmX4 (by decide) wfl_X5_258 rfl rfl rfl (by simp) (cX_put (r' := upd (J 7 v) 11 g) (xo_7 hvl _)) ?_
  refine r_aload_n h.ok dX5_finishMilking_113 1 rfl ?_
  refine r_aload_n h.ok dX5_finishMilking_114 3 rfl ?_
  refine r_get h.ok 3 dX5_finishMilking_115 (xo_0 _) rfl inX5 (by decide) wfl_X5_31 rfl ?_
  refine r_get (v := .int (J 2 0 1)) h.ok 1 dX5_finishMilking_118 (xo_2 _) rfl inX0 (by decide) wfl_X5_261 rfl ?_
  refine r_iload h.ok dX5_finishMilking_121 0 rfl ?_
  refine r_isub h.ok dX5_finishMilking_123 ?_
  refine r_put (ty := tyX1) h.ok 9 dX5_finishMilking_124 (xo_4 hil _) rfl inX1 tyX1_ok nmX1 (by decide) wfl_X5_264 rfl rfl rfl (by simp) (cX_put (r' := upd ((gs J 7 v 11 g) 4 i) 9 ((J 2 0 1) - mk)) (xo_4 hil _)) ?_
  refine r_aload_n h.ok dX5_finishMilking_127 1 rfl ?_
  refine r_dup h.ok dX5_finishMilking_128 rfl ?_
  refine r_get (v := .int (J 4 i 11)) h.ok 11 dX5_finishMilking_129 (xo_4 hil _) rfl inX1 (by decide) wfl_X5_105 (congrArg (fun z => some (Value.int z)) (by simp [gr, upd] : (gs (gs J 7 v 11 g) 4 i 9 ((J 2 0 1) - mk)) 4 i 11 = J 4 i 11)) ?_
  refine r_iload h.ok dX5_finishMilking_132 0 rfl ?_
  refine r_iadd h.ok dX5_finishMilking_134 ?_
  refine r_put (ty := tyX1) h.ok 11 dX5_finishMilking_135 (xo_4 hil _) rfl inX1 tyX1_ok nmX1 (by decide) wfl_X5_105 rfl rfl rfl (by simp) (cX_put (r' := upd ((gs (gs J 7 v 11 g) 4 i 9 ((J 2 0 1) - mk)) 4 i) 11 ((J 4 i 11) + mk)) (xo_4 hil _)) ?_
  refine r_aload_n h.ok dX5_finishMilking_138 3 rfl ?_
  refine r_dup h.ok dX5_finishMilking_139 rfl ?_
  refine r_get (v := .int (J 0 0 9)) h.ok 9 dX5_finishMilking_140 (xo_0 _) rfl inX5 (by decide) wfl_X5_184 rfl ?_
  refine r_iload h.ok dX5_finishMilking_143 0 rfl ?_
  refine r_iadd h.ok dX5_finishMilking_145 ?_
  refine r_put (ty := tyX5) h.ok 9 dX5_finishMilking_146 (xo_0 _) rfl inX5 tyX5_ok nmX5 (by decide) wfl_X5_184 rfl rfl rfl (by simp) (cX_put (r' := upd ((gs (gs (gs J 7 v 11 g) 4 i 9 ((J 2 0 1) - mk)) 4 i 11 ((J 4 i 11) + mk)) 0 0) 9 ((J 0 0 9) + mk)) (xo_0 _)) ?_
  refine r_aload_n h.ok dX5_finishMilking_149 3 rfl ?_
  refine r_dup h.ok dX5_finishMilking_150 rfl ?_
  refine r_get (v := .int (J 0 0 10)) h.ok 10 dX5_finishMilking_151 (xo_0 _) rfl inX5 (by decide) wfl_X5_187 (congrArg (fun z => some (Value.int z)) (by simp [gr, upd] : (gs (gs (gs (gs J 7 v 11 g) 4 i 9 ((J 2 0 1) - mk)) 4 i 11 ((J 4 i 11) + mk)) 0 0 9 ((J 0 0 9) + mk)) 0 0 10 = J 0 0 10)) ?_
  refine r_aload_n h.ok dX5_finishMilking_154 2 rfl ?_
  refine r_get (v := .int g) h.ok 11 dX5_finishMilking_155 (xo_7 hvl _) rfl inX4 (by decide) wfl_X5_258 (congrArg (fun z => some (Value.int z)) (by simp [gr, upd] : (gs (gs (gs (gs J 7 v 11 g) 4 i 9 ((J 2 0 1) - mk)) 4 i 11 ((J 4 i 11) + mk)) 0 0 9 ((J 0 0 9) + mk)) 7 v 11 = g)) ?_
  refine r_iadd h.ok dX5_finishMilking_158 ?_
  refine r_put (ty := tyX5) h.ok 10 dX5_finishMilking_159 (xo_0 _) rfl inX5 tyX5_ok nmX5 (by decide) wfl_X5_187 rfl rfl rfl (by simp) (cX_put (r' := upd ((gs (gs (gs (gs J 7 v 11 g) 4 i 9 ((J 2 0 1) - mk)) 4 i 11 ((J 4 i 11) + mk)) 0 0 9 ((J 0 0 9) + mk)) 0 0) 10 ((J 0 0 10) + g)) (xo_0 _)) ?_
  refine r_aload_n h.ok dX5_finishMilking_162 3 rfl ?_
  refine r_get h.ok 3 dX5_finishMilking_163 (xo_0 _) rfl inX5 (by decide) wfl_X5_31 rfl ?_
  refine r_null h.ok dX5_finishMilking_166 ?_
  refine r_put (ty := tyX0) h.ok 0 dX5_finishMilking_167 (xo_2 _) rfl inX0 tyX0_ok nmX0 (by decide) wfl_X5_155 rfl rfl rfl (by simp) (cX_put2 none) ?_
  refine r_vret h dX5_finishMilking_170 ⟨by decide, by decide⟩ hpost
set_option maxHeartbeats 4000000 in
set_option maxRecDepth 100000 in
theorem fin_2 {D : va_G} {E : gEc} {ad : gAd} {F : gF} {lc ln : Nat} {l : Launch} {A : Nat → Prop} {Rn : gR} {post : Option Value → gAd → gCe → Prop} {J : gI} {v i : Nat} {mk wt kd : Int32} (h : gOkM l (gRm 2 0 0) cX5_finishMilking 5 none yX5_finishMilking.cls yX5_finishMilking.name D A E 0 0 post Rn) (hvl : v < ln) (hil : i < lc) (hpost : post none ad (cX E ad (bFin2 J F v i mk wt) (gf F 1 0 none) lc ln)) : Rn 92 [(4, .int mk), (3, .ref (ad 4 i)), (2, .ref (ad 7 v)), (0, .ref (ad 0 0)), (1, .int kd)] [.int wt, .ref (ad 7 v)] ad (cX E ad J F lc ln) 0 0 := by
  refine r_put (ty := tyX4) h.ok 9 dX5_finishMilking_92 (xo_7 hvl _) rfl inX4 tyX4_ok nmX4 (by decide) wfl_X5_252 rfl rfl rfl (by simp) (cX_put (r' := upd (J 7 v) 9 wt) (xo_7 hvl _)) ?_
  refine r_aload_n h.ok dX5_finishMilking_95 2 rfl ?_
  refine r_aload_n h.ok dX5_finishMilking_96 1 rfl ?_
  refine r_iload h.ok dX5_finishMilking_97 0 rfl ?_
  refine r_aload_n h.ok dX5_finishMilking_99 3 rfl ?_
  refine r_get (v := .int (J 0 0 7)) h.ok 7 dX5_finishMilking_100 (xo_0 _) rfl inX5 (by decide) wfl_X5_54 rfl ?_
  refine r_sipush (v := 1440) h.ok dX5_finishMilking_103 (by decide) ?_
  refine r_idiv h.ok dX5_finishMilking_106 (by decide) ?_
  refine r_callV h.ok [.int mk, .int ((J 0 0 7) / 1440)] [.ref (ad 7 v)] dX5_finishMilking_107 (c_X1_feedFor D E ad (gs J 7 v 9 wt) F lc ln i hil mk ((J 0 0 7) / 1440)) wml_X5_255 wim_X1_feedFor wse_X1_feedFor win_X1 wco_X1_feedFor yok_X1_feedFor (xo_4 hil _) rfl rfl ⟨by decide, by decide, by simp [gRm], by simp [gRm]⟩ (Nat.le_of_ble_eq_true rfl) rfl ?_
  show Rn 110 [(4, .int mk), (3, .ref (ad 4 i)), (2, .ref (ad 7 v)), (0, .ref (ad 0 0)), (1, .int kd)] [.int (bFeed_r (gs J 7 v 9 wt) F i mk ((J 0 0 7) / 1440)), .ref (ad 7 v)] ad (cX E ad (bFeed_I (gs J 7 v 9 wt) F i mk ((J 0 0 7) / 1440)) F lc ln) 0 0
  exact fin_3 h hvl hil hpost
set_option maxHeartbeats 4000000 in
set_option maxRecDepth 100000 in
theorem fin_1 {D : va_G} {E : gEc} {ad : gAd} {F : gF} {lc ln : Nat} {l : Launch} {A : Nat → Prop} {Rn : gR} {post : Option Value → gAd → gCe → Prop} {J : gI} {v i : Nat} {mk kd : Int32} (h : gOkM l (gRm 2 0 0) cX5_finishMilking 5 none yX5_finishMilking.cls yX5_finishMilking.name D A E 0 0 post Rn) (hvl : v < ln) (hil : i < lc) (hpost : post none ad (cX E ad (bFinish J F v i kd mk) (gf F 1 0 none) lc ln)) : Rn 53 [(3, .ref (ad 4 i)), (2, .ref (ad 7 v)), (0, .ref (ad 0 0)), (1, .int kd)] [.int mk] ad (cX E ad J F lc ln) 0 0 := by
  refine r_istore (lv' := [(4, .int mk), (3, .ref (ad 4 i)), (2, .ref (ad 7 v)), (0, .ref (ad 0 0)), (1, .int kd)]) h.ok dX5_finishMilking_53 (by decide) rfl ?_
  refine r_aload_n h.ok dX5_finishMilking_55 2 rfl ?_
  refine r_iload_n h.ok dX5_finishMilking_56 4 rfl ?_
  refine r_put (ty := tyX4) h.ok 5 dX5_finishMilking_57 (xo_7 hvl _) rfl inX4 tyX4_ok nmX4 (by decide) wfl_X5_151 rfl rfl rfl (by simp) (cX_put (r' := upd (J 7 v) 5 kd) (xo_7 hvl _)) ?_
  refine r_aload_n h.ok dX5_finishMilking_60 2 rfl ?_
  refine r_aload_n h.ok dX5_finishMilking_61 3 rfl ?_
  refine r_get (v := .int (J 0 0 7)) h.ok 7 dX5_finishMilking_62 (xo_0 _) rfl inX5 (by decide) wfl_X5_54 rfl ?_
  refine r_put (ty := tyX4) h.ok 7 dX5_finishMilking_65 (xo_7 hvl _) rfl inX4 tyX4_ok nmX4 (by decide) wfl_X5_242 rfl rfl rfl (by simp) (cX_put (r' := upd ((gs J 7 v 5 kd) 7 v) 7 (J 0 0 7)) (xo_7 hvl _)) ?_
  refine r_aload_n h.ok dX5_finishMilking_68 2 rfl ?_
  refine r_iload h.ok dX5_finishMilking_69 0 rfl ?_
  refine r_put (ty := tyX4) h.ok 8 dX5_finishMilking_71 (xo_7 hvl _) rfl inX4 tyX4_ok nmX4 (by decide) wfl_X5_205 rfl rfl rfl (by simp) (cX_put (r' := upd ((gs (gs J 7 v 5 kd) 7 v 7 (J 0 0 7)) 7 v) 8 mk) (xo_7 hvl _)) ?_
  refine r_aload_n h.ok dX5_finishMilking_74 2 rfl ?_
  refine r_aload_n h.ok dX5_finishMilking_75 3 rfl ?_
  refine r_get h.ok 4 dX5_finishMilking_76 (xo_0 _) rfl inX5 (by decide) wfl_X5_38 rfl ?_
  refine r_iload h.ok dX5_finishMilking_79 0 rfl ?_
  refine r_aload_n h.ok dX5_finishMilking_81 1 rfl ?_
  refine r_aload_n h.ok dX5_finishMilking_82 3 rfl ?_
  refine r_get (v := .int (J 0 0 7)) h.ok 7 dX5_finishMilking_83 (xo_0 _) rfl inX5 (by decide) wfl_X5_54 rfl ?_
  refine r_callV h.ok [.int (J 0 0 7)] [.int mk, .ref (ad 3 0), .ref (ad 7 v)] dX5_finishMilking_86 (c_X1_isWithheldAt D E ad (gs (gs (gs J 7 v 5 kd) 7 v 7 (J 0 0 7)) 7 v 8 mk) F lc ln i hil (J 0 0 7)) wml_X5_245 wim_X1_isWithheldAt wse_X1_isWithheldAt win_X1 wco_X1_isWithheldAt yok_X1_isWithheldAt (xo_4 hil _) rfl rfl ⟨by decide, by decide, by simp [gRm], by simp [gRm]⟩ (Nat.le_of_ble_eq_true rfl) rfl ?_
  show Rn 89 [(4, .int mk), (3, .ref (ad 4 i)), (2, .ref (ad 7 v)), (0, .ref (ad 0 0)), (1, .int kd)] [.int (bHeld_r (gs (gs (gs J 7 v 5 kd) 7 v 7 (J 0 0 7)) 7 v 8 mk) F i (J 0 0 7)), .int mk, .ref (ad 3 0), .ref (ad 7 v)] ad (cX E ad (gs (gs (gs J 7 v 5 kd) 7 v 7 (J 0 0 7)) 7 v 8 mk) F lc ln) 0 0
  refine r_callV h.ok [.int mk, .int (bHeld_r (gs (gs (gs J 7 v 5 kd) 7 v 7 (J 0 0 7)) 7 v 8 mk) F i (J 0 0 7))] [.ref (ad 7 v)] dX5_finishMilking_89 (c_X3_put D E ad (gs (gs (gs J 7 v 5 kd) 7 v 7 (J 0 0 7)) 7 v 8 mk) F lc ln mk (bHeld_r (gs (gs (gs J 7 v 5 kd) 7 v 7 (J 0 0 7)) 7 v 8 mk) F i (J 0 0 7))) wml_X5_248 wim_X3_put wse_X3_put win_X3 wco_X3_put yok_X3_put (xo_3 _) rfl rfl ⟨by decide, by decide, by simp [gRm], by simp [gRm]⟩ (Nat.le_of_ble_eq_true rfl) rfl ?_
  show Rn 92 [(4, .int mk), (3, .ref (ad 4 i)), (2, .ref (ad 7 v)), (0, .ref (ad 0 0)), (1, .int kd)] [.int (bPut_r (gs (gs (gs J 7 v 5 kd) 7 v 7 (J 0 0 7)) 7 v 8 mk) F mk (bHeld_r (gs (gs (gs J 7 v 5 kd) 7 v 7 (J 0 0 7)) 7 v 8 mk) F i (J 0 0 7))), .ref (ad 7 v)] ad (cX E ad (bPut_I (gs (gs (gs J 7 v 5 kd) 7 v 7 (J 0 0 7)) 7 v 8 mk) F mk (bHeld_r (gs (gs (gs J 7 v 5 kd) 7 v 7 (J 0 0 7)) 7 v 8 mk) F i (J 0 0 7))) F lc ln) 0 0
  exact fin_2 h hvl hil hpost
set_option maxHeartbeats 4000000 in
set_option maxRecDepth 100000 in
theorem c_X5_finishMilking (D : va_G) (E : gEc) (ad : gAd) (I : gI) (F : gF) (lc ln : Nat) (nc nv nw : Nat) (hC : CI I F lc ln nc nv nw) (kd : Int32) : gCon D E yX5_finishMilking cX5_finishMilking 5 none 2 0 0 [.ref (ad 0 0), .int kd] ad (cX E ad I F lc ln) (gPd none ad (cX E ad (bFin_I I F kd) (bFin_F F) lc ln)) := by
  refine gCon.of (by decide) (Nat.le_of_ble_eq_true rfl) ?_
  intro l A Rn h
  have hC0 := hC
  obtain ⟨kn, k12, klc, kf2, kv, k500, kln, kf3, kw, kw12, kq, kb, kc⟩ := hC
  show Rn 0 [(0, .ref (ad 0 0)), (1, .int kd)] [] ad (cX E ad I F lc ln) 0 0
  refine r_aload_n h.ok dX5_finishMilking_0 0 rfl ?_
  refine r_get h.ok 3 dX5_finishMilking_1 (xo_0 _) rfl inX5 (by decide) wfl_X5_31 rfl ?_
  by_cases c_4 : F 1 0 = none
  · refine r_get (v := .null) h.ok 0 dX5_finishMilking_4 (xo_2 _) rfl inX0 (by decide) wfl_X5_155 (by simp [c_4, va_rf, gf]) ?_
    refine r_astore_nN (lv' := [(2, .null), (0, .ref (ad 0 0)), (1, .int kd)]) h.ok dX5_finishMilking_7 (by decide) rfl ?_
    refine r_aload_nN h.ok dX5_finishMilking_8 0 rfl ?_
    refine r_ifnonnullN h.ok dX5_finishMilking_9 ?_
    refine r_vret h dX5_finishMilking_12 ⟨by decide, by decide⟩ ⟨rfl, rfl, (by unfold bFin_I bFin_F; rw [if_pos c_4, if_pos c_4])⟩
  · refine r_get (v := .ref (ad 7 (bv F))) h.ok 0 dX5_finishMilking_4 (xo_2 _) rfl inX0 (by decide) wfl_X5_155 (by simp [(hC0.hbv c_4).1, va_rf, gf]) ?_
    refine r_astore_n (lv' := [(2, .ref (ad 7 (bv F))), (0, .ref (ad 0 0)), (1, .int kd)]) h.ok dX5_finishMilking_7 (by decide) rfl ?_
    refine r_aload_n h.ok dX5_finishMilking_8 0 rfl ?_
    refine r_ifnonnull h.ok 13 dX5_finishMilking_9 (by decide) ?_
    refine r_aload_n h.ok dX5_finishMilking_13 1 rfl ?_
    refine r_aload_n h.ok dX5_finishMilking_14 0 rfl ?_
    refine r_get (v := .int (I 7 (bv F) 0)) h.ok 0 dX5_finishMilking_15 (xo_7 (hC0.hbv c_4).2 _) rfl inX4 (by decide) wfl_X5_159 rfl ?_
    refine r_callV h.ok [.int (I 7 (bv F) 0)] [] dX5_finishMilking_18 (c_X5_cowAt_s D E ad I F lc ln nc nv nw hC0 (I 7 (bv F) 0) (I 7 (bv F) 0).toNatClampNeg (vp_eq (kc _ (kb c_4).2)) (vp_lt (kc _ (kb c_4).2))) wml_X5_60 wim_X5_cowAt wse_X5_cowAt win_X5 wco_X5_cowAt yok_X5_cowAt (xo_0 _) rfl rfl ⟨by decide, by decide, by simp [gRm], by simp [gRm]⟩ (Nat.le_of_ble_eq_true rfl) rfl ?_
    show Rn 21 [(2, .ref (ad 7 (bv F))), (0, .ref (ad 0 0)), (1, .int kd)] [.ref (ad 4 ((I 7 (bv F) 0).toNatClampNeg))] ad (cX E ad I F lc ln) 0 0
    refine r_astore_n (lv' := [(3, .ref (ad 4 ((I 7 (bv F) 0).toNatClampNeg))), (2, .ref (ad 7 (bv F))), (0, .ref (ad 0 0)), (1, .int kd)]) h.ok dX5_finishMilking_21 (by decide) rfl ?_
    refine r_aload_n h.ok dX5_finishMilking_22 0 rfl ?_
    refine r_ifnonnull h.ok 27 dX5_finishMilking_23 (by decide) ?_
    refine r_iload_n h.ok dX5_finishMilking_27 3 rfl ?_
    refine r_iconst (v := 2) h.ok dX5_finishMilking_28 (by decide) ?_
    have K_29 : ∀ mk : Int32, mk = (bMk I F kd) → Rn 53 [(3, .ref (ad 4 ((I 7 (bv F) 0).toNatClampNeg))), (2, .ref (ad 7 (bv F))), (0, .ref (ad 0 0)), (1, .int kd)] [.int mk] ad (cX E ad I F lc ln) 0 0 := by
      intro mk e_mk
      exact fin_1 h (hC0.hbv c_4).2 (Nat.lt_of_lt_of_le (vp_lt (kc _ (kb c_4).2)) klc) ⟨rfl, rfl, (by unfold bFin_I bFin_F; rw [if_neg c_4, if_neg c_4, e_mk])⟩
    refine r_icmp_ne h.ok 46 dX5_finishMilking_29 (by decide) (fun c_29 => ?_) (fun c_29 => ?_)
    · refine r_aload_n h.ok dX5_finishMilking_46 2 rfl ?_
      refine r_get h.ok 3 dX5_finishMilking_47 (xo_0 _) rfl inX5 (by decide) wfl_X5_31 rfl ?_
      refine r_get (v := .int (I 2 0 2)) h.ok 2 dX5_finishMilking_50 (xo_2 _) rfl inX0 (by decide) wfl_X5_239 rfl ?_
      exact K_29 _ (by unfold bMk; rw [if_neg c_29])
    · refine r_aload_n h.ok dX5_finishMilking_32 2 rfl ?_
      refine r_get h.ok 3 dX5_finishMilking_33 (xo_0 _) rfl inX5 (by decide) wfl_X5_31 rfl ?_
      refine r_aload_n h.ok dX5_finishMilking_36 2 rfl ?_
      refine r_get (v := .int (I 0 0 7)) h.ok 7 dX5_finishMilking_37 (xo_0 _) rfl inX5 (by decide) wfl_X5_54 rfl ?_
      refine r_callV h.ok [.int (I 0 0 7)] [] dX5_finishMilking_40 (c_X0_milkedBy D E ad I F lc ln (I 0 0 7)) wml_X5_236 wim_X0_milkedBy wse_X0_milkedBy win_X0 wco_X0_milkedBy yok_X0_milkedBy (xo_2 _) rfl rfl ⟨by decide, by decide, by simp [gRm], by simp [gRm]⟩ (Nat.le_of_ble_eq_true rfl) rfl ?_
      show Rn 43 [(3, .ref (ad 4 ((I 7 (bv F) 0).toNatClampNeg))), (2, .ref (ad 7 (bv F))), (0, .ref (ad 0 0)), (1, .int kd)] [.int (bMilkedBy_r I F (I 0 0 7))] ad (cX E ad I F lc ln) 0 0
      refine r_goto h.ok 53 dX5_finishMilking_43 (by decide) ?_
      exact K_29 _ (by unfold bMk; rw [if_pos c_29])
