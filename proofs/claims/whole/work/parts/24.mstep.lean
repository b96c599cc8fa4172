theorem teat_ix {c t : Int32} {n : Nat} (hc : vp_in c 12) (ht : t = nI n) (hn : n < 4) : 4 * c + t = nI (4 * c.toNatClampNeg + n) := by
  have a1 := vp_lt hc
  rw [vp_eq hc, ht, nI_clamp (by omega)]
  rw [show (4 : Int32) = nI 4 by decide, pk_mul, nI_add]
theorem teat_lt {c : Int32} {n : Nat} (hc : vp_in c 12) (hn : n < 4) : 4 * c.toNatClampNeg + n < 48 := by
  have a1 := vp_lt hc
  omega
def mWh (I : gI) (c m : Int32) : Int32 := if I 12 4 c.toNatClampNeg = 2 then 1 else if I 12 11 c.toNatClampNeg ≤ I 11 0 1 then (if I 11 0 37 < I 11 0 36 + m then 2 else 0) else 1
noncomputable def mBegin_I (I : gI) (F : gF) (v c : Int32) : gI := gs (gs (gs (gs (gs (gs (gs (gs (gs (gs (gs (gs (gs (gs (gs (gs (gs (gs (gs (gs (gs (gs I 11 0 31 v) 11 0 32 (mHas I c)) 11 0 33 0) 11 0 34 2) 11 0 34 (2 + (if (I 12 12 (4 * c.toNatClampNeg + 0)) ≤ 3 then (I 12 12 (4 * c.toNatClampNeg + 0)) else 3))) 11 0 33 (0 + (if (I 12 12 (4 * c.toNatClampNeg + 0)) ≤ 3 then (mHas I c) - (3 * ((mHas I c) / 4)) else 0))) 12 12 (4 * c.toNatClampNeg + 0) 0) 11 0 34 ((2 + (if (I 12 12 (4 * c.toNatClampNeg + 0)) ≤ 3 then (I 12 12 (4 * c.toNatClampNeg + 0)) else 3)) + (if (I 12 12 (4 * c.toNatClampNeg + 1)) ≤ 3 then (I 12 12 (4 * c.toNatClampNeg + 1)) else 3))) 11 0 33 ((0 + (if (I 12 12 (4 * c.toNatClampNeg + 0)) ≤ 3 then (mHas I c) - (3 * ((mHas I c) / 4)) else 0)) + (if (I 12 12 (4 * c.toNatClampNeg + 1)) ≤ 3 then (mHas I c) / 4 else 0))) 12 12 (4 * c.toNatClampNeg + 1) 0) 11 0 34 (((2 + (if (I 12 12 (4 * c.toNatClampNeg + 0)) ≤ 3 then (I 12 12 (4 * c.toNatClampNeg + 0)) else 3)) + (if (I 12 12 (4 * c.toNatClampNeg + 1)) ≤ 3 then (I 12 12 (4 * c.toNatClampNeg + 1)) else 3)) + (if (I 12 12 (4 * c.toNatClampNeg + 2)) ≤ 3 then (I 12 12 (4 * c.toNatClampNeg + 2)) else 3))) 11 0 33 (((0 + (if (I 12 12 (4 * c.toNatClampNeg + 0)) ≤ 3 then (mHas I c) - (3 * ((mHas I c) / 4)) else 0)) + (if (I 12 12 (4 * c.toNatClampNeg + 1)) ≤ 3 then (mHas I c) / 4 else 0)) + (if (I 12 12 (4 * c.toNatClampNeg + 2)) ≤ 3 then (mHas I c) / 4 else 0))) 12 12 (4 * c.toNatClampNeg + 2) 0) 11 0 34 ((((2 + (if (I 12 12 (4 * c.toNatClampNeg + 0)) ≤ 3 then (I 12 12 (4 * c.toNatClampNeg + 0)) else 3)) + (if (I 12 12 (4 * c.toNatClampNeg + 1)) ≤ 3 then (I 12 12 (4 * c.toNatClampNeg + 1)) else 3)) + (if (I 12 12 (4 * c.toNatClampNeg + 2)) ≤ 3 then (I 12 12 (4 * c.toNatClampNeg + 2)) else 3)) + (if (I 12 12 (4 * c.toNatClampNeg + 3)) ≤ 3 then (I 12 12 (4 * c.toNatClampNeg + 3)) else 3))) 11 0 33 ((((0 + (if (I 12 12 (4 * c.toNatClampNeg + 0)) ≤ 3 then (mHas I c) - (3 * ((mHas I c) / 4)) else 0)) + (if (I 12 12 (4 * c.toNatClampNeg + 1)) ≤ 3 then (mHas I c) / 4 else 0)) + (if (I 12 12 (4 * c.toNatClampNeg + 2)) ≤ 3 then (mHas I c) / 4 else 0)) + (if (I 12 12 (4 * c.toNatClampNeg + 3)) ≤ 3 then (mHas I c) / 4 else 0))) 12 12 (4 * c.toNatClampNeg + 3) 0) 11 0 35 (((I 11 0 1) + ((((2 + (if (I 12 12 (4 * c.toNatClampNeg + 0)) ≤ 3 then (I 12 12 (4 * c.toNatClampNeg + 0)) else 3)) + (if (I 12 12 (4 * c.toNatClampNeg + 1)) ≤ 3 then (I 12 12 (4 * c.toNatClampNeg + 1)) else 3)) + (if (I 12 12 (4 * c.toNatClampNeg + 2)) ≤ 3 then (I 12 12 (4 * c.toNatClampNeg + 2)) else 3)) + (if (I 12 12 (4 * c.toNatClampNeg + 3)) ≤ 3 then (I 12 12 (4 * c.toNatClampNeg + 3)) else 3))) + ((((((0 + (if (I 12 12 (4 * c.toNatClampNeg + 0)) ≤ 3 then (mHas I c) - (3 * ((mHas I c) / 4)) else 0)) + (if (I 12 12 (4 * c.toNatClampNeg + 1)) ≤ 3 then (mHas I c) / 4 else 0)) + (if (I 12 12 (4 * c.toNatClampNeg + 2)) ≤ 3 then (mHas I c) / 4 else 0)) + (if (I 12 12 (4 * c.toNatClampNeg + 3)) ≤ 3 then (mHas I c) / 4 else 0)) + 19) / 20))) 12 23 v.toNatClampNeg (I 11 0 1)) 12 27 v.toNatClampNeg ((((0 + (if (I 12 12 (4 * c.toNatClampNeg + 0)) ≤ 3 then 0 else 1)) + (if (I 12 12 (4 * c.toNatClampNeg + 1)) ≤ 3 then 0 else 1)) + (if (I 12 12 (4 * c.toNatClampNeg + 2)) ≤ 3 then 0 else 1)) + (if (I 12 12 (4 * c.toNatClampNeg + 3)) ≤ 3 then 0 else 1))) 12 10 c.toNatClampNeg (I 11 0 1)) 12 8 c.toNatClampNeg (I 11 0 1)) 12 9 c.toNatClampNeg 0
set_option maxHeartbeats 4000000 in
set_option maxRecDepth 100000 in
theorem c_X6_begin (D : va_G) (E : gEc) (ad : gAd) (I : gI) (F : gF) (lc ln : Nat) (v c : Int32) (hc : I 12 19 v.toNatClampNeg = c) (iv : vp_in v 500) (ic : vp_in c 12) : gCon D E yX6_begin cX6_begin 7 none 1 0 0 [.ref (ad 11 0), .int v] ad (cX E ad I F lc ln) (gPd none ad (cX E ad (mBegin_I I F v c) F lc ln)) := by
  refine gCon.of (by decide) (Nat.le_of_ble_eq_true rfl) ?_
  intro l A Rn h
  show Rn 0 [(0, .ref (ad 11 0)), (1, .int v)] [] ad (cX E ad I F lc ln) 0 0
  refine r_aload_n h.ok dX6_begin_0 0 rfl ?_
  refine r_get h.ok 19 dX6_begin_1 (xo_11 _) rfl inX6 (by decide) wfl_X6_56 rfl ?_
  refine r_iload_n h.ok dX6_begin_4 1 rfl ?_
  refine x_ialp (v := c) h.ok dX6_begin_5 rfl iv hc ?_
  refine r_istore_n (lv' := [(2, .int c), (0, .ref (ad 11 0)), (1, .int v)]) h.ok dX6_begin_6 (by decide) rfl ?_
  refine r_aload_n h.ok dX6_begin_7 1 rfl ?_
  refine r_iload_n h.ok dX6_begin_8 2 rfl ?_
  refine r_put (ty := tyX6) h.ok 31 dX6_begin_9 (xo_11 _) rfl inX6 tyX6_ok nmX6 (by decide) wfl_X6_90 rfl rfl rfl (by simp) (cX_put (r' := upd (I 11 0) 31 v) (xo_11 _)) ?_
  refine r_aload_n h.ok dX6_begin_12 1 rfl ?_
  refine r_aload_n h.ok dX6_begin_13 1 rfl ?_
  refine r_iload_n h.ok dX6_begin_14 0 rfl ?_
  refine r_callV h.ok [.int c] [.ref (ad 11 0)] dX6_begin_15 (c_X6_has D E ad (gs I 11 0 31 v) F lc ln c ic) wml_X6_117 wim_X6_has wse_X6_has win_X6 wco_X6_has yok_X6_has (xo_11 _) rfl rfl ⟨by decide, by decide, by simp [gRm], by simp [gRm]⟩ (Nat.le_of_ble_eq_true rfl) rfl ?_
  show Rn 18 [(2, .int c), (0, .ref (ad 11 0)), (1, .int v)] [.int (mHas (gs I 11 0 31 v) c), .ref (ad 11 0)] ad (cX E ad (gs I 11 0 31 v) F lc ln) 0 0
  rw [show mHas (gs I 11 0 31 v) c = mHas I c from by simp [mHas, gr, upd]]
  refine r_put (ty := tyX6) h.ok 32 dX6_begin_18 (xo_11 _) rfl inX6 tyX6_ok nmX6 (by decide) wfl_X6_121 rfl rfl rfl (by simp) (cX_put (r' := upd ((gs I 11 0 31 v) 11 0) 32 (mHas I c)) (xo_11 _)) ?_
  refine r_aload_n h.ok dX6_begin_21 1 rfl ?_
  refine r_iconst (v := 0) h.ok dX6_begin_22 (by decide) ?_
  refine r_put (ty := tyX6) h.ok 33 dX6_begin_23 (xo_11 _) rfl inX6 tyX6_ok nmX6 (by decide) wfl_X6_124 rfl rfl rfl (by simp) (cX_put (r' := upd ((gs (gs I 11 0 31 v) 11 0 32 (mHas I c)) 11 0) 33 0) (xo_11 _)) ?_
  refine r_aload_n h.ok dX6_begin_26 1 rfl ?_
  refine r_iconst (v := 2) h.ok dX6_begin_27 (by decide) ?_
  refine r_put (ty := tyX6) h.ok 34 dX6_begin_28 (xo_11 _) rfl inX6 tyX6_ok nmX6 (by decide) wfl_X6_127 rfl rfl rfl (by simp) (cX_put (r' := upd ((gs (gs (gs I 11 0 31 v) 11 0 32 (mHas I c)) 11 0 33 0) 11 0) 34 2) (xo_11 _)) ?_
  refine r_iconst (v := 0) h.ok dX6_begin_31 (by decide) ?_
  refine r_istore_n (lv' := [(3, .int 0), (2, .int c), (0, .ref (ad 11 0)), (1, .int v)]) h.ok dX6_begin_32 (by decide) rfl ?_
  refine r_iconst (v := 0) h.ok dX6_begin_33 (by decide) ?_
  refine r_istore (lv' := [(4, .int 0), (3, .int 0), (2, .int c), (0, .ref (ad 11 0)), (1, .int v)]) h.ok dX6_begin_34 (by decide) rfl ?_
  refine r_iload h.ok dX6_begin_36 0 rfl ?_
  refine r_iconst (v := 4) h.ok dX6_begin_38 (by decide) ?_
  refine r_icmp_ge h.ok 158 dX6_begin_39 (by decide) (fun q => absurd q (by decide)) (fun _ => ?_)
  refine r_iload h.ok dX6_begin_42 0 rfl ?_
  refine r_if_ne h.ok 63 dX6_begin_44 (by decide) (fun q => absurd q (by decide)) (fun _ => ?_)
  refine r_aload_n h.ok dX6_begin_47 3 rfl ?_
  refine r_get (v := .int (mHas I c)) h.ok 32 dX6_begin_48 (xo_11 _) rfl inX6 (by decide) wfl_X6_121 (congrArg (fun z => some (Value.int z)) (by simp [gr, upd] : (gs (gs (gs (gs I 11 0 31 v) 11 0 32 (mHas I c)) 11 0 33 0) 11 0 34 2) 11 0 32 = mHas I c)) ?_
  refine r_iconst (v := 3) h.ok dX6_begin_51 (by decide) ?_
  refine r_aload_n h.ok dX6_begin_52 3 rfl ?_
  refine r_get (v := .int (mHas I c)) h.ok 32 dX6_begin_53 (xo_11 _) rfl inX6 (by decide) wfl_X6_121 (congrArg (fun z => some (Value.int z)) (by simp [gr, upd] : (gs (gs (gs (gs I 11 0 31 v) 11 0 32 (mHas I c)) 11 0 33 0) 11 0 34 2) 11 0 32 = mHas I c)) ?_
  refine r_iconst (v := 4) h.ok dX6_begin_56 (by decide) ?_
  refine r_idiv h.ok dX6_begin_57 (by decide) ?_
  refine r_imul h.ok dX6_begin_58 ?_
  refine r_isub h.ok dX6_begin_59 ?_
  refine r_goto h.ok 69 dX6_begin_60 (by decide) ?_
  refine r_istore (lv' := [(5, .int ((mHas I c) - (3 * ((mHas I c) / 4)))), (4, .int 0), (3, .int 0), (2, .int c), (0, .ref (ad 11 0)), (1, .int v)]) h.ok dX6_begin_69 (by decide) rfl ?_
  refine r_aload_n h.ok dX6_begin_71 4 rfl ?_
  refine r_get h.ok 12 dX6_begin_72 (xo_11 _) rfl inX6 (by decide) wfl_X6_38 rfl ?_
  refine r_iconst (v := 4) h.ok dX6_begin_75 (by decide) ?_
  refine r_iload_n h.ok dX6_begin_76 3 rfl ?_
  refine r_imul h.ok dX6_begin_77 ?_
  refine r_iload h.ok dX6_begin_78 1 rfl ?_
  refine r_iadd h.ok dX6_begin_80 ?_
  refine x_iald (v := I 12 12 (4 * c.toNatClampNeg + 0)) h.ok (4 * c.toNatClampNeg + 0) dX6_begin_81 rfl (teat_ix ic (n := 0) (by decide) (by decide)) (teat_lt ic (by decide)) (by decide) (by simp [gr, upd]) ?_
  refine r_topi (fun n_0 e_n_0 => ?_)
  refine r_istore (lv' := [(6, .int n_0), (5, .int ((mHas I c) - (3 * ((mHas I c) / 4)))), (4, .int 0), (3, .int 0), (2, .int c), (0, .ref (ad 11 0)), (1, .int v)]) h.ok dX6_begin_82 (by decide) rfl ?_
  refine r_aload_n h.ok dX6_begin_84 5 rfl ?_
  refine r_dup h.ok dX6_begin_85 rfl ?_
  refine r_get (v := .int 2) h.ok 34 dX6_begin_86 (xo_11 _) rfl inX6 (by decide) wfl_X6_127 (congrArg (fun z => some (Value.int z)) (by simp [gr, upd] : (gs (gs (gs (gs I 11 0 31 v) 11 0 32 (mHas I c)) 11 0 33 0) 11 0 34 2) 11 0 34 = 2)) ?_
  refine r_iload h.ok dX6_begin_89 0 rfl ?_
  refine r_iconst (v := 3) h.ok dX6_begin_91 (by decide) ?_
  have K_92_0 : ∀ p_0 : Int32, p_0 = (if n_0 ≤ 3 then n_0 else 3) → Rn 101 [(6, .int n_0), (5, .int ((mHas I c) - (3 * ((mHas I c) / 4)))), (4, .int 0), (3, .int 0), (2, .int c), (0, .ref (ad 11 0)), (1, .int v)] [.int p_0, .int 2, .ref (ad 11 0)] ad (cX E ad (gs (gs (gs (gs I 11 0 31 v) 11 0 32 (mHas I c)) 11 0 33 0) 11 0 34 2) F lc ln) 0 0 := by
    intro p_0 e_p_0
    refine r_iadd h.ok dX6_begin_101 ?_
    refine r_put (ty := tyX6) h.ok 34 dX6_begin_102 (xo_11 _) rfl inX6 tyX6_ok nmX6 (by decide) wfl_X6_127 rfl rfl rfl (by simp) (cX_put (r' := upd ((gs (gs (gs (gs I 11 0 31 v) 11 0 32 (mHas I c)) 11 0 33 0) 11 0 34 2) 11 0) 34 (2 + p_0)) (xo_11 _)) ?_
    refine r_iload_n h.ok dX6_begin_105 3 rfl ?_
    refine r_iload h.ok dX6_begin_106 0 rfl ?_
    refine r_iconst (v := 3) h.ok dX6_begin_108 (by decide) ?_
    have K_109_0 : ∀ q_0 : Int32, q_0 = (if n_0 ≤ 3 then 0 else 1) → Rn 117 [(6, .int n_0), (5, .int ((mHas I c) - (3 * ((mHas I c) / 4)))), (4, .int 0), (3, .int 0), (2, .int c), (0, .ref (ad 11 0)), (1, .int v)] [.int q_0, .int 0] ad (cX E ad (gs (gs (gs (gs (gs I 11 0 31 v) 11 0 32 (mHas I c)) 11 0 33 0) 11 0 34 2) 11 0 34 (2 + p_0)) F lc ln) 0 0 := by
      intro q_0 e_q_0
      refine r_iadd h.ok dX6_begin_117 ?_
      refine r_istore_n (lv' := [(3, .int (0 + q_0)), (6, .int n_0), (5, .int ((mHas I c) - (3 * ((mHas I c) / 4)))), (4, .int 0), (2, .int c), (0, .ref (ad 11 0)), (1, .int v)]) h.ok dX6_begin_118 (by decide) rfl ?_
      refine r_aload_n h.ok dX6_begin_119 5 rfl ?_
      refine r_dup h.ok dX6_begin_120 rfl ?_
      refine r_get (v := .int 0) h.ok 33 dX6_begin_121 (xo_11 _) rfl inX6 (by decide) wfl_X6_124 (congrArg (fun z => some (Value.int z)) (by simp [gr, upd] : (gs (gs (gs (gs (gs I 11 0 31 v) 11 0 32 (mHas I c)) 11 0 33 0) 11 0 34 2) 11 0 34 (2 + p_0)) 11 0 33 = 0)) ?_
      refine r_iload h.ok dX6_begin_124 1 rfl ?_
      refine r_iconst (v := 3) h.ok dX6_begin_126 (by decide) ?_
      have K_127_0 : ∀ r_0 : Int32, r_0 = (if n_0 ≤ 3 then (mHas I c) - (3 * ((mHas I c) / 4)) else 0) → Rn 136 [(3, .int (0 + q_0)), (6, .int n_0), (5, .int ((mHas I c) - (3 * ((mHas I c) / 4)))), (4, .int 0), (2, .int c), (0, .ref (ad 11 0)), (1, .int v)] [.int r_0, .int 0, .ref (ad 11 0)] ad (cX E ad (gs (gs (gs (gs (gs I 11 0 31 v) 11 0 32 (mHas I c)) 11 0 33 0) 11 0 34 2) 11 0 34 (2 + p_0)) F lc ln) 0 0 := by
        intro r_0 e_r_0
        refine r_iadd h.ok dX6_begin_136 ?_
        refine r_put (ty := tyX6) h.ok 33 dX6_begin_137 (xo_11 _) rfl inX6 tyX6_ok nmX6 (by decide) wfl_X6_124 rfl rfl rfl (by simp) (cX_put (r' := upd ((gs (gs (gs (gs (gs I 11 0 31 v) 11 0 32 (mHas I c)) 11 0 33 0) 11 0 34 2) 11 0 34 (2 + p_0)) 11 0) 33 (0 + r_0)) (xo_11 _)) ?_
        refine r_aload_n h.ok dX6_begin_140 5 rfl ?_
        refine r_get h.ok 12 dX6_begin_141 (xo_11 _) rfl inX6 (by decide) wfl_X6_38 rfl ?_
        refine r_iconst (v := 4) h.ok dX6_begin_144 (by decide) ?_
        refine r_iload_n h.ok dX6_begin_145 4 rfl ?_
        refine r_imul h.ok dX6_begin_146 ?_
        refine r_iload h.ok dX6_begin_147 3 rfl ?_
        refine r_iadd h.ok dX6_begin_149 ?_
        refine r_iconst (v := 0) h.ok dX6_begin_150 (by decide) ?_
        refine x_iast h.ok (4 * c.toNatClampNeg + 0) dX6_begin_151 (fun _ => rfl) (teat_ix ic (n := 0) (by decide) (by decide)) (teat_lt ic (by decide)) (by decide) ?_
        refine r_iinc (v := 1) (lv' := [(4, .int 1), (3, .int (0 + q_0)), (6, .int n_0), (5, .int ((mHas I c) - (3 * ((mHas I c) / 4)))), (2, .int c), (0, .ref (ad 11 0)), (1, .int v)]) h.ok dX6_begin_152 3 rfl (by decide) (by decide) rfl ?_
        refine r_goto h.ok 36 dX6_begin_155 (by decide) ?_
        refine r_iload h.ok dX6_begin_36 0 rfl ?_
        refine r_iconst (v := 4) h.ok dX6_begin_38 (by decide) ?_
        refine r_icmp_ge h.ok 158 dX6_begin_39 (by decide) (fun q => absurd q (by decide)) (fun _ => ?_)
        refine r_iload h.ok dX6_begin_42 0 rfl ?_
        refine r_if_ne h.ok 63 dX6_begin_44 (by decide) (fun _ => ?_) (fun q => absurd q (by decide))
        refine r_aload_n h.ok dX6_begin_63 5 rfl ?_
        refine r_get (v := .int (mHas I c)) h.ok 32 dX6_begin_64 (xo_11 _) rfl inX6 (by decide) wfl_X6_121 (congrArg (fun z => some (Value.int z)) (by simp [gr, upd] : (gs (gs (gs (gs (gs (gs (gs I 11 0 31 v) 11 0 32 (mHas I c)) 11 0 33 0) 11 0 34 2) 11 0 34 (2 + p_0)) 11 0 33 (0 + r_0)) 12 12 (4 * c.toNatClampNeg + 0) 0) 11 0 32 = mHas I c)) ?_
        refine r_iconst (v := 4) h.ok dX6_begin_67 (by decide) ?_
        refine r_idiv h.ok dX6_begin_68 (by decide) ?_
        refine r_istore (lv' := [(5, .int ((mHas I c) / 4)), (4, .int 1), (3, .int (0 + q_0)), (6, .int n_0), (2, .int c), (0, .ref (ad 11 0)), (1, .int v)]) h.ok dX6_begin_69 (by decide) rfl ?_
        refine r_aload_n h.ok dX6_begin_71 5 rfl ?_
        refine r_get h.ok 12 dX6_begin_72 (xo_11 _) rfl inX6 (by decide) wfl_X6_38 rfl ?_
        refine r_iconst (v := 4) h.ok dX6_begin_75 (by decide) ?_
        refine r_iload_n h.ok dX6_begin_76 4 rfl ?_
        refine r_imul h.ok dX6_begin_77 ?_
        refine r_iload h.ok dX6_begin_78 1 rfl ?_
        refine r_iadd h.ok dX6_begin_80 ?_
        refine x_iald (v := I 12 12 (4 * c.toNatClampNeg + 1)) h.ok (4 * c.toNatClampNeg + 1) dX6_begin_81 rfl (teat_ix ic (n := 1) (by decide) (by decide)) (teat_lt ic (by decide)) (by decide) (by simp [gr, upd]) ?_
        refine r_topi (fun n_1 e_n_1 => ?_)
        refine r_istore (lv' := [(6, .int n_1), (5, .int ((mHas I c) / 4)), (4, .int 1), (3, .int (0 + q_0)), (2, .int c), (0, .ref (ad 11 0)), (1, .int v)]) h.ok dX6_begin_82 (by decide) rfl ?_
        refine r_aload_n h.ok dX6_begin_84 5 rfl ?_
        refine r_dup h.ok dX6_begin_85 rfl ?_
        refine r_get (v := .int (2 + p_0)) h.ok 34 dX6_begin_86 (xo_11 _) rfl inX6 (by decide) wfl_X6_127 (congrArg (fun z => some (Value.int z)) (by simp [gr, upd] : (gs (gs (gs (gs (gs (gs (gs I 11 0 31 v) 11 0 32 (mHas I c)) 11 0 33 0) 11 0 34 2) 11 0 34 (2 + p_0)) 11 0 33 (0 + r_0)) 12 12 (4 * c.toNatClampNeg + 0) 0) 11 0 34 = 2 + p_0)) ?_
        refine r_iload h.ok dX6_begin_89 0 rfl ?_
        refine r_iconst (v := 3) h.ok dX6_begin_91 (by decide) ?_
        have K_92_1 : ∀ p_1 : Int32, p_1 = (if n_1 ≤ 3 then n_1 else 3) → Rn 101 [(6, .int n_1), (5, .int ((mHas I c) / 4)), (4, .int 1), (3, .int (0 + q_0)), (2, .int c), (0, .ref (ad 11 0)), (1, .int v)] [.int p_1, .int (2 + p_0), .ref (ad 11 0)] ad (cX E ad (gs (gs (gs (gs (gs (gs (gs I 11 0 31 v) 11 0 32 (mHas I c)) 11 0 33 0) 11 0 34 2) 11 0 34 (2 + p_0)) 11 0 33 (0 + r_0)) 12 12 (4 * c.toNatClampNeg + 0) 0) F lc ln) 0 0 := by
          intro p_1 e_p_1
          refine r_iadd h.ok dX6_begin_101 ?_
          refine r_put (ty := tyX6) h.ok 34 dX6_begin_102 (xo_11 _) rfl inX6 tyX6_ok nmX6 (by decide) wfl_X6_127 rfl rfl rfl (by simp) (cX_put (r' := upd ((gs (gs (gs (gs (gs (gs (gs I 11 0 31 v) 11 0 32 (mHas I c)) 11 0 33 0) 11 0 34 2) 11 0 34 (2 + p_0)) 11 0 33 (0 + r_0)) 12 12 (4 * c.toNatClampNeg + 0) 0) 11 0) 34 ((2 + p_0) + p_1)) (xo_11 _)) ?_
          refine r_iload_n h.ok dX6_begin_105 3 rfl ?_
          refine r_iload h.ok dX6_begin_106 0 rfl ?_
          refine r_iconst (v := 3) h.ok dX6_begin_108 (by decide) ?_
          have K_109_1 : ∀ q_1 : Int32, q_1 = (if n_1 ≤ 3 then 0 else 1) → Rn 117 [(6, .int n_1), (5, .int ((mHas I c) / 4)), (4, .int 1), (3, .int (0 + q_0)), (2, .int c), (0, .ref (ad 11 0)), (1, .int v)] [.int q_1, .int (0 + q_0)] ad (cX E ad (gs (gs (gs (gs (gs (gs (gs (gs I 11 0 31 v) 11 0 32 (mHas I c)) 11 0 33 0) 11 0 34 2) 11 0 34 (2 + p_0)) 11 0 33 (0 + r_0)) 12 12 (4 * c.toNatClampNeg + 0) 0) 11 0 34 ((2 + p_0) + p_1)) F lc ln) 0 0 := by
            intro q_1 e_q_1
            refine r_iadd h.ok dX6_begin_117 ?_
            refine r_istore_n (lv' := [(3, .int ((0 + q_0) + q_1)), (6, .int n_1), (5, .int ((mHas I c) / 4)), (4, .int 1), (2, .int c), (0, .ref (ad 11 0)), (1, .int v)]) h.ok dX6_begin_118 (by decide) rfl ?_
            refine r_aload_n h.ok dX6_begin_119 5 rfl ?_
            refine r_dup h.ok dX6_begin_120 rfl ?_
            refine r_get (v := .int (0 + r_0)) h.ok 33 dX6_begin_121 (xo_11 _) rfl inX6 (by decide) wfl_X6_124 (congrArg (fun z => some (Value.int z)) (by simp [gr, upd] : (gs (gs (gs (gs (gs (gs (gs (gs I 11 0 31 v) 11 0 32 (mHas I c)) 11 0 33 0) 11 0 34 2) 11 0 34 (2 + p_0)) 11 0 33 (0 + r_0)) 12 12 (4 * c.toNatClampNeg + 0) 0) 11 0 34 ((2 + p_0) + p_1)) 11 0 33 = 0 + r_0)) ?_
            refine r_iload h.ok dX6_begin_124 1 rfl ?_
            refine r_iconst (v := 3) h.ok dX6_begin_126 (by decide) ?_
            have K_127_1 : ∀ r_1 : Int32, r_1 = (if n_1 ≤ 3 then (mHas I c) / 4 else 0) → Rn 136 [(3, .int ((0 + q_0) + q_1)), (6, .int n_1), (5, .int ((mHas I c) / 4)), (4, .int 1), (2, .int c), (0, .ref (ad 11 0)), (1, .int v)] [.int r_1, .int (0 + r_0), .ref (ad 11 0)] ad (cX E ad (gs (gs (gs (gs (gs (gs (gs (gs I 11 0 31 v) 11 0 32 (mHas I c)) 11 0 33 0) 11 0 34 2) 11 0 34 (2 + p_0)) 11 0 33 (0 + r_0)) 12 12 (4 * c.toNatClampNeg + 0) 0) 11 0 34 ((2 + p_0) + p_1)) F lc ln) 0 0 := by
              intro r_1 e_r_1
              refine r_iadd h.ok dX6_begin_136 ?_
              refine r_put (ty := tyX6) h.ok 33 dX6_begin_137 (xo_11 _) rfl inX6 tyX6_ok nmX6 (by decide) wfl_X6_124 rfl rfl rfl (by simp) (cX_put (r' := upd ((gs (gs (gs (gs (gs (gs (gs (gs I 11 0 31 v) 11 0 32 (mHas I c)) 11 0 33 0) 11 0 34 2) 11 0 34 (2 + p_0)) 11 0 33 (0 + r_0)) 12 12 (4 * c.toNatClampNeg + 0) 0) 11 0 34 ((2 + p_0) + p_1)) 11 0) 33 ((0 + r_0) + r_1)) (xo_11 _)) ?_
              refine r_aload_n h.ok dX6_begin_140 5 rfl ?_
              refine r_get h.ok 12 dX6_begin_141 (xo_11 _) rfl inX6 (by decide) wfl_X6_38 rfl ?_
              refine r_iconst (v := 4) h.ok dX6_begin_144 (by decide) ?_
              refine r_iload_n h.ok dX6_begin_145 4 rfl ?_
              refine r_imul h.ok dX6_begin_146 ?_
              refine r_iload h.ok dX6_begin_147 3 rfl ?_
              refine r_iadd h.ok dX6_begin_149 ?_
              refine r_iconst (v := 0) h.ok dX6_begin_150 (by decide) ?_
              refine x_iast h.ok (4 * c.toNatClampNeg + 1) dX6_begin_151 (fun _ => rfl) (teat_ix ic (n := 1) (by decide) (by decide)) (teat_lt ic (by decide)) (by decide) ?_
              refine r_iinc (v := 2) (lv' := [(4, .int 2), (3, .int ((0 + q_0) + q_1)), (6, .int n_1), (5, .int ((mHas I c) / 4)), (2, .int c), (0, .ref (ad 11 0)), (1, .int v)]) h.ok dX6_begin_152 3 rfl (by decide) (by decide) rfl ?_
              refine r_goto h.ok 36 dX6_begin_155 (by decide) ?_
              refine r_iload h.ok dX6_begin_36 0 rfl ?_
              refine r_iconst (v := 4) h.ok dX6_begin_38 (by decide) ?_
              refine r_icmp_ge h.ok 158 dX6_begin_39 (by decide) (fun q => absurd q (by decide)) (fun _ => ?_)
              refine r_iload h.ok dX6_begin_42 0 rfl ?_
              refine r_if_ne h.ok 63 dX6_begin_44 (by decide) (fun _ => ?_) (fun q => absurd q (by decide))
              refine r_aload_n h.ok dX6_begin_63 5 rfl ?_
              refine r_get (v := .int (mHas I c)) h.ok 32 dX6_begin_64 (xo_11 _) rfl inX6 (by decide) wfl_X6_121 (congrArg (fun z => some (Value.int z)) (by simp [gr, upd] : (gs (gs (gs (gs (gs (gs (gs (gs (gs (gs I 11 0 31 v) 11 0 32 (mHas I c)) 11 0 33 0) 11 0 34 2) 11 0 34 (2 + p_0)) 11 0 33 (0 + r_0)) 12 12 (4 * c.toNatClampNeg + 0) 0) 11 0 34 ((2 + p_0) + p_1)) 11 0 33 ((0 + r_0) + r_1)) 12 12 (4 * c.toNatClampNeg + 1) 0) 11 0 32 = mHas I c)) ?_
              refine r_iconst (v := 4) h.ok dX6_begin_67 (by decide) ?_
              refine r_idiv h.ok dX6_begin_68 (by decide) ?_
              refine r_istore (lv' := [(5, .int ((mHas I c) / 4)), (4, .int 2), (3, .int ((0 + q_0) + q_1)), (6, .int n_1), (2, .int c), (0, .ref (ad 11 0)), (1, .int v)]) h.ok dX6_begin_69 (by decide) rfl ?_
              refine r_aload_n h.ok dX6_begin_71 5 rfl ?_
              refine r_get h.ok 12 dX6_begin_72 (xo_11 _) rfl inX6 (by decide) wfl_X6_38 rfl ?_
              refine r_iconst (v := 4) h.ok dX6_begin_75 (by decide) ?_
              refine r_iload_n h.ok dX6_begin_76 4 rfl ?_
              refine r_imul h.ok dX6_begin_77 ?_
              refine r_iload h.ok dX6_begin_78 1 rfl ?_
              refine r_iadd h.ok dX6_begin_80 ?_
              refine x_iald (v := I 12 12 (4 * c.toNatClampNeg + 2)) h.ok (4 * c.toNatClampNeg + 2) dX6_begin_81 rfl (teat_ix ic (n := 2) (by decide) (by decide)) (teat_lt ic (by decide)) (by decide) (by simp [gr, upd]) ?_
              refine r_topi (fun n_2 e_n_2 => ?_)
              refine r_istore (lv' := [(6, .int n_2), (5, .int ((mHas I c) / 4)), (4, .int 2), (3, .int ((0 + q_0) + q_1)), (2, .int c), (0, .ref (ad 11 0)), (1, .int v)]) h.ok dX6_begin_82 (by decide) rfl ?_
              refine r_aload_n h.ok dX6_begin_84 5 rfl ?_
              refine r_dup h.ok dX6_begin_85 rfl ?_
              refine r_get (v := .int ((2 + p_0) + p_1)) h.ok 34 dX6_begin_86 (xo_11 _) rfl inX6 (by decide) wfl_X6_127 (congrArg (fun z => some (Value.int z)) (by simp [gr, upd] : (gs (gs (gs (gs (gs (gs (gs (gs (gs (gs I 11 0 31 v) 11 0 32 (mHas I c)) 11 0 33 0) 11 0 34 2) 11 0 34 (2 + p_0)) 11 0 33 (0 + r_0)) 12 12 (4 * c.toNatClampNeg + 0) 0) 11 0 34 ((2 + p_0) + p_1)) 11 0 33 ((0 + r_0) + r_1)) 12 12 (4 * c.toNatClampNeg + 1) 0) 11 0 34 = (2 + p_0) + p_1)) ?_
              refine r_iload h.ok dX6_begin_89 0 rfl ?_
              refine r_iconst (v := 3) h.ok dX6_begin_91 (by decide) ?_
              have K_92_2 : ∀ p_2 : Int32, p_2 = (if n_2 ≤ 3 then n_2 else 3) → Rn 101 [(6, .int n_2), (5, .int ((mHas I c) / 4)), (4, .int 2), (3, .int ((0 + q_0) + q_1)), (2, .int c), (0, .ref (ad 11 0)), (1, .int v)] [.int p_2, .int ((2 + p_0) + p_1), .ref (ad 11 0)] ad (cX E ad (gs (gs (gs (gs (gs (gs (gs (gs (gs (gs I 11 0 31 v) 11 0 32 (mHas I c)) 11 0 33 0) 11 0 34 2) 11 0 34 (2 + p_0)) 11 0 33 (0 + r_0)) 12 12 (4 * c.toNatClampNeg + 0) 0) 11 0 34 ((2 + p_0) + p_1)) 11 0 33 ((0 + r_0) + r_1)) 12 12 (4 * c.toNatClampNeg + 1) 0) F lc ln) 0 0 := by
                intro p_2 e_p_2
                refine r_iadd h.ok dX6_begin_101 ?_
                refine r_put (ty := tyX6) h.ok 34 dX6_begin_102 (xo_11 _) rfl inX6 tyX6_ok nmX6 (by decide) wfl_X6_127 rfl rfl rfl (by simp) (cX_put (r' := upd ((gs (gs (gs (gs (gs (gs (gs (gs (gs (gs I 11 0 31 v) 11 0 32 (mHas I c)) 11 0 33 0) 11 0 34 2) 11 0 34 (2 + p_0)) 11 0 33 (0 + r_0)) 12 12 (4 * c.toNatClampNeg + 0) 0) 11 0 34 ((2 + p_0) + p_1)) 11 0 33 ((0 + r_0) + r_1)) 12 12 (4 * c.toNatClampNeg + 1) 0) 11 0) 34 (((2 + p_0) + p_1) + p_2)) (xo_11 _)) ?_
                refine r_iload_n h.ok dX6_begin_105 3 rfl ?_
                refine r_iload h.ok dX6_begin_106 0 rfl ?_
                refine r_iconst (v := 3) h.ok dX6_begin_108 (by decide) ?_
                have K_109_2 : ∀ q_2 : Int32, q_2 = (if n_2 ≤ 3 then 0 else 1) → Rn 117 [(6, .int n_2), (5, .int ((mHas I c) / 4)), (4, .int 2), (3, .int ((0 + q_0) + q_1)), (2, .int c), (0, .ref (ad 11 0)), (1, .int v)] [.int q_2, .int ((0 + q_0) + q_1)] ad (cX E ad (gs (gs (gs (gs (gs (gs (gs (gs (gs (gs (gs I 11 0 31 v) 11 0 32 (mHas I c)) 11 0 33 0) 11 0 34 2) 11 0 34 (2 + p_0)) 11 0 33 (0 + r_0)) 12 12 (4 * c.toNatClampNeg + 0) 0) 11 0 34 ((2 + p_0) + p_1)) 11 0 33 ((0 + r_0) + r_1)) 12 12 (4 * c.toNatClampNeg + 1) 0) 11 0 34 (((2 + p_0) + p_1) + p_2)) F lc ln) 0 0 := by
                  intro q_2 e_q_2
                  refine r_iadd h.ok dX6_begin_117 ?_
                  refine r_istore_n (lv' := [(3, .int (((0 + q_0) + q_1) + q_2)), (6, .int n_2), (5, .int ((mHas I c) / 4)), (4, .int 2), (2, .int c), (0, .ref (ad 11 0)), (1, .int v)]) h.ok dX6_begin_118 (by decide) rfl ?_
                  refine r_aload_n h.ok dX6_begin_119 5 rfl ?_
                  refine r_dup h.ok dX6_begin_120 rfl ?_
                  refine r_get (v := .int ((0 + r_0) + r_1)) h.ok 33 dX6_begin_121 (xo_11 _) rfl inX6 (by decide) wfl_X6_124 (congrArg (fun z => some (Value.int z)) (by simp [gr, upd] : (gs (gs (gs (gs (gs (gs (gs (gs (gs (gs (gs I 11 0 31 v) 11 0 32 (mHas I c)) 11 0 33 0) 11 0 34 2) 11 0 34 (2 + p_0)) 11 0 33 (0 + r_0)) 12 12 (4 * c.toNatClampNeg + 0) 0) 11 0 34 ((2 + p_0) + p_1)) 11 0 33 ((0 + r_0) + r_1)) 12 12 (4 * c.toNatClampNeg + 1) 0) 11 0 34 (((2 + p_0) + p_1) + p_2)) 11 0 33 = (0 + r_0) + r_1)) ?_
                  refine r_iload h.ok dX6_begin_124 1 rfl ?_
                  refine r_iconst (v := 3) h.ok dX6_begin_126 (by decide) ?_
                  have K_127_2 : ∀ r_2 : Int32, r_2 = (if n_2 ≤ 3 then (mHas I c) / 4 else 0) → Rn 136 [(3, .int (((0 + q_0) + q_1) + q_2)), (6, .int n_2), (5, .int ((mHas I c) / 4)), (4, .int 2), (2, .int c), (0, .ref (ad 11 0)), (1, .int v)] [.int r_2, .int ((0 + r_0) + r_1), .ref (ad 11 0)] ad (cX E ad (gs (gs (gs (gs (gs (gs (gs (gs (gs (gs (gs I 11 0 31 v) 11 0 32 (mHas I c)) 11 0 33 0) 11 0 34 2) 11 0 34 (2 + p_0)) 11 0 33 (0 + r_0)) 12 12 (4 * c.toNatClampNeg + 0) 0) 11 0 34 ((2 + p_0) + p_1)) 11 0 33 ((0 + r_0) + r_1)) 12 12 (4 * c.toNatClampNeg + 1) 0) 11 0 34 (((2 + p_0) + p_1) + p_2)) F lc ln) 0 0 := by
                    intro r_2 e_r_2
                    refine r_iadd h.ok dX6_begin_136 ?_
                    refine r_put (ty := tyX6) h.ok 33 dX6_begin_137 (xo_11 _) rfl inX6 tyX6_ok nmX6 (by decide) wfl_X6_124 rfl rfl rfl (by simp) (cX_put (r' := upd ((gs (gs (gs (gs (gs (gs (gs (gs (gs (gs (gs I 11 0 31 v) 11 0 32 (mHas I c)) 11 0 33 0) 11 0 34 2) 11 0 34 (2 + p_0)) 11 0 33 (0 + r_0)) 12 12 (4 * c.toNatClampNeg + 0) 0) 11 0 34 ((2 + p_0) + p_1)) 11 0 33 ((0 + r_0) + r_1)) 12 12 (4 * c.toNatClampNeg + 1) 0) 11 0 34 (((2 + p_0) + p_1) + p_2)) 11 0) 33 (((0 + r_0) + r_1) + r_2)) (xo_11 _)) ?_
                    refine r_aload_n h.ok dX6_begin_140 5 rfl ?_
                    refine r_get h.ok 12 dX6_begin_141 (xo_11 _) rfl inX6 (by decide) wfl_X6_38 rfl ?_
                    refine r_iconst (v := 4) h.ok dX6_begin_144 (by decide) ?_
                    refine r_iload_n h.ok dX6_begin_145 4 rfl ?_
                    refine r_imul h.ok dX6_begin_146 ?_
                    refine r_iload h.ok dX6_begin_147 3 rfl ?_
                    refine r_iadd h.ok dX6_begin_149 ?_
                    refine r_iconst (v := 0) h.ok dX6_begin_150 (by decide) ?_
                    refine x_iast h.ok (4 * c.toNatClampNeg + 2) dX6_begin_151 (fun _ => rfl) (teat_ix ic (n := 2) (by decide) (by decide)) (teat_lt ic (by decide)) (by decide) ?_
                    refine r_iinc (v := 3) (lv' := [(4, .int 3), (3, .int (((0 + q_0) + q_1) + q_2)), (6, .int n_2), (5, .int ((mHas I c) / 4)), (2, .int c), (0, .ref (ad 11 0)), (1, .int v)]) h.ok dX6_begin_152 3 rfl (by decide) (by decide) rfl ?_
                    refine r_goto h.ok 36 dX6_begin_155 (by decide) ?_
                    refine r_iload h.ok dX6_begin_36 0 rfl ?_
                    refine r_iconst (v := 4) h.ok dX6_begin_38 (by decide) ?_
                    refine r_icmp_ge h.ok 158 dX6_begin_39 (by decide) (fun q => absurd q (by decide)) (fun _ => ?_)
                    refine r_iload h.ok dX6_begin_42 0 rfl ?_
                    refine r_if_ne h.ok 63 dX6_begin_44 (by decide) (fun _ => ?_) (fun q => absurd q (by decide))
                    refine r_aload_n h.ok dX6_begin_63 5 rfl ?_
                    refine r_get (v := .int (mHas I c)) h.ok 32 dX6_begin_64 (xo_11 _) rfl inX6 (by decide) wfl_X6_121 (congrArg (fun z => some (Value.int z)) (by simp [gr, upd] : (gs (gs (gs (gs (gs (gs (gs (gs (gs (gs (gs (gs (gs I 11 0 31 v) 11 0 32 (mHas I c)) 11 0 33 0) 11 0 34 2) 11 0 34 (2 + p_0)) 11 0 33 (0 + r_0)) 12 12 (4 * c.toNatClampNeg + 0) 0) 11 0 34 ((2 + p_0) + p_1)) 11 0 33 ((0 + r_0) + r_1)) 12 12 (4 * c.toNatClampNeg + 1) 0) 11 0 34 (((2 + p_0) + p_1) + p_2)) 11 0 33 (((0 + r_0) + r_1) + r_2)) 12 12 (4 * c.toNatClampNeg + 2) 0) 11 0 32 = mHas I c)) ?_
                    refine r_iconst (v := 4) h.ok dX6_begin_67 (by decide) ?_
                    refine r_idiv h.ok dX6_begin_68 (by decide) ?_
                    refine r_istore (lv' := [(5, .int ((mHas I c) / 4)), (4, .int 3), (3, .int (((0 + q_0) + q_1) + q_2)), (6, .int n_2), (2, .int c), (0, .ref (ad 11 0)), (1, .int v)]) h.ok dX6_begin_69 (by decide) rfl ?_
                    refine r_aload_n h.ok dX6_begin_71 5 rfl ?_
                    refine r_get h.ok 12 dX6_begin_72 (xo_11 _) rfl inX6 (by decide) wfl_X6_38 rfl ?_
                    refine r_iconst (v := 4) h.ok dX6_begin_75 (by decide) ?_
                    refine r_iload_n h.ok dX6_begin_76 4 rfl ?_
                    refine r_imul h.ok dX6_begin_77 ?_
                    refine r_iload h.ok dX6_begin_78 1 rfl ?_
                    refine r_iadd h.ok dX6_begin_80 ?_
                    refine x_iald (v := I 12 12 (4 * c.toNatClampNeg + 3)) h.ok (4 * c.toNatClampNeg + 3) dX6_begin_81 rfl (teat_ix ic (n := 3) (by decide) (by decide)) (teat_lt ic (by decide)) (by decide) (by simp [gr, upd]) ?_
                    refine r_topi (fun n_3 e_n_3 => ?_)
                    refine r_istore (lv' := [(6, .int n_3), (5, .int ((mHas I c) / 4)), (4, .int 3), (3, .int (((0 + q_0) + q_1) + q_2)), (2, .int c), (0, .ref (ad 11 0)), (1, .int v)]) h.ok dX6_begin_82 (by decide) rfl ?_
                    refine r_aload_n h.ok dX6_begin_84 5 rfl ?_
                    refine r_dup h.ok dX6_begin_85 rfl ?_
                    refine r_get (v := .int (((2 + p_0) + p_1) + p_2)) h.ok 34 dX6_begin_86 (xo_11 _) rfl inX6 (by decide) wfl_X6_127 (congrArg (fun z => some (Value.int z)) (by simp [gr, upd] : (gs (gs (gs (gs (gs (gs (gs (gs (gs (gs (gs (gs (gs I 11 0 31 v) 11 0 32 (mHas I c)) 11 0 33 0) 11 0 34 2) 11 0 34 (2 + p_0)) 11 0 33 (0 + r_0)) 12 12 (4 * c.toNatClampNeg + 0) 0) 11 0 34 ((2 + p_0) + p_1)) 11 0 33 ((0 + r_0) + r_1)) 12 12 (4 * c.toNatClampNeg + 1) 0) 11 0 34 (((2 + p_0) + p_1) + p_2)) 11 0 33 (((0 + r_0) + r_1) + r_2)) 12 12 (4 * c.toNatClampNeg + 2) 0) 11 0 34 = ((2 + p_0) + p_1) + p_2)) ?_
                    refine r_iload h.ok dX6_begin_89 0 rfl ?_
                    refine r_iconst (v := 3) h.ok dX6_begin_91 (by decide) ?_
                    have K_92_3 : ∀ p_3 : Int32, p_3 = (if n_3 ≤ 3 then n_3 else 3) → Rn 101 [(6, .int n_3), (5, .int ((mHas I c) / 4)), (4, .int 3), (3, .int (((0 + q_0) + q_1) + q_2)), (2, .int c), (0, .ref (ad 11 0)), (1, .int v)] [.int p_3, .int (((2 + p_0) + p_1) + p_2), .ref (ad 11 0)] ad (cX E ad (gs (gs (gs (gs (gs (gs (gs (gs (gs (gs (gs (gs (gs I 11 0 31 v) 11 0 32 (mHas I c)) 11 0 33 0) 11 0 34 2) 11 0 34 (2 + p_0)) 11 0 33 (0 + r_0)) 12 12 (4 * c.toNatClampNeg + 0) 0) 11 0 34 ((2 + p_0) + p_1)) 11 0 33 ((0 + r_0) + r_1)) 12 12 (4 * c.toNatClampNeg + 1) 0) 11 0 34 (((2 + p_0) + p_1) + p_2)) 11 0 33 (((0 + r_0) + r_1) + r_2)) 12 12 (4 * c.toNatClampNeg + 2) 0) F lc ln) 0 0 := by
                      intro p_3 e_p_3
                      refine r_iadd h.ok dX6_begin_101 ?_
                      refine r_put (ty := tyX6) h.ok 34 dX6_begin_102 (xo_11 _) rfl inX6 tyX6_ok nmX6 (by decide) wfl_X6_127 rfl rfl rfl (by simp) (cX_put (r' := upd ((gs (gs (gs (gs (gs (gs (gs (gs (gs (gs (gs (gs (gs I 11 0 31 v) 11 0 32 (mHas I c)) 11 0 33 0) 11 0 34 2) 11 0 34 (2 + p_0)) 11 0 33 (0 + r_0)) 12 12 (4 * c.toNatClampNeg + 0) 0) 11 0 34 ((2 + p_0) + p_1)) 11 0 33 ((0 + r_0) + r_1)) 12 12 (4 * c.toNatClampNeg + 1) 0) 11 0 34 (((2 + p_0) + p_1) + p_2)) 11 0 33 (((0 + r_0) + r_1) + r_2)) 12 12 (4 * c.toNatClampNeg + 2) 0) 11 0) 34 ((((2 + p_0) + p_1) + p_2) + p_3)) (xo_11 _)) ?_
                      refine r_iload_n h.ok dX6_begin_105 3 rfl ?_
                      refine r_iload h.ok dX6_begin_106 0 rfl ?_
                      refine r_iconst (v := 3) h.ok dX6_begin_108 (by decide) ?_
                      have K_109_3 : ∀ q_3 : Int32, q_3 = (if n_3 ≤ 3 then 0 else 1) → Rn 117 [(6, .int n_3), (5, .int ((mHas I c) / 4)), (4, .int 3), (3, .int (((0 + q_0) + q_1) + q_2)), (2, .int c), (0, .ref (ad 11 0)), (1, .int v)] [.int q_3, .int (((0 + q_0) + q_1) + q_2)] ad (cX E ad (gs (gs (gs (gs (gs (gs (gs (gs (gs (gs (gs (gs (gs (gs I 11 0 31 v) 11 0 32 (mHas I c)) 11 0 33 0) 11 0 34 2) 11 0 34 (2 + p_0)) 11 0 33 (0 + r_0)) 12 12 (4 * c.toNatClampNeg + 0) 0) 11 0 34 ((2 + p_0) + p_1)) 11 0 33 ((0 + r_0) + r_1)) 12 12 (4 * c.toNatClampNeg + 1) 0) 11 0 34 (((2 + p_0) + p_1) + p_2)) 11 0 33 (((0 + r_0) + r_1) + r_2)) 12 12 (4 * c.toNatClampNeg + 2) 0) 11 0 34 ((((2 + p_0) + p_1) + p_2) + p_3)) F lc ln) 0 0 := by
                        intro q_3 e_q_3
                        refine r_iadd h.ok dX6_begin_117 ?_
                        refine r_istore_n (lv' := [(3, .int ((((0 + q_0) + q_1) + q_2) + q_3)), (6, .int n_3), (5, .int ((mHas I c) / 4)), (4, .int 3), (2, .int c), (0, .ref (ad 11 0)), (1, .int v)]) h.ok dX6_begin_118 (by decide) rfl ?_
                        refine r_aload_n h.ok dX6_begin_119 5 rfl ?_
                        refine r_dup h.ok dX6_begin_120 rfl ?_
                        refine r_get (v := .int (((0 + r_0) + r_1) + r_2)) h.ok 33 dX6_begin_121 (xo_11 _) rfl inX6 (by decide) wfl_X6_124 (congrArg (fun z => some (Value.int z)) (by simp [gr, upd] : (gs (gs (gs (gs (gs (gs (gs (gs (gs (gs (gs (gs (gs (gs I 11 0 31 v) 11 0 32 (mHas I c)) 11 0 33 0) 11 0 34 2) 11 0 34 (2 + p_0)) 11 0 33 (0 + r_0)) 12 12 (4 * c.toNatClampNeg + 0) 0) 11 0 34 ((2 + p_0) + p_1)) 11 0 33 ((0 + r_0) + r_1)) 12 12 (4 * c.toNatClampNeg + 1) 0) 11 0 34 (((2 + p_0) + p_1) + p_2)) 11 0 33 (((0 + r_0) + r_1) + r_2)) 12 12 (4 * c.toNatClampNeg + 2) 0) 11 0 34 ((((2 + p_0) + p_1) + p_2) + p_3)) 11 0 33 = ((0 + r_0) + r_1) + r_2)) ?_
                        refine r_iload h.ok dX6_begin_124 1 rfl ?_
                        refine r_iconst (v := 3) h.ok dX6_begin_126 (by decide) ?_
                        have K_127_3 : ∀ r_3 : Int32, r_3 = (if n_3 ≤ 3 then (mHas I c) / 4 else 0) → Rn 136 [(3, .int ((((0 + q_0) + q_1) + q_2) + q_3)), (6, .int n_3), (5, .int ((mHas I c) / 4)), (4, .int 3), (2, .int c), (0, .ref (ad 11 0)), (1, .int v)] [.int r_3, .int (((0 + r_0) + r_1) + r_2), .ref (ad 11 0)] ad (cX E ad (gs (gs (gs (gs (gs (gs (gs (gs (gs (gs (gs (gs (gs (gs I 11 0 31 v) 11 0 32 (mHas I c)) 11 0 33 0) 11 0 34 2) 11 0 34 (2 + p_0)) 11 0 33 (0 + r_0)) 12 12 (4 * c.toNatClampNeg + 0) 0) 11 0 34 ((2 + p_0) + p_1)) 11 0 33 ((0 + r_0) + r_1)) 12 12 (4 * c.toNatClampNeg + 1) 0) 11 0 34 (((2 + p_0) + p_1) + p_2)) 11 0 33 (((0 + r_0) + r_1) + r_2)) 12 12 (4 * c.toNatClampNeg + 2) 0) 11 0 34 ((((2 + p_0) + p_1) + p_2) + p_3)) F lc ln) 0 0 := by
                          intro r_3 e_r_3
                          refine r_iadd h.ok dX6_begin_136 ?_
                          refine r_put (ty := tyX6) h.ok 33 dX6_begin_137 (xo_11 _) rfl inX6 tyX6_ok nmX6 (by decide) wfl_X6_124 rfl rfl rfl (by simp) (cX_put (r' := upd ((gs (gs (gs (gs (gs (gs (gs (gs (gs (gs (gs (gs (gs (gs I 11 0 31 v) 11 0 32 (mHas I c)) 11 0 33 0) 11 0 34 2) 11 0 34 (2 + p_0)) 11 0 33 (0 + r_0)) 12 12 (4 * c.toNatClampNeg + 0) 0) 11 0 34 ((2 + p_0) + p_1)) 11 0 33 ((0 + r_0) + r_1)) 12 12 (4 * c.toNatClampNeg + 1) 0) 11 0 34 (((2 + p_0) + p_1) + p_2)) 11 0 33 (((0 + r_0) + r_1) + r_2)) 12 12 (4 * c.toNatClampNeg + 2) 0) 11 0 34 ((((2 + p_0) + p_1) + p_2) + p_3)) 11 0) 33 ((((0 + r_0) + r_1) + r_2) + r_3)) (xo_11 _)) ?_
                          refine r_aload_n h.ok dX6_begin_140 5 rfl ?_
                          refine r_get h.ok 12 dX6_begin_141 (xo_11 _) rfl inX6 (by decide) wfl_X6_38 rfl ?_
                          refine r_iconst (v := 4) h.ok dX6_begin_144 (by decide) ?_
                          refine r_iload_n h.ok dX6_begin_145 4 rfl ?_
                          refine r_imul h.ok dX6_begin_146 ?_
                          refine r_iload h.ok dX6_begin_147 3 rfl ?_
                          refine r_iadd h.ok dX6_begin_149 ?_
                          refine r_iconst (v := 0) h.ok dX6_begin_150 (by decide) ?_
                          refine x_iast h.ok (4 * c.toNatClampNeg + 3) dX6_begin_151 (fun _ => rfl) (teat_ix ic (n := 3) (by decide) (by decide)) (teat_lt ic (by decide)) (by decide) ?_
                          refine r_iinc (v := 4) (lv' := [(4, .int 4), (3, .int ((((0 + q_0) + q_1) + q_2) + q_3)), (6, .int n_3), (5, .int ((mHas I c) / 4)), (2, .int c), (0, .ref (ad 11 0)), (1, .int v)]) h.ok dX6_begin_152 3 rfl (by decide) (by decide) rfl ?_
                          refine r_goto h.ok 36 dX6_begin_155 (by decide) ?_
                          refine r_iload h.ok dX6_begin_36 0 rfl ?_
                          refine r_iconst (v := 4) h.ok dX6_begin_38 (by decide) ?_
                          refine r_icmp_ge h.ok 158 dX6_begin_39 (by decide) (fun _ => ?_) (fun q => absurd q (by decide))
                          refine r_aload_n h.ok dX6_begin_158 5 rfl ?_
                          refine r_aload_n h.ok dX6_begin_159 5 rfl ?_
                          refine r_get (v := .int (I 11 0 1)) h.ok 1 dX6_begin_160 (xo_11 _) rfl inX6 (by decide) wfl_X6_107 (congrArg (fun z => some (Value.int z)) (by simp [gr, upd] : (gs (gs (gs (gs (gs (gs (gs (gs (gs (gs (gs (gs (gs (gs (gs (gs I 11 0 31 v) 11 0 32 (mHas I c)) 11 0 33 0) 11 0 34 2) 11 0 34 (2 + p_0)) 11 0 33 (0 + r_0)) 12 12 (4 * c.toNatClampNeg + 0) 0) 11 0 34 ((2 + p_0) + p_1)) 11 0 33 ((0 + r_0) + r_1)) 12 12 (4 * c.toNatClampNeg + 1) 0) 11 0 34 (((2 + p_0) + p_1) + p_2)) 11 0 33 (((0 + r_0) + r_1) + r_2)) 12 12 (4 * c.toNatClampNeg + 2) 0) 11 0 34 ((((2 + p_0) + p_1) + p_2) + p_3)) 11 0 33 ((((0 + r_0) + r_1) + r_2) + r_3)) 12 12 (4 * c.toNatClampNeg + 3) 0) 11 0 1 = I 11 0 1)) ?_
                          refine r_aload_n h.ok dX6_begin_163 5 rfl ?_
                          refine r_get (v := .int ((((2 + p_0) + p_1) + p_2) + p_3)) h.ok 34 dX6_begin_164 (xo_11 _) rfl inX6 (by decide) wfl_X6_127 (congrArg (fun z => some (Value.int z)) (by simp [gr, upd] : (gs (gs (gs (gs (gs (gs (gs (gs (gs (gs (gs (gs (gs (gs (gs (gs I 11 0 31 v) 11 0 32 (mHas I c)) 11 0 33 0) 11 0 34 2) 11 0 34 (2 + p_0)) 11 0 33 (0 + r_0)) 12 12 (4 * c.toNatClampNeg + 0) 0) 11 0 34 ((2 + p_0) + p_1)) 11 0 33 ((0 + r_0) + r_1)) 12 12 (4 * c.toNatClampNeg + 1) 0) 11 0 34 (((2 + p_0) + p_1) + p_2)) 11 0 33 (((0 + r_0) + r_1) + r_2)) 12 12 (4 * c.toNatClampNeg + 2) 0) 11 0 34 ((((2 + p_0) + p_1) + p_2) + p_3)) 11 0 33 ((((0 + r_0) + r_1) + r_2) + r_3)) 12 12 (4 * c.toNatClampNeg + 3) 0) 11 0 34 = (((2 + p_0) + p_1) + p_2) + p_3)) ?_
                          refine r_iadd h.ok dX6_begin_167 ?_
                          refine r_aload_n h.ok dX6_begin_168 5 rfl ?_
                          refine r_get (v := .int ((((0 + r_0) + r_1) + r_2) + r_3)) h.ok 33 dX6_begin_169 (xo_11 _) rfl inX6 (by decide) wfl_X6_124 (congrArg (fun z => some (Value.int z)) (by simp [gr, upd] : (gs (gs (gs (gs (gs (gs (gs (gs (gs (gs (gs (gs (gs (gs (gs (gs I 11 0 31 v) 11 0 32 (mHas I c)) 11 0 33 0) 11 0 34 2) 11 0 34 (2 + p_0)) 11 0 33 (0 + r_0)) 12 12 (4 * c.toNatClampNeg + 0) 0) 11 0 34 ((2 + p_0) + p_1)) 11 0 33 ((0 + r_0) + r_1)) 12 12 (4 * c.toNatClampNeg + 1) 0) 11 0 34 (((2 + p_0) + p_1) + p_2)) 11 0 33 (((0 + r_0) + r_1) + r_2)) 12 12 (4 * c.toNatClampNeg + 2) 0) 11 0 34 ((((2 + p_0) + p_1) + p_2) + p_3)) 11 0 33 ((((0 + r_0) + r_1) + r_2) + r_3)) 12 12 (4 * c.toNatClampNeg + 3) 0) 11 0 33 = (((0 + r_0) + r_1) + r_2) + r_3)) ?_
                          refine r_bipush (v := 19) h.ok dX6_begin_172 (by decide) ?_
                          refine r_iadd h.ok dX6_begin_174 ?_
                          refine r_bipush (v := 20) h.ok dX6_begin_175 (by decide) ?_
                          refine r_idiv h.ok dX6_begin_177 (by decide) ?_
                          refine r_iadd h.ok dX6_begin_178 ?_
                          refine r_put (ty := tyX6) h.ok 35 dX6_begin_179 (xo_11 _) rfl inX6 tyX6_ok nmX6 (by decide) wfl_X6_130 rfl rfl rfl (by simp) (cX_put (r' := upd ((gs (gs (gs (gs (gs (gs (gs (gs (gs (gs (gs (gs (gs (gs (gs (gs I 11 0 31 v) 11 0 32 (mHas I c)) 11 0 33 0) 11 0 34 2) 11 0 34 (2 + p_0)) 11 0 33 (0 + r_0)) 12 12 (4 * c.toNatClampNeg + 0) 0) 11 0 34 ((2 + p_0) + p_1)) 11 0 33 ((0 + r_0) + r_1)) 12 12 (4 * c.toNatClampNeg + 1) 0) 11 0 34 (((2 + p_0) + p_1) + p_2)) 11 0 33 (((0 + r_0) + r_1) + r_2)) 12 12 (4 * c.toNatClampNeg + 2) 0) 11 0 34 ((((2 + p_0) + p_1) + p_2) + p_3)) 11 0 33 ((((0 + r_0) + r_1) + r_2) + r_3)) 12 12 (4 * c.toNatClampNeg + 3) 0) 11 0) 35 (((I 11 0 1) + ((((2 + p_0) + p_1) + p_2) + p_3)) + ((((((0 + r_0) + r_1) + r_2) + r_3) + 19) / 20))) (xo_11 _)) ?_
                          refine r_aload_n h.ok dX6_begin_182 5 rfl ?_
                          refine r_get h.ok 23 dX6_begin_183 (xo_11 _) rfl inX6 (by decide) wfl_X6_69 rfl ?_
                          refine r_iload_n h.ok dX6_begin_186 6 rfl ?_
                          refine r_aload_n h.ok dX6_begin_187 5 rfl ?_
                          refine r_get (v := .int (I 11 0 1)) h.ok 1 dX6_begin_188 (xo_11 _) rfl inX6 (by decide) wfl_X6_107 (congrArg (fun z => some (Value.int z)) (by simp [gr, upd] : (gs (gs (gs (gs (gs (gs (gs (gs (gs (gs (gs (gs (gs (gs (gs (gs (gs I 11 0 31 v) 11 0 32 (mHas I c)) 11 0 33 0) 11 0 34 2) 11 0 34 (2 + p_0)) 11 0 33 (0 + r_0)) 12 12 (4 * c.toNatClampNeg + 0) 0) 11 0 34 ((2 + p_0) + p_1)) 11 0 33 ((0 + r_0) + r_1)) 12 12 (4 * c.toNatClampNeg + 1) 0) 11 0 34 (((2 + p_0) + p_1) + p_2)) 11 0 33 (((0 + r_0) + r_1) + r_2)) 12 12 (4 * c.toNatClampNeg + 2) 0) 11 0 34 ((((2 + p_0) + p_1) + p_2) + p_3)) 11 0 33 ((((0 + r_0) + r_1) + r_2) + r_3)) 12 12 (4 * c.toNatClampNeg + 3) 0) 11 0 35 (((I 11 0 1) + ((((2 + p_0) + p_1) + p_2) + p_3)) + ((((((0 + r_0) + r_1) + r_2) + r_3) + 19) / 20))) 11 0 1 = I 11 0 1)) ?_
                          refine x_iasp h.ok dX6_begin_191 (fun _ => rfl) iv ?_
                          refine r_aload_n h.ok dX6_begin_192 5 rfl ?_
                          refine r_get h.ok 27 dX6_begin_193 (xo_11 _) rfl inX6 (by decide) wfl_X6_81 rfl ?_
                          refine r_iload_n h.ok dX6_begin_196 6 rfl ?_
                          refine r_iload_n h.ok dX6_begin_197 1 rfl ?_
                          refine x_iasp h.ok dX6_begin_198 (fun _ => rfl) iv ?_
                          refine r_aload_n h.ok dX6_begin_199 5 rfl ?_
                          refine r_get h.ok 10 dX6_begin_200 (xo_11 _) rfl inX6 (by decide) wfl_X6_32 rfl ?_
                          refine r_iload_n h.ok dX6_begin_203 4 rfl ?_
                          refine r_aload_n h.ok dX6_begin_204 5 rfl ?_
                          refine r_get (v := .int (I 11 0 1)) h.ok 1 dX6_begin_205 (xo_11 _) rfl inX6 (by decide) wfl_X6_107 (congrArg (fun z => some (Value.int z)) (by simp [gr, upd] : (gs (gs (gs (gs (gs (gs (gs (gs (gs (gs (gs (gs (gs (gs (gs (gs (gs (gs (gs I 11 0 31 v) 11 0 32 (mHas I c)) 11 0 33 0) 11 0 34 2) 11 0 34 (2 + p_0)) 11 0 33 (0 + r_0)) 12 12 (4 * c.toNatClampNeg + 0) 0) 11 0 34 ((2 + p_0) + p_1)) 11 0 33 ((0 + r_0) + r_1)) 12 12 (4 * c.toNatClampNeg + 1) 0) 11 0 34 (((2 + p_0) + p_1) + p_2)) 11 0 33 (((0 + r_0) + r_1) + r_2)) 12 12 (4 * c.toNatClampNeg + 2) 0) 11 0 34 ((((2 + p_0) + p_1) + p_2) + p_3)) 11 0 33 ((((0 + r_0) + r_1) + r_2) + r_3)) 12 12 (4 * c.toNatClampNeg + 3) 0) 11 0 35 (((I 11 0 1) + ((((2 + p_0) + p_1) + p_2) + p_3)) + ((((((0 + r_0) + r_1) + r_2) + r_3) + 19) / 20))) 12 23 v.toNatClampNeg (I 11 0 1)) 12 27 v.toNatClampNeg ((((0 + q_0) + q_1) + q_2) + q_3)) 11 0 1 = I 11 0 1)) ?_
                          refine x_iasp h.ok dX6_begin_208 (fun _ => rfl) ic ?_
                          refine r_aload_n h.ok dX6_begin_209 5 rfl ?_
                          refine r_get h.ok 8 dX6_begin_210 (xo_11 _) rfl inX6 (by decide) wfl_X6_26 rfl ?_
                          refine r_iload_n h.ok dX6_begin_213 4 rfl ?_
                          refine r_aload_n h.ok dX6_begin_214 5 rfl ?_
                          refine r_get (v := .int (I 11 0 1)) h.ok 1 dX6_begin_215 (xo_11 _) rfl inX6 (by decide) wfl_X6_107 (congrArg (fun z => some (Value.int z)) (by simp [gr, upd] : (gs (gs (gs (gs (gs (gs (gs (gs (gs (gs (gs (gs (gs (gs (gs (gs (gs (gs (gs (gs I 11 0 31 v) 11 0 32 (mHas I c)) 11 0 33 0) 11 0 34 2) 11 0 34 (2 + p_0)) 11 0 33 (0 + r_0)) 12 12 (4 * c.toNatClampNeg + 0) 0) 11 0 34 ((2 + p_0) + p_1)) 11 0 33 ((0 + r_0) + r_1)) 12 12 (4 * c.toNatClampNeg + 1) 0) 11 0 34 (((2 + p_0) + p_1) + p_2)) 11 0 33 (((0 + r_0) + r_1) + r_2)) 12 12 (4 * c.toNatClampNeg + 2) 0) 11 0 34 ((((2 + p_0) + p_1) + p_2) + p_3)) 11 0 33 ((((0 + r_0) + r_1) + r_2) + r_3)) 12 12 (4 * c.toNatClampNeg + 3) 0) 11 0 35 (((I 11 0 1) + ((((2 + p_0) + p_1) + p_2) + p_3)) + ((((((0 + r_0) + r_1) + r_2) + r_3) + 19) / 20))) 12 23 v.toNatClampNeg (I 11 0 1)) 12 27 v.toNatClampNeg ((((0 + q_0) + q_1) + q_2) + q_3)) 12 10 c.toNatClampNeg (I 11 0 1)) 11 0 1 = I 11 0 1)) ?_
                          refine x_iasp h.ok dX6_begin_218 (fun _ => rfl) ic ?_
                          refine r_aload_n h.ok dX6_begin_219 5 rfl ?_
                          refine r_get h.ok 9 dX6_begin_220 (xo_11 _) rfl inX6 (by decide) wfl_X6_29 rfl ?_
                          refine r_iload_n h.ok dX6_begin_223 4 rfl ?_
                          refine r_iconst (v := 0) h.ok dX6_begin_224 (by decide) ?_
                          refine x_iasp h.ok dX6_begin_225 (fun _ => rfl) ic ?_
                          refine r_vret h dX6_begin_226 ⟨by decide, by decide⟩ ⟨rfl, rfl, (by subst e_r_3; subst e_q_3; subst e_p_3; subst e_n_3; subst e_r_2; subst e_q_2; subst e_p_2; subst e_n_2; subst e_r_1; subst e_q_1; subst e_p_1; subst e_n_1; subst e_r_0; subst e_q_0; subst e_p_0; subst e_n_0; unfold mBegin_I; rfl)⟩
                        refine r_icmp_le h.ok 134 dX6_begin_127 (by decide) (fun c_127_3 => ?_) (fun c_127_3 => ?_)
                        · refine r_iload h.ok dX6_begin_134 2 rfl ?_
                          exact K_127_3 _ (by simp [c_127_3])
                        · refine r_iconst (v := 0) h.ok dX6_begin_130 (by decide) ?_
                          refine r_goto h.ok 136 dX6_begin_131 (by decide) ?_
                          exact K_127_3 _ (by simp [c_127_3])
                      refine r_icmp_le h.ok 116 dX6_begin_109 (by decide) (fun c_109_3 => ?_) (fun c_109_3 => ?_)
                      · refine r_iconst (v := 0) h.ok dX6_begin_116 (by decide) ?_
                        exact K_109_3 _ (by simp [c_109_3])
                      · refine r_iconst (v := 1) h.ok dX6_begin_112 (by decide) ?_
                        refine r_goto h.ok 117 dX6_begin_113 (by decide) ?_
                        exact K_109_3 _ (by simp [c_109_3])
                    refine r_icmp_le h.ok 99 dX6_begin_92 (by decide) (fun c_92_3 => ?_) (fun c_92_3 => ?_)
                    · refine r_iload h.ok dX6_begin_99 0 rfl ?_
                      exact K_92_3 _ (by simp [c_92_3])
                    · refine r_iconst (v := 3) h.ok dX6_begin_95 (by decide) ?_
                      refine r_goto h.ok 101 dX6_begin_96 (by decide) ?_
                      exact K_92_3 _ (by simp [c_92_3])
                  refine r_icmp_le h.ok 134 dX6_begin_127 (by decide) (fun c_127_2 => ?_) (fun c_127_2 => ?_)
                  · refine r_iload h.ok dX6_begin_134 2 rfl ?_
                    exact K_127_2 _ (by simp [c_127_2])
                  · refine r_iconst (v := 0) h.ok dX6_begin_130 (by decide) ?_
                    refine r_goto h.ok 136 dX6_begin_131 (by decide) ?_
                    exact K_127_2 _ (by simp [c_127_2])
                refine r_icmp_le h.ok 116 dX6_begin_109 (by decide) (fun c_109_2 => ?_) (fun c_109_2 => ?_)
                · refine r_iconst (v := 0) h.ok dX6_begin_116 (by decide) ?_
                  exact K_109_2 _ (by simp [c_109_2])
                · refine r_iconst (v := 1) h.ok dX6_begin_112 (by decide) ?_
                  refine r_goto h.ok 117 dX6_begin_113 (by decide) ?_
                  exact K_109_2 _ (by simp [c_109_2])
              refine r_icmp_le h.ok 99 dX6_begin_92 (by decide) (fun c_92_2 => ?_) (fun c_92_2 => ?_)
              · refine r_iload h.ok dX6_begin_99 0 rfl ?_
                exact K_92_2 _ (by simp [c_92_2])
              · refine r_iconst (v := 3) h.ok dX6_begin_95 (by decide) ?_
                refine r_goto h.ok 101 dX6_begin_96 (by decide) ?_
                exact K_92_2 _ (by simp [c_92_2])
            refine r_icmp_le h.ok 134 dX6_begin_127 (by decide) (fun c_127_1 => ?_) (fun c_127_1 => ?_)
            · refine r_iload h.ok dX6_begin_134 2 rfl ?_
              exact K_127_1 _ (by simp [c_127_1])
            · refine r_iconst (v := 0) h.ok dX6_begin_130 (by decide) ?_
              refine r_goto h.ok 136 dX6_begin_131 (by decide) ?_
              exact K_127_1 _ (by simp [c_127_1])
          refine r_icmp_le h.ok 116 dX6_begin_109 (by decide) (fun c_109_1 => ?_) (fun c_109_1 => ?_)
          · refine r_iconst (v := 0) h.ok dX6_begin_116 (by decide) ?_
            exact K_109_1 _ (by simp [c_109_1])
          · refine r_iconst (v := 1) h.ok dX6_begin_112 (by decide) ?_
            refine r_goto h.ok 117 dX6_begin_113 (by decide) ?_
            exact K_109_1 _ (by simp [c_109_1])
        refine r_icmp_le h.ok 99 dX6_begin_92 (by decide) (fun c_92_1 => ?_) (fun c_92_1 => ?_)
        · refine r_iload h.ok dX6_begin_99 0 rfl ?_
          exact K_92_1 _ (by simp [c_92_1])
        · refine r_iconst (v := 3) h.ok dX6_begin_95 (by decide) ?_
          refine r_goto h.ok 101 dX6_begin_96 (by decide) ?_
          exact K_92_1 _ (by simp [c_92_1])
      refine r_icmp_le h.ok 134 dX6_begin_127 (by decide) (fun c_127_0 => ?_) (fun c_127_0 => ?_)
      · refine r_iload h.ok dX6_begin_134 2 rfl ?_
        exact K_127_0 _ (by simp [c_127_0])
      · refine r_iconst (v := 0) h.ok dX6_begin_130 (by decide) ?_
        refine r_goto h.ok 136 dX6_begin_131 (by decide) ?_
        exact K_127_0 _ (by simp [c_127_0])
    refine r_icmp_le h.ok 116 dX6_begin_109 (by decide) (fun c_109_0 => ?_) (fun c_109_0 => ?_)
    · refine r_iconst (v := 0) h.ok dX6_begin_116 (by decide) ?_
      exact K_109_0 _ (by simp [c_109_0])
    · refine r_iconst (v := 1) h.ok dX6_begin_112 (by decide) ?_
      refine r_goto h.ok 117 dX6_begin_113 (by decide) ?_
      exact K_109_0 _ (by simp [c_109_0])
  refine r_icmp_le h.ok 99 dX6_begin_92 (by decide) (fun c_92_0 => ?_) (fun c_92_0 => ?_)
  · refine r_iload h.ok dX6_begin_99 0 rfl ?_
    exact K_92_0 _ (by simp [c_92_0])
  · refine r_iconst (v := 3) h.ok dX6_begin_95 (by decide) ?_
    refine r_goto h.ok 101 dX6_begin_96 (by decide) ?_
    exact K_92_0 _ (by simp [c_92_0])
noncomputable def mFinish_I (I : gI) (F : gF) (m v c : Int32) : gI := gs (gs (gs (gs (gs (gs (gs (gs (gs (gs (gs (gs (gs (gs I 11 0 31 (-9)) 12 9 c.toNatClampNeg ((I 11 0 32) - m)) 11 0 36 ((I 11 0 36) + (if (mWh I c m) = 0 then m else 0))) 11 0 38 ((I 11 0 38) + (if (mWh I c m) = 1 then m else 0))) 11 0 39 ((I 11 0 39) + (if (mWh I c m) = 2 then m else 0))) 12 14 c.toNatClampNeg ((mFed I c) + (if ((I 12 7 c.toNatClampNeg) - (mFed I c)) ≤ 10 * m then (I 12 7 c.toNatClampNeg) - (mFed I c) else 10 * m))) 12 13 c.toNatClampNeg ((I 11 0 1) / 1440)) 11 0 42 ((I 11 0 42) + (if ((I 12 7 c.toNatClampNeg) - (mFed I c)) ≤ 10 * m then (I 12 7 c.toNatClampNeg) - (mFed I c) else 10 * m))) 11 0 41 ((I 11 0 41) + m)) 12 15 c.toNatClampNeg ((I 12 15 c.toNatClampNeg) + m)) 12 24 v.toNatClampNeg (I 11 0 1)) 12 25 v.toNatClampNeg m) 12 26 v.toNatClampNeg (mWh I c m)) 12 28 v.toNatClampNeg (if ((I 12 7 c.toNatClampNeg) - (mFed I c)) ≤ 10 * m then (I 12 7 c.toNatClampNeg) - (mFed I c) else 10 * m)
set_option maxHeartbeats 4000000 in
set_option maxRecDepth 100000 in
theorem c_X6_finish (D : va_G) (E : gEc) (ad : gAd) (I : gI) (F : gF) (lc ln : Nat) (m v c : Int32) (hb : I 11 0 31 = v) (hc : I 12 19 v.toNatClampNeg = c) (iv : vp_in v 500) (ic : vp_in c 12) : gCon D E yX6_finish cX6_finish 7 none 1 0 0 [.ref (ad 11 0), .int m] ad (cX E ad I F lc ln) (gPd none ad (cX E ad (mFinish_I I F m v c) F lc ln)) := by
  refine gCon.of (by decide) (Nat.le_of_ble_eq_true rfl) ?_
  intro l A Rn h
  show Rn 0 [(0, .ref (ad 11 0)), (1, .int m)] [] ad (cX E ad I F lc ln) 0 0
  refine r_aload_n h.ok dX6_finish_0 0 rfl ?_
  refine r_get (v := .int v) h.ok 31 dX6_finish_1 (xo_11 _) rfl inX6 (by decide) wfl_X6_90 (congrArg (fun z => some (Value.int z)) (hb : I 11 0 31 = v)) ?_
  refine r_istore_n (lv' := [(2, .int v), (0, .ref (ad 11 0)), (1, .int m)]) h.ok dX6_finish_4 (by decide) rfl ?_
  refine r_aload_n h.ok dX6_finish_5 1 rfl ?_
  refine r_get h.ok 19 dX6_finish_6 (xo_11 _) rfl inX6 (by decide) wfl_X6_56 rfl ?_
  refine r_iload_n h.ok dX6_finish_9 0 rfl ?_
  refine x_ialp (v := c) h.ok dX6_finish_10 rfl iv hc ?_
  refine r_istore_n (lv' := [(3, .int c), (2, .int v), (0, .ref (ad 11 0)), (1, .int m)]) h.ok dX6_finish_11 (by decide) rfl ?_
  refine r_aload_n h.ok dX6_finish_12 2 rfl ?_
  refine r_bipush (v := (-9)) h.ok dX6_finish_13 (by decide) ?_
  refine r_put (ty := tyX6) h.ok 31 dX6_finish_15 (xo_11 _) rfl inX6 tyX6_ok nmX6 (by decide) wfl_X6_90 rfl rfl rfl (by simp) (cX_put (r' := upd (I 11 0) 31 (-9)) (xo_11 _)) ?_
  refine r_aload_n h.ok dX6_finish_18 2 rfl ?_
  refine r_get h.ok 9 dX6_finish_19 (xo_11 _) rfl inX6 (by decide) wfl_X6_29 rfl ?_
  refine r_iload_n h.ok dX6_finish_22 0 rfl ?_
  refine r_aload_n h.ok dX6_finish_23 2 rfl ?_
  refine r_get (v := .int (I 11 0 32)) h.ok 32 dX6_finish_24 (xo_11 _) rfl inX6 (by decide) wfl_X6_121 (congrArg (fun z => some (Value.int z)) (by simp [gr, upd] : (gs I 11 0 31 (-9)) 11 0 32 = I 11 0 32)) ?_
  refine r_iload_n h.ok dX6_finish_27 3 rfl ?_
  refine r_isub h.ok dX6_finish_28 ?_
  refine x_iasp h.ok dX6_finish_29 (fun _ => rfl) ic ?_
  refine r_aload_n h.ok dX6_finish_30 2 rfl ?_
  refine r_get h.ok 4 dX6_finish_31 (xo_11 _) rfl inX6 (by decide) wfl_X6_13 rfl ?_
  refine r_iload_n h.ok dX6_finish_34 0 rfl ?_
  refine x_ialp (v := I 12 4 c.toNatClampNeg) h.ok dX6_finish_35 rfl ic (by simp [gr]) ?_
  refine r_iconst (v := 2) h.ok dX6_finish_36 (by decide) ?_
  have K_37 : ∀ wh : Int32, wh = (mWh I c m) → Rn 75 [(3, .int c), (2, .int v), (0, .ref (ad 11 0)), (1, .int m)] [.int wh] ad (cX E ad (gs (gs I 11 0 31 (-9)) 12 9 c.toNatClampNeg ((I 11 0 32) - m)) F lc ln) 0 0 := by
    intro wh e_wh
    refine r_istore (lv' := [(4, .int wh), (3, .int c), (2, .int v), (0, .ref (ad 11 0)), (1, .int m)]) h.ok dX6_finish_75 (by decide) rfl ?_
    refine r_aload_n h.ok dX6_finish_77 3 rfl ?_
    refine r_dup h.ok dX6_finish_78 rfl ?_
    refine r_get (v := .int (I 11 0 36)) h.ok 36 dX6_finish_79 (xo_11 _) rfl inX6 (by decide) wfl_X6_133 (congrArg (fun z => some (Value.int z)) (by simp [gr, upd] : (gs (gs I 11 0 31 (-9)) 12 9 c.toNatClampNeg ((I 11 0 32) - m)) 11 0 36 = I 11 0 36)) ?_
    refine r_iload h.ok dX6_finish_82 0 rfl ?_
    have K_84 : ∀ t0 : Int32, t0 = (if wh = 0 then m else 0) → Rn 92 [(4, .int wh), (3, .int c), (2, .int v), (0, .ref (ad 11 0)), (1, .int m)] [.int t0, .int (I 11 0 36), .ref (ad 11 0)] ad (cX E ad (gs (gs I 11 0 31 (-9)) 12 9 c.toNatClampNeg ((I 11 0 32) - m)) F lc ln) 0 0 := by
      intro t0 e_t0
      refine r_iadd h.ok dX6_finish_92 ?_
      refine r_put (ty := tyX6) h.ok 36 dX6_finish_93 (xo_11 _) rfl inX6 tyX6_ok nmX6 (by decide) wfl_X6_133 rfl rfl rfl (by simp) (cX_put (r' := upd ((gs (gs I 11 0 31 (-9)) 12 9 c.toNatClampNeg ((I 11 0 32) - m)) 11 0) 36 ((I 11 0 36) + t0)) (xo_11 _)) ?_
      refine r_aload_n h.ok dX6_finish_96 3 rfl ?_
      refine r_dup h.ok dX6_finish_97 rfl ?_
      refine r_get (v := .int (I 11 0 38)) h.ok 38 dX6_finish_98 (xo_11 _) rfl inX6 (by decide) wfl_X6_136 (congrArg (fun z => some (Value.int z)) (by simp [gr, upd] : (gs (gs (gs I 11 0 31 (-9)) 12 9 c.toNatClampNeg ((I 11 0 32) - m)) 11 0 36 ((I 11 0 36) + t0)) 11 0 38 = I 11 0 38)) ?_
      refine r_iload h.ok dX6_finish_101 0 rfl ?_
      refine r_iconst (v := 1) h.ok dX6_finish_103 (by decide) ?_
      have K_104 : ∀ t1 : Int32, t1 = (if wh = 1 then m else 0) → Rn 112 [(4, .int wh), (3, .int c), (2, .int v), (0, .ref (ad 11 0)), (1, .int m)] [.int t1, .int (I 11 0 38), .ref (ad 11 0)] ad (cX E ad (gs (gs (gs I 11 0 31 (-9)) 12 9 c.toNatClampNeg ((I 11 0 32) - m)) 11 0 36 ((I 11 0 36) + t0)) F lc ln) 0 0 := by
        intro t1 e_t1
        refine r_iadd h.ok dX6_finish_112 ?_
        refine r_put (ty := tyX6) h.ok 38 dX6_finish_113 (xo_11 _) rfl inX6 tyX6_ok nmX6 (by decide) wfl_X6_136 rfl rfl rfl (by simp) (cX_put (r' := upd ((gs (gs (gs I 11 0 31 (-9)) 12 9 c.toNatClampNeg ((I 11 0 32) - m)) 11 0 36 ((I 11 0 36) + t0)) 11 0) 38 ((I 11 0 38) + t1)) (xo_11 _)) ?_
        refine r_aload_n h.ok dX6_finish_116 3 rfl ?_
        refine r_dup h.ok dX6_finish_117 rfl ?_
        refine r_get (v := .int (I 11 0 39)) h.ok 39 dX6_finish_118 (xo_11 _) rfl inX6 (by decide) wfl_X6_139 (congrArg (fun z => some (Value.int z)) (by simp [gr, upd] : (gs (gs (gs (gs I 11 0 31 (-9)) 12 9 c.toNatClampNeg ((I 11 0 32) - m)) 11 0 36 ((I 11 0 36) + t0)) 11 0 38 ((I 11 0 38) + t1)) 11 0 39 = I 11 0 39)) ?_
        refine r_iload h.ok dX6_finish_121 0 rfl ?_
        refine r_iconst (v := 2) h.ok dX6_finish_123 (by decide) ?_
        have K_124 : ∀ t2 : Int32, t2 = (if wh = 2 then m else 0) → Rn 132 [(4, .int wh), (3, .int c), (2, .int v), (0, .ref (ad 11 0)), (1, .int m)] [.int t2, .int (I 11 0 39), .ref (ad 11 0)] ad (cX E ad (gs (gs (gs (gs I 11 0 31 (-9)) 12 9 c.toNatClampNeg ((I 11 0 32) - m)) 11 0 36 ((I 11 0 36) + t0)) 11 0 38 ((I 11 0 38) + t1)) F lc ln) 0 0 := by
          intro t2 e_t2
          refine r_iadd h.ok dX6_finish_132 ?_
          refine r_put (ty := tyX6) h.ok 39 dX6_finish_133 (xo_11 _) rfl inX6 tyX6_ok nmX6 (by decide) wfl_X6_139 rfl rfl rfl (by simp) (cX_put (r' := upd ((gs (gs (gs (gs I 11 0 31 (-9)) 12 9 c.toNatClampNeg ((I 11 0 32) - m)) 11 0 36 ((I 11 0 36) + t0)) 11 0 38 ((I 11 0 38) + t1)) 11 0) 39 ((I 11 0 39) + t2)) (xo_11 _)) ?_
          refine r_aload_n h.ok dX6_finish_136 3 rfl ?_
          refine r_get h.ok 7 dX6_finish_137 (xo_11 _) rfl inX6 (by decide) wfl_X6_23 rfl ?_
          refine r_iload_n h.ok dX6_finish_140 1 rfl ?_
          refine x_ialp (v := I 12 7 c.toNatClampNeg) h.ok dX6_finish_141 rfl ic (by simp [gr]) ?_
          refine r_aload_n h.ok dX6_finish_142 3 rfl ?_
          refine r_iload_n h.ok dX6_finish_143 1 rfl ?_
          refine r_callV h.ok [.int c] [.int (I 12 7 c.toNatClampNeg)] dX6_finish_144 (c_X6_fedToday D E ad (gs (gs (gs (gs (gs I 11 0 31 (-9)) 12 9 c.toNatClampNeg ((I 11 0 32) - m)) 11 0 36 ((I 11 0 36) + t0)) 11 0 38 ((I 11 0 38) + t1)) 11 0 39 ((I 11 0 39) + t2)) F lc ln c ic) wml_X6_142 wim_X6_fedToday wse_X6_fedToday win_X6 wco_X6_fedToday yok_X6_fedToday (xo_11 _) rfl rfl ⟨by decide, by decide, by simp [gRm], by simp [gRm]⟩ (Nat.le_of_ble_eq_true rfl) rfl ?_
          show Rn 147 [(4, .int wh), (3, .int c), (2, .int v), (0, .ref (ad 11 0)), (1, .int m)] [.int (mFed (gs (gs (gs (gs (gs I 11 0 31 (-9)) 12 9 c.toNatClampNeg ((I 11 0 32) - m)) 11 0 36 ((I 11 0 36) + t0)) 11 0 38 ((I 11 0 38) + t1)) 11 0 39 ((I 11 0 39) + t2)) c), .int (I 12 7 c.toNatClampNeg)] ad (cX E ad (gs (gs (gs (gs (gs I 11 0 31 (-9)) 12 9 c.toNatClampNeg ((I 11 0 32) - m)) 11 0 36 ((I 11 0 36) + t0)) 11 0 38 ((I 11 0 38) + t1)) 11 0 39 ((I 11 0 39) + t2)) F lc ln) 0 0
          rw [show mFed (gs (gs (gs (gs (gs I 11 0 31 (-9)) 12 9 c.toNatClampNeg ((I 11 0 32) - m)) 11 0 36 ((I 11 0 36) + t0)) 11 0 38 ((I 11 0 38) + t1)) 11 0 39 ((I 11 0 39) + t2)) c = mFed I c from by simp [mFed, gr, upd]]
          refine r_isub h.ok dX6_finish_147 ?_
          refine r_istore (lv' := [(5, .int ((I 12 7 c.toNatClampNeg) - (mFed I c))), (4, .int wh), (3, .int c), (2, .int v), (0, .ref (ad 11 0)), (1, .int m)]) h.ok dX6_finish_148 (by decide) rfl ?_
          refine r_bipush (v := 10) h.ok dX6_finish_150 (by decide) ?_
          refine r_iload_n h.ok dX6_finish_152 5 rfl ?_
          refine r_imul h.ok dX6_finish_153 ?_
          refine r_iload h.ok dX6_finish_154 0 rfl ?_
          have K_156 : ∀ gm : Int32, gm = (if ((I 12 7 c.toNatClampNeg) - (mFed I c)) ≤ 10 * m then (I 12 7 c.toNatClampNeg) - (mFed I c) else 10 * m) → Rn 168 [(5, .int ((I 12 7 c.toNatClampNeg) - (mFed I c))), (4, .int wh), (3, .int c), (2, .int v), (0, .ref (ad 11 0)), (1, .int m)] [.int gm] ad (cX E ad (gs (gs (gs (gs (gs I 11 0 31 (-9)) 12 9 c.toNatClampNeg ((I 11 0 32) - m)) 11 0 36 ((I 11 0 36) + t0)) 11 0 38 ((I 11 0 38) + t1)) 11 0 39 ((I 11 0 39) + t2)) F lc ln) 0 0 := by
            intro gm e_gm
            refine r_istore (lv' := [(6, .int gm), (5, .int ((I 12 7 c.toNatClampNeg) - (mFed I c))), (4, .int wh), (3, .int c), (2, .int v), (0, .ref (ad 11 0)), (1, .int m)]) h.ok dX6_finish_168 (by decide) rfl ?_
            refine r_aload_n h.ok dX6_finish_170 5 rfl ?_
            refine r_get h.ok 14 dX6_finish_171 (xo_11 _) rfl inX6 (by decide) wfl_X6_44 rfl ?_
            refine r_iload_n h.ok dX6_finish_174 3 rfl ?_
            refine r_aload_n h.ok dX6_finish_175 5 rfl ?_
            refine r_iload_n h.ok dX6_finish_176 3 rfl ?_
            refine r_callV h.ok [.int c] [.int c, .ref (ad 12 14)] dX6_finish_177 (c_X6_fedToday D E ad (gs (gs (gs (gs (gs I 11 0 31 (-9)) 12 9 c.toNatClampNeg ((I 11 0 32) - m)) 11 0 36 ((I 11 0 36) + t0)) 11 0 38 ((I 11 0 38) + t1)) 11 0 39 ((I 11 0 39) + t2)) F lc ln c ic) wml_X6_142 wim_X6_fedToday wse_X6_fedToday win_X6 wco_X6_fedToday yok_X6_fedToday (xo_11 _) rfl rfl ⟨by decide, by decide, by simp [gRm], by simp [gRm]⟩ (Nat.le_of_ble_eq_true rfl) rfl ?_
            show Rn 180 [(6, .int gm), (5, .int ((I 12 7 c.toNatClampNeg) - (mFed I c))), (4, .int wh), (3, .int c), (2, .int v), (0, .ref (ad 11 0)), (1, .int m)] [.int (mFed (gs (gs (gs (gs (gs I 11 0 31 (-9)) 12 9 c.toNatClampNeg ((I 11 0 32) - m)) 11 0 36 ((I 11 0 36) + t0)) 11 0 38 ((I 11 0 38) + t1)) 11 0 39 ((I 11 0 39) + t2)) c), .int c, .ref (ad 12 14)] ad (cX E ad (gs (gs (gs (gs (gs I 11 0 31 (-9)) 12 9 c.toNatClampNeg ((I 11 0 32) - m)) 11 0 36 ((I 11 0 36) + t0)) 11 0 38 ((I 11 0 38) + t1)) 11 0 39 ((I 11 0 39) + t2)) F lc ln) 0 0
            rw [show mFed (gs (gs (gs (gs (gs I 11 0 31 (-9)) 12 9 c.toNatClampNeg ((I 11 0 32) - m)) 11 0 36 ((I 11 0 36) + t0)) 11 0 38 ((I 11 0 38) + t1)) 11 0 39 ((I 11 0 39) + t2)) c = mFed I c from by simp [mFed, gr, upd]]
            refine r_iload h.ok dX6_finish_180 0 rfl ?_
            refine r_iadd h.ok dX6_finish_182 ?_
            refine x_iasp h.ok dX6_finish_183 (fun _ => rfl) ic ?_
            refine r_aload_n h.ok dX6_finish_184 5 rfl ?_
            refine r_get h.ok 13 dX6_finish_185 (xo_11 _) rfl inX6 (by decide) wfl_X6_41 rfl ?_
            refine r_iload_n h.ok dX6_finish_188 3 rfl ?_
            refine r_aload_n h.ok dX6_finish_189 5 rfl ?_
            refine r_get (v := .int (I 11 0 1)) h.ok 1 dX6_finish_190 (xo_11 _) rfl inX6 (by decide) wfl_X6_107 (congrArg (fun z => some (Value.int z)) (by simp [gr, upd] : (gs (gs (gs (gs (gs (gs I 11 0 31 (-9)) 12 9 c.toNatClampNeg ((I 11 0 32) - m)) 11 0 36 ((I 11 0 36) + t0)) 11 0 38 ((I 11 0 38) + t1)) 11 0 39 ((I 11 0 39) + t2)) 12 14 c.toNatClampNeg ((mFed I c) + gm)) 11 0 1 = I 11 0 1)) ?_
            refine r_sipush (v := 1440) h.ok dX6_finish_193 (by decide) ?_
            refine r_idiv h.ok dX6_finish_196 (by decide) ?_
            refine x_iasp h.ok dX6_finish_197 (fun _ => rfl) ic ?_
            refine r_aload_n h.ok dX6_finish_198 5 rfl ?_
            refine r_dup h.ok dX6_finish_199 rfl ?_
            refine r_get (v := .int (I 11 0 42)) h.ok 42 dX6_finish_200 (xo_11 _) rfl inX6 (by decide) wfl_X6_145 (congrArg (fun z => some (Value.int z)) (by simp [gr, upd] : (gs (gs (gs (gs (gs (gs (gs I 11 0 31 (-9)) 12 9 c.toNatClampNeg ((I 11 0 32) - m)) 11 0 36 ((I 11 0 36) + t0)) 11 0 38 ((I 11 0 38) + t1)) 11 0 39 ((I 11 0 39) + t2)) 12 14 c.toNatClampNeg ((mFed I c) + gm)) 12 13 c.toNatClampNeg ((I 11 0 1) / 1440)) 11 0 42 = I 11 0 42)) ?_
            refine r_iload h.ok dX6_finish_203 0 rfl ?_
            refine r_iadd h.ok dX6_finish_205 ?_
            refine r_put (ty := tyX6) h.ok 42 dX6_finish_206 (xo_11 _) rfl inX6 tyX6_ok nmX6 (by decide) wfl_X6_145 rfl rfl rfl (by simp) (cX_put (r' := upd ((gs (gs (gs (gs (gs (gs (gs I 11 0 31 (-9)) 12 9 c.toNatClampNeg ((I 11 0 32) - m)) 11 0 36 ((I 11 0 36) + t0)) 11 0 38 ((I 11 0 38) + t1)) 11 0 39 ((I 11 0 39) + t2)) 12 14 c.toNatClampNeg ((mFed I c) + gm)) 12 13 c.toNatClampNeg ((I 11 0 1) / 1440)) 11 0) 42 ((I 11 0 42) + gm)) (xo_11 _)) ?_
            refine r_aload_n h.ok dX6_finish_209 5 rfl ?_
            refine r_dup h.ok dX6_finish_210 rfl ?_
            refine r_get (v := .int (I 11 0 41)) h.ok 41 dX6_finish_211 (xo_11 _) rfl inX6 (by decide) wfl_X6_148 (congrArg (fun z => some (Value.int z)) (by simp [gr, upd] : (gs (gs (gs (gs (gs (gs (gs (gs I 11 0 31 (-9)) 12 9 c.toNatClampNeg ((I 11 0 32) - m)) 11 0 36 ((I 11 0 36) + t0)) 11 0 38 ((I 11 0 38) + t1)) 11 0 39 ((I 11 0 39) + t2)) 12 14 c.toNatClampNeg ((mFed I c) + gm)) 12 13 c.toNatClampNeg ((I 11 0 1) / 1440)) 11 0 42 ((I 11 0 42) + gm)) 11 0 41 = I 11 0 41)) ?_
            refine r_iload_n h.ok dX6_finish_214 6 rfl ?_
            refine r_iadd h.ok dX6_finish_215 ?_
            refine r_put (ty := tyX6) h.ok 41 dX6_finish_216 (xo_11 _) rfl inX6 tyX6_ok nmX6 (by decide) wfl_X6_148 rfl rfl rfl (by simp) (cX_put (r' := upd ((gs (gs (gs (gs (gs (gs (gs (gs I 11 0 31 (-9)) 12 9 c.toNatClampNeg ((I 11 0 32) - m)) 11 0 36 ((I 11 0 36) + t0)) 11 0 38 ((I 11 0 38) + t1)) 11 0 39 ((I 11 0 39) + t2)) 12 14 c.toNatClampNeg ((mFed I c) + gm)) 12 13 c.toNatClampNeg ((I 11 0 1) / 1440)) 11 0 42 ((I 11 0 42) + gm)) 11 0) 41 ((I 11 0 41) + m)) (xo_11 _)) ?_
            refine r_aload_n h.ok dX6_finish_219 5 rfl ?_
            refine r_get h.ok 15 dX6_finish_220 (xo_11 _) rfl inX6 (by decide) wfl_X6_47 rfl ?_
            refine r_iload_n h.ok dX6_finish_223 3 rfl ?_
            refine r_dup2 h.ok dX6_finish_224 rfl rfl ?_
            refine x_ialp (v := I 12 15 c.toNatClampNeg) h.ok dX6_finish_225 rfl ic (by simp [gr]) ?_
            refine r_iload_n h.ok dX6_finish_226 6 rfl ?_
            refine r_iadd h.ok dX6_finish_227 ?_
            refine x_iasp h.ok dX6_finish_228 (fun _ => rfl) ic ?_
            refine r_aload_n h.ok dX6_finish_229 5 rfl ?_
            refine r_get h.ok 24 dX6_finish_230 (xo_11 _) rfl inX6 (by decide) wfl_X6_72 rfl ?_
            refine r_iload_n h.ok dX6_finish_233 4 rfl ?_
            refine r_aload_n h.ok dX6_finish_234 5 rfl ?_
            refine r_get (v := .int (I 11 0 1)) h.ok 1 dX6_finish_235 (xo_11 _) rfl inX6 (by decide) wfl_X6_107 (congrArg (fun z => some (Value.int z)) (by simp [gr, upd] : (gs (gs (gs (gs (gs (gs (gs (gs (gs (gs I 11 0 31 (-9)) 12 9 c.toNatClampNeg ((I 11 0 32) - m)) 11 0 36 ((I 11 0 36) + t0)) 11 0 38 ((I 11 0 38) + t1)) 11 0 39 ((I 11 0 39) + t2)) 12 14 c.toNatClampNeg ((mFed I c) + gm)) 12 13 c.toNatClampNeg ((I 11 0 1) / 1440)) 11 0 42 ((I 11 0 42) + gm)) 11 0 41 ((I 11 0 41) + m)) 12 15 c.toNatClampNeg ((I 12 15 c.toNatClampNeg) + m)) 11 0 1 = I 11 0 1)) ?_
            refine x_iasp h.ok dX6_finish_238 (fun _ => rfl) iv ?_
            refine r_aload_n h.ok dX6_finish_239 5 rfl ?_
            refine r_get h.ok 25 dX6_finish_240 (xo_11 _) rfl inX6 (by decide) wfl_X6_75 rfl ?_
            refine r_iload_n h.ok dX6_finish_243 4 rfl ?_
            refine r_iload_n h.ok dX6_finish_244 6 rfl ?_
            refine x_iasp h.ok dX6_finish_245 (fun _ => rfl) iv ?_
            refine r_aload_n h.ok dX6_finish_246 5 rfl ?_
            refine r_get h.ok 26 dX6_finish_247 (xo_11 _) rfl inX6 (by decide) wfl_X6_78 rfl ?_
            refine r_iload_n h.ok dX6_finish_250 4 rfl ?_
            refine r_iload h.ok dX6_finish_251 2 rfl ?_
            refine x_iasp h.ok dX6_finish_253 (fun _ => rfl) iv ?_
            refine r_aload_n h.ok dX6_finish_254 5 rfl ?_
            refine r_get h.ok 28 dX6_finish_255 (xo_11 _) rfl inX6 (by decide) wfl_X6_84 rfl ?_
            refine r_iload_n h.ok dX6_finish_258 4 rfl ?_
            refine r_iload h.ok dX6_finish_259 0 rfl ?_
            refine x_iasp h.ok dX6_finish_261 (fun _ => rfl) iv ?_
            refine r_vret h dX6_finish_262 ⟨by decide, by decide⟩ ⟨rfl, rfl, (by subst e_gm; subst e_t2; subst e_t1; subst e_t0; subst e_wh; unfold mFinish_I; rfl)⟩
          refine r_icmp_ge h.ok 166 dX6_finish_156 (by decide) (fun c_156 => ?_) (fun c_156 => ?_)
          · refine r_iload h.ok dX6_finish_166 0 rfl ?_
            exact K_156 _ (by simp [c_156])
          · refine r_bipush (v := 10) h.ok dX6_finish_159 (by decide) ?_
            refine r_iload_n h.ok dX6_finish_161 5 rfl ?_
            refine r_imul h.ok dX6_finish_162 ?_
            refine r_goto h.ok 168 dX6_finish_163 (by decide) ?_
            exact K_156 _ (by simp [c_156])
        refine r_icmp_ne h.ok 131 dX6_finish_124 (by decide) (fun c_124 => ?_) (fun c_124 => ?_)
        · refine r_iconst (v := 0) h.ok dX6_finish_131 (by decide) ?_
          exact K_124 _ (by simp [c_124])
        · refine r_iload_n h.ok dX6_finish_127 4 rfl ?_
          refine r_goto h.ok 132 dX6_finish_128 (by decide) ?_
          exact K_124 _ (by simp [c_124])
      refine r_icmp_ne h.ok 111 dX6_finish_104 (by decide) (fun c_104 => ?_) (fun c_104 => ?_)
      · refine r_iconst (v := 0) h.ok dX6_finish_111 (by decide) ?_
        exact K_104 _ (by simp [c_104])
      · refine r_iload_n h.ok dX6_finish_107 4 rfl ?_
        refine r_goto h.ok 112 dX6_finish_108 (by decide) ?_
        exact K_104 _ (by simp [c_104])
    refine r_if_ne h.ok 91 dX6_finish_84 (by decide) (fun c_84 => ?_) (fun c_84 => ?_)
    · refine r_iconst (v := 0) h.ok dX6_finish_91 (by decide) ?_
      exact K_84 _ (by simp [c_84])
    · refine r_iload_n h.ok dX6_finish_87 4 rfl ?_
      refine r_goto h.ok 92 dX6_finish_88 (by decide) ?_
      exact K_84 _ (by simp [c_84])
  refine r_icmp_eq h.ok 53 dX6_finish_37 (by decide) (fun c_37 => ?_) (fun c_37 => ?_)
  · refine r_iconst (v := 1) h.ok dX6_finish_53 (by decide) ?_
    refine r_goto h.ok 75 dX6_finish_54 (by decide) ?_
    exact K_37 _ (by unfold mWh; rw [if_pos c_37])
  · refine r_aload_n h.ok dX6_finish_40 2 rfl ?_
    refine r_get h.ok 11 dX6_finish_41 (xo_11 _) rfl inX6 (by decide) wfl_X6_35 rfl ?_
    refine r_iload_n h.ok dX6_finish_44 0 rfl ?_
    refine x_ialp (v := I 12 11 c.toNatClampNeg) h.ok dX6_finish_45 rfl ic (by simp [gr]) ?_
    refine r_aload_n h.ok dX6_finish_46 2 rfl ?_
    refine r_get (v := .int (I 11 0 1)) h.ok 1 dX6_finish_47 (xo_11 _) rfl inX6 (by decide) wfl_X6_107 (congrArg (fun z => some (Value.int z)) (by simp [gr, upd] : (gs (gs I 11 0 31 (-9)) 12 9 c.toNatClampNeg ((I 11 0 32) - m)) 11 0 1 = I 11 0 1)) ?_
    refine r_icmp_le h.ok 57 dX6_finish_50 (by decide) (fun c_50 => ?_) (fun c_50 => ?_)
    · refine r_aload_n h.ok dX6_finish_57 2 rfl ?_
      refine r_get (v := .int (I 11 0 36)) h.ok 36 dX6_finish_58 (xo_11 _) rfl inX6 (by decide) wfl_X6_133 (congrArg (fun z => some (Value.int z)) (by simp [gr, upd] : (gs (gs I 11 0 31 (-9)) 12 9 c.toNatClampNeg ((I 11 0 32) - m)) 11 0 36 = I 11 0 36)) ?_
      refine r_iload_n h.ok dX6_finish_61 3 rfl ?_
      refine r_iadd h.ok dX6_finish_62 ?_
      refine r_aload_n h.ok dX6_finish_63 2 rfl ?_
      refine r_get (v := .int (I 11 0 37)) h.ok 37 dX6_finish_64 (xo_11 _) rfl inX6 (by decide) wfl_X6_94 (congrArg (fun z => some (Value.int z)) (by simp [gr, upd] : (gs (gs I 11 0 31 (-9)) 12 9 c.toNatClampNeg ((I 11 0 32) - m)) 11 0 37 = I 11 0 37)) ?_
      refine r_icmp_gt h.ok 74 dX6_finish_67 (by decide) (fun c_67 => ?_) (fun c_67 => ?_)
      · refine r_iconst (v := 2) h.ok dX6_finish_74 (by decide) ?_
        exact K_37 _ (by unfold mWh; rw [if_neg c_37, if_pos c_50, if_pos c_67])
      · refine r_iconst (v := 0) h.ok dX6_finish_70 (by decide) ?_
        refine r_goto h.ok 75 dX6_finish_71 (by decide) ?_
        exact K_37 _ (by unfold mWh; rw [if_neg c_37, if_pos c_50, if_neg c_67])
    · refine r_iconst (v := 1) h.ok dX6_finish_53 (by decide) ?_
      refine r_goto h.ok 75 dX6_finish_54 (by decide) ?_
      exact K_37 _ (by unfold mWh; rw [if_neg c_37, if_neg c_50])
