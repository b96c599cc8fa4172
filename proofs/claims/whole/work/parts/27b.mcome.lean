set_option maxHeartbeats 4000000 in
set_option maxRecDepth 100000 in
theorem c_X6_come (D : va_G) (E : gEc) (ad : gAd) (I : gI) (F : gF) (lc ln : Nat) (c a : Int32) (nc nv nw : Nat) (hM : MI I nc nv nw) (iw0 : pI (mNo I c) = 0 → ¬ mBox I = c → mPlace I nw c = -9 → nw < 12) : gCon D E yX6_come cX6_come 4 (some .int) 3 0 0 [.ref (ad 11 0), .int c, .int a] ad (cX E ad I F lc ln) (gPd (some (.int (mCome_r I nv nw c a))) ad (cX E ad (mCome_I I F nv nw c a) F lc ln)) := by
  refine gCon.of (by decide) (Nat.le_of_ble_eq_true rfl) ?_
  intro l A Rn h
  have hM0 := hM
  obtain ⟨ht, hn, h12, hv, v500, hw, w12, hvc, hq, hb, hr⟩ := hM
  show Rn 0 [(0, .ref (ad 11 0)), (1, .int c), (2, .int a)] [] ad (cX E ad I F lc ln) 0 0
  refine r_aload_n h.ok dX6_come_0 0 rfl ?_
  refine r_iconst (v := 0) h.ok dX6_come_1 (by decide) ?_
  refine r_put (ty := tyX6) h.ok 0 dX6_come_2 (xo_11 _) rfl inX6 tyX6_ok nmX6 (by decide) wfl_X6_97 rfl rfl rfl (by simp) (cX_thr ht) ?_
  refine r_aload_n h.ok dX6_come_5 0 rfl ?_
  refine r_iload_n h.ok dX6_come_6 1 rfl ?_
  refine r_callV h.ok [.int c] [] dX6_come_7 (c_X6_noCow D E ad I F lc ln c) wml_X6_159 wim_X6_noCow wse_X6_noCow win_X6 wco_X6_noCow yok_X6_noCow (xo_11 _) rfl rfl ⟨by decide, by decide, by simp [gRm], by simp [gRm]⟩ (Nat.le_of_ble_eq_true rfl) rfl ?_
  show Rn 10 [(0, .ref (ad 11 0)), (1, .int c), (2, .int a)] [.int (pI (mNo I c))] ad (cX E ad I F lc ln) 0 0
  refine r_if_eq h.ok 15 dX6_come_10 (by decide) (fun c_10 => ?_) (fun c_10 => ?_)
  · refine r_iload_n h.ok dX6_come_15 2 rfl ?_
    refine r_i2l h.ok dX6_come_16 ?_
    refine r_lconst (v := Int32.toInt64 0) h.ok dX6_come_17 (by decide) ?_
    refine r_ldc2 (v' := Int32.toInt64 1000) h.ok dX6_come_18 wk_X6_187 (by decide) ?_
    refine r_callS h.ok [.long (Int32.toInt64 a), .long (Int32.toInt64 0), .long (Int32.toInt64 1000)] [] dX6_come_21 (c_X6_in D E ad I F lc ln a 0 1000) wml_X6_103 wst_X6_in win_X6 wco_X6_in yok_X6_in ⟨by decide, by decide, by simp [gRm], by simp [gRm]⟩ (Nat.le_of_ble_eq_true rfl) rfl ?_
    show Rn 24 [(0, .ref (ad 11 0)), (1, .int c), (2, .int a)] [.int (pI (mIn a 0 1000))] ad (cX E ad I F lc ln) 0 0
    refine r_if_ne h.ok 30 dX6_come_24 (by decide) (fun c_24 => ?_) (fun c_24 => ?_)
    · refine r_aload_n h.ok dX6_come_30 0 rfl ?_
      refine r_callV h.ok [] [] dX6_come_31 (c_X6_cowInBox D E ad I F lc ln (hb.imp id (fun q => vp_mono q v500))) wml_X6_189 wim_X6_cowInBox wse_X6_cowInBox win_X6 wco_X6_cowInBox yok_X6_cowInBox (xo_11 _) rfl rfl ⟨by decide, by decide, by simp [gRm], by simp [gRm]⟩ (Nat.le_of_ble_eq_true rfl) rfl ?_
      show Rn 34 [(0, .ref (ad 11 0)), (1, .int c), (2, .int a)] [.int (mBox I)] ad (cX E ad I F lc ln) 0 0
      refine r_iload_n h.ok dX6_come_34 1 rfl ?_
      refine r_icmp_eq h.ok 48 dX6_come_35 (by decide) (fun c_35 => ?_) (fun c_35 => ?_)
      · refine r_bipush (v := (-3)) h.ok dX6_come_48 (by decide) ?_
        refine r_iret h dX6_come_50 ⟨by decide, by decide⟩ ⟨(by unfold mCome_r; simp only [if_pos c_10, if_neg c_24, if_pos c_35]), rfl, (by unfold mCome_I; simp only [if_pos c_10, if_neg c_24, if_pos c_35])⟩
      · refine r_aload_n h.ok dX6_come_38 0 rfl ?_
        refine r_iload_n h.ok dX6_come_39 1 rfl ?_
        refine r_callV h.ok [.int c] [] dX6_come_40 (c_X6_placeOf D E ad I F lc ln c nv nw hw w12 v500 hq) wml_X6_172 wim_X6_placeOf wse_X6_placeOf win_X6 wco_X6_placeOf yok_X6_placeOf (xo_11 _) rfl rfl ⟨by decide, by decide, by simp [gRm], by simp [gRm]⟩ (Nat.le_of_ble_eq_true rfl) rfl ?_
        show Rn 43 [(0, .ref (ad 11 0)), (1, .int c), (2, .int a)] [.int (mPlace I nw c)] ad (cX E ad I F lc ln) 0 0
        refine r_bipush (v := (-9)) h.ok dX6_come_43 (by decide) ?_
        refine r_icmp_eq h.ok 51 dX6_come_45 (by decide) (fun c_45 => ?_) (fun c_45 => ?_)
        · refine r_aload_n h.ok dX6_come_51 0 rfl ?_
          refine r_get (v := .int (I 11 0 17)) h.ok 17 dX6_come_52 (xo_11 _) rfl inX6 (by decide) wfl_X6_184 rfl ?_
          refine r_sipush (v := 500) h.ok dX6_come_55 (by decide) ?_
          refine r_icmp_ne h.ok 64 dX6_come_58 (by decide) (fun c_58 => ?_) (fun c_58 => ?_)
          · refine r_aload_n h.ok dX6_come_64 0 rfl ?_
            refine r_get (v := .int (I 11 0 17)) h.ok 17 dX6_come_65 (xo_11 _) rfl inX6 (by decide) wfl_X6_184 rfl ?_
            refine r_istore_n (lv' := [(3, .int (I 11 0 17)), (0, .ref (ad 11 0)), (1, .int c), (2, .int a)]) h.ok dX6_come_68 (by decide) rfl ?_
            refine r_aload_n h.ok dX6_come_69 1 rfl ?_
            refine r_get h.ok 22 dX6_come_70 (xo_11 _) rfl inX6 (by decide) wfl_X6_65 rfl ?_
            refine r_iload_n h.ok dX6_come_73 0 rfl ?_
            refine r_aload_n h.ok dX6_come_74 1 rfl ?_
            refine r_iload_n h.ok dX6_come_75 2 rfl ?_
            refine r_iload_n h.ok dX6_come_76 3 rfl ?_
            refine r_callV h.ok [.int c, .int a] [.int (I 11 0 17), .ref (ad 12 22)] dX6_come_77 (c_X6_isAlarm D E ad I F lc ln c a nv hv v500) wml_X6_193 wim_X6_isAlarm wse_X6_isAlarm win_X6 wco_X6_isAlarm yok_X6_isAlarm (xo_11 _) rfl rfl ⟨by decide, by decide, by simp [gRm], by simp [gRm]⟩ (Nat.le_of_ble_eq_true rfl) rfl ?_
            show Rn 80 [(3, .int (I 11 0 17)), (0, .ref (ad 11 0)), (1, .int c), (2, .int a)] [.int (pI (mAlarm I nv c a)), .int (I 11 0 17), .ref (ad 12 22)] ad (cX E ad I F lc ln) 0 0
            refine x_zasp h.ok dX6_come_80 (fun _ => rfl) (vp_vis hv v500 c_58).1 (pI_01 _) ?_
            refine r_aload_n h.ok dX6_come_81 1 rfl ?_
            refine r_get h.ok 19 dX6_come_82 (xo_11 _) rfl inX6 (by decide) wfl_X6_56 rfl ?_
            refine r_iload_n h.ok dX6_come_85 0 rfl ?_
            refine r_iload_n h.ok dX6_come_86 2 rfl ?_
            refine x_iasp h.ok dX6_come_87 (fun _ => rfl) (vp_vis hv v500 c_58).1 ?_
            refine r_aload_n h.ok dX6_come_88 1 rfl ?_
            refine r_get h.ok 20 dX6_come_89 (xo_11 _) rfl inX6 (by decide) wfl_X6_59 rfl ?_
            refine r_iload_n h.ok dX6_come_92 0 rfl ?_
            refine r_aload_n h.ok dX6_come_93 1 rfl ?_
            refine r_get (v := .int (I 11 0 1)) h.ok 1 dX6_come_94 (xo_11 _) rfl inX6 (by decide) wfl_X6_107 rfl ?_
            refine x_iasp h.ok dX6_come_97 (fun _ => rfl) (vp_vis hv v500 c_58).1 ?_
            refine r_aload_n h.ok dX6_come_98 1 rfl ?_
            refine r_get h.ok 21 dX6_come_99 (xo_11 _) rfl inX6 (by decide) wfl_X6_62 rfl ?_
            refine r_iload_n h.ok dX6_come_102 0 rfl ?_
            refine r_iload_n h.ok dX6_come_103 3 rfl ?_
            refine x_iasp h.ok dX6_come_104 (fun _ => rfl) (vp_vis hv v500 c_58).1 ?_
            refine r_aload_n h.ok dX6_come_105 1 rfl ?_
            refine r_get h.ok 18 dX6_come_106 (xo_11 _) rfl inX6 (by decide) wfl_X6_53 rfl ?_
            refine r_iload_n h.ok dX6_come_109 0 rfl ?_
            refine r_aload_n h.ok dX6_come_110 1 rfl ?_
            refine r_iload_n h.ok dX6_come_111 2 rfl ?_
            refine r_callV h.ok [.int c] [.int (I 11 0 17), .ref (ad 12 18)] dX6_come_112 (c_X6_hasRight D E ad (gs (gs (gs (gs I 12 22 ((I 11 0 17).toNatClampNeg) (pI (mAlarm I nv c a))) 12 19 ((I 11 0 17).toNatClampNeg) c) 12 20 ((I 11 0 17).toNatClampNeg) (I 11 0 1)) 12 21 ((I 11 0 17).toNatClampNeg) a) F lc ln c (vp_mono (mNo_in hn h12 (pI_0.mp c_10)) h12)) wml_X6_169 wim_X6_hasRight wse_X6_hasRight win_X6 wco_X6_hasRight yok_X6_hasRight (xo_11 _) rfl rfl ⟨by decide, by decide, by simp [gRm], by simp [gRm]⟩ (Nat.le_of_ble_eq_true rfl) rfl ?_
            show Rn 115 [(3, .int (I 11 0 17)), (0, .ref (ad 11 0)), (1, .int c), (2, .int a)] [.int (pI (mRight (gs (gs (gs (gs I 12 22 ((I 11 0 17).toNatClampNeg) (pI (mAlarm I nv c a))) 12 19 ((I 11 0 17).toNatClampNeg) c) 12 20 ((I 11 0 17).toNatClampNeg) (I 11 0 1)) 12 21 ((I 11 0 17).toNatClampNeg) a) c)), .int (I 11 0 17), .ref (ad 12 18)] ad (cX E ad (gs (gs (gs (gs I 12 22 ((I 11 0 17).toNatClampNeg) (pI (mAlarm I nv c a))) 12 19 ((I 11 0 17).toNatClampNeg) c) 12 20 ((I 11 0 17).toNatClampNeg) (I 11 0 1)) 12 21 ((I 11 0 17).toNatClampNeg) a) F lc ln) 0 0
            rw [show pI (mRight (gs (gs (gs (gs I 12 22 ((I 11 0 17).toNatClampNeg) (pI (mAlarm I nv c a))) 12 19 ((I 11 0 17).toNatClampNeg) c) 12 20 ((I 11 0 17).toNatClampNeg) (I 11 0 1)) 12 21 ((I 11 0 17).toNatClampNeg) a) c) = pI (mRight I c) from by simp [mRight, gr, upd]]
            have K_115 : ∀ kd : Int32, kd = (if pI (mRight I c) = 0 then 0 else 1) → Rn 123 [(3, .int (I 11 0 17)), (0, .ref (ad 11 0)), (1, .int c), (2, .int a)] [.int kd, .int (I 11 0 17), .ref (ad 12 18)] ad (cX E ad (gs (gs (gs (gs I 12 22 ((I 11 0 17).toNatClampNeg) (pI (mAlarm I nv c a))) 12 19 ((I 11 0 17).toNatClampNeg) c) 12 20 ((I 11 0 17).toNatClampNeg) (I 11 0 1)) 12 21 ((I 11 0 17).toNatClampNeg) a) F lc ln) 0 0 := by
              intro kd e_kd
              refine x_iasp h.ok dX6_come_123 (fun _ => rfl) (vp_vis hv v500 c_58).1 ?_
              refine r_aload_n h.ok dX6_come_124 1 rfl ?_
              refine r_get h.ok 23 dX6_come_125 (xo_11 _) rfl inX6 (by decide) wfl_X6_69 rfl ?_
              refine r_iload_n h.ok dX6_come_128 0 rfl ?_
              refine r_bipush (v := (-9)) h.ok dX6_come_129 (by decide) ?_
              refine x_iasp h.ok dX6_come_131 (fun _ => rfl) (vp_vis hv v500 c_58).1 ?_
              refine r_aload_n h.ok dX6_come_132 1 rfl ?_
              refine r_get h.ok 24 dX6_come_133 (xo_11 _) rfl inX6 (by decide) wfl_X6_72 rfl ?_
              refine r_iload_n h.ok dX6_come_136 0 rfl ?_
              refine r_bipush (v := (-9)) h.ok dX6_come_137 (by decide) ?_
              refine x_iasp h.ok dX6_come_139 (fun _ => rfl) (vp_vis hv v500 c_58).1 ?_
              refine r_aload_n h.ok dX6_come_140 1 rfl ?_
              refine r_get h.ok 25 dX6_come_141 (xo_11 _) rfl inX6 (by decide) wfl_X6_75 rfl ?_
              refine r_iload_n h.ok dX6_come_144 0 rfl ?_
              refine r_bipush (v := (-9)) h.ok dX6_come_145 (by decide) ?_
              refine x_iasp h.ok dX6_come_147 (fun _ => rfl) (vp_vis hv v500 c_58).1 ?_
              refine r_aload_n h.ok dX6_come_148 1 rfl ?_
              refine r_get h.ok 26 dX6_come_149 (xo_11 _) rfl inX6 (by decide) wfl_X6_78 rfl ?_
              refine r_iload_n h.ok dX6_come_152 0 rfl ?_
              refine r_bipush (v := (-9)) h.ok dX6_come_153 (by decide) ?_
              refine x_iasp h.ok dX6_come_155 (fun _ => rfl) (vp_vis hv v500 c_58).1 ?_
              refine r_aload_n h.ok dX6_come_156 1 rfl ?_
              refine r_get h.ok 27 dX6_come_157 (xo_11 _) rfl inX6 (by decide) wfl_X6_81 rfl ?_
              refine r_iload_n h.ok dX6_come_160 0 rfl ?_
              refine r_bipush (v := (-9)) h.ok dX6_come_161 (by decide) ?_
              refine x_iasp h.ok dX6_come_163 (fun _ => rfl) (vp_vis hv v500 c_58).1 ?_
              refine r_aload_n h.ok dX6_come_164 1 rfl ?_
              refine r_get h.ok 28 dX6_come_165 (xo_11 _) rfl inX6 (by decide) wfl_X6_84 rfl ?_
              refine r_iload_n h.ok dX6_come_168 0 rfl ?_
              refine r_bipush (v := (-9)) h.ok dX6_come_169 (by decide) ?_
              refine x_iasp h.ok dX6_come_171 (fun _ => rfl) (vp_vis hv v500 c_58).1 ?_
              refine r_aload_n h.ok dX6_come_172 1 rfl ?_
              refine r_dup h.ok dX6_come_173 rfl ?_
              refine r_get (v := .int (I 11 0 17)) h.ok 17 dX6_come_174 (xo_11 _) rfl inX6 (by decide) wfl_X6_184 rfl ?_
              refine r_iconst (v := 1) h.ok dX6_come_177 (by decide) ?_
              refine r_iadd h.ok dX6_come_178 ?_
              refine r_put (ty := tyX6) h.ok 17 dX6_come_179 (xo_11 _) rfl inX6 tyX6_ok nmX6 (by decide) wfl_X6_184 rfl rfl rfl (by simp) (cX_put (r' := upd ((gs (gs (gs (gs (gs (gs (gs (gs (gs (gs (gs I 12 22 ((I 11 0 17).toNatClampNeg) (pI (mAlarm I nv c a))) 12 19 ((I 11 0 17).toNatClampNeg) c) 12 20 ((I 11 0 17).toNatClampNeg) (I 11 0 1)) 12 21 ((I 11 0 17).toNatClampNeg) a) 12 18 ((I 11 0 17).toNatClampNeg) kd) 12 23 ((I 11 0 17).toNatClampNeg) (-9)) 12 24 ((I 11 0 17).toNatClampNeg) (-9)) 12 25 ((I 11 0 17).toNatClampNeg) (-9)) 12 26 ((I 11 0 17).toNatClampNeg) (-9)) 12 27 ((I 11 0 17).toNatClampNeg) (-9)) 12 28 ((I 11 0 17).toNatClampNeg) (-9)) 11 0) 17 ((I 11 0 17) + 1)) (xo_11 _)) ?_
              refine r_aload_n h.ok dX6_come_182 1 rfl ?_
              refine r_get h.ok 16 dX6_come_183 (xo_11 _) rfl inX6 (by decide) wfl_X6_50 rfl ?_
              refine r_iload_n h.ok dX6_come_186 2 rfl ?_
              refine r_dup2 h.ok dX6_come_187 rfl rfl ?_
              refine x_ialp (v := I 12 16 c.toNatClampNeg) h.ok dX6_come_188 rfl (vp_mono (mNo_in hn h12 (pI_0.mp c_10)) h12) (by simp [gr]) ?_
              refine r_iconst (v := 1) h.ok dX6_come_189 (by decide) ?_
              refine r_iadd h.ok dX6_come_190 ?_
              refine x_iasp h.ok dX6_come_191 (fun _ => rfl) (vp_mono (mNo_in hn h12 (pI_0.mp c_10)) h12) ?_
              subst e_kd
              exact come_tail (nc := nc) (nv := nv + 1) (nw := nw + 1) (kd := if pI (mRight I c) = 0 then 0 else 1) (wv := I 11 0 29) h (vp_vis hv v500 c_58).1 (by simp [gr, upd]) (by simp [gr, upd]) (fun q => by rw [hw]; exact vp_in_nI (iw0 c_10 c_35 c_45) (by decide)) (fun q => MI_come hM0 c_10 c_58 (iw0 c_10 c_35 c_45)) (fun q => ⟨by unfold mCome_r; rw [if_pos c_10, if_neg c_24, if_neg c_35, if_pos c_45, if_neg c_58], rfl, by unfold mCome_I; rw [if_pos c_10, if_neg c_24, if_neg c_35, if_pos c_45, if_neg c_58, if_neg q]; rfl⟩) (fun q => ⟨by unfold mCome_r; rw [if_pos c_10, if_neg c_24, if_neg c_35, if_pos c_45, if_neg c_58], rfl, by unfold mCome_I; rw [if_pos c_10, if_neg c_24, if_neg c_35, if_pos c_45, if_neg c_58, if_pos q]; rfl⟩)
            refine r_if_eq h.ok 122 dX6_come_115 (by decide) (fun c_115 => ?_) (fun c_115 => ?_)
            · refine r_iconst (v := 0) h.ok dX6_come_122 (by decide) ?_
              exact K_115 _ (by simp [c_115])
            · refine r_iconst (v := 1) h.ok dX6_come_118 (by decide) ?_
              refine r_goto h.ok 123 dX6_come_119 (by decide) ?_
              exact K_115 _ (by simp [c_115])
          · refine r_bipush (v := (-4)) h.ok dX6_come_61 (by decide) ?_
            refine r_iret h dX6_come_63 ⟨by decide, by decide⟩ ⟨(by unfold mCome_r; simp only [if_pos c_10, if_neg c_24, if_neg c_35, if_pos c_45, if_pos c_58]), rfl, (by unfold mCome_I; simp only [if_pos c_10, if_neg c_24, if_neg c_35, if_pos c_45, if_pos c_58])⟩
        · refine r_bipush (v := (-3)) h.ok dX6_come_48 (by decide) ?_
          refine r_iret h dX6_come_50 ⟨by decide, by decide⟩ ⟨(by unfold mCome_r; simp only [if_pos c_10, if_neg c_24, if_neg c_35, if_neg c_45]), rfl, (by unfold mCome_I; simp only [if_pos c_10, if_neg c_24, if_neg c_35, if_neg c_45])⟩
    · refine r_bipush (v := (-2)) h.ok dX6_come_27 (by decide) ?_
      refine r_iret h dX6_come_29 ⟨by decide, by decide⟩ ⟨(by unfold mCome_r; simp only [if_pos c_10, if_pos c_24]), rfl, (by unfold mCome_I; simp only [if_pos c_10, if_pos c_24])⟩
  · refine r_iconst (v := (-1)) h.ok dX6_come_13 (by decide) ?_
    refine r_iret h dX6_come_14 ⟨by decide, by decide⟩ ⟨(by unfold mCome_r; simp only [if_neg c_10]), rfl, (by unfold mCome_I; simp only [if_neg c_10])⟩
