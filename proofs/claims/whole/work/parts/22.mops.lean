theorem mIn_in {w x : Int32} {n : Nat} (hw : w = nI n) (hn : n ≤ 1000) (h : mIn x 0 (w - 1)) : vp_in x n := by
  obtain ⟨h1, h2⟩ := h
  rw [hw] at h2
  rw [vp_in_iff]
  rw [Int32.lt_iff_toInt_lt] at h1 h2
  have e1 : (nI n - 1).toInt = (n : Int) - 1 := pk_sub_toInt (a := n) (b := 1) (by omega) (by decide)
  rw [e1] at h2
  have e0 : (0 : Int32).toInt = 0 := by decide
  rw [e0] at h1
  omega
theorem vp_lt {x : Int32} {n : Nat} (h : vp_in x n) : x.toNatClampNeg < n := Nat.not_le.mp fun q => h (Or.inr q)
theorem vp_eq {x : Int32} {n : Nat} (h : vp_in x n) : x = nI x.toNatClampNeg := by
  have h0 : ¬ x < 0 := fun q => h (Or.inl q)
  obtain ⟨j, hj, rfl⟩ := nI_of h0
  rw [nI_clamp hj]
theorem vp_cows {I : gI} {nc : Nat} (hn : I 11 0 3 = nI nc) (h12 : nc ≤ 12) (h : ¬ I 11 0 3 = 12) : vp_in (I 11 0 3) 12 := by
  rw [hn] at *
  refine vp_in_nI ?_ (by decide)
  rcases Nat.lt_or_ge nc 12 with q | q
  · exact q
  · exact absurd (show nI nc = 12 by rw [show nc = 12 by omega]; decide) h
theorem vp_teat {c t : Int32} (hc : vp_in c 12) (ht : mIn t 0 3) : vp_in (4 * c + t) 48 ∧ (4 * c + t).toNatClampNeg = 4 * c.toNatClampNeg + t.toNatClampNeg := by
  have h4 : vp_in t 4 := by
    obtain ⟨h1, h2⟩ := ht
    rw [vp_in_iff]
    rw [Int32.lt_iff_toInt_lt] at h1 h2
    have e0 : (0 : Int32).toInt = 0 := by decide
    have e3 : (3 : Int32).toInt = 3 := by decide
    rw [e0] at h1
    rw [e3] at h2
    omega
  have a1 := vp_lt hc
  have a2 := vp_lt h4
  rw [vp_eq hc, vp_eq h4]
  generalize c.toNatClampNeg = j at *
  generalize t.toNatClampNeg = q at *
  have e : (4 : Int32) * nI j + nI q = nI (4 * j + q) := by
    rw [show (4 : Int32) = nI 4 by decide, pk_mul, nI_add]
  rw [e, nI_clamp (by omega), nI_clamp (by omega), nI_clamp (by omega)]
  exact ⟨vp_in_nI (by omega) (by decide), rfl⟩
noncomputable def mCow_r (I : gI) (F : gF) (a b c d : Int32) : Int32 := (if (pI (mIn a 0 2)) = 0 then (-2) else (if (pI (mIn b 1 30)) = 0 then (-2) else (if (pI (mIn c 0 1440)) = 0 then (-2) else (if (pI (mIn d 0 5000)) = 0 then (-2) else (if (I 11 0 3) = 12 then (-4) else ((I 11 0 3) + 1) - 1)))))
noncomputable def mCow_I (I : gI) (F : gF) (a b c d : Int32) : gI := (if (pI (mIn a 0 2)) = 0 then I else (if (pI (mIn b 1 30)) = 0 then I else (if (pI (mIn c 0 1440)) = 0 then I else (if (pI (mIn d 0 5000)) = 0 then I else (if (I 11 0 3) = 12 then I else gs (gs (gs (gs (gs (gs (gs (gs I 12 4 ((I 11 0 3).toNatClampNeg) a) 12 5 ((I 11 0 3).toNatClampNeg) b) 12 6 ((I 11 0 3).toNatClampNeg) c) 12 7 ((I 11 0 3).toNatClampNeg) d) 12 8 ((I 11 0 3).toNatClampNeg) (I 11 0 1)) 12 10 ((I 11 0 3).toNatClampNeg) (-9)) 12 13 ((I 11 0 3).toNatClampNeg) (-9)) 11 0 3 ((I 11 0 3) + 1))))))
set_option maxHeartbeats 4000000 in
set_option maxRecDepth 100000 in
theorem c_X6_cow (D : va_G) (E : gEc) (ad : gAd) (I : gI) (F : gF) (lc ln : Nat) (a b c d : Int32) (ht : I 11 0 0 = 0) (nc : Nat) (hn : I 11 0 3 = nI nc) (h12 : nc ≤ 12) : gCon D E yX6_cow cX6_cow 5 (some .int) 1 0 0 [.ref (ad 11 0), .int a, .int b, .int c, .int d] ad (cX E ad I F lc ln) (gPd (some (.int (mCow_r I F a b c d))) ad (cX E ad (mCow_I I F a b c d) F lc ln)) := by
  refine gCon.of (by decide) (Nat.le_of_ble_eq_true rfl) ?_
  intro l A Rn h
  show Rn 0 [(0, .ref (ad 11 0)), (1, .int a), (2, .int b), (3, .int c), (4, .int d)] [] ad (cX E ad I F lc ln) 0 0
  refine r_aload_n h.ok dX6_cow_0 0 rfl ?_
  refine r_iconst (v := 0) h.ok dX6_cow_1 (by decide) ?_
  refine r_put (ty := tyX6) h.ok 0 dX6_cow_2 (xo_11 _) rfl inX6 tyX6_ok nmX6 (by decide) wfl_X6_97 rfl rfl rfl (by simp) (cX_thr ht) ?_
  refine r_iload_n h.ok dX6_cow_5 1 rfl ?_
  refine r_i2l h.ok dX6_cow_6 ?_
  refine r_lconst (v := Int32.toInt64 0) h.ok dX6_cow_7 (by decide) ?_
  refine r_ldc2 (v' := Int32.toInt64 2) h.ok dX6_cow_8 wk_X6_151 (by decide) ?_
  refine r_callS h.ok [.long (Int32.toInt64 a), .long (Int32.toInt64 0), .long (Int32.toInt64 2)] [] dX6_cow_11 (c_X6_in D E ad I F lc ln a 0 2) wml_X6_103 wst_X6_in win_X6 wco_X6_in yok_X6_in ⟨by decide, by decide, by simp [gRm], by simp [gRm]⟩ (Nat.le_of_ble_eq_true rfl) rfl ?_
  show Rn 14 [(0, .ref (ad 11 0)), (1, .int a), (2, .int b), (3, .int c), (4, .int d)] [.int (pI (mIn a 0 2))] ad (cX E ad I F lc ln) 0 0
  refine r_if_eq h.ok 54 dX6_cow_14 (by decide) (fun c_14 => ?_) (fun c_14 => ?_)
  · refine r_bipush (v := (-2)) h.ok dX6_cow_54 (by decide) ?_
    refine r_iret h dX6_cow_56 ⟨by decide, by decide⟩ ⟨(by unfold mCow_r; simp only [if_pos c_14]), rfl, (by unfold mCow_I; simp only [if_pos c_14])⟩
  · refine r_iload_n h.ok dX6_cow_17 2 rfl ?_
    refine r_i2l h.ok dX6_cow_18 ?_
    refine r_lconst (v := Int32.toInt64 1) h.ok dX6_cow_19 (by decide) ?_
    refine r_ldc2 (v' := Int32.toInt64 30) h.ok dX6_cow_20 wk_X6_153 (by decide) ?_
    refine r_callS h.ok [.long (Int32.toInt64 b), .long (Int32.toInt64 1), .long (Int32.toInt64 30)] [] dX6_cow_23 (c_X6_in D E ad I F lc ln b 1 30) wml_X6_103 wst_X6_in win_X6 wco_X6_in yok_X6_in ⟨by decide, by decide, by simp [gRm], by simp [gRm]⟩ (Nat.le_of_ble_eq_true rfl) rfl ?_
    show Rn 26 [(0, .ref (ad 11 0)), (1, .int a), (2, .int b), (3, .int c), (4, .int d)] [.int (pI (mIn b 1 30))] ad (cX E ad I F lc ln) 0 0
    refine r_if_eq h.ok 54 dX6_cow_26 (by decide) (fun c_26 => ?_) (fun c_26 => ?_)
    · refine r_bipush (v := (-2)) h.ok dX6_cow_54 (by decide) ?_
      refine r_iret h dX6_cow_56 ⟨by decide, by decide⟩ ⟨(by unfold mCow_r; simp only [if_neg c_14, if_pos c_26]), rfl, (by unfold mCow_I; simp only [if_neg c_14, if_pos c_26])⟩
    · refine r_iload_n h.ok dX6_cow_29 3 rfl ?_
      refine r_i2l h.ok dX6_cow_30 ?_
      refine r_lconst (v := Int32.toInt64 0) h.ok dX6_cow_31 (by decide) ?_
      refine r_ldc2 (v' := Int32.toInt64 1440) h.ok dX6_cow_32 wk_X6_155 (by decide) ?_
      refine r_callS h.ok [.long (Int32.toInt64 c), .long (Int32.toInt64 0), .long (Int32.toInt64 1440)] [] dX6_cow_35 (c_X6_in D E ad I F lc ln c 0 1440) wml_X6_103 wst_X6_in win_X6 wco_X6_in yok_X6_in ⟨by decide, by decide, by simp [gRm], by simp [gRm]⟩ (Nat.le_of_ble_eq_true rfl) rfl ?_
      show Rn 38 [(0, .ref (ad 11 0)), (1, .int a), (2, .int b), (3, .int c), (4, .int d)] [.int (pI (mIn c 0 1440))] ad (cX E ad I F lc ln) 0 0
      refine r_if_eq h.ok 54 dX6_cow_38 (by decide) (fun c_38 => ?_) (fun c_38 => ?_)
      · refine r_bipush (v := (-2)) h.ok dX6_cow_54 (by decide) ?_
        refine r_iret h dX6_cow_56 ⟨by decide, by decide⟩ ⟨(by unfold mCow_r; simp only [if_neg c_14, if_neg c_26, if_pos c_38]), rfl, (by unfold mCow_I; simp only [if_neg c_14, if_neg c_26, if_pos c_38])⟩
      · refine r_iload h.ok dX6_cow_41 4 rfl ?_
        refine r_i2l h.ok dX6_cow_43 ?_
        refine r_lconst (v := Int32.toInt64 0) h.ok dX6_cow_44 (by decide) ?_
        refine r_ldc2 (v' := Int32.toInt64 5000) h.ok dX6_cow_45 wk_X6_157 (by decide) ?_
        refine r_callS h.ok [.long (Int32.toInt64 d), .long (Int32.toInt64 0), .long (Int32.toInt64 5000)] [] dX6_cow_48 (c_X6_in D E ad I F lc ln d 0 5000) wml_X6_103 wst_X6_in win_X6 wco_X6_in yok_X6_in ⟨by decide, by decide, by simp [gRm], by simp [gRm]⟩ (Nat.le_of_ble_eq_true rfl) rfl ?_
        show Rn 51 [(0, .ref (ad 11 0)), (1, .int a), (2, .int b), (3, .int c), (4, .int d)] [.int (pI (mIn d 0 5000))] ad (cX E ad I F lc ln) 0 0
        refine r_if_ne h.ok 57 dX6_cow_51 (by decide) (fun c_51 => ?_) (fun c_51 => ?_)
        · refine r_aload_n h.ok dX6_cow_57 0 rfl ?_
          refine r_get (v := .int (I 11 0 3)) h.ok 3 dX6_cow_58 (xo_11 _) rfl inX6 (by decide) wfl_X6_100 rfl ?_
          refine r_bipush (v := 12) h.ok dX6_cow_61 (by decide) ?_
          refine r_icmp_ne h.ok 69 dX6_cow_63 (by decide) (fun c_63 => ?_) (fun c_63 => ?_)
          · refine r_aload_n h.ok dX6_cow_69 0 rfl ?_
            refine r_get h.ok 4 dX6_cow_70 (xo_11 _) rfl inX6 (by decide) wfl_X6_13 rfl ?_
            refine r_aload_n h.ok dX6_cow_73 0 rfl ?_
            refine r_get (v := .int (I 11 0 3)) h.ok 3 dX6_cow_74 (xo_11 _) rfl inX6 (by decide) wfl_X6_100 rfl ?_
            refine r_iload_n h.ok dX6_cow_77 1 rfl ?_
            refine x_iasp h.ok dX6_cow_78 (fun _ => rfl) (vp_cows hn h12 c_63) ?_
            refine r_aload_n h.ok dX6_cow_79 0 rfl ?_
            refine r_get h.ok 5 dX6_cow_80 (xo_11 _) rfl inX6 (by decide) wfl_X6_17 rfl ?_
            refine r_aload_n h.ok dX6_cow_83 0 rfl ?_
            refine r_get (v := .int (I 11 0 3)) h.ok 3 dX6_cow_84 (xo_11 _) rfl inX6 (by decide) wfl_X6_100 rfl ?_
            refine r_iload_n h.ok dX6_cow_87 2 rfl ?_
            refine x_iasp h.ok dX6_cow_88 (fun _ => rfl) (vp_cows hn h12 c_63) ?_
            refine r_aload_n h.ok dX6_cow_89 0 rfl ?_
            refine r_get h.ok 6 dX6_cow_90 (xo_11 _) rfl inX6 (by decide) wfl_X6_20 rfl ?_
            refine r_aload_n h.ok dX6_cow_93 0 rfl ?_
            refine r_get (v := .int (I 11 0 3)) h.ok 3 dX6_cow_94 (xo_11 _) rfl inX6 (by decide) wfl_X6_100 rfl ?_
            refine r_iload_n h.ok dX6_cow_97 3 rfl ?_
            refine x_iasp h.ok dX6_cow_98 (fun _ => rfl) (vp_cows hn h12 c_63) ?_
            refine r_aload_n h.ok dX6_cow_99 0 rfl ?_
            refine r_get h.ok 7 dX6_cow_100 (xo_11 _) rfl inX6 (by decide) wfl_X6_23 rfl ?_
            refine r_aload_n h.ok dX6_cow_103 0 rfl ?_
            refine r_get (v := .int (I 11 0 3)) h.ok 3 dX6_cow_104 (xo_11 _) rfl inX6 (by decide) wfl_X6_100 rfl ?_
            refine r_iload h.ok dX6_cow_107 4 rfl ?_
            refine x_iasp h.ok dX6_cow_109 (fun _ => rfl) (vp_cows hn h12 c_63) ?_
            refine r_aload_n h.ok dX6_cow_110 0 rfl ?_
            refine r_get h.ok 8 dX6_cow_111 (xo_11 _) rfl inX6 (by decide) wfl_X6_26 rfl ?_
            refine r_aload_n h.ok dX6_cow_114 0 rfl ?_
            refine r_get (v := .int (I 11 0 3)) h.ok 3 dX6_cow_115 (xo_11 _) rfl inX6 (by decide) wfl_X6_100 rfl ?_
            refine r_aload_n h.ok dX6_cow_118 0 rfl ?_
            refine r_get (v := .int (I 11 0 1)) h.ok 1 dX6_cow_119 (xo_11 _) rfl inX6 (by decide) wfl_X6_107 rfl ?_
            refine x_iasp h.ok dX6_cow_122 (fun _ => rfl) (vp_cows hn h12 c_63) ?_
            refine r_aload_n h.ok dX6_cow_123 0 rfl ?_
            refine r_get h.ok 10 dX6_cow_124 (xo_11 _) rfl inX6 (by decide) wfl_X6_32 rfl ?_
            refine r_aload_n h.ok dX6_cow_127 0 rfl ?_
            refine r_get (v := .int (I 11 0 3)) h.ok 3 dX6_cow_128 (xo_11 _) rfl inX6 (by decide) wfl_X6_100 rfl ?_
            refine r_bipush (v := (-9)) h.ok dX6_cow_131 (by decide) ?_
            refine x_iasp h.ok dX6_cow_133 (fun _ => rfl) (vp_cows hn h12 c_63) ?_
            refine r_aload_n h.ok dX6_cow_134 0 rfl ?_
            refine r_get h.ok 13 dX6_cow_135 (xo_11 _) rfl inX6 (by decide) wfl_X6_41 rfl ?_
            refine r_aload_n h.ok dX6_cow_138 0 rfl ?_
            refine r_get (v := .int (I 11 0 3)) h.ok 3 dX6_cow_139 (xo_11 _) rfl inX6 (by decide) wfl_X6_100 rfl ?_
            refine r_bipush (v := (-9)) h.ok dX6_cow_142 (by decide) ?_
            refine x_iasp h.ok dX6_cow_144 (fun _ => rfl) (vp_cows hn h12 c_63) ?_
            refine r_aload_n h.ok dX6_cow_145 0 rfl ?_
            refine r_dup h.ok dX6_cow_146 rfl ?_
            refine r_get (v := .int (I 11 0 3)) h.ok 3 dX6_cow_147 (xo_11 _) rfl inX6 (by decide) wfl_X6_100 rfl ?_
            refine r_iconst (v := 1) h.ok dX6_cow_150 (by decide) ?_
            refine r_iadd h.ok dX6_cow_151 ?_
            refine r_put (ty := tyX6) h.ok 3 dX6_cow_152 (xo_11 _) rfl inX6 tyX6_ok nmX6 (by decide) wfl_X6_100 rfl rfl rfl (by simp) (cX_put (r' := upd ((gs (gs (gs (gs (gs (gs (gs I 12 4 ((I 11 0 3).toNatClampNeg) a) 12 5 ((I 11 0 3).toNatClampNeg) b) 12 6 ((I 11 0 3).toNatClampNeg) c) 12 7 ((I 11 0 3).toNatClampNeg) d) 12 8 ((I 11 0 3).toNatClampNeg) (I 11 0 1)) 12 10 ((I 11 0 3).toNatClampNeg) (-9)) 12 13 ((I 11 0 3).toNatClampNeg) (-9)) 11 0) 3 ((I 11 0 3) + 1)) (xo_11 _)) ?_
            refine r_aload_n h.ok dX6_cow_155 0 rfl ?_
            refine r_get (v := .int ((I 11 0 3) + 1)) h.ok 3 dX6_cow_156 (xo_11 _) rfl inX6 (by decide) wfl_X6_100 (congrArg (fun z => some (Value.int z)) (by simp [gr, upd] : (gs (gs (gs (gs (gs (gs (gs (gs I 12 4 ((I 11 0 3).toNatClampNeg) a) 12 5 ((I 11 0 3).toNatClampNeg) b) 12 6 ((I 11 0 3).toNatClampNeg) c) 12 7 ((I 11 0 3).toNatClampNeg) d) 12 8 ((I 11 0 3).toNatClampNeg) (I 11 0 1)) 12 10 ((I 11 0 3).toNatClampNeg) (-9)) 12 13 ((I 11 0 3).toNatClampNeg) (-9)) 11 0 3 ((I 11 0 3) + 1)) 11 0 3 = (I 11 0 3) + 1)) ?_
            refine r_iconst (v := 1) h.ok dX6_cow_159 (by decide) ?_
            refine r_isub h.ok dX6_cow_160 ?_
            refine r_iret h dX6_cow_161 ⟨by decide, by decide⟩ ⟨(by unfold mCow_r; simp only [if_neg c_14, if_neg c_26, if_neg c_38, if_neg c_51, if_neg c_63]), rfl, (by unfold mCow_I; simp only [if_neg c_14, if_neg c_26, if_neg c_38, if_neg c_51, if_neg c_63])⟩
          · refine r_bipush (v := (-4)) h.ok dX6_cow_66 (by decide) ?_
            refine r_iret h dX6_cow_68 ⟨by decide, by decide⟩ ⟨(by unfold mCow_r; simp only [if_neg c_14, if_neg c_26, if_neg c_38, if_neg c_51, if_pos c_63]), rfl, (by unfold mCow_I; simp only [if_neg c_14, if_neg c_26, if_neg c_38, if_neg c_51, if_pos c_63])⟩
        · refine r_bipush (v := (-2)) h.ok dX6_cow_54 (by decide) ?_
          refine r_iret h dX6_cow_56 ⟨by decide, by decide⟩ ⟨(by unfold mCow_r; simp only [if_neg c_14, if_neg c_26, if_neg c_38, if_pos c_51]), rfl, (by unfold mCow_I; simp only [if_neg c_14, if_neg c_26, if_neg c_38, if_pos c_51])⟩
noncomputable def mTaken_r (I : gI) (F : gF) (c a b : Int32) : Int32 := (if (pI (mNo I c)) = 0 then (if (pI (mIn a 0 2)) = 0 then (-2) else (if (pI (mIn b 0 3)) = 0 then (-2) else (if a = 0 then (if b = 0 then I 12 4 c.toNatClampNeg else (if b = 1 then I 12 5 c.toNatClampNeg else (if b = 2 then I 12 6 c.toNatClampNeg else I 12 7 c.toNatClampNeg))) else (if (I 12 4 c.toNatClampNeg) = a then (if b = 0 then I 12 4 c.toNatClampNeg else (if b = 1 then I 12 5 c.toNatClampNeg else (if b = 2 then I 12 6 c.toNatClampNeg else I 12 7 c.toNatClampNeg))) else (-13))))) else (-1))
set_option maxHeartbeats 4000000 in
set_option maxRecDepth 100000 in
theorem c_X6_taken (D : va_G) (E : gEc) (ad : gAd) (I : gI) (F : gF) (lc ln : Nat) (c a b : Int32) (ht : I 11 0 0 = 0) (nc : Nat) (hn : I 11 0 3 = nI nc) (h12 : nc ≤ 12) : gCon D E yX6_taken cX6_taken 4 (some .int) 2 0 0 [.ref (ad 11 0), .int c, .int a, .int b] ad (cX E ad I F lc ln) (gPd (some (.int (mTaken_r I F c a b))) ad (cX E ad I F lc ln)) := by
  refine gCon.of (by decide) (Nat.le_of_ble_eq_true rfl) ?_
  intro l A Rn h
  show Rn 0 [(0, .ref (ad 11 0)), (1, .int c), (2, .int a), (3, .int b)] [] ad (cX E ad I F lc ln) 0 0
  refine r_aload_n h.ok dX6_taken_0 0 rfl ?_
  refine r_iconst (v := 0) h.ok dX6_taken_1 (by decide) ?_
  refine r_put (ty := tyX6) h.ok 0 dX6_taken_2 (xo_11 _) rfl inX6 tyX6_ok nmX6 (by decide) wfl_X6_97 rfl rfl rfl (by simp) (cX_thr ht) ?_
  refine r_aload_n h.ok dX6_taken_5 0 rfl ?_
  refine r_iload_n h.ok dX6_taken_6 1 rfl ?_
  refine r_callV h.ok [.int c] [] dX6_taken_7 (c_X6_noCow D E ad I F lc ln c) wml_X6_159 wim_X6_noCow wse_X6_noCow win_X6 wco_X6_noCow yok_X6_noCow (xo_11 _) rfl rfl ⟨by decide, by decide, by simp [gRm], by simp [gRm]⟩ (Nat.le_of_ble_eq_true rfl) rfl ?_
  show Rn 10 [(0, .ref (ad 11 0)), (1, .int c), (2, .int a), (3, .int b)] [.int (pI (mNo I c))] ad (cX E ad I F lc ln) 0 0
  refine r_if_eq h.ok 15 dX6_taken_10 (by decide) (fun c_10 => ?_) (fun c_10 => ?_)
  · refine r_iload_n h.ok dX6_taken_15 2 rfl ?_
    refine r_i2l h.ok dX6_taken_16 ?_
    refine r_lconst (v := Int32.toInt64 0) h.ok dX6_taken_17 (by decide) ?_
    refine r_ldc2 (v' := Int32.toInt64 2) h.ok dX6_taken_18 wk_X6_151 (by decide) ?_
    refine r_callS h.ok [.long (Int32.toInt64 a), .long (Int32.toInt64 0), .long (Int32.toInt64 2)] [] dX6_taken_21 (c_X6_in D E ad I F lc ln a 0 2) wml_X6_103 wst_X6_in win_X6 wco_X6_in yok_X6_in ⟨by decide, by decide, by simp [gRm], by simp [gRm]⟩ (Nat.le_of_ble_eq_true rfl) rfl ?_
    show Rn 24 [(0, .ref (ad 11 0)), (1, .int c), (2, .int a), (3, .int b)] [.int (pI (mIn a 0 2))] ad (cX E ad I F lc ln) 0 0
    refine r_if_eq h.ok 39 dX6_taken_24 (by decide) (fun c_24 => ?_) (fun c_24 => ?_)
    · refine r_bipush (v := (-2)) h.ok dX6_taken_39 (by decide) ?_
      refine r_iret h dX6_taken_41 ⟨by decide, by decide⟩ ⟨(by unfold mTaken_r; simp only [if_pos c_10, if_pos c_24]), rfl, rfl⟩
    · refine r_iload_n h.ok dX6_taken_27 3 rfl ?_
      refine r_i2l h.ok dX6_taken_28 ?_
      refine r_lconst (v := Int32.toInt64 0) h.ok dX6_taken_29 (by decide) ?_
      refine r_ldc2 (v' := Int32.toInt64 3) h.ok dX6_taken_30 wk_X6_163 (by decide) ?_
      refine r_callS h.ok [.long (Int32.toInt64 b), .long (Int32.toInt64 0), .long (Int32.toInt64 3)] [] dX6_taken_33 (c_X6_in D E ad I F lc ln b 0 3) wml_X6_103 wst_X6_in win_X6 wco_X6_in yok_X6_in ⟨by decide, by decide, by simp [gRm], by simp [gRm]⟩ (Nat.le_of_ble_eq_true rfl) rfl ?_
      show Rn 36 [(0, .ref (ad 11 0)), (1, .int c), (2, .int a), (3, .int b)] [.int (pI (mIn b 0 3))] ad (cX E ad I F lc ln) 0 0
      refine r_if_ne h.ok 42 dX6_taken_36 (by decide) (fun c_36 => ?_) (fun c_36 => ?_)
      · refine r_iload_n h.ok dX6_taken_42 2 rfl ?_
        refine r_if_eq h.ok 59 dX6_taken_43 (by decide) (fun c_43 => ?_) (fun c_43 => ?_)
        · refine r_iload_n h.ok dX6_taken_59 3 rfl ?_
          refine r_if_ne h.ok 72 dX6_taken_60 (by decide) (fun c_60 => ?_) (fun c_60 => ?_)
          · refine r_iload_n h.ok dX6_taken_72 3 rfl ?_
            refine r_iconst (v := 1) h.ok dX6_taken_73 (by decide) ?_
            refine r_icmp_ne h.ok 86 dX6_taken_74 (by decide) (fun c_74 => ?_) (fun c_74 => ?_)
            · refine r_iload_n h.ok dX6_taken_86 3 rfl ?_
              refine r_iconst (v := 2) h.ok dX6_taken_87 (by decide) ?_
              refine r_icmp_ne h.ok 100 dX6_taken_88 (by decide) (fun c_88 => ?_) (fun c_88 => ?_)
              · refine r_aload_n h.ok dX6_taken_100 0 rfl ?_
                refine r_get h.ok 7 dX6_taken_101 (xo_11 _) rfl inX6 (by decide) wfl_X6_23 rfl ?_
                refine r_iload_n h.ok dX6_taken_104 1 rfl ?_
                refine x_ialp (v := I 12 7 c.toNatClampNeg) h.ok dX6_taken_105 rfl (vp_mono (mNo_in hn h12 (pI_0.mp c_10)) h12) rfl ?_
                refine r_iret h dX6_taken_106 ⟨by decide, by decide⟩ ⟨(by unfold mTaken_r; simp only [if_pos c_10, if_neg c_24, if_neg c_36, if_pos c_43, if_neg c_60, if_neg c_74, if_neg c_88]), rfl, rfl⟩
              · refine r_aload_n h.ok dX6_taken_91 0 rfl ?_
                refine r_get h.ok 6 dX6_taken_92 (xo_11 _) rfl inX6 (by decide) wfl_X6_20 rfl ?_
                refine r_iload_n h.ok dX6_taken_95 1 rfl ?_
                refine x_ialp (v := I 12 6 c.toNatClampNeg) h.ok dX6_taken_96 rfl (vp_mono (mNo_in hn h12 (pI_0.mp c_10)) h12) rfl ?_
                refine r_goto h.ok 106 dX6_taken_97 (by decide) ?_
                refine r_iret h dX6_taken_106 ⟨by decide, by decide⟩ ⟨(by unfold mTaken_r; simp only [if_pos c_10, if_neg c_24, if_neg c_36, if_pos c_43, if_neg c_60, if_neg c_74, if_pos c_88]), rfl, rfl⟩
            · refine r_aload_n h.ok dX6_taken_77 0 rfl ?_
              refine r_get h.ok 5 dX6_taken_78 (xo_11 _) rfl inX6 (by decide) wfl_X6_17 rfl ?_
              refine r_iload_n h.ok dX6_taken_81 1 rfl ?_
              refine x_ialp (v := I 12 5 c.toNatClampNeg) h.ok dX6_taken_82 rfl (vp_mono (mNo_in hn h12 (pI_0.mp c_10)) h12) rfl ?_
              refine r_goto h.ok 106 dX6_taken_83 (by decide) ?_
              refine r_iret h dX6_taken_106 ⟨by decide, by decide⟩ ⟨(by unfold mTaken_r; simp only [if_pos c_10, if_neg c_24, if_neg c_36, if_pos c_43, if_neg c_60, if_pos c_74]), rfl, rfl⟩
          · refine r_aload_n h.ok dX6_taken_63 0 rfl ?_
            refine r_get h.ok 4 dX6_taken_64 (xo_11 _) rfl inX6 (by decide) wfl_X6_13 rfl ?_
            refine r_iload_n h.ok dX6_taken_67 1 rfl ?_
            refine x_ialp (v := I 12 4 c.toNatClampNeg) h.ok dX6_taken_68 rfl (vp_mono (mNo_in hn h12 (pI_0.mp c_10)) h12) rfl ?_
            refine r_goto h.ok 106 dX6_taken_69 (by decide) ?_
            refine r_iret h dX6_taken_106 ⟨by decide, by decide⟩ ⟨(by unfold mTaken_r; simp only [if_pos c_10, if_neg c_24, if_neg c_36, if_pos c_43, if_pos c_60]), rfl, rfl⟩
        · refine r_aload_n h.ok dX6_taken_46 0 rfl ?_
          refine r_get h.ok 4 dX6_taken_47 (xo_11 _) rfl inX6 (by decide) wfl_X6_13 rfl ?_
          refine r_iload_n h.ok dX6_taken_50 1 rfl ?_
          refine x_ialp (v := I 12 4 c.toNatClampNeg) h.ok dX6_taken_51 rfl (vp_mono (mNo_in hn h12 (pI_0.mp c_10)) h12) rfl ?_
          refine r_iload_n h.ok dX6_taken_52 2 rfl ?_
          refine r_icmp_eq h.ok 59 dX6_taken_53 (by decide) (fun c_53 => ?_) (fun c_53 => ?_)
          · refine r_iload_n h.ok dX6_taken_59 3 rfl ?_
            refine r_if_ne h.ok 72 dX6_taken_60 (by decide) (fun c_60 => ?_) (fun c_60 => ?_)
            · refine r_iload_n h.ok dX6_taken_72 3 rfl ?_
              refine r_iconst (v := 1) h.ok dX6_taken_73 (by decide) ?_
              refine r_icmp_ne h.ok 86 dX6_taken_74 (by decide) (fun c_74 => ?_) (fun c_74 => ?_)
              · refine r_iload_n h.ok dX6_taken_86 3 rfl ?_
                refine r_iconst (v := 2) h.ok dX6_taken_87 (by decide) ?_
                refine r_icmp_ne h.ok 100 dX6_taken_88 (by decide) (fun c_88 => ?_) (fun c_88 => ?_)
                · refine r_aload_n h.ok dX6_taken_100 0 rfl ?_
                  refine r_get h.ok 7 dX6_taken_101 (xo_11 _) rfl inX6 (by decide) wfl_X6_23 rfl ?_
                  refine r_iload_n h.ok dX6_taken_104 1 rfl ?_
                  refine x_ialp (v := I 12 7 c.toNatClampNeg) h.ok dX6_taken_105 rfl (vp_mono (mNo_in hn h12 (pI_0.mp c_10)) h12) rfl ?_
                  refine r_iret h dX6_taken_106 ⟨by decide, by decide⟩ ⟨(by unfold mTaken_r; simp only [if_pos c_10, if_neg c_24, if_neg c_36, if_neg c_43, if_pos c_53, if_neg c_60, if_neg c_74, if_neg c_88]), rfl, rfl⟩
                · refine r_aload_n h.ok dX6_taken_91 0 rfl ?_
                  refine r_get h.ok 6 dX6_taken_92 (xo_11 _) rfl inX6 (by decide) wfl_X6_20 rfl ?_
                  refine r_iload_n h.ok dX6_taken_95 1 rfl ?_
                  refine x_ialp (v := I 12 6 c.toNatClampNeg) h.ok dX6_taken_96 rfl (vp_mono (mNo_in hn h12 (pI_0.mp c_10)) h12) rfl ?_
                  refine r_goto h.ok 106 dX6_taken_97 (by decide) ?_
                  refine r_iret h dX6_taken_106 ⟨by decide, by decide⟩ ⟨(by unfold mTaken_r; simp only [if_pos c_10, if_neg c_24, if_neg c_36, if_neg c_43, if_pos c_53, if_neg c_60, if_neg c_74, if_pos c_88]), rfl, rfl⟩
              · refine r_aload_n h.ok dX6_taken_77 0 rfl ?_
                refine r_get h.ok 5 dX6_taken_78 (xo_11 _) rfl inX6 (by decide) wfl_X6_17 rfl ?_
                refine r_iload_n h.ok dX6_taken_81 1 rfl ?_
                refine x_ialp (v := I 12 5 c.toNatClampNeg) h.ok dX6_taken_82 rfl (vp_mono (mNo_in hn h12 (pI_0.mp c_10)) h12) rfl ?_
                refine r_goto h.ok 106 dX6_taken_83 (by decide) ?_
                refine r_iret h dX6_taken_106 ⟨by decide, by decide⟩ ⟨(by unfold mTaken_r; simp only [if_pos c_10, if_neg c_24, if_neg c_36, if_neg c_43, if_pos c_53, if_neg c_60, if_pos c_74]), rfl, rfl⟩
            · refine r_aload_n h.ok dX6_taken_63 0 rfl ?_
              refine r_get h.ok 4 dX6_taken_64 (xo_11 _) rfl inX6 (by decide) wfl_X6_13 rfl ?_
              refine r_iload_n h.ok dX6_taken_67 1 rfl ?_
              refine x_ialp (v := I 12 4 c.toNatClampNeg) h.ok dX6_taken_68 rfl (vp_mono (mNo_in hn h12 (pI_0.mp c_10)) h12) rfl ?_
              refine r_goto h.ok 106 dX6_taken_69 (by decide) ?_
              refine r_iret h dX6_taken_106 ⟨by decide, by decide⟩ ⟨(by unfold mTaken_r; simp only [if_pos c_10, if_neg c_24, if_neg c_36, if_neg c_43, if_pos c_53, if_pos c_60]), rfl, rfl⟩
          · refine r_bipush (v := (-13)) h.ok dX6_taken_56 (by decide) ?_
            refine r_iret h dX6_taken_58 ⟨by decide, by decide⟩ ⟨(by unfold mTaken_r; simp only [if_pos c_10, if_neg c_24, if_neg c_36, if_neg c_43, if_neg c_53]), rfl, rfl⟩
      · refine r_bipush (v := (-2)) h.ok dX6_taken_39 (by decide) ?_
        refine r_iret h dX6_taken_41 ⟨by decide, by decide⟩ ⟨(by unfold mTaken_r; simp only [if_pos c_10, if_neg c_24, if_pos c_36]), rfl, rfl⟩
  · refine r_iconst (v := (-1)) h.ok dX6_taken_13 (by decide) ?_
    refine r_iret h dX6_taken_14 ⟨by decide, by decide⟩ ⟨(by unfold mTaken_r; simp only [if_neg c_10]), rfl, rfl⟩
noncomputable def mWithhold_r (I : gI) (F : gF) (c a : Int32) : Int32 := (if (pI (mNo I c)) = 0 then (if (pI (mIn a 0 200000)) = 0 then (-2) else I 12 11 c.toNatClampNeg) else (-1))
noncomputable def mWithhold_I (I : gI) (F : gF) (c a : Int32) : gI := (if (pI (mNo I c)) = 0 then (if (pI (mIn a 0 200000)) = 0 then I else gs I 12 11 c.toNatClampNeg a) else I)
set_option maxHeartbeats 4000000 in
set_option maxRecDepth 100000 in
theorem c_X6_withhold (D : va_G) (E : gEc) (ad : gAd) (I : gI) (F : gF) (lc ln : Nat) (c a : Int32) (ht : I 11 0 0 = 0) (nc : Nat) (hn : I 11 0 3 = nI nc) (h12 : nc ≤ 12) : gCon D E yX6_withhold cX6_withhold 4 (some .int) 2 0 0 [.ref (ad 11 0), .int c, .int a] ad (cX E ad I F lc ln) (gPd (some (.int (mWithhold_r I F c a))) ad (cX E ad (mWithhold_I I F c a) F lc ln)) := by
  refine gCon.of (by decide) (Nat.le_of_ble_eq_true rfl) ?_
  intro l A Rn h
  show Rn 0 [(0, .ref (ad 11 0)), (1, .int c), (2, .int a)] [] ad (cX E ad I F lc ln) 0 0
  refine r_aload_n h.ok dX6_withhold_0 0 rfl ?_
  refine r_iconst (v := 0) h.ok dX6_withhold_1 (by decide) ?_
  refine r_put (ty := tyX6) h.ok 0 dX6_withhold_2 (xo_11 _) rfl inX6 tyX6_ok nmX6 (by decide) wfl_X6_97 rfl rfl rfl (by simp) (cX_thr ht) ?_
  refine r_aload_n h.ok dX6_withhold_5 0 rfl ?_
  refine r_iload_n h.ok dX6_withhold_6 1 rfl ?_
  refine r_callV h.ok [.int c] [] dX6_withhold_7 (c_X6_noCow D E ad I F lc ln c) wml_X6_159 wim_X6_noCow wse_X6_noCow win_X6 wco_X6_noCow yok_X6_noCow (xo_11 _) rfl rfl ⟨by decide, by decide, by simp [gRm], by simp [gRm]⟩ (Nat.le_of_ble_eq_true rfl) rfl ?_
  show Rn 10 [(0, .ref (ad 11 0)), (1, .int c), (2, .int a)] [.int (pI (mNo I c))] ad (cX E ad I F lc ln) 0 0
  refine r_if_eq h.ok 15 dX6_withhold_10 (by decide) (fun c_10 => ?_) (fun c_10 => ?_)
  · refine r_iload_n h.ok dX6_withhold_15 2 rfl ?_
    refine r_i2l h.ok dX6_withhold_16 ?_
    refine r_lconst (v := Int32.toInt64 0) h.ok dX6_withhold_17 (by decide) ?_
    refine r_ldc2 (v' := Int32.toInt64 200000) h.ok dX6_withhold_18 wk_X6_165 (by decide) ?_
    refine r_callS h.ok [.long (Int32.toInt64 a), .long (Int32.toInt64 0), .long (Int32.toInt64 200000)] [] dX6_withhold_21 (c_X6_in D E ad I F lc ln a 0 200000) wml_X6_103 wst_X6_in win_X6 wco_X6_in yok_X6_in ⟨by decide, by decide, by simp [gRm], by simp [gRm]⟩ (Nat.le_of_ble_eq_true rfl) rfl ?_
    show Rn 24 [(0, .ref (ad 11 0)), (1, .int c), (2, .int a)] [.int (pI (mIn a 0 200000))] ad (cX E ad I F lc ln) 0 0
    refine r_if_ne h.ok 30 dX6_withhold_24 (by decide) (fun c_24 => ?_) (fun c_24 => ?_)
    · refine r_aload_n h.ok dX6_withhold_30 0 rfl ?_
      refine r_get h.ok 11 dX6_withhold_31 (xo_11 _) rfl inX6 (by decide) wfl_X6_35 rfl ?_
      refine r_iload_n h.ok dX6_withhold_34 1 rfl ?_
      refine x_ialp (v := I 12 11 c.toNatClampNeg) h.ok dX6_withhold_35 rfl (vp_mono (mNo_in hn h12 (pI_0.mp c_10)) h12) rfl ?_
      refine r_istore_n (lv' := [(3, .int (I 12 11 c.toNatClampNeg)), (0, .ref (ad 11 0)), (1, .int c), (2, .int a)]) h.ok dX6_withhold_36 (by decide) rfl ?_
      refine r_aload_n h.ok dX6_withhold_37 1 rfl ?_
      refine r_get h.ok 11 dX6_withhold_38 (xo_11 _) rfl inX6 (by decide) wfl_X6_35 rfl ?_
      refine r_iload_n h.ok dX6_withhold_41 2 rfl ?_
      refine r_iload_n h.ok dX6_withhold_42 3 rfl ?_
      refine x_iasp h.ok dX6_withhold_43 (fun _ => rfl) (vp_mono (mNo_in hn h12 (pI_0.mp c_10)) h12) ?_
      refine r_iload_n h.ok dX6_withhold_44 0 rfl ?_
      refine r_iret h dX6_withhold_45 ⟨by decide, by decide⟩ ⟨(by unfold mWithhold_r; simp only [if_pos c_10, if_neg c_24]), rfl, (by unfold mWithhold_I; simp only [if_pos c_10, if_neg c_24])⟩
    · refine r_bipush (v := (-2)) h.ok dX6_withhold_27 (by decide) ?_
      refine r_iret h dX6_withhold_29 ⟨by decide, by decide⟩ ⟨(by unfold mWithhold_r; simp only [if_pos c_10, if_pos c_24]), rfl, (by unfold mWithhold_I; simp only [if_pos c_10, if_pos c_24])⟩
  · refine r_iconst (v := (-1)) h.ok dX6_withhold_13 (by decide) ?_
    refine r_iret h dX6_withhold_14 ⟨by decide, by decide⟩ ⟨(by unfold mWithhold_r; simp only [if_neg c_10]), rfl, (by unfold mWithhold_I; simp only [if_neg c_10])⟩
noncomputable def mTrouble_r (I : gI) (F : gF) (c a b : Int32) : Int32 := (if (pI (mNo I c)) = 0 then (if (pI (mIn a 0 3)) = 0 then (-1) else (if (pI (mIn b 0 9)) = 0 then (-2) else I 12 12 (((4 * c) + a).toNatClampNeg))) else (-1))
noncomputable def mTrouble_I (I : gI) (F : gF) (c a b : Int32) : gI := (if (pI (mNo I c)) = 0 then (if (pI (mIn a 0 3)) = 0 then I else (if (pI (mIn b 0 9)) = 0 then I else gs I 12 12 (((4 * c) + a).toNatClampNeg) b)) else I)
set_option maxHeartbeats 4000000 in
set_option maxRecDepth 100000 in
theorem c_X6_trouble (D : va_G) (E : gEc) (ad : gAd) (I : gI) (F : gF) (lc ln : Nat) (c a b : Int32) (ht : I 11 0 0 = 0) (nc : Nat) (hn : I 11 0 3 = nI nc) (h12 : nc ≤ 12) : gCon D E yX6_trouble cX6_trouble 5 (some .int) 2 0 0 [.ref (ad 11 0), .int c, .int a, .int b] ad (cX E ad I F lc ln) (gPd (some (.int (mTrouble_r I F c a b))) ad (cX E ad (mTrouble_I I F c a b) F lc ln)) := by
  refine gCon.of (by decide) (Nat.le_of_ble_eq_true rfl) ?_
  intro l A Rn h
  show Rn 0 [(0, .ref (ad 11 0)), (1, .int c), (2, .int a), (3, .int b)] [] ad (cX E ad I F lc ln) 0 0
  refine r_aload_n h.ok dX6_trouble_0 0 rfl ?_
  refine r_iconst (v := 0) h.ok dX6_trouble_1 (by decide) ?_
  refine r_put (ty := tyX6) h.ok 0 dX6_trouble_2 (xo_11 _) rfl inX6 tyX6_ok nmX6 (by decide) wfl_X6_97 rfl rfl rfl (by simp) (cX_thr ht) ?_
  refine r_aload_n h.ok dX6_trouble_5 0 rfl ?_
  refine r_iload_n h.ok dX6_trouble_6 1 rfl ?_
  refine r_callV h.ok [.int c] [] dX6_trouble_7 (c_X6_noCow D E ad I F lc ln c) wml_X6_159 wim_X6_noCow wse_X6_noCow win_X6 wco_X6_noCow yok_X6_noCow (xo_11 _) rfl rfl ⟨by decide, by decide, by simp [gRm], by simp [gRm]⟩ (Nat.le_of_ble_eq_true rfl) rfl ?_
  show Rn 10 [(0, .ref (ad 11 0)), (1, .int c), (2, .int a), (3, .int b)] [.int (pI (mNo I c))] ad (cX E ad I F lc ln) 0 0
  refine r_if_ne h.ok 25 dX6_trouble_10 (by decide) (fun c_10 => ?_) (fun c_10 => ?_)
  · refine r_iconst (v := (-1)) h.ok dX6_trouble_25 (by decide) ?_
    refine r_iret h dX6_trouble_26 ⟨by decide, by decide⟩ ⟨(by unfold mTrouble_r; simp only [if_neg c_10]), rfl, (by unfold mTrouble_I; simp only [if_neg c_10])⟩
  · refine r_iload_n h.ok dX6_trouble_13 2 rfl ?_
    refine r_i2l h.ok dX6_trouble_14 ?_
    refine r_lconst (v := Int32.toInt64 0) h.ok dX6_trouble_15 (by decide) ?_
    refine r_ldc2 (v' := Int32.toInt64 3) h.ok dX6_trouble_16 wk_X6_163 (by decide) ?_
    refine r_callS h.ok [.long (Int32.toInt64 a), .long (Int32.toInt64 0), .long (Int32.toInt64 3)] [] dX6_trouble_19 (c_X6_in D E ad I F lc ln a 0 3) wml_X6_103 wst_X6_in win_X6 wco_X6_in yok_X6_in ⟨by decide, by decide, by simp [gRm], by simp [gRm]⟩ (Nat.le_of_ble_eq_true rfl) rfl ?_
    show Rn 22 [(0, .ref (ad 11 0)), (1, .int c), (2, .int a), (3, .int b)] [.int (pI (mIn a 0 3))] ad (cX E ad I F lc ln) 0 0
    refine r_if_ne h.ok 27 dX6_trouble_22 (by decide) (fun c_22 => ?_) (fun c_22 => ?_)
    · refine r_iload_n h.ok dX6_trouble_27 3 rfl ?_
      refine r_i2l h.ok dX6_trouble_28 ?_
      refine r_lconst (v := Int32.toInt64 0) h.ok dX6_trouble_29 (by decide) ?_
      refine r_ldc2 (v' := Int32.toInt64 9) h.ok dX6_trouble_30 wk_X6_167 (by decide) ?_
      refine r_callS h.ok [.long (Int32.toInt64 b), .long (Int32.toInt64 0), .long (Int32.toInt64 9)] [] dX6_trouble_33 (c_X6_in D E ad I F lc ln b 0 9) wml_X6_103 wst_X6_in win_X6 wco_X6_in yok_X6_in ⟨by decide, by decide, by simp [gRm], by simp [gRm]⟩ (Nat.le_of_ble_eq_true rfl) rfl ?_
      show Rn 36 [(0, .ref (ad 11 0)), (1, .int c), (2, .int a), (3, .int b)] [.int (pI (mIn b 0 9))] ad (cX E ad I F lc ln) 0 0
      refine r_if_ne h.ok 42 dX6_trouble_36 (by decide) (fun c_36 => ?_) (fun c_36 => ?_)
      · refine r_aload_n h.ok dX6_trouble_42 0 rfl ?_
        refine r_get h.ok 12 dX6_trouble_43 (xo_11 _) rfl inX6 (by decide) wfl_X6_38 rfl ?_
        refine r_iconst (v := 4) h.ok dX6_trouble_46 (by decide) ?_
        refine r_iload_n h.ok dX6_trouble_47 1 rfl ?_
        refine r_imul h.ok dX6_trouble_48 ?_
        refine r_iload_n h.ok dX6_trouble_49 2 rfl ?_
        refine r_iadd h.ok dX6_trouble_50 ?_
        refine x_ialp (v := I 12 12 (((4 * c) + a).toNatClampNeg)) h.ok dX6_trouble_51 rfl (vp_teat (vp_mono (mNo_in hn h12 (pI_0.mp c_10)) h12) (pI_n0.mp c_22)).1 rfl ?_
        refine r_istore (lv' := [(4, .int (I 12 12 (((4 * c) + a).toNatClampNeg))), (0, .ref (ad 11 0)), (1, .int c), (2, .int a), (3, .int b)]) h.ok dX6_trouble_52 (by decide) rfl ?_
        refine r_aload_n h.ok dX6_trouble_54 1 rfl ?_
        refine r_get h.ok 12 dX6_trouble_55 (xo_11 _) rfl inX6 (by decide) wfl_X6_38 rfl ?_
        refine r_iconst (v := 4) h.ok dX6_trouble_58 (by decide) ?_
        refine r_iload_n h.ok dX6_trouble_59 2 rfl ?_
        refine r_imul h.ok dX6_trouble_60 ?_
        refine r_iload_n h.ok dX6_trouble_61 3 rfl ?_
        refine r_iadd h.ok dX6_trouble_62 ?_
        refine r_iload_n h.ok dX6_trouble_63 4 rfl ?_
        refine x_iasp h.ok dX6_trouble_64 (fun _ => rfl) (vp_teat (vp_mono (mNo_in hn h12 (pI_0.mp c_10)) h12) (pI_n0.mp c_22)).1 ?_
        refine r_iload h.ok dX6_trouble_65 0 rfl ?_
        refine r_iret h dX6_trouble_67 ⟨by decide, by decide⟩ ⟨(by unfold mTrouble_r; simp only [if_pos c_10, if_neg c_22, if_neg c_36]), rfl, (by unfold mTrouble_I; simp only [if_pos c_10, if_neg c_22, if_neg c_36])⟩
      · refine r_bipush (v := (-2)) h.ok dX6_trouble_39 (by decide) ?_
        refine r_iret h dX6_trouble_41 ⟨by decide, by decide⟩ ⟨(by unfold mTrouble_r; simp only [if_pos c_10, if_neg c_22, if_pos c_36]), rfl, (by unfold mTrouble_I; simp only [if_pos c_10, if_neg c_22, if_pos c_36])⟩
    · refine r_iconst (v := (-1)) h.ok dX6_trouble_25 (by decide) ?_
      refine r_iret h dX6_trouble_26 ⟨by decide, by decide⟩ ⟨(by unfold mTrouble_r; simp only [if_pos c_10, if_pos c_22]), rfl, (by unfold mTrouble_I; simp only [if_pos c_10, if_pos c_22])⟩
noncomputable def mQueue_r (I : gI) (F : gF) (a : Int32) : Int32 := (if (pI (mIn a 0 ((I 11 0 29) - 1))) = 0 then (-9) else I 12 19 ((I 12 30 a.toNatClampNeg).toNatClampNeg))
set_option maxHeartbeats 4000000 in
set_option maxRecDepth 100000 in
theorem c_X6_queue (D : va_G) (E : gEc) (ad : gAd) (I : gI) (F : gF) (lc ln : Nat) (a : Int32) (ht : I 11 0 0 = 0) (nv nw : Nat) (hw : I 11 0 29 = nI nw) (w12 : nw ≤ 12) (v500 : nv ≤ 500) (hq : ∀ j : Nat, j < nw → vp_in (I 12 30 j) nv) : gCon D E yX6_queue cX6_queue 2 (some .int) 1 0 0 [.ref (ad 11 0), .int a] ad (cX E ad I F lc ln) (gPd (some (.int (mQueue_r I F a))) ad (cX E ad I F lc ln)) := by
  refine gCon.of (by decide) (Nat.le_of_ble_eq_true rfl) ?_
  intro l A Rn h
  show Rn 0 [(0, .ref (ad 11 0)), (1, .int a)] [] ad (cX E ad I F lc ln) 0 0
  refine r_aload_n h.ok dX6_queue_0 0 rfl ?_
  refine r_iconst (v := 0) h.ok dX6_queue_1 (by decide) ?_
  refine r_put (ty := tyX6) h.ok 0 dX6_queue_2 (xo_11 _) rfl inX6 tyX6_ok nmX6 (by decide) wfl_X6_97 rfl rfl rfl (by simp) (cX_thr ht) ?_
  refine r_iload_n h.ok dX6_queue_5 1 rfl ?_
  refine r_i2l h.ok dX6_queue_6 ?_
  refine r_lconst (v := Int32.toInt64 0) h.ok dX6_queue_7 (by decide) ?_
  refine r_aload_n h.ok dX6_queue_8 0 rfl ?_
  refine r_get (v := .int (I 11 0 29)) h.ok 29 dX6_queue_9 (xo_11 _) rfl inX6 (by decide) wfl_X6_110 rfl ?_
  refine r_iconst (v := 1) h.ok dX6_queue_12 (by decide) ?_
  refine r_isub h.ok dX6_queue_13 ?_
  refine r_i2l h.ok dX6_queue_14 ?_
  refine r_callS h.ok [.long (Int32.toInt64 a), .long (Int32.toInt64 0), .long (Int32.toInt64 ((I 11 0 29) - 1))] [] dX6_queue_15 (c_X6_in D E ad I F lc ln a 0 ((I 11 0 29) - 1)) wml_X6_103 wst_X6_in win_X6 wco_X6_in yok_X6_in ⟨by decide, by decide, by simp [gRm], by simp [gRm]⟩ (Nat.le_of_ble_eq_true rfl) rfl ?_
  show Rn 18 [(0, .ref (ad 11 0)), (1, .int a)] [.int (pI (mIn a 0 ((I 11 0 29) - 1)))] ad (cX E ad I F lc ln) 0 0
  refine r_if_eq h.ok 35 dX6_queue_18 (by decide) (fun c_18 => ?_) (fun c_18 => ?_)
  · refine r_bipush (v := (-9)) h.ok dX6_queue_35 (by decide) ?_
    refine r_iret h dX6_queue_37 ⟨by decide, by decide⟩ ⟨(by unfold mQueue_r; simp only [if_pos c_18]), rfl, rfl⟩
  · refine r_aload_n h.ok dX6_queue_21 0 rfl ?_
    refine r_get h.ok 19 dX6_queue_22 (xo_11 _) rfl inX6 (by decide) wfl_X6_56 rfl ?_
    refine r_aload_n h.ok dX6_queue_25 0 rfl ?_
    refine r_get h.ok 30 dX6_queue_26 (xo_11 _) rfl inX6 (by decide) wfl_X6_87 rfl ?_
    refine r_iload_n h.ok dX6_queue_29 1 rfl ?_
    refine x_ialp (v := I 12 30 a.toNatClampNeg) h.ok dX6_queue_30 rfl (vp_mono (mIn_in hw (by omega) (pI_n0.mp c_18)) w12) rfl ?_
    refine x_ialp (v := I 12 19 ((I 12 30 a.toNatClampNeg).toNatClampNeg)) h.ok dX6_queue_31 rfl (vp_mono (hq _ (vp_lt (mIn_in hw (by omega) (pI_n0.mp c_18)))) v500) rfl ?_
    refine r_goto h.ok 37 dX6_queue_32 (by decide) ?_
    refine r_iret h dX6_queue_37 ⟨by decide, by decide⟩ ⟨(by unfold mQueue_r; simp only [if_neg c_18]), rfl, rfl⟩
noncomputable def mUntil_r (I : gI) (F : gF) (c a : Int32) : Int32 := (if (pI (mNo I c)) = 0 then (if (pI (mIn a 1 400)) = 0 then (-2) else (if (mBox I) = c then (-9) else (if 0 < (a - (I 12 9 c.toNatClampNeg)) then (if ((((60 * (a - (I 12 9 c.toNatClampNeg))) + (I 12 5 c.toNatClampNeg)) - 1) / (I 12 5 c.toNatClampNeg)) ≤ ((I 11 0 1) - (I 12 8 c.toNatClampNeg)) then 0 else ((((60 * (a - (I 12 9 c.toNatClampNeg))) + (I 12 5 c.toNatClampNeg)) - 1) / (I 12 5 c.toNatClampNeg)) - ((I 11 0 1) - (I 12 8 c.toNatClampNeg))) else (if 0 ≤ ((I 11 0 1) - (I 12 8 c.toNatClampNeg)) then 0 else 0 - ((I 11 0 1) - (I 12 8 c.toNatClampNeg)))))) else (-1))
set_option maxHeartbeats 4000000 in
set_option maxRecDepth 100000 in
theorem c_X6_until (D : va_G) (E : gEc) (ad : gAd) (I : gI) (F : gF) (lc ln : Nat) (c a : Int32) (ht : I 11 0 0 = 0) (nc : Nat) (hn : I 11 0 3 = nI nc) (h12 : nc ≤ 12) (hb : I 11 0 31 = -9 ∨ vp_in (I 11 0 31) 500) (hr : ∀ j : Nat, j < nc → ¬ I 12 5 j = 0) : gCon D E yX6_until cX6_until 6 (some .int) 2 0 0 [.ref (ad 11 0), .int c, .int a] ad (cX E ad I F lc ln) (gPd (some (.int (mUntil_r I F c a))) ad (cX E ad I F lc ln)) := by
  refine gCon.of (by decide) (Nat.le_of_ble_eq_true rfl) ?_
  intro l A Rn h
  show Rn 0 [(0, .ref (ad 11 0)), (1, .int c), (2, .int a)] [] ad (cX E ad I F lc ln) 0 0
  refine r_aload_n h.ok dX6_until_0 0 rfl ?_
  refine r_iconst (v := 0) h.ok dX6_until_1 (by decide) ?_
  refine r_put (ty := tyX6) h.ok 0 dX6_until_2 (xo_11 _) rfl inX6 tyX6_ok nmX6 (by decide) wfl_X6_97 rfl rfl rfl (by simp) (cX_thr ht) ?_
  refine r_aload_n h.ok dX6_until_5 0 rfl ?_
  refine r_iload_n h.ok dX6_until_6 1 rfl ?_
  refine r_callV h.ok [.int c] [] dX6_until_7 (c_X6_noCow D E ad I F lc ln c) wml_X6_159 wim_X6_noCow wse_X6_noCow win_X6 wco_X6_noCow yok_X6_noCow (xo_11 _) rfl rfl ⟨by decide, by decide, by simp [gRm], by simp [gRm]⟩ (Nat.le_of_ble_eq_true rfl) rfl ?_
  show Rn 10 [(0, .ref (ad 11 0)), (1, .int c), (2, .int a)] [.int (pI (mNo I c))] ad (cX E ad I F lc ln) 0 0
  refine r_if_eq h.ok 15 dX6_until_10 (by decide) (fun c_10 => ?_) (fun c_10 => ?_)
  · refine r_iload_n h.ok dX6_until_15 2 rfl ?_
    refine r_i2l h.ok dX6_until_16 ?_
    refine r_lconst (v := Int32.toInt64 1) h.ok dX6_until_17 (by decide) ?_
    refine r_ldc2 (v' := Int32.toInt64 400) h.ok dX6_until_18 wk_X6_204 (by decide) ?_
    refine r_callS h.ok [.long (Int32.toInt64 a), .long (Int32.toInt64 1), .long (Int32.toInt64 400)] [] dX6_until_21 (c_X6_in D E ad I F lc ln a 1 400) wml_X6_103 wst_X6_in win_X6 wco_X6_in yok_X6_in ⟨by decide, by decide, by simp [gRm], by simp [gRm]⟩ (Nat.le_of_ble_eq_true rfl) rfl ?_
    show Rn 24 [(0, .ref (ad 11 0)), (1, .int c), (2, .int a)] [.int (pI (mIn a 1 400))] ad (cX E ad I F lc ln) 0 0
    refine r_if_ne h.ok 30 dX6_until_24 (by decide) (fun c_24 => ?_) (fun c_24 => ?_)
    · refine r_aload_n h.ok dX6_until_30 0 rfl ?_
      refine r_callV h.ok [] [] dX6_until_31 (c_X6_cowInBox D E ad I F lc ln hb) wml_X6_189 wim_X6_cowInBox wse_X6_cowInBox win_X6 wco_X6_cowInBox yok_X6_cowInBox (xo_11 _) rfl rfl ⟨by decide, by decide, by simp [gRm], by simp [gRm]⟩ (Nat.le_of_ble_eq_true rfl) rfl ?_
      show Rn 34 [(0, .ref (ad 11 0)), (1, .int c), (2, .int a)] [.int (mBox I)] ad (cX E ad I F lc ln) 0 0
      refine r_iload_n h.ok dX6_until_34 1 rfl ?_
      refine r_icmp_ne h.ok 41 dX6_until_35 (by decide) (fun c_35 => ?_) (fun c_35 => ?_)
      · refine r_iload_n h.ok dX6_until_41 2 rfl ?_
        refine r_aload_n h.ok dX6_until_42 0 rfl ?_
        refine r_get h.ok 9 dX6_until_43 (xo_11 _) rfl inX6 (by decide) wfl_X6_29 rfl ?_
        refine r_iload_n h.ok dX6_until_46 1 rfl ?_
        refine x_ialp (v := I 12 9 c.toNatClampNeg) h.ok dX6_until_47 rfl (vp_mono (mNo_in hn h12 (pI_0.mp c_10)) h12) rfl ?_
        refine r_isub h.ok dX6_until_48 ?_
        refine r_istore_n (lv' := [(3, .int (a - (I 12 9 c.toNatClampNeg))), (0, .ref (ad 11 0)), (1, .int c), (2, .int a)]) h.ok dX6_until_49 (by decide) rfl ?_
        refine r_iload_n h.ok dX6_until_50 0 rfl ?_
        refine r_if_gt h.ok 58 dX6_until_51 (by decide) (fun c_51 => ?_) (fun c_51 => ?_)
        · refine r_bipush (v := 60) h.ok dX6_until_58 (by decide) ?_
          refine r_iload_n h.ok dX6_until_60 0 rfl ?_
          refine r_imul h.ok dX6_until_61 ?_
          refine r_aload_n h.ok dX6_until_62 1 rfl ?_
          refine r_get h.ok 5 dX6_until_63 (xo_11 _) rfl inX6 (by decide) wfl_X6_17 rfl ?_
          refine r_iload_n h.ok dX6_until_66 2 rfl ?_
          refine x_ialp (v := I 12 5 c.toNatClampNeg) h.ok dX6_until_67 rfl (vp_mono (mNo_in hn h12 (pI_0.mp c_10)) h12) rfl ?_
          refine r_iadd h.ok dX6_until_68 ?_
          refine r_iconst (v := 1) h.ok dX6_until_69 (by decide) ?_
          refine r_isub h.ok dX6_until_70 ?_
          refine r_aload_n h.ok dX6_until_71 1 rfl ?_
          refine r_get h.ok 5 dX6_until_72 (xo_11 _) rfl inX6 (by decide) wfl_X6_17 rfl ?_
          refine r_iload_n h.ok dX6_until_75 2 rfl ?_
          refine x_ialp (v := I 12 5 c.toNatClampNeg) h.ok dX6_until_76 rfl (vp_mono (mNo_in hn h12 (pI_0.mp c_10)) h12) rfl ?_
          refine r_idiv h.ok dX6_until_77 (hr _ (vp_lt (mNo_in hn h12 (pI_0.mp c_10)))) ?_
          refine r_istore (lv' := [(4, .int ((((60 * (a - (I 12 9 c.toNatClampNeg))) + (I 12 5 c.toNatClampNeg)) - 1) / (I 12 5 c.toNatClampNeg))), (3, .int (a - (I 12 9 c.toNatClampNeg))), (0, .ref (ad 11 0)), (1, .int c), (2, .int a)]) h.ok dX6_until_78 (by decide) rfl ?_
          refine r_aload_n h.ok dX6_until_80 2 rfl ?_
          refine r_get (v := .int (I 11 0 1)) h.ok 1 dX6_until_81 (xo_11 _) rfl inX6 (by decide) wfl_X6_107 rfl ?_
          refine r_aload_n h.ok dX6_until_84 2 rfl ?_
          refine r_get h.ok 8 dX6_until_85 (xo_11 _) rfl inX6 (by decide) wfl_X6_26 rfl ?_
          refine r_iload_n h.ok dX6_until_88 3 rfl ?_
          refine x_ialp (v := I 12 8 c.toNatClampNeg) h.ok dX6_until_89 rfl (vp_mono (mNo_in hn h12 (pI_0.mp c_10)) h12) rfl ?_
          refine r_isub h.ok dX6_until_90 ?_
          refine r_istore (lv' := [(5, .int ((I 11 0 1) - (I 12 8 c.toNatClampNeg))), (4, .int ((((60 * (a - (I 12 9 c.toNatClampNeg))) + (I 12 5 c.toNatClampNeg)) - 1) / (I 12 5 c.toNatClampNeg))), (3, .int (a - (I 12 9 c.toNatClampNeg))), (0, .ref (ad 11 0)), (1, .int c), (2, .int a)]) h.ok dX6_until_91 (by decide) rfl ?_
          refine r_iload h.ok dX6_until_93 1 rfl ?_
          refine r_iload h.ok dX6_until_95 0 rfl ?_
          refine r_icmp_le h.ok 108 dX6_until_97 (by decide) (fun c_97 => ?_) (fun c_97 => ?_)
          · refine r_iconst (v := 0) h.ok dX6_until_108 (by decide) ?_
            refine r_iret h dX6_until_109 ⟨by decide, by decide⟩ ⟨(by unfold mUntil_r; simp only [if_pos c_10, if_neg c_24, if_neg c_35, if_pos c_51, if_pos c_97]), rfl, rfl⟩
          · refine r_iload h.ok dX6_until_100 1 rfl ?_
            refine r_iload h.ok dX6_until_102 0 rfl ?_
            refine r_isub h.ok dX6_until_104 ?_
            refine r_goto h.ok 109 dX6_until_105 (by decide) ?_
            refine r_iret h dX6_until_109 ⟨by decide, by decide⟩ ⟨(by unfold mUntil_r; simp only [if_pos c_10, if_neg c_24, if_neg c_35, if_pos c_51, if_neg c_97]), rfl, rfl⟩
        · refine r_iconst (v := 0) h.ok dX6_until_54 (by decide) ?_
          refine r_goto h.ok 78 dX6_until_55 (by decide) ?_
          refine r_istore (lv' := [(4, .int 0), (3, .int (a - (I 12 9 c.toNatClampNeg))), (0, .ref (ad 11 0)), (1, .int c), (2, .int a)]) h.ok dX6_until_78 (by decide) rfl ?_
          refine r_aload_n h.ok dX6_until_80 2 rfl ?_
          refine r_get (v := .int (I 11 0 1)) h.ok 1 dX6_until_81 (xo_11 _) rfl inX6 (by decide) wfl_X6_107 rfl ?_
          refine r_aload_n h.ok dX6_until_84 2 rfl ?_
          refine r_get h.ok 8 dX6_until_85 (xo_11 _) rfl inX6 (by decide) wfl_X6_26 rfl ?_
          refine r_iload_n h.ok dX6_until_88 3 rfl ?_
          refine x_ialp (v := I 12 8 c.toNatClampNeg) h.ok dX6_until_89 rfl (vp_mono (mNo_in hn h12 (pI_0.mp c_10)) h12) rfl ?_
          refine r_isub h.ok dX6_until_90 ?_
          refine r_istore (lv' := [(5, .int ((I 11 0 1) - (I 12 8 c.toNatClampNeg))), (4, .int 0), (3, .int (a - (I 12 9 c.toNatClampNeg))), (0, .ref (ad 11 0)), (1, .int c), (2, .int a)]) h.ok dX6_until_91 (by decide) rfl ?_
          refine r_iload h.ok dX6_until_93 1 rfl ?_
          refine r_iload h.ok dX6_until_95 0 rfl ?_
          refine r_icmp_le h.ok 108 dX6_until_97 (by decide) (fun c_97 => ?_) (fun c_97 => ?_)
          · refine r_iconst (v := 0) h.ok dX6_until_108 (by decide) ?_
            refine r_iret h dX6_until_109 ⟨by decide, by decide⟩ ⟨(by unfold mUntil_r; simp only [if_pos c_10, if_neg c_24, if_neg c_35, if_neg c_51, if_pos c_97]), rfl, rfl⟩
          · refine r_iload h.ok dX6_until_100 1 rfl ?_
            refine r_iload h.ok dX6_until_102 0 rfl ?_
            refine r_isub h.ok dX6_until_104 ?_
            refine r_goto h.ok 109 dX6_until_105 (by decide) ?_
            refine r_iret h dX6_until_109 ⟨by decide, by decide⟩ ⟨(by unfold mUntil_r; simp only [if_pos c_10, if_neg c_24, if_neg c_35, if_neg c_51, if_neg c_97]), rfl, rfl⟩
      · refine r_bipush (v := (-9)) h.ok dX6_until_38 (by decide) ?_
        refine r_iret h dX6_until_40 ⟨by decide, by decide⟩ ⟨(by unfold mUntil_r; simp only [if_pos c_10, if_neg c_24, if_pos c_35]), rfl, rfl⟩
    · refine r_bipush (v := (-2)) h.ok dX6_until_27 (by decide) ?_
      refine r_iret h dX6_until_29 ⟨by decide, by decide⟩ ⟨(by unfold mUntil_r; simp only [if_pos c_10, if_pos c_24]), rfl, rfl⟩
  · refine r_iconst (v := (-1)) h.ok dX6_until_13 (by decide) ?_
    refine r_iret h dX6_until_14 ⟨by decide, by decide⟩ ⟨(by unfold mUntil_r; simp only [if_neg c_10]), rfl, rfl⟩
noncomputable def mVisit_r (I : gI) (F : gF) (a b c : Int32) : Int32 := (if (pI (mIn a 0 ((I 11 0 17) - 1))) = 0 then (-1) else (if (pI (mIn b 0 3)) = 0 then (-2) else (if (pI (mIn c 0 10)) = 0 then (-2) else (if 3 ≤ b then (if c = 0 then I 12 18 a.toNatClampNeg else (if c = 1 then I 12 19 a.toNatClampNeg else (if c = 2 then I 12 20 a.toNatClampNeg else (if c = 3 then I 12 21 a.toNatClampNeg else (if c = 4 then (if (I 12 22 a.toNatClampNeg) = 0 then 0 else 1) else (if c = 5 then I 12 23 a.toNatClampNeg else (if c = 6 then I 12 24 a.toNatClampNeg else (if c = 7 then I 12 25 a.toNatClampNeg else (if c = 8 then I 12 26 a.toNatClampNeg else (if c = 9 then I 12 27 a.toNatClampNeg else I 12 28 a.toNatClampNeg)))))))))) else (if (I 12 18 a.toNatClampNeg) = b then (if c = 0 then I 12 18 a.toNatClampNeg else (if c = 1 then I 12 19 a.toNatClampNeg else (if c = 2 then I 12 20 a.toNatClampNeg else (if c = 3 then I 12 21 a.toNatClampNeg else (if c = 4 then (if (I 12 22 a.toNatClampNeg) = 0 then 0 else 1) else (if c = 5 then I 12 23 a.toNatClampNeg else (if c = 6 then I 12 24 a.toNatClampNeg else (if c = 7 then I 12 25 a.toNatClampNeg else (if c = 8 then I 12 26 a.toNatClampNeg else (if c = 9 then I 12 27 a.toNatClampNeg else I 12 28 a.toNatClampNeg)))))))))) else (if b = 1 then (if (I 12 18 a.toNatClampNeg) = 2 then (if c = 0 then I 12 18 a.toNatClampNeg else (if c = 1 then I 12 19 a.toNatClampNeg else (if c = 2 then I 12 20 a.toNatClampNeg else (if c = 3 then I 12 21 a.toNatClampNeg else (if c = 4 then (if (I 12 22 a.toNatClampNeg) = 0 then 0 else 1) else (if c = 5 then I 12 23 a.toNatClampNeg else (if c = 6 then I 12 24 a.toNatClampNeg else (if c = 7 then I 12 25 a.toNatClampNeg else (if c = 8 then I 12 26 a.toNatClampNeg else (if c = 9 then I 12 27 a.toNatClampNeg else I 12 28 a.toNatClampNeg)))))))))) else (-13)) else (-13)))))))
set_option maxHeartbeats 4000000 in
set_option maxRecDepth 100000 in
theorem c_X6_visit (D : va_G) (E : gEc) (ad : gAd) (I : gI) (F : gF) (lc ln : Nat) (a b c : Int32) (ht : I 11 0 0 = 0) (nv : Nat) (hv : I 11 0 17 = nI nv) (v500 : nv ≤ 500) : gCon D E yX6_visit cX6_visit 4 (some .int) 1 0 0 [.ref (ad 11 0), .int a, .int b, .int c] ad (cX E ad I F lc ln) (gPd (some (.int (mVisit_r I F a b c))) ad (cX E ad I F lc ln)) := by
  refine gCon.of (by decide) (Nat.le_of_ble_eq_true rfl) ?_
  intro l A Rn h
  show Rn 0 [(0, .ref (ad 11 0)), (1, .int a), (2, .int b), (3, .int c)] [] ad (cX E ad I F lc ln) 0 0
  refine r_aload_n h.ok dX6_visit_0 0 rfl ?_
  refine r_iconst (v := 0) h.ok dX6_visit_1 (by decide) ?_
  refine r_put (ty := tyX6) h.ok 0 dX6_visit_2 (xo_11 _) rfl inX6 tyX6_ok nmX6 (by decide) wfl_X6_97 rfl rfl rfl (by simp) (cX_thr ht) ?_
  refine r_iload_n h.ok dX6_visit_5 1 rfl ?_
  refine r_i2l h.ok dX6_visit_6 ?_
  refine r_lconst (v := Int32.toInt64 0) h.ok dX6_visit_7 (by decide) ?_
  refine r_aload_n h.ok dX6_visit_8 0 rfl ?_
  refine r_get (v := .int (I 11 0 17)) h.ok 17 dX6_visit_9 (xo_11 _) rfl inX6 (by decide) wfl_X6_184 rfl ?_
  refine r_iconst (v := 1) h.ok dX6_visit_12 (by decide) ?_
  refine r_isub h.ok dX6_visit_13 ?_
  refine r_i2l h.ok dX6_visit_14 ?_
  refine r_callS h.ok [.long (Int32.toInt64 a), .long (Int32.toInt64 0), .long (Int32.toInt64 ((I 11 0 17) - 1))] [] dX6_visit_15 (c_X6_in D E ad I F lc ln a 0 ((I 11 0 17) - 1)) wml_X6_103 wst_X6_in win_X6 wco_X6_in yok_X6_in ⟨by decide, by decide, by simp [gRm], by simp [gRm]⟩ (Nat.le_of_ble_eq_true rfl) rfl ?_
  show Rn 18 [(0, .ref (ad 11 0)), (1, .int a), (2, .int b), (3, .int c)] [.int (pI (mIn a 0 ((I 11 0 17) - 1)))] ad (cX E ad I F lc ln) 0 0
  refine r_if_ne h.ok 23 dX6_visit_18 (by decide) (fun c_18 => ?_) (fun c_18 => ?_)
  · refine r_iload_n h.ok dX6_visit_23 2 rfl ?_
    refine r_i2l h.ok dX6_visit_24 ?_
    refine r_lconst (v := Int32.toInt64 0) h.ok dX6_visit_25 (by decide) ?_
    refine r_ldc2 (v' := Int32.toInt64 3) h.ok dX6_visit_26 wk_X6_163 (by decide) ?_
    refine r_callS h.ok [.long (Int32.toInt64 b), .long (Int32.toInt64 0), .long (Int32.toInt64 3)] [] dX6_visit_29 (c_X6_in D E ad I F lc ln b 0 3) wml_X6_103 wst_X6_in win_X6 wco_X6_in yok_X6_in ⟨by decide, by decide, by simp [gRm], by simp [gRm]⟩ (Nat.le_of_ble_eq_true rfl) rfl ?_
    show Rn 32 [(0, .ref (ad 11 0)), (1, .int a), (2, .int b), (3, .int c)] [.int (pI (mIn b 0 3))] ad (cX E ad I F lc ln) 0 0
    refine r_if_eq h.ok 47 dX6_visit_32 (by decide) (fun c_32 => ?_) (fun c_32 => ?_)
    · refine r_bipush (v := (-2)) h.ok dX6_visit_47 (by decide) ?_
      refine r_iret h dX6_visit_49 ⟨by decide, by decide⟩ ⟨(by unfold mVisit_r; simp only [if_neg c_18, if_pos c_32]), rfl, rfl⟩
    · refine r_iload_n h.ok dX6_visit_35 3 rfl ?_
      refine r_i2l h.ok dX6_visit_36 ?_
      refine r_lconst (v := Int32.toInt64 0) h.ok dX6_visit_37 (by decide) ?_
      refine r_ldc2 (v' := Int32.toInt64 10) h.ok dX6_visit_38 wk_X6_202 (by decide) ?_
      refine r_callS h.ok [.long (Int32.toInt64 c), .long (Int32.toInt64 0), .long (Int32.toInt64 10)] [] dX6_visit_41 (c_X6_in D E ad I F lc ln c 0 10) wml_X6_103 wst_X6_in win_X6 wco_X6_in yok_X6_in ⟨by decide, by decide, by simp [gRm], by simp [gRm]⟩ (Nat.le_of_ble_eq_true rfl) rfl ?_
      show Rn 44 [(0, .ref (ad 11 0)), (1, .int a), (2, .int b), (3, .int c)] [.int (pI (mIn c 0 10))] ad (cX E ad I F lc ln) 0 0
      refine r_if_ne h.ok 50 dX6_visit_44 (by decide) (fun c_44 => ?_) (fun c_44 => ?_)
      · refine r_iload_n h.ok dX6_visit_50 2 rfl ?_
        refine r_iconst (v := 3) h.ok dX6_visit_51 (by decide) ?_
        refine r_icmp_ge h.ok 83 dX6_visit_52 (by decide) (fun c_52 => ?_) (fun c_52 => ?_)
        · refine r_iload_n h.ok dX6_visit_83 3 rfl ?_
          by_cases s_0 : c = 0
          · refine r_tableIn (off := 56) h.ok 140 dX6_visit_84 (by rw [s_0]; decide) (by rw [s_0]; decide) (by rw [s_0]; rfl) (by decide) ?_
            refine r_aload_n h.ok dX6_visit_140 0 rfl ?_
            refine r_get h.ok 18 dX6_visit_141 (xo_11 _) rfl inX6 (by decide) wfl_X6_53 rfl ?_
            refine r_iload_n h.ok dX6_visit_144 1 rfl ?_
            refine x_ialp (v := I 12 18 a.toNatClampNeg) h.ok dX6_visit_145 rfl (vp_mono (mIn_in hv (by omega) (pI_n0.mp c_18)) v500) rfl ?_
            refine r_iret h dX6_visit_146 ⟨by decide, by decide⟩ ⟨(by unfold mVisit_r; simp only [if_neg c_18, if_neg c_32, if_neg c_44, if_pos c_52, if_pos s_0]), rfl, rfl⟩
          by_cases s_1 : c = 1
          · refine r_tableIn (off := 63) h.ok 147 dX6_visit_84 (by rw [s_1]; decide) (by rw [s_1]; decide) (by rw [s_1]; rfl) (by decide) ?_
            refine r_aload_n h.ok dX6_visit_147 0 rfl ?_
            refine r_get h.ok 19 dX6_visit_148 (xo_11 _) rfl inX6 (by decide) wfl_X6_56 rfl ?_
            refine r_iload_n h.ok dX6_visit_151 1 rfl ?_
            refine x_ialp (v := I 12 19 a.toNatClampNeg) h.ok dX6_visit_152 rfl (vp_mono (mIn_in hv (by omega) (pI_n0.mp c_18)) v500) rfl ?_
            refine r_iret h dX6_visit_153 ⟨by decide, by decide⟩ ⟨(by unfold mVisit_r; simp only [if_neg c_18, if_neg c_32, if_neg c_44, if_pos c_52, if_neg s_0, if_pos s_1]), rfl, rfl⟩
          by_cases s_2 : c = 2
          · refine r_tableIn (off := 70) h.ok 154 dX6_visit_84 (by rw [s_2]; decide) (by rw [s_2]; decide) (by rw [s_2]; rfl) (by decide) ?_
            refine r_aload_n h.ok dX6_visit_154 0 rfl ?_
            refine r_get h.ok 20 dX6_visit_155 (xo_11 _) rfl inX6 (by decide) wfl_X6_59 rfl ?_
            refine r_iload_n h.ok dX6_visit_158 1 rfl ?_
            refine x_ialp (v := I 12 20 a.toNatClampNeg) h.ok dX6_visit_159 rfl (vp_mono (mIn_in hv (by omega) (pI_n0.mp c_18)) v500) rfl ?_
            refine r_iret h dX6_visit_160 ⟨by decide, by decide⟩ ⟨(by unfold mVisit_r; simp only [if_neg c_18, if_neg c_32, if_neg c_44, if_pos c_52, if_neg s_0, if_neg s_1, if_pos s_2]), rfl, rfl⟩
          by_cases s_3 : c = 3
          · refine r_tableIn (off := 77) h.ok 161 dX6_visit_84 (by rw [s_3]; decide) (by rw [s_3]; decide) (by rw [s_3]; rfl) (by decide) ?_
            refine r_aload_n h.ok dX6_visit_161 0 rfl ?_
            refine r_get h.ok 21 dX6_visit_162 (xo_11 _) rfl inX6 (by decide) wfl_X6_62 rfl ?_
            refine r_iload_n h.ok dX6_visit_165 1 rfl ?_
            refine x_ialp (v := I 12 21 a.toNatClampNeg) h.ok dX6_visit_166 rfl (vp_mono (mIn_in hv (by omega) (pI_n0.mp c_18)) v500) rfl ?_
            refine r_iret h dX6_visit_167 ⟨by decide, by decide⟩ ⟨(by unfold mVisit_r; simp only [if_neg c_18, if_neg c_32, if_neg c_44, if_pos c_52, if_neg s_0, if_neg s_1, if_neg s_2, if_pos s_3]), rfl, rfl⟩
          by_cases s_4 : c = 4
          · refine r_tableIn (off := 84) h.ok 168 dX6_visit_84 (by rw [s_4]; decide) (by rw [s_4]; decide) (by rw [s_4]; rfl) (by decide) ?_
            refine r_aload_n h.ok dX6_visit_168 0 rfl ?_
            refine r_get h.ok 22 dX6_visit_169 (xo_11 _) rfl inX6 (by decide) wfl_X6_65 rfl ?_
            refine r_iload_n h.ok dX6_visit_172 1 rfl ?_
            refine x_zalp (v := I 12 22 a.toNatClampNeg) h.ok dX6_visit_173 rfl (vp_mono (mIn_in hv (by omega) (pI_n0.mp c_18)) v500) rfl ?_
            refine r_if_eq h.ok 181 dX6_visit_174 (by decide) (fun c_174 => ?_) (fun c_174 => ?_)
            · refine r_iconst (v := 0) h.ok dX6_visit_181 (by decide) ?_
              refine r_iret h dX6_visit_182 ⟨by decide, by decide⟩ ⟨(by unfold mVisit_r; simp only [if_neg c_18, if_neg c_32, if_neg c_44, if_pos c_52, if_neg s_0, if_neg s_1, if_neg s_2, if_neg s_3, if_pos s_4, if_pos c_174]), rfl, rfl⟩
            · refine r_iconst (v := 1) h.ok dX6_visit_177 (by decide) ?_
              refine r_goto h.ok 182 dX6_visit_178 (by decide) ?_
              refine r_iret h dX6_visit_182 ⟨by decide, by decide⟩ ⟨(by unfold mVisit_r; simp only [if_neg c_18, if_neg c_32, if_neg c_44, if_pos c_52, if_neg s_0, if_neg s_1, if_neg s_2, if_neg s_3, if_pos s_4, if_neg c_174]), rfl, rfl⟩
          by_cases s_5 : c = 5
          · refine r_tableIn (off := 99) h.ok 183 dX6_visit_84 (by rw [s_5]; decide) (by rw [s_5]; decide) (by rw [s_5]; rfl) (by decide) ?_
            refine r_aload_n h.ok dX6_visit_183 0 rfl ?_
            refine r_get h.ok 23 dX6_visit_184 (xo_11 _) rfl inX6 (by decide) wfl_X6_69 rfl ?_
            refine r_iload_n h.ok dX6_visit_187 1 rfl ?_
            refine x_ialp (v := I 12 23 a.toNatClampNeg) h.ok dX6_visit_188 rfl (vp_mono (mIn_in hv (by omega) (pI_n0.mp c_18)) v500) rfl ?_
            refine r_iret h dX6_visit_189 ⟨by decide, by decide⟩ ⟨(by unfold mVisit_r; simp only [if_neg c_18, if_neg c_32, if_neg c_44, if_pos c_52, if_neg s_0, if_neg s_1, if_neg s_2, if_neg s_3, if_neg s_4, if_pos s_5]), rfl, rfl⟩
          by_cases s_6 : c = 6
          · refine r_tableIn (off := 106) h.ok 190 dX6_visit_84 (by rw [s_6]; decide) (by rw [s_6]; decide) (by rw [s_6]; rfl) (by decide) ?_
            refine r_aload_n h.ok dX6_visit_190 0 rfl ?_
            refine r_get h.ok 24 dX6_visit_191 (xo_11 _) rfl inX6 (by decide) wfl_X6_72 rfl ?_
            refine r_iload_n h.ok dX6_visit_194 1 rfl ?_
            refine x_ialp (v := I 12 24 a.toNatClampNeg) h.ok dX6_visit_195 rfl (vp_mono (mIn_in hv (by omega) (pI_n0.mp c_18)) v500) rfl ?_
            refine r_iret h dX6_visit_196 ⟨by decide, by decide⟩ ⟨(by unfold mVisit_r; simp only [if_neg c_18, if_neg c_32, if_neg c_44, if_pos c_52, if_neg s_0, if_neg s_1, if_neg s_2, if_neg s_3, if_neg s_4, if_neg s_5, if_pos s_6]), rfl, rfl⟩
          by_cases s_7 : c = 7
          · refine r_tableIn (off := 113) h.ok 197 dX6_visit_84 (by rw [s_7]; decide) (by rw [s_7]; decide) (by rw [s_7]; rfl) (by decide) ?_
            refine r_aload_n h.ok dX6_visit_197 0 rfl ?_
            refine r_get h.ok 25 dX6_visit_198 (xo_11 _) rfl inX6 (by decide) wfl_X6_75 rfl ?_
            refine r_iload_n h.ok dX6_visit_201 1 rfl ?_
            refine x_ialp (v := I 12 25 a.toNatClampNeg) h.ok dX6_visit_202 rfl (vp_mono (mIn_in hv (by omega) (pI_n0.mp c_18)) v500) rfl ?_
            refine r_iret h dX6_visit_203 ⟨by decide, by decide⟩ ⟨(by unfold mVisit_r; simp only [if_neg c_18, if_neg c_32, if_neg c_44, if_pos c_52, if_neg s_0, if_neg s_1, if_neg s_2, if_neg s_3, if_neg s_4, if_neg s_5, if_neg s_6, if_pos s_7]), rfl, rfl⟩
          by_cases s_8 : c = 8
          · refine r_tableIn (off := 120) h.ok 204 dX6_visit_84 (by rw [s_8]; decide) (by rw [s_8]; decide) (by rw [s_8]; rfl) (by decide) ?_
            refine r_aload_n h.ok dX6_visit_204 0 rfl ?_
            refine r_get h.ok 26 dX6_visit_205 (xo_11 _) rfl inX6 (by decide) wfl_X6_78 rfl ?_
            refine r_iload_n h.ok dX6_visit_208 1 rfl ?_
            refine x_ialp (v := I 12 26 a.toNatClampNeg) h.ok dX6_visit_209 rfl (vp_mono (mIn_in hv (by omega) (pI_n0.mp c_18)) v500) rfl ?_
            refine r_iret h dX6_visit_210 ⟨by decide, by decide⟩ ⟨(by unfold mVisit_r; simp only [if_neg c_18, if_neg c_32, if_neg c_44, if_pos c_52, if_neg s_0, if_neg s_1, if_neg s_2, if_neg s_3, if_neg s_4, if_neg s_5, if_neg s_6, if_neg s_7, if_pos s_8]), rfl, rfl⟩
          by_cases s_9 : c = 9
          · refine r_tableIn (off := 127) h.ok 211 dX6_visit_84 (by rw [s_9]; decide) (by rw [s_9]; decide) (by rw [s_9]; rfl) (by decide) ?_
            refine r_aload_n h.ok dX6_visit_211 0 rfl ?_
            refine r_get h.ok 27 dX6_visit_212 (xo_11 _) rfl inX6 (by decide) wfl_X6_81 rfl ?_
            refine r_iload_n h.ok dX6_visit_215 1 rfl ?_
            refine x_ialp (v := I 12 27 a.toNatClampNeg) h.ok dX6_visit_216 rfl (vp_mono (mIn_in hv (by omega) (pI_n0.mp c_18)) v500) rfl ?_
            refine r_iret h dX6_visit_217 ⟨by decide, by decide⟩ ⟨(by unfold mVisit_r; simp only [if_neg c_18, if_neg c_32, if_neg c_44, if_pos c_52, if_neg s_0, if_neg s_1, if_neg s_2, if_neg s_3, if_neg s_4, if_neg s_5, if_neg s_6, if_neg s_7, if_neg s_8, if_pos s_9]), rfl, rfl⟩
          refine r_tableOut h.ok 218 dX6_visit_84 (gOut9 s_0 s_1 s_2 s_3 s_4 s_5 s_6 s_7 s_8 s_9) (by decide) ?_
          refine r_aload_n h.ok dX6_visit_218 0 rfl ?_
          refine r_get h.ok 28 dX6_visit_219 (xo_11 _) rfl inX6 (by decide) wfl_X6_84 rfl ?_
          refine r_iload_n h.ok dX6_visit_222 1 rfl ?_
          refine x_ialp (v := I 12 28 a.toNatClampNeg) h.ok dX6_visit_223 rfl (vp_mono (mIn_in hv (by omega) (pI_n0.mp c_18)) v500) rfl ?_
          refine r_iret h dX6_visit_224 ⟨by decide, by decide⟩ ⟨(by unfold mVisit_r; simp only [if_neg c_18, if_neg c_32, if_neg c_44, if_pos c_52, if_neg s_0, if_neg s_1, if_neg s_2, if_neg s_3, if_neg s_4, if_neg s_5, if_neg s_6, if_neg s_7, if_neg s_8, if_neg s_9]), rfl, rfl⟩
        · refine r_aload_n h.ok dX6_visit_55 0 rfl ?_
          refine r_get h.ok 18 dX6_visit_56 (xo_11 _) rfl inX6 (by decide) wfl_X6_53 rfl ?_
          refine r_iload_n h.ok dX6_visit_59 1 rfl ?_
          refine x_ialp (v := I 12 18 a.toNatClampNeg) h.ok dX6_visit_60 rfl (vp_mono (mIn_in hv (by omega) (pI_n0.mp c_18)) v500) rfl ?_
          refine r_iload_n h.ok dX6_visit_61 2 rfl ?_
          refine r_icmp_eq h.ok 83 dX6_visit_62 (by decide) (fun c_62 => ?_) (fun c_62 => ?_)
          · refine r_iload_n h.ok dX6_visit_83 3 rfl ?_
            by_cases s_0 : c = 0
            · refine r_tableIn (off := 56) h.ok 140 dX6_visit_84 (by rw [s_0]; decide) (by rw [s_0]; decide) (by rw [s_0]; rfl) (by decide) ?_
              refine r_aload_n h.ok dX6_visit_140 0 rfl ?_
              refine r_get h.ok 18 dX6_visit_141 (xo_11 _) rfl inX6 (by decide) wfl_X6_53 rfl ?_
              refine r_iload_n h.ok dX6_visit_144 1 rfl ?_
              refine x_ialp (v := I 12 18 a.toNatClampNeg) h.ok dX6_visit_145 rfl (vp_mono (mIn_in hv (by omega) (pI_n0.mp c_18)) v500) rfl ?_
              refine r_iret h dX6_visit_146 ⟨by decide, by decide⟩ ⟨(by unfold mVisit_r; simp only [if_neg c_18, if_neg c_32, if_neg c_44, if_neg c_52, if_pos c_62, if_pos s_0]), rfl, rfl⟩
            by_cases s_1 : c = 1
            · refine r_tableIn (off := 63) h.ok 147 dX6_visit_84 (by rw [s_1]; decide) (by rw [s_1]; decide) (by rw [s_1]; rfl) (by decide) ?_
              refine r_aload_n h.ok dX6_visit_147 0 rfl ?_
              refine r_get h.ok 19 dX6_visit_148 (xo_11 _) rfl inX6 (by decide) wfl_X6_56 rfl ?_
              refine r_iload_n h.ok dX6_visit_151 1 rfl ?_
              refine x_ialp (v := I 12 19 a.toNatClampNeg) h.ok dX6_visit_152 rfl (vp_mono (mIn_in hv (by omega) (pI_n0.mp c_18)) v500) rfl ?_
              refine r_iret h dX6_visit_153 ⟨by decide, by decide⟩ ⟨(by unfold mVisit_r; simp only [if_neg c_18, if_neg c_32, if_neg c_44, if_neg c_52, if_pos c_62, if_neg s_0, if_pos s_1]), rfl, rfl⟩
            by_cases s_2 : c = 2
            · refine r_tableIn (off := 70) h.ok 154 dX6_visit_84 (by rw [s_2]; decide) (by rw [s_2]; decide) (by rw [s_2]; rfl) (by decide) ?_
              refine r_aload_n h.ok dX6_visit_154 0 rfl ?_
              refine r_get h.ok 20 dX6_visit_155 (xo_11 _) rfl inX6 (by decide) wfl_X6_59 rfl ?_
              refine r_iload_n h.ok dX6_visit_158 1 rfl ?_
              refine x_ialp (v := I 12 20 a.toNatClampNeg) h.ok dX6_visit_159 rfl (vp_mono (mIn_in hv (by omega) (pI_n0.mp c_18)) v500) rfl ?_
              refine r_iret h dX6_visit_160 ⟨by decide, by decide⟩ ⟨(by unfold mVisit_r; simp only [if_neg c_18, if_neg c_32, if_neg c_44, if_neg c_52, if_pos c_62, if_neg s_0, if_neg s_1, if_pos s_2]), rfl, rfl⟩
            by_cases s_3 : c = 3
            · refine r_tableIn (off := 77) h.ok 161 dX6_visit_84 (by rw [s_3]; decide) (by rw [s_3]; decide) (by rw [s_3]; rfl) (by decide) ?_
              refine r_aload_n h.ok dX6_visit_161 0 rfl ?_
              refine r_get h.ok 21 dX6_visit_162 (xo_11 _) rfl inX6 (by decide) wfl_X6_62 rfl ?_
              refine r_iload_n h.ok dX6_visit_165 1 rfl ?_
              refine x_ialp (v := I 12 21 a.toNatClampNeg) h.ok dX6_visit_166 rfl (vp_mono (mIn_in hv (by omega) (pI_n0.mp c_18)) v500) rfl ?_
              refine r_iret h dX6_visit_167 ⟨by decide, by decide⟩ ⟨(by unfold mVisit_r; simp only [if_neg c_18, if_neg c_32, if_neg c_44, if_neg c_52, if_pos c_62, if_neg s_0, if_neg s_1, if_neg s_2, if_pos s_3]), rfl, rfl⟩
            by_cases s_4 : c = 4
            · refine r_tableIn (off := 84) h.ok 168 dX6_visit_84 (by rw [s_4]; decide) (by rw [s_4]; decide) (by rw [s_4]; rfl) (by decide) ?_
              refine r_aload_n h.ok dX6_visit_168 0 rfl ?_
              refine r_get h.ok 22 dX6_visit_169 (xo_11 _) rfl inX6 (by decide) wfl_X6_65 rfl ?_
              refine r_iload_n h.ok dX6_visit_172 1 rfl ?_
              refine x_zalp (v := I 12 22 a.toNatClampNeg) h.ok dX6_visit_173 rfl (vp_mono (mIn_in hv (by omega) (pI_n0.mp c_18)) v500) rfl ?_
              refine r_if_eq h.ok 181 dX6_visit_174 (by decide) (fun c_174 => ?_) (fun c_174 => ?_)
              · refine r_iconst (v := 0) h.ok dX6_visit_181 (by decide) ?_
                refine r_iret h dX6_visit_182 ⟨by decide, by decide⟩ ⟨(by unfold mVisit_r; simp only [if_neg c_18, if_neg c_32, if_neg c_44, if_neg c_52, if_pos c_62, if_neg s_0, if_neg s_1, if_neg s_2, if_neg s_3, if_pos s_4, if_pos c_174]), rfl, rfl⟩
              · refine r_iconst (v := 1) h.ok dX6_visit_177 (by decide) ?_
                refine r_goto h.ok 182 dX6_visit_178 (by decide) ?_
                refine r_iret h dX6_visit_182 ⟨by decide, by decide⟩ ⟨(by unfold mVisit_r; simp only [if_neg c_18, if_neg c_32, if_neg c_44, if_neg c_52, if_pos c_62, if_neg s_0, if_neg s_1, if_neg s_2, if_neg s_3, if_pos s_4, if_neg c_174]), rfl, rfl⟩
            by_cases s_5 : c = 5
            · refine r_tableIn (off := 99) h.ok 183 dX6_visit_84 (by rw [s_5]; decide) (by rw [s_5]; decide) (by rw [s_5]; rfl) (by decide) ?_
              refine r_aload_n h.ok dX6_visit_183 0 rfl ?_
              refine r_get h.ok 23 dX6_visit_184 (xo_11 _) rfl inX6 (by decide) wfl_X6_69 rfl ?_
              refine r_iload_n h.ok dX6_visit_187 1 rfl ?_
              refine x_ialp (v := I 12 23 a.toNatClampNeg) h.ok dX6_visit_188 rfl (vp_mono (mIn_in hv (by omega) (pI_n0.mp c_18)) v500) rfl ?_
              refine r_iret h dX6_visit_189 ⟨by decide, by decide⟩ ⟨(by unfold mVisit_r; simp only [if_neg c_18, if_neg c_32, if_neg c_44, if_neg c_52, if_pos c_62, if_neg s_0, if_neg s_1, if_neg s_2, if_neg s_3, if_neg s_4, if_pos s_5]), rfl, rfl⟩
            by_cases s_6 : c = 6
            · refine r_tableIn (off := 106) h.ok 190 dX6_visit_84 (by rw [s_6]; decide) (by rw [s_6]; decide) (by rw [s_6]; rfl) (by decide) ?_
              refine r_aload_n h.ok dX6_visit_190 0 rfl ?_
              refine r_get h.ok 24 dX6_visit_191 (xo_11 _) rfl inX6 (by decide) wfl_X6_72 rfl ?_
              refine r_iload_n h.ok dX6_visit_194 1 rfl ?_
              refine x_ialp (v := I 12 24 a.toNatClampNeg) h.ok dX6_visit_195 rfl (vp_mono (mIn_in hv (by omega) (pI_n0.mp c_18)) v500) rfl ?_
              refine r_iret h dX6_visit_196 ⟨by decide, by decide⟩ ⟨(by unfold mVisit_r; simp only [if_neg c_18, if_neg c_32, if_neg c_44, if_neg c_52, if_pos c_62, if_neg s_0, if_neg s_1, if_neg s_2, if_neg s_3, if_neg s_4, if_neg s_5, if_pos s_6]), rfl, rfl⟩
            by_cases s_7 : c = 7
            · refine r_tableIn (off := 113) h.ok 197 dX6_visit_84 (by rw [s_7]; decide) (by rw [s_7]; decide) (by rw [s_7]; rfl) (by decide) ?_
              refine r_aload_n h.ok dX6_visit_197 0 rfl ?_
              refine r_get h.ok 25 dX6_visit_198 (xo_11 _) rfl inX6 (by decide) wfl_X6_75 rfl ?_
              refine r_iload_n h.ok dX6_visit_201 1 rfl ?_
              refine x_ialp (v := I 12 25 a.toNatClampNeg) h.ok dX6_visit_202 rfl (vp_mono (mIn_in hv (by omega) (pI_n0.mp c_18)) v500) rfl ?_
              refine r_iret h dX6_visit_203 ⟨by decide, by decide⟩ ⟨(by unfold mVisit_r; simp only [if_neg c_18, if_neg c_32, if_neg c_44, if_neg c_52, if_pos c_62, if_neg s_0, if_neg s_1, if_neg s_2, if_neg s_3, if_neg s_4, if_neg s_5, if_neg s_6, if_pos s_7]), rfl, rfl⟩
            by_cases s_8 : c = 8
            · refine r_tableIn (off := 120) h.ok 204 dX6_visit_84 (by rw [s_8]; decide) (by rw [s_8]; decide) (by rw [s_8]; rfl) (by decide) ?_
              refine r_aload_n h.ok dX6_visit_204 0 rfl ?_
              refine r_get h.ok 26 dX6_visit_205 (xo_11 _) rfl inX6 (by decide) wfl_X6_78 rfl ?_
              refine r_iload_n h.ok dX6_visit_208 1 rfl ?_
              refine x_ialp (v := I 12 26 a.toNatClampNeg) h.ok dX6_visit_209 rfl (vp_mono (mIn_in hv (by omega) (pI_n0.mp c_18)) v500) rfl ?_
              refine r_iret h dX6_visit_210 ⟨by decide, by decide⟩ ⟨(by unfold mVisit_r; simp only [if_neg c_18, if_neg c_32, if_neg c_44, if_neg c_52, if_pos c_62, if_neg s_0, if_neg s_1, if_neg s_2, if_neg s_3, if_neg s_4, if_neg s_5, if_neg s_6, if_neg s_7, if_pos s_8]), rfl, rfl⟩
            by_cases s_9 : c = 9
            · refine r_tableIn (off := 127) h.ok 211 dX6_visit_84 (by rw [s_9]; decide) (by rw [s_9]; decide) (by rw [s_9]; rfl) (by decide) ?_
              refine r_aload_n h.ok dX6_visit_211 0 rfl ?_
              refine r_get h.ok 27 dX6_visit_212 (xo_11 _) rfl inX6 (by decide) wfl_X6_81 rfl ?_
              refine r_iload_n h.ok dX6_visit_215 1 rfl ?_
              refine x_ialp (v := I 12 27 a.toNatClampNeg) h.ok dX6_visit_216 rfl (vp_mono (mIn_in hv (by omega) (pI_n0.mp c_18)) v500) rfl ?_
              refine r_iret h dX6_visit_217 ⟨by decide, by decide⟩ ⟨(by unfold mVisit_r; simp only [if_neg c_18, if_neg c_32, if_neg c_44, if_neg c_52, if_pos c_62, if_neg s_0, if_neg s_1, if_neg s_2, if_neg s_3, if_neg s_4, if_neg s_5, if_neg s_6, if_neg s_7, if_neg s_8, if_pos s_9]), rfl, rfl⟩
            refine r_tableOut h.ok 218 dX6_visit_84 (gOut9 s_0 s_1 s_2 s_3 s_4 s_5 s_6 s_7 s_8 s_9) (by decide) ?_
            refine r_aload_n h.ok dX6_visit_218 0 rfl ?_
            refine r_get h.ok 28 dX6_visit_219 (xo_11 _) rfl inX6 (by decide) wfl_X6_84 rfl ?_
            refine r_iload_n h.ok dX6_visit_222 1 rfl ?_
            refine x_ialp (v := I 12 28 a.toNatClampNeg) h.ok dX6_visit_223 rfl (vp_mono (mIn_in hv (by omega) (pI_n0.mp c_18)) v500) rfl ?_
            refine r_iret h dX6_visit_224 ⟨by decide, by decide⟩ ⟨(by unfold mVisit_r; simp only [if_neg c_18, if_neg c_32, if_neg c_44, if_neg c_52, if_pos c_62, if_neg s_0, if_neg s_1, if_neg s_2, if_neg s_3, if_neg s_4, if_neg s_5, if_neg s_6, if_neg s_7, if_neg s_8, if_neg s_9]), rfl, rfl⟩
          · refine r_iload_n h.ok dX6_visit_65 2 rfl ?_
            refine r_iconst (v := 1) h.ok dX6_visit_66 (by decide) ?_
            refine r_icmp_ne h.ok 80 dX6_visit_67 (by decide) (fun c_67 => ?_) (fun c_67 => ?_)
            · refine r_bipush (v := (-13)) h.ok dX6_visit_80 (by decide) ?_
              refine r_iret h dX6_visit_82 ⟨by decide, by decide⟩ ⟨(by unfold mVisit_r; simp only [if_neg c_18, if_neg c_32, if_neg c_44, if_neg c_52, if_neg c_62, if_neg c_67]), rfl, rfl⟩
            · refine r_aload_n h.ok dX6_visit_70 0 rfl ?_
              refine r_get h.ok 18 dX6_visit_71 (xo_11 _) rfl inX6 (by decide) wfl_X6_53 rfl ?_
              refine r_iload_n h.ok dX6_visit_74 1 rfl ?_
              refine x_ialp (v := I 12 18 a.toNatClampNeg) h.ok dX6_visit_75 rfl (vp_mono (mIn_in hv (by omega) (pI_n0.mp c_18)) v500) rfl ?_
              refine r_iconst (v := 2) h.ok dX6_visit_76 (by decide) ?_
              refine r_icmp_eq h.ok 83 dX6_visit_77 (by decide) (fun c_77 => ?_) (fun c_77 => ?_)
              · refine r_iload_n h.ok dX6_visit_83 3 rfl ?_
                by_cases s_0 : c = 0
                · refine r_tableIn (off := 56) h.ok 140 dX6_visit_84 (by rw [s_0]; decide) (by rw [s_0]; decide) (by rw [s_0]; rfl) (by decide) ?_
                  refine r_aload_n h.ok dX6_visit_140 0 rfl ?_
                  refine r_get h.ok 18 dX6_visit_141 (xo_11 _) rfl inX6 (by decide) wfl_X6_53 rfl ?_
                  refine r_iload_n h.ok dX6_visit_144 1 rfl ?_
                  refine x_ialp (v := I 12 18 a.toNatClampNeg) h.ok dX6_visit_145 rfl (vp_mono (mIn_in hv (by omega) (pI_n0.mp c_18)) v500) rfl ?_
                  refine r_iret h dX6_visit_146 ⟨by decide, by decide⟩ ⟨(by unfold mVisit_r; simp only [if_neg c_18, if_neg c_32, if_neg c_44, if_neg c_52, if_neg c_62, if_pos c_67, if_pos c_77, if_pos s_0]), rfl, rfl⟩
                by_cases s_1 : c = 1
                · refine r_tableIn (off := 63) h.ok 147 dX6_visit_84 (by rw [s_1]; decide) (by rw [s_1]; decide) (by rw [s_1]; rfl) (by decide) ?_
                  refine r_aload_n h.ok dX6_visit_147 0 rfl ?_
                  refine r_get h.ok 19 dX6_visit_148 (xo_11 _) rfl inX6 (by decide) wfl_X6_56 rfl ?_
                  refine r_iload_n h.ok dX6_visit_151 1 rfl ?_
                  refine x_ialp (v := I 12 19 a.toNatClampNeg) h.ok dX6_visit_152 rfl (vp_mono (mIn_in hv (by omega) (pI_n0.mp c_18)) v500) rfl ?_
                  refine r_iret h dX6_visit_153 ⟨by decide, by decide⟩ ⟨(by unfold mVisit_r; simp only [if_neg c_18, if_neg c_32, if_neg c_44, if_neg c_52, if_neg c_62, if_pos c_67, if_pos c_77, if_neg s_0, if_pos s_1]), rfl, rfl⟩
                by_cases s_2 : c = 2
                · refine r_tableIn (off := 70) h.ok 154 dX6_visit_84 (by rw [s_2]; decide) (by rw [s_2]; decide) (by rw [s_2]; rfl) (by decide) ?_
                  refine r_aload_n h.ok dX6_visit_154 0 rfl ?_
                  refine r_get h.ok 20 dX6_visit_155 (xo_11 _) rfl inX6 (by decide) wfl_X6_59 rfl ?_
                  refine r_iload_n h.ok dX6_visit_158 1 rfl ?_
                  refine x_ialp (v := I 12 20 a.toNatClampNeg) h.ok dX6_visit_159 rfl (vp_mono (mIn_in hv (by omega) (pI_n0.mp c_18)) v500) rfl ?_
                  refine r_iret h dX6_visit_160 ⟨by decide, by decide⟩ ⟨(by unfold mVisit_r; simp only [if_neg c_18, if_neg c_32, if_neg c_44, if_neg c_52, if_neg c_62, if_pos c_67, if_pos c_77, if_neg s_0, if_neg s_1, if_pos s_2]), rfl, rfl⟩
                by_cases s_3 : c = 3
                · refine r_tableIn (off := 77) h.ok 161 dX6_visit_84 (by rw [s_3]; decide) (by rw [s_3]; decide) (by rw [s_3]; rfl) (by decide) ?_
                  refine r_aload_n h.ok dX6_visit_161 0 rfl ?_
                  refine r_get h.ok 21 dX6_visit_162 (xo_11 _) rfl inX6 (by decide) wfl_X6_62 rfl ?_
                  refine r_iload_n h.ok dX6_visit_165 1 rfl ?_
                  refine x_ialp (v := I 12 21 a.toNatClampNeg) h.ok dX6_visit_166 rfl (vp_mono (mIn_in hv (by omega) (pI_n0.mp c_18)) v500) rfl ?_
                  refine r_iret h dX6_visit_167 ⟨by decide, by decide⟩ ⟨(by unfold mVisit_r; simp only [if_neg c_18, if_neg c_32, if_neg c_44, if_neg c_52, if_neg c_62, if_pos c_67, if_pos c_77, if_neg s_0, if_neg s_1, if_neg s_2, if_pos s_3]), rfl, rfl⟩
                by_cases s_4 : c = 4
                · refine r_tableIn (off := 84) h.ok 168 dX6_visit_84 (by rw [s_4]; decide) (by rw [s_4]; decide) (by rw [s_4]; rfl) (by decide) ?_
                  refine r_aload_n h.ok dX6_visit_168 0 rfl ?_
                  refine r_get h.ok 22 dX6_visit_169 (xo_11 _) rfl inX6 (by decide) wfl_X6_65 rfl ?_
                  refine r_iload_n h.ok dX6_visit_172 1 rfl ?_
                  refine x_zalp (v := I 12 22 a.toNatClampNeg) h.ok dX6_visit_173 rfl (vp_mono (mIn_in hv (by omega) (pI_n0.mp c_18)) v500) rfl ?_
                  refine r_if_eq h.ok 181 dX6_visit_174 (by decide) (fun c_174 => ?_) (fun c_174 => ?_)
                  · refine r_iconst (v := 0) h.ok dX6_visit_181 (by decide) ?_
                    refine r_iret h dX6_visit_182 ⟨by decide, by decide⟩ ⟨(by unfold mVisit_r; simp only [if_neg c_18, if_neg c_32, if_neg c_44, if_neg c_52, if_neg c_62, if_pos c_67, if_pos c_77, if_neg s_0, if_neg s_1, if_neg s_2, if_neg s_3, if_pos s_4, if_pos c_174]), rfl, rfl⟩
                  · refine r_iconst (v := 1) h.ok dX6_visit_177 (by decide) ?_
                    refine r_goto h.ok 182 dX6_visit_178 (by decide) ?_
                    refine r_iret h dX6_visit_182 ⟨by decide, by decide⟩ ⟨(by unfold mVisit_r; simp only [if_neg c_18, if_neg c_32, if_neg c_44, if_neg c_52, if_neg c_62, if_pos c_67, if_pos c_77, if_neg s_0, if_neg s_1, if_neg s_2, if_neg s_3, if_pos s_4, if_neg c_174]), rfl, rfl⟩
                by_cases s_5 : c = 5
                · refine r_tableIn (off := 99) h.ok 183 dX6_visit_84 (by rw [s_5]; decide) (by rw [s_5]; decide) (by rw [s_5]; rfl) (by decide) ?_
                  refine r_aload_n h.ok dX6_visit_183 0 rfl ?_
                  refine r_get h.ok 23 dX6_visit_184 (xo_11 _) rfl inX6 (by decide) wfl_X6_69 rfl ?_
                  refine r_iload_n h.ok dX6_visit_187 1 rfl ?_
                  refine x_ialp (v := I 12 23 a.toNatClampNeg) h.ok dX6_visit_188 rfl (vp_mono (mIn_in hv (by omega) (pI_n0.mp c_18)) v500) rfl ?_
                  refine r_iret h dX6_visit_189 ⟨by decide, by decide⟩ ⟨(by unfold mVisit_r; simp only [if_neg c_18, if_neg c_32, if_neg c_44, if_neg c_52, if_neg c_62, if_pos c_67, if_pos c_77, if_neg s_0, if_neg s_1, if_neg s_2, if_neg s_3, if_neg s_4, if_pos s_5]), rfl, rfl⟩
                by_cases s_6 : c = 6
                · refine r_tableIn (off := 106) h.ok 190 dX6_visit_84 (by rw [s_6]; decide) (by rw [s_6]; decide) (by rw [s_6]; rfl) (by decide) ?_
                  refine r_aload_n h.ok dX6_visit_190 0 rfl ?_
                  refine r_get h.ok 24 dX6_visit_191 (xo_11 _) rfl inX6 (by decide) wfl_X6_72 rfl ?_
                  refine r_iload_n h.ok dX6_visit_194 1 rfl ?_
                  refine x_ialp (v := I 12 24 a.toNatClampNeg) h.ok dX6_visit_195 rfl (vp_mono (mIn_in hv (by omega) (pI_n0.mp c_18)) v500) rfl ?_
                  refine r_iret h dX6_visit_196 ⟨by decide, by decide⟩ ⟨(by unfold mVisit_r; simp only [if_neg c_18, if_neg c_32, if_neg c_44, if_neg c_52, if_neg c_62, if_pos c_67, if_pos c_77, if_neg s_0, if_neg s_1, if_neg s_2, if_neg s_3, if_neg s_4, if_neg s_5, if_pos s_6]), rfl, rfl⟩
                by_cases s_7 : c = 7
                · refine r_tableIn (off := 113) h.ok 197 dX6_visit_84 (by rw [s_7]; decide) (by rw [s_7]; decide) (by rw [s_7]; rfl) (by decide) ?_
                  refine r_aload_n h.ok dX6_visit_197 0 rfl ?_
                  refine r_get h.ok 25 dX6_visit_198 (xo_11 _) rfl inX6 (by decide) wfl_X6_75 rfl ?_
                  refine r_iload_n h.ok dX6_visit_201 1 rfl ?_
                  refine x_ialp (v := I 12 25 a.toNatClampNeg) h.ok dX6_visit_202 rfl (vp_mono (mIn_in hv (by omega) (pI_n0.mp c_18)) v500) rfl ?_
                  refine r_iret h dX6_visit_203 ⟨by decide, by decide⟩ ⟨(by unfold mVisit_r; simp only [if_neg c_18, if_neg c_32, if_neg c_44, if_neg c_52, if_neg c_62, if_pos c_67, if_pos c_77, if_neg s_0, if_neg s_1, if_neg s_2, if_neg s_3, if_neg s_4, if_neg s_5, if_neg s_6, if_pos s_7]), rfl, rfl⟩
                by_cases s_8 : c = 8
                · refine r_tableIn (off := 120) h.ok 204 dX6_visit_84 (by rw [s_8]; decide) (by rw [s_8]; decide) (by rw [s_8]; rfl) (by decide) ?_
                  refine r_aload_n h.ok dX6_visit_204 0 rfl ?_
                  refine r_get h.ok 26 dX6_visit_205 (xo_11 _) rfl inX6 (by decide) wfl_X6_78 rfl ?_
                  refine r_iload_n h.ok dX6_visit_208 1 rfl ?_
                  refine x_ialp (v := I 12 26 a.toNatClampNeg) h.ok dX6_visit_209 rfl (vp_mono (mIn_in hv (by omega) (pI_n0.mp c_18)) v500) rfl ?_
                  refine r_iret h dX6_visit_210 ⟨by decide, by decide⟩ ⟨(by unfold mVisit_r; simp only [if_neg c_18, if_neg c_32, if_neg c_44, if_neg c_52, if_neg c_62, if_pos c_67, if_pos c_77, if_neg s_0, if_neg s_1, if_neg s_2, if_neg s_3, if_neg s_4, if_neg s_5, if_neg s_6, if_neg s_7, if_pos s_8]), rfl, rfl⟩
                by_cases s_9 : c = 9
                · refine r_tableIn (off := 127) h.ok 211 dX6_visit_84 (by rw [s_9]; decide) (by rw [s_9]; decide) (by rw [s_9]; rfl) (by decide) ?_
                  refine r_aload_n h.ok dX6_visit_211 0 rfl ?_
                  refine r_get h.ok 27 dX6_visit_212 (xo_11 _) rfl inX6 (by decide) wfl_X6_81 rfl ?_
                  refine r_iload_n h.ok dX6_visit_215 1 rfl ?_
                  refine x_ialp (v := I 12 27 a.toNatClampNeg) h.ok dX6_visit_216 rfl (vp_mono (mIn_in hv (by omega) (pI_n0.mp c_18)) v500) rfl ?_
                  refine r_iret h dX6_visit_217 ⟨by decide, by decide⟩ ⟨(by unfold mVisit_r; simp only [if_neg c_18, if_neg c_32, if_neg c_44, if_neg c_52, if_neg c_62, if_pos c_67, if_pos c_77, if_neg s_0, if_neg s_1, if_neg s_2, if_neg s_3, if_neg s_4, if_neg s_5, if_neg s_6, if_neg s_7, if_neg s_8, if_pos s_9]), rfl, rfl⟩
                refine r_tableOut h.ok 218 dX6_visit_84 (gOut9 s_0 s_1 s_2 s_3 s_4 s_5 s_6 s_7 s_8 s_9) (by decide) ?_
                refine r_aload_n h.ok dX6_visit_218 0 rfl ?_
                refine r_get h.ok 28 dX6_visit_219 (xo_11 _) rfl inX6 (by decide) wfl_X6_84 rfl ?_
                refine r_iload_n h.ok dX6_visit_222 1 rfl ?_
                refine x_ialp (v := I 12 28 a.toNatClampNeg) h.ok dX6_visit_223 rfl (vp_mono (mIn_in hv (by omega) (pI_n0.mp c_18)) v500) rfl ?_
                refine r_iret h dX6_visit_224 ⟨by decide, by decide⟩ ⟨(by unfold mVisit_r; simp only [if_neg c_18, if_neg c_32, if_neg c_44, if_neg c_52, if_neg c_62, if_pos c_67, if_pos c_77, if_neg s_0, if_neg s_1, if_neg s_2, if_neg s_3, if_neg s_4, if_neg s_5, if_neg s_6, if_neg s_7, if_neg s_8, if_neg s_9]), rfl, rfl⟩
              · refine r_bipush (v := (-13)) h.ok dX6_visit_80 (by decide) ?_
                refine r_iret h dX6_visit_82 ⟨by decide, by decide⟩ ⟨(by unfold mVisit_r; simp only [if_neg c_18, if_neg c_32, if_neg c_44, if_neg c_52, if_neg c_62, if_pos c_67, if_neg c_77]), rfl, rfl⟩
      · refine r_bipush (v := (-2)) h.ok dX6_visit_47 (by decide) ?_
        refine r_iret h dX6_visit_49 ⟨by decide, by decide⟩ ⟨(by unfold mVisit_r; simp only [if_neg c_18, if_neg c_32, if_pos c_44]), rfl, rfl⟩
  · refine r_iconst (v := (-1)) h.ok dX6_visit_21 (by decide) ?_
    refine r_iret h dX6_visit_22 ⟨by decide, by decide⟩ ⟨(by unfold mVisit_r; simp only [if_pos c_18]), rfl, rfl⟩
/-- the first place with P, else -9 -/
noncomputable def gFind (P : Nat → Prop) : Nat → Nat → Int32
  | 0, _ => -9
  | n + 1, j => @ite Int32 (P j) (Classical.propDecidable _) (nI j) (gFind P n (j + 1))
theorem gFind_hit {P : Nat → Prop} {w j : Nat} (h : j < w) (hp : P j) : gFind P (w - j) j = nI j := by
  obtain ⟨n, hn⟩ : ∃ n, w - j = n + 1 := ⟨w - j - 1, by omega⟩
  rw [hn]
  exact if_pos hp
theorem gFind_miss {P : Nat → Prop} {w j : Nat} (h : j < w) (hp : ¬ P j) : gFind P (w - j) j = gFind P (w - (j + 1)) (j + 1) := by
  obtain ⟨n, hn⟩ : ∃ n, w - j = n + 1 := ⟨w - j - 1, by omega⟩
  rw [hn, show w - (j + 1) = n by omega]
  exact if_neg hp
theorem gFind_end {P : Nat → Prop} {w j : Nat} (h : w ≤ j) : gFind P (w - j) j = -9 := by
  rw [show w - j = 0 by omega]
  rfl
theorem ge_nI {x : Int32} {j w : Nat} (hx : x = nI j) (hw : w < 2 ^ 31) (hj : j ≤ w) (h : nI w ≤ x) : j = w := by
  rw [hx, nI_leI hw (by omega)] at h
  omega
theorem lt_nI {x : Int32} {j w : Nat} (hx : x = nI j) (hw : w < 2 ^ 31) (hj : j ≤ w) (h : ¬ nI w ≤ x) : j < w := by
  rw [hx, nI_leI hw (by omega)] at h
  omega
def mAt (I : gI) (c : Int32) (j : Nat) : Prop := I 12 19 (I 12 30 j).toNatClampNeg = c
noncomputable def mPlace (I : gI) (nw : Nat) (c : Int32) : Int32 := gFind (mAt I c) (nw - 0) 0
set_option maxHeartbeats 4000000 in
set_option maxRecDepth 100000 in
theorem c_X6_placeOf (D : va_G) (E : gEc) (ad : gAd) (I : gI) (F : gF) (lc ln : Nat) (c : Int32) (nv nw : Nat) (hw : I 11 0 29 = nI nw) (w12 : nw ≤ 12) (v500 : nv ≤ 500) (hq : ∀ j : Nat, j < nw → vp_in (I 12 30 j) nv) : gCon D E yX6_placeOf cX6_placeOf 3 (some .int) 0 0 0 [.ref (ad 11 0), .int c] ad (cX E ad I F lc ln) (gPd (some (.int (mPlace I nw c))) ad (cX E ad I F lc ln)) := by
  refine gCon.of (by decide) (Nat.le_of_ble_eq_true rfl) ?_
  intro l A Rn h
  show Rn 0 [(0, .ref (ad 11 0)), (1, .int c)] [] ad (cX E ad I F lc ln) 0 0
  refine r_iconst (v := 0) h.ok dX6_placeOf_0 (by decide) ?_
  refine r_istore_n (lv' := [(2, .int 0), (0, .ref (ad 11 0)), (1, .int c)]) h.ok dX6_placeOf_1 (by decide) rfl ?_
  have lp2 : ∀ (n : Nat) (j : Nat) (x : Int32), (j ≤ nw) → (nw + 1 ≤ j + n) → (x = nI j) → (mPlace I nw c = gFind (mAt I c) (nw - j) j) → Rn 2 [(2, .int x), (0, .ref (ad 11 0)), (1, .int c)] [] ad (cX E ad I F lc ln) 0 0 := by
    intro n
    induction n with
    | zero => intro j  x  hj hf hx hs; exfalso; omega
    | succ n ih2 =>
      intro j  x  hj hf hx hs
      refine r_iload_n h.ok dX6_placeOf_2 0 rfl ?_
      refine r_aload_n h.ok dX6_placeOf_3 1 rfl ?_
      refine r_get (v := .int (I 11 0 29)) h.ok 29 dX6_placeOf_4 (xo_11 _) rfl inX6 (by decide) wfl_X6_110 rfl ?_
      rw [hw]
      refine r_icmp_ge h.ok 33 dX6_placeOf_7 (by decide) (fun c_7 => ?_) (fun c_7 => ?_)
      · have jw : j = nw := ge_nI hx (by omega) hj c_7
        refine r_bipush (v := (-9)) h.ok dX6_placeOf_33 (by decide) ?_
        refine r_iret h dX6_placeOf_35 ⟨by decide, by decide⟩ ⟨by rw [hs, gFind_end (by omega)], rfl, rfl⟩
      · have jw : j < nw := lt_nI hx (by omega) hj c_7
        refine r_aload_n h.ok dX6_placeOf_10 1 rfl ?_
        refine r_get h.ok 19 dX6_placeOf_11 (xo_11 _) rfl inX6 (by decide) wfl_X6_56 rfl ?_
        refine r_aload_n h.ok dX6_placeOf_14 1 rfl ?_
        refine r_get h.ok 30 dX6_placeOf_15 (xo_11 _) rfl inX6 (by decide) wfl_X6_87 rfl ?_
        refine r_iload_n h.ok dX6_placeOf_18 0 rfl ?_
        refine x_iald (v := I 12 30 j) h.ok j dX6_placeOf_19 rfl hx (by omega) (by decide) rfl ?_
        refine x_ialp (v := I 12 19 ((I 12 30 j).toNatClampNeg)) h.ok dX6_placeOf_20 rfl (vp_mono (hq j jw) v500) rfl ?_
        refine r_iload_n h.ok dX6_placeOf_21 2 rfl ?_
        refine r_icmp_ne h.ok 27 dX6_placeOf_22 (by decide) (fun c_22 => ?_) (fun c_22 => ?_)
        · refine r_iinc (v := x + 1) (lv' := [(2, .int (x + 1)), (0, .ref (ad 11 0)), (1, .int c)]) h.ok dX6_placeOf_27 0 rfl rfl (by decide) rfl ?_
          refine r_goto h.ok 2 dX6_placeOf_30 (by decide) ?_
          exact ih2 (j + 1) _ (by omega) (by omega) (by rw [hx]; exact nI_1 j) (by rw [hs]; exact gFind_miss jw (show ¬ mAt I c j from c_22))
        · refine r_iload_n h.ok dX6_placeOf_25 0 rfl ?_
          refine r_iret h dX6_placeOf_26 ⟨by decide, by decide⟩ ⟨by rw [hs, gFind_hit jw (show mAt I c j from c_22), hx], rfl, rfl⟩
  exact lp2 (nw + 1) 0 0 (Nat.zero_le _) (by omega) rfl rfl
noncomputable def mAbout_r (I : gI) (F : gF) (nw : Nat) (c a : Int32) : Int32 := (if (pI (mNo I c)) = 0 then (if a = 0 then mHas I c else (if a = 1 then I 12 10 c.toNatClampNeg else (if a = 2 then (if (pI (mRight I c)) = 0 then 0 else 1) else (if a = 3 then mFed I c else (if a = 4 then mPlace I nw c else (if a = 5 then I 12 15 c.toNatClampNeg else (if a = 6 then I 12 16 c.toNatClampNeg else (-2)))))))) else (-1))
set_option maxHeartbeats 4000000 in
set_option maxRecDepth 100000 in
theorem c_X6_about (D : va_G) (E : gEc) (ad : gAd) (I : gI) (F : gF) (lc ln : Nat) (c a : Int32) (ht : I 11 0 0 = 0) (nc : Nat) (hn : I 11 0 3 = nI nc) (h12 : nc ≤ 12) (nv nw : Nat) (hw : I 11 0 29 = nI nw) (w12 : nw ≤ 12) (v500 : nv ≤ 500) (hq : ∀ j : Nat, j < nw → vp_in (I 12 30 j) nv) : gCon D E yX6_about cX6_about 3 (some .int) 2 0 0 [.ref (ad 11 0), .int c, .int a] ad (cX E ad I F lc ln) (gPd (some (.int (mAbout_r I F nw c a))) ad (cX E ad I F lc ln)) := by
  refine gCon.of (by decide) (Nat.le_of_ble_eq_true rfl) ?_
  intro l A Rn h
  show Rn 0 [(0, .ref (ad 11 0)), (1, .int c), (2, .int a)] [] ad (cX E ad I F lc ln) 0 0
  refine r_aload_n h.ok dX6_about_0 0 rfl ?_
  refine r_iconst (v := 0) h.ok dX6_about_1 (by decide) ?_
  refine r_put (ty := tyX6) h.ok 0 dX6_about_2 (xo_11 _) rfl inX6 tyX6_ok nmX6 (by decide) wfl_X6_97 rfl rfl rfl (by simp) (cX_thr ht) ?_
  refine r_aload_n h.ok dX6_about_5 0 rfl ?_
  refine r_iload_n h.ok dX6_about_6 1 rfl ?_
  refine r_callV h.ok [.int c] [] dX6_about_7 (c_X6_noCow D E ad I F lc ln c) wml_X6_159 wim_X6_noCow wse_X6_noCow win_X6 wco_X6_noCow yok_X6_noCow (xo_11 _) rfl rfl ⟨by decide, by decide, by simp [gRm], by simp [gRm]⟩ (Nat.le_of_ble_eq_true rfl) rfl ?_
  show Rn 10 [(0, .ref (ad 11 0)), (1, .int c), (2, .int a)] [.int (pI (mNo I c))] ad (cX E ad I F lc ln) 0 0
  refine r_if_eq h.ok 15 dX6_about_10 (by decide) (fun c_10 => ?_) (fun c_10 => ?_)
  · refine r_iload_n h.ok dX6_about_15 2 rfl ?_
    by_cases s_0 : a = 0
    · refine r_tableIn (off := 44) h.ok 60 dX6_about_16 (by rw [s_0]; decide) (by rw [s_0]; decide) (by rw [s_0]; rfl) (by decide) ?_
      refine r_aload_n h.ok dX6_about_60 0 rfl ?_
      refine r_iload_n h.ok dX6_about_61 1 rfl ?_
      refine r_callV h.ok [.int c] [] dX6_about_62 (c_X6_has D E ad I F lc ln c (vp_mono (mNo_in hn h12 (pI_0.mp c_10)) h12)) wml_X6_117 wim_X6_has wse_X6_has win_X6 wco_X6_has yok_X6_has (xo_11 _) rfl rfl ⟨by decide, by decide, by simp [gRm], by simp [gRm]⟩ (Nat.le_of_ble_eq_true rfl) rfl ?_
      show Rn 65 [(0, .ref (ad 11 0)), (1, .int c), (2, .int a)] [.int (mHas I c)] ad (cX E ad I F lc ln) 0 0
      refine r_iret h dX6_about_65 ⟨by decide, by decide⟩ ⟨(by unfold mAbout_r; simp only [if_pos c_10, if_pos s_0]), rfl, rfl⟩
    by_cases s_1 : a = 1
    · refine r_tableIn (off := 50) h.ok 66 dX6_about_16 (by rw [s_1]; decide) (by rw [s_1]; decide) (by rw [s_1]; rfl) (by decide) ?_
      refine r_aload_n h.ok dX6_about_66 0 rfl ?_
      refine r_get h.ok 10 dX6_about_67 (xo_11 _) rfl inX6 (by decide) wfl_X6_32 rfl ?_
      refine r_iload_n h.ok dX6_about_70 1 rfl ?_
      refine x_ialp (v := I 12 10 c.toNatClampNeg) h.ok dX6_about_71 rfl (vp_mono (mNo_in hn h12 (pI_0.mp c_10)) h12) rfl ?_
      refine r_iret h dX6_about_72 ⟨by decide, by decide⟩ ⟨(by unfold mAbout_r; simp only [if_pos c_10, if_neg s_0, if_pos s_1]), rfl, rfl⟩
    by_cases s_2 : a = 2
    · refine r_tableIn (off := 57) h.ok 73 dX6_about_16 (by rw [s_2]; decide) (by rw [s_2]; decide) (by rw [s_2]; rfl) (by decide) ?_
      refine r_aload_n h.ok dX6_about_73 0 rfl ?_
      refine r_iload_n h.ok dX6_about_74 1 rfl ?_
      refine r_callV h.ok [.int c] [] dX6_about_75 (c_X6_hasRight D E ad I F lc ln c (vp_mono (mNo_in hn h12 (pI_0.mp c_10)) h12)) wml_X6_169 wim_X6_hasRight wse_X6_hasRight win_X6 wco_X6_hasRight yok_X6_hasRight (xo_11 _) rfl rfl ⟨by decide, by decide, by simp [gRm], by simp [gRm]⟩ (Nat.le_of_ble_eq_true rfl) rfl ?_
      show Rn 78 [(0, .ref (ad 11 0)), (1, .int c), (2, .int a)] [.int (pI (mRight I c))] ad (cX E ad I F lc ln) 0 0
      refine r_if_eq h.ok 85 dX6_about_78 (by decide) (fun c_78 => ?_) (fun c_78 => ?_)
      · refine r_iconst (v := 0) h.ok dX6_about_85 (by decide) ?_
        refine r_iret h dX6_about_86 ⟨by decide, by decide⟩ ⟨(by unfold mAbout_r; simp only [if_pos c_10, if_neg s_0, if_neg s_1, if_pos s_2, if_pos c_78]), rfl, rfl⟩
      · refine r_iconst (v := 1) h.ok dX6_about_81 (by decide) ?_
        refine r_goto h.ok 86 dX6_about_82 (by decide) ?_
        refine r_iret h dX6_about_86 ⟨by decide, by decide⟩ ⟨(by unfold mAbout_r; simp only [if_pos c_10, if_neg s_0, if_neg s_1, if_pos s_2, if_neg c_78]), rfl, rfl⟩
    by_cases s_3 : a = 3
    · refine r_tableIn (off := 71) h.ok 87 dX6_about_16 (by rw [s_3]; decide) (by rw [s_3]; decide) (by rw [s_3]; rfl) (by decide) ?_
      refine r_aload_n h.ok dX6_about_87 0 rfl ?_
      refine r_iload_n h.ok dX6_about_88 1 rfl ?_
      refine r_callV h.ok [.int c] [] dX6_about_89 (c_X6_fedToday D E ad I F lc ln c (vp_mono (mNo_in hn h12 (pI_0.mp c_10)) h12)) wml_X6_142 wim_X6_fedToday wse_X6_fedToday win_X6 wco_X6_fedToday yok_X6_fedToday (xo_11 _) rfl rfl ⟨by decide, by decide, by simp [gRm], by simp [gRm]⟩ (Nat.le_of_ble_eq_true rfl) rfl ?_
      show Rn 92 [(0, .ref (ad 11 0)), (1, .int c), (2, .int a)] [.int (mFed I c)] ad (cX E ad I F lc ln) 0 0
      refine r_iret h dX6_about_92 ⟨by decide, by decide⟩ ⟨(by unfold mAbout_r; simp only [if_pos c_10, if_neg s_0, if_neg s_1, if_neg s_2, if_pos s_3]), rfl, rfl⟩
    by_cases s_4 : a = 4
    · refine r_tableIn (off := 77) h.ok 93 dX6_about_16 (by rw [s_4]; decide) (by rw [s_4]; decide) (by rw [s_4]; rfl) (by decide) ?_
      refine r_aload_n h.ok dX6_about_93 0 rfl ?_
      refine r_iload_n h.ok dX6_about_94 1 rfl ?_
      refine r_callV h.ok [.int c] [] dX6_about_95 (c_X6_placeOf D E ad I F lc ln c nv nw hw w12 v500 hq) wml_X6_172 wim_X6_placeOf wse_X6_placeOf win_X6 wco_X6_placeOf yok_X6_placeOf (xo_11 _) rfl rfl ⟨by decide, by decide, by simp [gRm], by simp [gRm]⟩ (Nat.le_of_ble_eq_true rfl) rfl ?_
      show Rn 98 [(0, .ref (ad 11 0)), (1, .int c), (2, .int a)] [.int (mPlace I nw c)] ad (cX E ad I F lc ln) 0 0
      refine r_iret h dX6_about_98 ⟨by decide, by decide⟩ ⟨(by unfold mAbout_r; simp only [if_pos c_10, if_neg s_0, if_neg s_1, if_neg s_2, if_neg s_3, if_pos s_4]), rfl, rfl⟩
    by_cases s_5 : a = 5
    · refine r_tableIn (off := 83) h.ok 99 dX6_about_16 (by rw [s_5]; decide) (by rw [s_5]; decide) (by rw [s_5]; rfl) (by decide) ?_
      refine r_aload_n h.ok dX6_about_99 0 rfl ?_
      refine r_get h.ok 15 dX6_about_100 (xo_11 _) rfl inX6 (by decide) wfl_X6_47 rfl ?_
      refine r_iload_n h.ok dX6_about_103 1 rfl ?_
      refine x_ialp (v := I 12 15 c.toNatClampNeg) h.ok dX6_about_104 rfl (vp_mono (mNo_in hn h12 (pI_0.mp c_10)) h12) rfl ?_
      refine r_iret h dX6_about_105 ⟨by decide, by decide⟩ ⟨(by unfold mAbout_r; simp only [if_pos c_10, if_neg s_0, if_neg s_1, if_neg s_2, if_neg s_3, if_neg s_4, if_pos s_5]), rfl, rfl⟩
    by_cases s_6 : a = 6
    · refine r_tableIn (off := 90) h.ok 106 dX6_about_16 (by rw [s_6]; decide) (by rw [s_6]; decide) (by rw [s_6]; rfl) (by decide) ?_
      refine r_aload_n h.ok dX6_about_106 0 rfl ?_
      refine r_get h.ok 16 dX6_about_107 (xo_11 _) rfl inX6 (by decide) wfl_X6_50 rfl ?_
      refine r_iload_n h.ok dX6_about_110 1 rfl ?_
      refine x_ialp (v := I 12 16 c.toNatClampNeg) h.ok dX6_about_111 rfl (vp_mono (mNo_in hn h12 (pI_0.mp c_10)) h12) rfl ?_
      refine r_iret h dX6_about_112 ⟨by decide, by decide⟩ ⟨(by unfold mAbout_r; simp only [if_pos c_10, if_neg s_0, if_neg s_1, if_neg s_2, if_neg s_3, if_neg s_4, if_neg s_5, if_pos s_6]), rfl, rfl⟩
    refine r_tableOut h.ok 113 dX6_about_16 (gOut6 s_0 s_1 s_2 s_3 s_4 s_5 s_6) (by decide) ?_
    refine r_bipush (v := (-2)) h.ok dX6_about_113 (by decide) ?_
    refine r_iret h dX6_about_115 ⟨by decide, by decide⟩ ⟨(by unfold mAbout_r; simp only [if_pos c_10, if_neg s_0, if_neg s_1, if_neg s_2, if_neg s_3, if_neg s_4, if_neg s_5, if_neg s_6]), rfl, rfl⟩
  · refine r_iconst (v := (-1)) h.ok dX6_about_13 (by decide) ?_
    refine r_iret h dX6_about_14 ⟨by decide, by decide⟩ ⟨(by unfold mAbout_r; simp only [if_neg c_10]), rfl, rfl⟩
