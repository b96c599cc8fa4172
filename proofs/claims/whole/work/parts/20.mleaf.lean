theorem i64_lt {x y : Int32} : x.toInt64 < y.toInt64 ↔ x < y := by
  rw [Int64.lt_iff_toInt_lt, Int32.lt_iff_toInt_lt, Int32.toInt_toInt64, Int32.toInt_toInt64]
theorem cmp_lt {x y : Int32} : lg_cmp x.toInt64 y.toInt64 < 0 ↔ x < y := by
  unfold lg_cmp
  by_cases h1 : y < x
  · rw [if_pos (i64_lt.mpr h1)]
    exact ⟨fun h => absurd h (by decide), fun h => absurd h (by rw [Int32.lt_iff_toInt_lt] at *; omega)⟩
  · rw [if_neg (fun q => h1 (i64_lt.mp q))]
    by_cases h2 : x = y
    · subst h2
      rw [if_pos rfl]
      exact ⟨fun h => absurd h (by decide), fun h => absurd h h1⟩
    · rw [if_neg (fun q => h2 (Int32.toInt_inj.mp (by rw [← Int32.toInt_toInt64, q, Int32.toInt_toInt64])))]
      refine ⟨fun _ => ?_, fun _ => by decide⟩
      rw [Int32.lt_iff_toInt_lt] at *
      have h3 : x.toInt ≠ y.toInt := fun q => h2 (Int32.toInt_inj.mp q)
      omega
theorem cmp_gt {x y : Int32} : 0 < lg_cmp x.toInt64 y.toInt64 ↔ y < x := by
  unfold lg_cmp
  by_cases h1 : y < x
  · rw [if_pos (i64_lt.mpr h1)]
    exact ⟨fun _ => h1, fun _ => by decide⟩
  · rw [if_neg (fun q => h1 (i64_lt.mp q))]
    refine ⟨fun h => absurd h ?_, fun h => absurd h h1⟩
    split <;> decide
/-- between: as the programs ask it -/
def mIn (x y z : Int32) : Prop := ¬ x < y ∧ ¬ z < x
theorem mIn_or (x y z : Int32) : mIn x y z ∨ ¬ mIn x y z := Classical.em _
noncomputable def mNo (I : gI) (c : Int32) : Prop := ¬ mIn c 0 (I 11 0 3 - 1)
def mHas (I : gI) (c : Int32) : Int32 := if I 12 9 c.toNatClampNeg + I 12 5 c.toNatClampNeg * (I 11 0 1 - I 12 8 c.toNatClampNeg) / 60 ≤ 400 then I 12 9 c.toNatClampNeg + I 12 5 c.toNatClampNeg * (I 11 0 1 - I 12 8 c.toNatClampNeg) / 60 else 400
def mRight (I : gI) (c : Int32) : Prop := I 12 10 c.toNatClampNeg = -9 ∨ ¬ I 11 0 1 - I 12 10 c.toNatClampNeg < I 12 6 c.toNatClampNeg
def mFed (I : gI) (c : Int32) : Int32 := if I 12 13 c.toNatClampNeg = I 11 0 1 / 1440 then I 12 14 c.toNatClampNeg else 0
def mBox (I : gI) : Int32 := if I 11 0 31 = -9 then -9 else I 12 19 (I 11 0 31).toNatClampNeg
noncomputable def pI (p : Prop) : Int32 := @ite Int32 p (Classical.propDecidable p) 1 0
theorem pI_t {p : Prop} (h : p) : pI p = 1 := if_pos h
theorem pI_f {p : Prop} (h : ¬ p) : pI p = 0 := if_neg h
theorem pI_01 (p : Prop) : pI p = 0 ∨ pI p = 1 := by
  by_cases h : p
  · exact Or.inr (pI_t h)
  · exact Or.inl (pI_f h)
theorem pI_0 {p : Prop} : pI p = 0 ↔ ¬ p := ⟨fun h q => by rw [pI_t q] at h; exact absurd h (by decide), pI_f⟩
theorem pI_n0 {p : Prop} : ¬ pI p = 0 ↔ p := by rw [pI_0, Classical.not_not]
set_option maxHeartbeats 4000000 in
set_option maxRecDepth 100000 in
theorem c_X6_in (D : va_G) (E : gEc) (ad : gAd) (I : gI) (F : gF) (lc ln : Nat) (x y z : Int32) : gCon D E yX6_in cX6_in 6 (some .boolean) 0 0 0 [.long x.toInt64, .long y.toInt64, .long z.toInt64] ad (cX E ad I F lc ln) (gPd (some (.int (pI (mIn x y z)))) ad (cX E ad I F lc ln)) := by
  refine gCon.of (by decide) (Nat.le_of_ble_eq_true rfl) ?_
  intro l A Rn h
  show Rn 0 [(0, .long x.toInt64), (2, .long y.toInt64), (4, .long z.toInt64)] [] ad (cX E ad I F lc ln) 0 0
  refine r_lload_n h.ok dX6_in_0 0 rfl ?_
  refine r_lload_n h.ok dX6_in_1 1 rfl ?_
  refine r_lcmp h.ok dX6_in_2 ?_
  refine r_if_lt h.ok 17 dX6_in_3 (by decide) (fun c_3 => ?_) (fun c_3 => ?_)
  · refine r_iconst (v := 0) h.ok dX6_in_17 (by decide) ?_
    refine r_zret h dX6_in_18 ⟨by decide, by decide⟩ (by simp) ⟨?_, rfl, rfl⟩
    congr 2
    exact (pI_f (fun q => q.1 (cmp_lt.mp c_3))).symm
  · refine r_lload_n h.ok dX6_in_6 0 rfl ?_
    refine r_lload h.ok dX6_in_7 2 rfl ?_
    refine r_lcmp h.ok dX6_in_9 ?_
    refine r_if_gt h.ok 17 dX6_in_10 (by decide) (fun c_10 => ?_) (fun c_10 => ?_)
    · refine r_iconst (v := 0) h.ok dX6_in_17 (by decide) ?_
      refine r_zret h dX6_in_18 ⟨by decide, by decide⟩ (by simp) ⟨?_, rfl, rfl⟩
      congr 2
      exact (pI_f (fun q => q.2 (cmp_gt.mp c_10))).symm
    · refine r_iconst (v := 1) h.ok dX6_in_13 (by decide) ?_
      refine r_goto h.ok 18 dX6_in_14 (by decide) ?_
      refine r_zret h dX6_in_18 ⟨by decide, by decide⟩ (by simp) ⟨?_, rfl, rfl⟩
      congr 2
      exact (pI_t ⟨fun q => c_3 (cmp_lt.mpr q), fun q => c_10 (cmp_gt.mpr q)⟩).symm
set_option maxHeartbeats 4000000 in
set_option maxRecDepth 100000 in
theorem c_X6_noCow (D : va_G) (E : gEc) (ad : gAd) (I : gI) (F : gF) (lc ln : Nat) (c : Int32) : gCon D E yX6_noCow cX6_noCow 2 (some .boolean) 1 0 0 [.ref (ad 11 0), .int c] ad (cX E ad I F lc ln) (gPd (some (.int (pI (mNo I c)))) ad (cX E ad I F lc ln)) := by
  refine gCon.of (by decide) (Nat.le_of_ble_eq_true rfl) ?_
  intro l A Rn h
  show Rn 0 [(0, .ref (ad 11 0)), (1, .int c)] [] ad (cX E ad I F lc ln) 0 0
  refine r_iload_n h.ok dX6_noCow_0 1 rfl ?_
  refine r_i2l h.ok dX6_noCow_1 ?_
  refine r_lconst (v := Int32.toInt64 0) h.ok dX6_noCow_2 (by decide) ?_
  refine r_aload_n h.ok dX6_noCow_3 0 rfl ?_
  refine r_get (v := .int (I 11 0 3)) h.ok 3 dX6_noCow_4 (xo_11 _) rfl inX6 (by decide) wfl_X6_100 rfl ?_
  refine r_iconst (v := 1) h.ok dX6_noCow_7 (by decide) ?_
  refine r_isub h.ok dX6_noCow_8 ?_
  refine r_i2l h.ok dX6_noCow_9 ?_
  refine r_callS h.ok [.long (Int32.toInt64 c), .long (Int32.toInt64 0), .long (Int32.toInt64 ((I 11 0 3) - 1))] [] dX6_noCow_10 (c_X6_in D E ad I F lc ln c 0 ((I 11 0 3) - 1)) wml_X6_103 wst_X6_in win_X6 wco_X6_in yok_X6_in ⟨by decide, by decide, by simp [gRm], by simp [gRm]⟩ (Nat.le_of_ble_eq_true rfl) rfl ?_
  show Rn 13 [(0, .ref (ad 11 0)), (1, .int c)] [.int (pI (mIn c 0 ((I 11 0 3) - 1)))] ad (cX E ad I F lc ln) 0 0
  refine r_if_ne h.ok 20 dX6_noCow_13 (by decide) (fun c_13 => ?_) (fun c_13 => ?_)
  · refine r_iconst (v := 0) h.ok dX6_noCow_20 (by decide) ?_
    refine r_zret h dX6_noCow_21 ⟨by decide, by decide⟩ (by simp) ⟨by rw [pI_f (show ¬ mNo I c from fun q => q (pI_n0.mp c_13))], rfl, rfl⟩
  · refine r_iconst (v := 1) h.ok dX6_noCow_16 (by decide) ?_
    refine r_goto h.ok 21 dX6_noCow_17 (by decide) ?_
    refine r_zret h dX6_noCow_21 ⟨by decide, by decide⟩ (by simp) ⟨by rw [pI_t (show mNo I c from pI_0.mp c_13)], rfl, rfl⟩
set_option maxHeartbeats 4000000 in
set_option maxRecDepth 100000 in
theorem c_X6_has (D : va_G) (E : gEc) (ad : gAd) (I : gI) (F : gF) (lc ln : Nat) (c : Int32) (hc : vp_in c 12) : gCon D E yX6_has cX6_has 3 (some .int) 0 0 0 [.ref (ad 11 0), .int c] ad (cX E ad I F lc ln) (gPd (some (.int (mHas I c))) ad (cX E ad I F lc ln)) := by
  refine gCon.of (by decide) (Nat.le_of_ble_eq_true rfl) ?_
  intro l A Rn h
  show Rn 0 [(0, .ref (ad 11 0)), (1, .int c)] [] ad (cX E ad I F lc ln) 0 0
  refine r_aload_n h.ok dX6_has_0 0 rfl ?_
  refine r_get h.ok 9 dX6_has_1 (xo_11 _) rfl inX6 (by decide) wfl_X6_29 rfl ?_
  refine r_iload_n h.ok dX6_has_4 1 rfl ?_
  refine x_ialp (v := I 12 9 c.toNatClampNeg) h.ok dX6_has_5 rfl hc rfl ?_
  refine r_aload_n h.ok dX6_has_6 0 rfl ?_
  refine r_get h.ok 5 dX6_has_7 (xo_11 _) rfl inX6 (by decide) wfl_X6_17 rfl ?_
  refine r_iload_n h.ok dX6_has_10 1 rfl ?_
  refine x_ialp (v := I 12 5 c.toNatClampNeg) h.ok dX6_has_11 rfl hc rfl ?_
  refine r_aload_n h.ok dX6_has_12 0 rfl ?_
  refine r_get (v := .int (I 11 0 1)) h.ok 1 dX6_has_13 (xo_11 _) rfl inX6 (by decide) wfl_X6_107 rfl ?_
  refine r_aload_n h.ok dX6_has_16 0 rfl ?_
  refine r_get h.ok 8 dX6_has_17 (xo_11 _) rfl inX6 (by decide) wfl_X6_26 rfl ?_
  refine r_iload_n h.ok dX6_has_20 1 rfl ?_
  refine x_ialp (v := I 12 8 c.toNatClampNeg) h.ok dX6_has_21 rfl hc rfl ?_
  refine r_isub h.ok dX6_has_22 ?_
  refine r_imul h.ok dX6_has_23 ?_
  refine r_bipush (v := 60) h.ok dX6_has_24 (by decide) ?_
  refine r_idiv h.ok dX6_has_26 (by decide) ?_
  refine r_iadd h.ok dX6_has_27 ?_
  refine r_istore_n (lv' := [(2, .int ((I 12 9 c.toNatClampNeg) + (((I 12 5 c.toNatClampNeg) * ((I 11 0 1) - (I 12 8 c.toNatClampNeg))) / 60))), (0, .ref (ad 11 0)), (1, .int c)]) h.ok dX6_has_28 (by decide) rfl ?_
  refine r_iload_n h.ok dX6_has_29 0 rfl ?_
  refine r_sipush (v := 400) h.ok dX6_has_30 (by decide) ?_
  refine r_icmp_le h.ok 42 dX6_has_33 (by decide) (fun c_33 => ?_) (fun c_33 => ?_)
  · refine r_iload_n h.ok dX6_has_42 0 rfl ?_
    refine r_iret h dX6_has_43 ⟨by decide, by decide⟩ ⟨by simp [mHas, c_33], rfl, rfl⟩
  · refine r_sipush (v := 400) h.ok dX6_has_36 (by decide) ?_
    refine r_goto h.ok 43 dX6_has_39 (by decide) ?_
    refine r_iret h dX6_has_43 ⟨by decide, by decide⟩ ⟨by simp [mHas, c_33], rfl, rfl⟩
set_option maxHeartbeats 4000000 in
set_option maxRecDepth 100000 in
theorem c_X6_hasRight (D : va_G) (E : gEc) (ad : gAd) (I : gI) (F : gF) (lc ln : Nat) (c : Int32) (hc : vp_in c 12) : gCon D E yX6_hasRight cX6_hasRight 2 (some .boolean) 0 0 0 [.ref (ad 11 0), .int c] ad (cX E ad I F lc ln) (gPd (some (.int (pI (mRight I c)))) ad (cX E ad I F lc ln)) := by
  refine gCon.of (by decide) (Nat.le_of_ble_eq_true rfl) ?_
  intro l A Rn h
  show Rn 0 [(0, .ref (ad 11 0)), (1, .int c)] [] ad (cX E ad I F lc ln) 0 0
  refine r_aload_n h.ok dX6_hasRight_0 0 rfl ?_
  refine r_get h.ok 10 dX6_hasRight_1 (xo_11 _) rfl inX6 (by decide) wfl_X6_32 rfl ?_
  refine r_iload_n h.ok dX6_hasRight_4 1 rfl ?_
  refine x_ialp (v := I 12 10 c.toNatClampNeg) h.ok dX6_hasRight_5 rfl hc rfl ?_
  refine r_bipush (v := (-9)) h.ok dX6_hasRight_6 (by decide) ?_
  refine r_icmp_eq h.ok 31 dX6_hasRight_8 (by decide) (fun c_8 => ?_) (fun c_8 => ?_)
  · refine r_iconst (v := 1) h.ok dX6_hasRight_31 (by decide) ?_
    refine r_goto h.ok 36 dX6_hasRight_32 (by decide) ?_
    refine r_zret h dX6_hasRight_36 ⟨by decide, by decide⟩ (by simp) ⟨by rw [pI_t (show mRight I c from Or.inl c_8)], rfl, rfl⟩
  · refine r_aload_n h.ok dX6_hasRight_11 0 rfl ?_
    refine r_get (v := .int (I 11 0 1)) h.ok 1 dX6_hasRight_12 (xo_11 _) rfl inX6 (by decide) wfl_X6_107 rfl ?_
    refine r_aload_n h.ok dX6_hasRight_15 0 rfl ?_
    refine r_get h.ok 10 dX6_hasRight_16 (xo_11 _) rfl inX6 (by decide) wfl_X6_32 rfl ?_
    refine r_iload_n h.ok dX6_hasRight_19 1 rfl ?_
    refine x_ialp (v := I 12 10 c.toNatClampNeg) h.ok dX6_hasRight_20 rfl hc rfl ?_
    refine r_isub h.ok dX6_hasRight_21 ?_
    refine r_aload_n h.ok dX6_hasRight_22 0 rfl ?_
    refine r_get h.ok 6 dX6_hasRight_23 (xo_11 _) rfl inX6 (by decide) wfl_X6_20 rfl ?_
    refine r_iload_n h.ok dX6_hasRight_26 1 rfl ?_
    refine x_ialp (v := I 12 6 c.toNatClampNeg) h.ok dX6_hasRight_27 rfl hc rfl ?_
    refine r_icmp_lt h.ok 35 dX6_hasRight_28 (by decide) (fun c_28 => ?_) (fun c_28 => ?_)
    · refine r_iconst (v := 0) h.ok dX6_hasRight_35 (by decide) ?_
      refine r_zret h dX6_hasRight_36 ⟨by decide, by decide⟩ (by simp) ⟨by rw [pI_f (show ¬ mRight I c from fun q => q.elim c_8 (fun q => q c_28))], rfl, rfl⟩
    · refine r_iconst (v := 1) h.ok dX6_hasRight_31 (by decide) ?_
      refine r_goto h.ok 36 dX6_hasRight_32 (by decide) ?_
      refine r_zret h dX6_hasRight_36 ⟨by decide, by decide⟩ (by simp) ⟨by rw [pI_t (show mRight I c from Or.inr c_28)], rfl, rfl⟩
set_option maxHeartbeats 4000000 in
set_option maxRecDepth 100000 in
theorem c_X6_fedToday (D : va_G) (E : gEc) (ad : gAd) (I : gI) (F : gF) (lc ln : Nat) (c : Int32) (hc : vp_in c 12) : gCon D E yX6_fedToday cX6_fedToday 2 (some .int) 0 0 0 [.ref (ad 11 0), .int c] ad (cX E ad I F lc ln) (gPd (some (.int (mFed I c))) ad (cX E ad I F lc ln)) := by
  refine gCon.of (by decide) (Nat.le_of_ble_eq_true rfl) ?_
  intro l A Rn h
  show Rn 0 [(0, .ref (ad 11 0)), (1, .int c)] [] ad (cX E ad I F lc ln) 0 0
  refine r_aload_n h.ok dX6_fedToday_0 0 rfl ?_
  refine r_get h.ok 13 dX6_fedToday_1 (xo_11 _) rfl inX6 (by decide) wfl_X6_41 rfl ?_
  refine r_iload_n h.ok dX6_fedToday_4 1 rfl ?_
  refine x_ialp (v := I 12 13 c.toNatClampNeg) h.ok dX6_fedToday_5 rfl hc rfl ?_
  refine r_aload_n h.ok dX6_fedToday_6 0 rfl ?_
  refine r_get (v := .int (I 11 0 1)) h.ok 1 dX6_fedToday_7 (xo_11 _) rfl inX6 (by decide) wfl_X6_107 rfl ?_
  refine r_sipush (v := 1440) h.ok dX6_fedToday_10 (by decide) ?_
  refine r_idiv h.ok dX6_fedToday_13 (by decide) ?_
  refine r_icmp_ne h.ok 26 dX6_fedToday_14 (by decide) (fun c_14 => ?_) (fun c_14 => ?_)
  · refine r_iconst (v := 0) h.ok dX6_fedToday_26 (by decide) ?_
    refine r_iret h dX6_fedToday_27 ⟨by decide, by decide⟩ ⟨by simp [mFed, c_14], rfl, rfl⟩
  · refine r_aload_n h.ok dX6_fedToday_17 0 rfl ?_
    refine r_get h.ok 14 dX6_fedToday_18 (xo_11 _) rfl inX6 (by decide) wfl_X6_44 rfl ?_
    refine r_iload_n h.ok dX6_fedToday_21 1 rfl ?_
    refine x_ialp (v := I 12 14 c.toNatClampNeg) h.ok dX6_fedToday_22 rfl hc rfl ?_
    refine r_goto h.ok 27 dX6_fedToday_23 (by decide) ?_
    refine r_iret h dX6_fedToday_27 ⟨by decide, by decide⟩ ⟨by simp [mFed, c_14], rfl, rfl⟩
set_option maxHeartbeats 4000000 in
set_option maxRecDepth 100000 in
theorem c_X6_cowInBox (D : va_G) (E : gEc) (ad : gAd) (I : gI) (F : gF) (lc ln : Nat) (hb : I 11 0 31 = -9 ∨ vp_in (I 11 0 31) 500) : gCon D E yX6_cowInBox cX6_cowInBox 1 (some .int) 0 0 0 [.ref (ad 11 0)] ad (cX E ad I F lc ln) (gPd (some (.int (mBox I))) ad (cX E ad I F lc ln)) := by
  refine gCon.of (by decide) (Nat.le_of_ble_eq_true rfl) ?_
  intro l A Rn h
  show Rn 0 [(0, .ref (ad 11 0))] [] ad (cX E ad I F lc ln) 0 0
  refine r_aload_n h.ok dX6_cowInBox_0 0 rfl ?_
  refine r_get (v := .int (I 11 0 31)) h.ok 31 dX6_cowInBox_1 (xo_11 _) rfl inX6 (by decide) wfl_X6_90 rfl ?_
  refine r_bipush (v := (-9)) h.ok dX6_cowInBox_4 (by decide) ?_
  refine r_icmp_ne h.ok 14 dX6_cowInBox_6 (by decide) (fun c_6 => ?_) (fun c_6 => ?_)
  · refine r_aload_n h.ok dX6_cowInBox_14 0 rfl ?_
    refine r_get h.ok 19 dX6_cowInBox_15 (xo_11 _) rfl inX6 (by decide) wfl_X6_56 rfl ?_
    refine r_aload_n h.ok dX6_cowInBox_18 0 rfl ?_
    refine r_get (v := .int (I 11 0 31)) h.ok 31 dX6_cowInBox_19 (xo_11 _) rfl inX6 (by decide) wfl_X6_90 rfl ?_
    refine x_ialp (v := I 12 19 ((I 11 0 31).toNatClampNeg)) h.ok dX6_cowInBox_22 rfl (hb.elim (fun q => absurd q c_6) id) rfl ?_
    refine r_iret h dX6_cowInBox_23 ⟨by decide, by decide⟩ ⟨by simp [mBox, c_6], rfl, rfl⟩
  · refine r_bipush (v := (-9)) h.ok dX6_cowInBox_9 (by decide) ?_
    refine r_goto h.ok 23 dX6_cowInBox_11 (by decide) ?_
    refine r_iret h dX6_cowInBox_23 ⟨by decide, by decide⟩ ⟨by simp [mBox, c_6], rfl, rfl⟩
