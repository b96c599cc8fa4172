noncomputable def bv (F : gF) : Nat := (F 1 0).getD 0
noncomputable def qv (F : gF) (j : Nat) : Nat := (F 0 j).getD 0
noncomputable def bMilkAt_r (I : gI) (F : gF) (i : Nat) (m : Int32) : Int32 := if ((I 4 i 9) + (((I 4 i 1) * (m - (I 4 i 8))) / 60)) < 400 then (I 4 i 9) + (((I 4 i 1) * (m - (I 4 i 8))) / 60) else 400
set_option maxHeartbeats 4000000 in
set_option maxRecDepth 100000 in
theorem c_X1_milkAt (D : va_G) (E : gEc) (ad : gAd) (I : gI) (F : gF) (lc ln : Nat) (i : Nat) (hi : i < lc) (m : Int32) : gCon D E yX1_milkAt cX1_milkAt 2 (some .int) 1 0 0 [.ref (ad 4 i), .int m] ad (cX E ad I F lc ln) (gPd (some (.int (bMilkAt_r I F i m))) ad (cX E ad I F lc ln)) := by
  refine gCon.of (by decide) (Nat.le_of_ble_eq_true rfl) ?_
  intro l A Rn h
  show Rn 0 [(0, .ref (ad 4 i)), (1, .int m)] [] ad (cX E ad I F lc ln) 0 0
  refine r_sipush (v := 400) h.ok dX1_milkAt_0 (by decide) ?_
  refine r_aload_n h.ok dX1_milkAt_3 0 rfl ?_
  refine r_get (v := .int (I 4 i 9)) h.ok 9 dX1_milkAt_4 (xo_4 hi _) rfl inX1 (by decide) wfl_X1_37 rfl ?_
  refine r_aload_n h.ok dX1_milkAt_7 0 rfl ?_
  refine r_get (v := .int (I 4 i 1)) h.ok 1 dX1_milkAt_8 (xo_4 hi _) rfl inX1 (by decide) wfl_X1_25 rfl ?_
  refine r_iload_n h.ok dX1_milkAt_11 1 rfl ?_
  refine r_aload_n h.ok dX1_milkAt_12 0 rfl ?_
  refine r_get (v := .int (I 4 i 8)) h.ok 8 dX1_milkAt_13 (xo_4 hi _) rfl inX1 (by decide) wfl_X1_34 rfl ?_
  refine r_isub h.ok dX1_milkAt_16 ?_
  refine r_imul h.ok dX1_milkAt_17 ?_
  refine r_bipush (v := 60) h.ok dX1_milkAt_18 (by decide) ?_
  refine r_idiv h.ok dX1_milkAt_20 (by decide) ?_
  refine r_iadd h.ok dX1_milkAt_21 ?_
  refine r_mmin h.ok dX1_milkAt_22 wml_X1_40 ⟨by decide, Nat.le_of_ble_eq_true rfl, by decide, by decide⟩ ?_
  refine r_iret h dX1_milkAt_25 ⟨by decide, by decide⟩ ⟨(by unfold bMilkAt_r; rfl), rfl, rfl⟩
noncomputable def bMinutesTo_r (I : gI) (F : gF) (i : Nat) (a m : Int32) : Int32 := (if (I 4 i 1) < 1 then 0 else (if (bMilkAt_r I F i m) < a then (((((a - (I 4 i 9)) * 60) + (I 4 i 1)) - 1) / (I 4 i 1)) - (m - (I 4 i 8)) else 0))
set_option maxHeartbeats 4000000 in
set_option maxRecDepth 100000 in
theorem c_X1_minutesTo (D : va_G) (E : gEc) (ad : gAd) (I : gI) (F : gF) (lc ln : Nat) (i : Nat) (hi : i < lc) (a m : Int32) : gCon D E yX1_minutesTo cX1_minutesTo 4 (some .int) 2 0 0 [.ref (ad 4 i), .int a, .int m] ad (cX E ad I F lc ln) (gPd (some (.int (bMinutesTo_r I F i a m))) ad (cX E ad I F lc ln)) := by
  refine gCon.of (by decide) (Nat.le_of_ble_eq_true rfl) ?_
  intro l A Rn h
  show Rn 0 [(0, .ref (ad 4 i)), (1, .int a), (2, .int m)] [] ad (cX E ad I F lc ln) 0 0
  refine r_aload_n h.ok dX1_minutesTo_0 0 rfl ?_
  refine r_get (v := .int (I 4 i 1)) h.ok 1 dX1_minutesTo_1 (xo_4 hi _) rfl inX1 (by decide) wfl_X1_25 rfl ?_
  refine r_iconst (v := 1) h.ok dX1_minutesTo_4 (by decide) ?_
  refine r_icmp_lt h.ok 17 dX1_minutesTo_5 (by decide) (fun c_5 => ?_) (fun c_5 => ?_)
  · refine r_iconst (v := 0) h.ok dX1_minutesTo_17 (by decide) ?_
    refine r_iret h dX1_minutesTo_18 ⟨by decide, by decide⟩ ⟨(by unfold bMinutesTo_r; simp only [if_pos c_5]), rfl, rfl⟩
  · refine r_iload_n h.ok dX1_minutesTo_8 1 rfl ?_
    refine r_aload_n h.ok dX1_minutesTo_9 0 rfl ?_
    refine r_iload_n h.ok dX1_minutesTo_10 2 rfl ?_
    refine r_callV h.ok [.int m] [.int a] dX1_minutesTo_11 (c_X1_milkAt D E ad I F lc ln i hi m) wml_X1_46 wim_X1_milkAt wse_X1_milkAt win_X1 wco_X1_milkAt yok_X1_milkAt (xo_4 hi _) rfl rfl ⟨by decide, by decide, by simp [gRm], by simp [gRm]⟩ (Nat.le_of_ble_eq_true rfl) rfl ?_
    show Rn 14 [(0, .ref (ad 4 i)), (1, .int a), (2, .int m)] [.int (bMilkAt_r I F i m), .int a] ad (cX E ad I F lc ln) 0 0
    refine r_icmp_gt h.ok 19 dX1_minutesTo_14 (by decide) (fun c_14 => ?_) (fun c_14 => ?_)
    · refine r_iload_n h.ok dX1_minutesTo_19 1 rfl ?_
      refine r_aload_n h.ok dX1_minutesTo_20 0 rfl ?_
      refine r_get (v := .int (I 4 i 9)) h.ok 9 dX1_minutesTo_21 (xo_4 hi _) rfl inX1 (by decide) wfl_X1_37 rfl ?_
      refine r_isub h.ok dX1_minutesTo_24 ?_
      refine r_bipush (v := 60) h.ok dX1_minutesTo_25 (by decide) ?_
      refine r_imul h.ok dX1_minutesTo_27 ?_
      refine r_aload_n h.ok dX1_minutesTo_28 0 rfl ?_
      refine r_get (v := .int (I 4 i 1)) h.ok 1 dX1_minutesTo_29 (xo_4 hi _) rfl inX1 (by decide) wfl_X1_25 rfl ?_
      refine r_iadd h.ok dX1_minutesTo_32 ?_
      refine r_iconst (v := 1) h.ok dX1_minutesTo_33 (by decide) ?_
      refine r_isub h.ok dX1_minutesTo_34 ?_
      refine r_aload_n h.ok dX1_minutesTo_35 0 rfl ?_
      refine r_get (v := .int (I 4 i 1)) h.ok 1 dX1_minutesTo_36 (xo_4 hi _) rfl inX1 (by decide) wfl_X1_25 rfl ?_
      refine r_idiv h.ok dX1_minutesTo_39 (fun q => c_5 (by rw [q]; decide)) ?_
      refine r_istore_n (lv' := [(3, .int (((((a - (I 4 i 9)) * 60) + (I 4 i 1)) - 1) / (I 4 i 1))), (0, .ref (ad 4 i)), (1, .int a), (2, .int m)]) h.ok dX1_minutesTo_40 (by decide) rfl ?_
      refine r_iload_n h.ok dX1_minutesTo_41 0 rfl ?_
      refine r_iload_n h.ok dX1_minutesTo_42 3 rfl ?_
      refine r_aload_n h.ok dX1_minutesTo_43 1 rfl ?_
      refine r_get (v := .int (I 4 i 8)) h.ok 8 dX1_minutesTo_44 (xo_4 hi _) rfl inX1 (by decide) wfl_X1_34 rfl ?_
      refine r_isub h.ok dX1_minutesTo_47 ?_
      refine r_isub h.ok dX1_minutesTo_48 ?_
      refine r_iret h dX1_minutesTo_49 ⟨by decide, by decide⟩ ⟨(by unfold bMinutesTo_r; simp only [if_neg c_5, if_pos c_14]), rfl, rfl⟩
    · refine r_iconst (v := 0) h.ok dX1_minutesTo_17 (by decide) ?_
      refine r_iret h dX1_minutesTo_18 ⟨by decide, by decide⟩ ⟨(by unfold bMinutesTo_r; simp only [if_neg c_5, if_neg c_14]), rfl, rfl⟩
noncomputable def bRight_r (I : gI) (F : gF) (i : Nat) (m : Int32) : Int32 := (if (I 4 i 10) = (-9) then 1 else (if (m - (I 4 i 10)) < (I 4 i 2) then 0 else 1))
set_option maxHeartbeats 4000000 in
set_option maxRecDepth 100000 in
theorem c_X1_hasRightAt (D : va_G) (E : gEc) (ad : gAd) (I : gI) (F : gF) (lc ln : Nat) (i : Nat) (hi : i < lc) (m : Int32) : gCon D E yX1_hasRightAt cX1_hasRightAt 2 (some .boolean) 0 0 0 [.ref (ad 4 i), .int m] ad (cX E ad I F lc ln) (gPd (some (.int (bRight_r I F i m))) ad (cX E ad I F lc ln)) := by
  refine gCon.of (by decide) (Nat.le_of_ble_eq_true rfl) ?_
  intro l A Rn h
  show Rn 0 [(0, .ref (ad 4 i)), (1, .int m)] [] ad (cX E ad I F lc ln) 0 0
  refine r_aload_n h.ok dX1_hasRightAt_0 0 rfl ?_
  refine r_get (v := .int (I 4 i 10)) h.ok 10 dX1_hasRightAt_1 (xo_4 hi _) rfl inX1 (by decide) wfl_X1_18 rfl ?_
  refine r_bipush (v := (-9)) h.ok dX1_hasRightAt_4 (by decide) ?_
  refine r_icmp_eq h.ok 22 dX1_hasRightAt_6 (by decide) (fun c_6 => ?_) (fun c_6 => ?_)
  · refine r_iconst (v := 1) h.ok dX1_hasRightAt_22 (by decide) ?_
    refine r_goto h.ok 27 dX1_hasRightAt_23 (by decide) ?_
    refine r_zret h dX1_hasRightAt_27 ⟨by decide, by decide⟩ (by simp) ⟨(by unfold bRight_r; simp only [if_pos c_6]), rfl, rfl⟩
  · refine r_iload_n h.ok dX1_hasRightAt_9 1 rfl ?_
    refine r_aload_n h.ok dX1_hasRightAt_10 0 rfl ?_
    refine r_get (v := .int (I 4 i 10)) h.ok 10 dX1_hasRightAt_11 (xo_4 hi _) rfl inX1 (by decide) wfl_X1_18 rfl ?_
    refine r_isub h.ok dX1_hasRightAt_14 ?_
    refine r_aload_n h.ok dX1_hasRightAt_15 0 rfl ?_
    refine r_get (v := .int (I 4 i 2)) h.ok 2 dX1_hasRightAt_16 (xo_4 hi _) rfl inX1 (by decide) wfl_X1_28 rfl ?_
    refine r_icmp_lt h.ok 26 dX1_hasRightAt_19 (by decide) (fun c_19 => ?_) (fun c_19 => ?_)
    · refine r_iconst (v := 0) h.ok dX1_hasRightAt_26 (by decide) ?_
      refine r_zret h dX1_hasRightAt_27 ⟨by decide, by decide⟩ (by simp) ⟨(by unfold bRight_r; simp only [if_neg c_6, if_pos c_19]), rfl, rfl⟩
    · refine r_iconst (v := 1) h.ok dX1_hasRightAt_22 (by decide) ?_
      refine r_goto h.ok 27 dX1_hasRightAt_23 (by decide) ?_
      refine r_zret h dX1_hasRightAt_27 ⟨by decide, by decide⟩ (by simp) ⟨(by unfold bRight_r; simp only [if_neg c_6, if_neg c_19]), rfl, rfl⟩
noncomputable def bHeld_r (I : gI) (F : gF) (i : Nat) (m : Int32) : Int32 := (if (I 4 i 0) = 2 then 1 else (if (I 4 i 7) ≤ m then 0 else 1))
set_option maxHeartbeats 4000000 in
set_option maxRecDepth 100000 in
theorem c_X1_isWithheldAt (D : va_G) (E : gEc) (ad : gAd) (I : gI) (F : gF) (lc ln : Nat) (i : Nat) (hi : i < lc) (m : Int32) : gCon D E yX1_isWithheldAt cX1_isWithheldAt 2 (some .boolean) 0 0 0 [.ref (ad 4 i), .int m] ad (cX E ad I F lc ln) (gPd (some (.int (bHeld_r I F i m))) ad (cX E ad I F lc ln)) := by
  refine gCon.of (by decide) (Nat.le_of_ble_eq_true rfl) ?_
  intro l A Rn h
  show Rn 0 [(0, .ref (ad 4 i)), (1, .int m)] [] ad (cX E ad I F lc ln) 0 0
  refine r_aload_n h.ok dX1_isWithheldAt_0 0 rfl ?_
  refine r_get (v := .int (I 4 i 0)) h.ok 0 dX1_isWithheldAt_1 (xo_4 hi _) rfl inX1 (by decide) wfl_X1_22 rfl ?_
  refine r_iconst (v := 2) h.ok dX1_isWithheldAt_4 (by decide) ?_
  refine r_icmp_eq h.ok 16 dX1_isWithheldAt_5 (by decide) (fun c_5 => ?_) (fun c_5 => ?_)
  · refine r_iconst (v := 1) h.ok dX1_isWithheldAt_16 (by decide) ?_
    refine r_goto h.ok 21 dX1_isWithheldAt_17 (by decide) ?_
    refine r_zret h dX1_isWithheldAt_21 ⟨by decide, by decide⟩ (by simp) ⟨(by unfold bHeld_r; simp only [if_pos c_5]), rfl, rfl⟩
  · refine r_aload_n h.ok dX1_isWithheldAt_8 0 rfl ?_
    refine r_get (v := .int (I 4 i 7)) h.ok 7 dX1_isWithheldAt_9 (xo_4 hi _) rfl inX1 (by decide) wfl_X1_50 rfl ?_
    refine r_iload_n h.ok dX1_isWithheldAt_12 1 rfl ?_
    refine r_icmp_le h.ok 20 dX1_isWithheldAt_13 (by decide) (fun c_13 => ?_) (fun c_13 => ?_)
    · refine r_iconst (v := 0) h.ok dX1_isWithheldAt_20 (by decide) ?_
      refine r_zret h dX1_isWithheldAt_21 ⟨by decide, by decide⟩ (by simp) ⟨(by unfold bHeld_r; simp only [if_neg c_5, if_pos c_13]), rfl, rfl⟩
    · refine r_iconst (v := 1) h.ok dX1_isWithheldAt_16 (by decide) ?_
      refine r_goto h.ok 21 dX1_isWithheldAt_17 (by decide) ?_
      refine r_zret h dX1_isWithheldAt_21 ⟨by decide, by decide⟩ (by simp) ⟨(by unfold bHeld_r; simp only [if_neg c_5, if_neg c_13]), rfl, rfl⟩
noncomputable def bFedOn_r (I : gI) (F : gF) (i : Nat) (m : Int32) : Int32 := (if (I 4 i 13) = m then I 4 i 12 else 0)
set_option maxHeartbeats 4000000 in
set_option maxRecDepth 100000 in
theorem c_X1_fedOn (D : va_G) (E : gEc) (ad : gAd) (I : gI) (F : gF) (lc ln : Nat) (i : Nat) (hi : i < lc) (m : Int32) : gCon D E yX1_fedOn cX1_fedOn 2 (some .int) 0 0 0 [.ref (ad 4 i), .int m] ad (cX E ad I F lc ln) (gPd (some (.int (bFedOn_r I F i m))) ad (cX E ad I F lc ln)) := by
  refine gCon.of (by decide) (Nat.le_of_ble_eq_true rfl) ?_
  intro l A Rn h
  show Rn 0 [(0, .ref (ad 4 i)), (1, .int m)] [] ad (cX E ad I F lc ln) 0 0
  refine r_aload_n h.ok dX1_fedOn_0 0 rfl ?_
  refine r_get (v := .int (I 4 i 13)) h.ok 13 dX1_fedOn_1 (xo_4 hi _) rfl inX1 (by decide) wfl_X1_53 rfl ?_
  refine r_iload_n h.ok dX1_fedOn_4 1 rfl ?_
  refine r_icmp_ne h.ok 15 dX1_fedOn_5 (by decide) (fun c_5 => ?_) (fun c_5 => ?_)
  · refine r_iconst (v := 0) h.ok dX1_fedOn_15 (by decide) ?_
    refine r_iret h dX1_fedOn_16 ⟨by decide, by decide⟩ ⟨(by unfold bFedOn_r; simp only [if_neg c_5]), rfl, rfl⟩
  · refine r_aload_n h.ok dX1_fedOn_8 0 rfl ?_
    refine r_get (v := .int (I 4 i 12)) h.ok 12 dX1_fedOn_9 (xo_4 hi _) rfl inX1 (by decide) wfl_X1_56 rfl ?_
    refine r_goto h.ok 16 dX1_fedOn_12 (by decide) ?_
    refine r_iret h dX1_fedOn_16 ⟨by decide, by decide⟩ ⟨(by unfold bFedOn_r; simp only [if_pos c_5]), rfl, rfl⟩
noncomputable def bAlarm_r (I : gI) (F : gF) (i : Nat) (m : Int32) : Int32 := (if 3 ≤ (I 4 i 6) then (if ((10 * m) * (if 5 < (I 4 i 6) then 5 else I 4 i 6)) ≤ (12 * (((((0 + (I 6 i 0)) + (I 6 i 1)) + (I 6 i 2)) + (I 6 i 3)) + (I 6 i 4))) then 0 else 1) else 0)
set_option maxHeartbeats 4000000 in
set_option maxRecDepth 100000 in
theorem c_X1_isAlarming (D : va_G) (E : gEc) (ad : gAd) (I : gI) (F : gF) (lc ln : Nat) (i : Nat) (hi : i < lc) (m : Int32) : gCon D E yX1_isAlarming cX1_isAlarming 4 (some .boolean) 1 0 0 [.ref (ad 4 i), .int m] ad (cX E ad I F lc ln) (gPd (some (.int (bAlarm_r I F i m))) ad (cX E ad I F lc ln)) := by
  refine gCon.of (by decide) (Nat.le_of_ble_eq_true rfl) ?_
  intro l A Rn h
  show Rn 0 [(0, .ref (ad 4 i)), (1, .int m)] [] ad (cX E ad I F lc ln) 0 0
  refine r_aload_n h.ok dX1_isAlarming_0 0 rfl ?_
  refine r_get (v := .int (I 4 i 6)) h.ok 6 dX1_isAlarming_1 (xo_4 hi _) rfl inX1 (by decide) wfl_X1_62 rfl ?_
  refine r_iconst (v := 3) h.ok dX1_isAlarming_4 (by decide) ?_
  refine r_icmp_ge h.ok 10 dX1_isAlarming_5 (by decide) (fun c_5 => ?_) (fun c_5 => ?_)
  · refine r_iconst (v := 0) h.ok dX1_isAlarming_10 (by decide) ?_
    refine r_istore_n (lv' := [(2, .int 0), (0, .ref (ad 4 i)), (1, .int m)]) h.ok dX1_isAlarming_11 (by decide) rfl ?_
    refine r_iconst (v := 0) h.ok dX1_isAlarming_12 (by decide) ?_
    refine r_istore_n (lv' := [(3, .int 0), (2, .int 0), (0, .ref (ad 4 i)), (1, .int m)]) h.ok dX1_isAlarming_13 (by decide) rfl ?_
    refine r_iload_n h.ok dX1_isAlarming_14 0 rfl ?_
    refine r_aload_n h.ok dX1_isAlarming_15 2 rfl ?_
    refine r_get h.ok 5 dX1_isAlarming_16 (xo_4 hi _) rfl inX1 (by decide) wfl_X1_15 rfl ?_
    refine r_alen (t0 := 0) (v := 5) h.ok dX1_isAlarming_19 (xo_6 hi _) rfl (show Int32.ofNat 5 = 5 by decide) ?_
    refine r_icmp_ge h.ok 38 dX1_isAlarming_20 (by decide) (fun q => absurd q (by decide)) (fun _ => ?_)
    refine r_iload_n h.ok dX1_isAlarming_23 1 rfl ?_
    refine r_aload_n h.ok dX1_isAlarming_24 2 rfl ?_
    refine r_get h.ok 5 dX1_isAlarming_25 (xo_4 hi _) rfl inX1 (by decide) wfl_X1_15 rfl ?_
    refine r_iload_n h.ok dX1_isAlarming_28 0 rfl ?_
    refine x_iald (v := I 6 i 0) h.ok 0 dX1_isAlarming_29 (xo_6 hi _) (by decide) (by decide) (by decide) rfl ?_
    refine r_iadd h.ok dX1_isAlarming_30 ?_
    refine r_istore_n (lv' := [(2, .int (0 + (I 6 i 0))), (3, .int 0), (0, .ref (ad 4 i)), (1, .int m)]) h.ok dX1_isAlarming_31 (by decide) rfl ?_
    refine r_iinc (v := 1) (lv' := [(3, .int 1), (2, .int (0 + (I 6 i 0))), (0, .ref (ad 4 i)), (1, .int m)]) h.ok dX1_isAlarming_32 1 rfl (by decide) (by decide) rfl ?_
    refine r_goto h.ok 14 dX1_isAlarming_35 (by decide) ?_
    refine r_iload_n h.ok dX1_isAlarming_14 0 rfl ?_
    refine r_aload_n h.ok dX1_isAlarming_15 2 rfl ?_
    refine r_get h.ok 5 dX1_isAlarming_16 (xo_4 hi _) rfl inX1 (by decide) wfl_X1_15 rfl ?_
    refine r_alen (t0 := 0) (v := 5) h.ok dX1_isAlarming_19 (xo_6 hi _) rfl (show Int32.ofNat 5 = 5 by decide) ?_
    refine r_icmp_ge h.ok 38 dX1_isAlarming_20 (by decide) (fun q => absurd q (by decide)) (fun _ => ?_)
    refine r_iload_n h.ok dX1_isAlarming_23 1 rfl ?_
    refine r_aload_n h.ok dX1_isAlarming_24 2 rfl ?_
    refine r_get h.ok 5 dX1_isAlarming_25 (xo_4 hi _) rfl inX1 (by decide) wfl_X1_15 rfl ?_
    refine r_iload_n h.ok dX1_isAlarming_28 0 rfl ?_
    refine x_iald (v := I 6 i 1) h.ok 1 dX1_isAlarming_29 (xo_6 hi _) (by decide) (by decide) (by decide) rfl ?_
    refine r_iadd h.ok dX1_isAlarming_30 ?_
    refine r_istore_n (lv' := [(2, .int ((0 + (I 6 i 0)) + (I 6 i 1))), (3, .int 1), (0, .ref (ad 4 i)), (1, .int m)]) h.ok dX1_isAlarming_31 (by decide) rfl ?_
    refine r_iinc (v := 2) (lv' := [(3, .int 2), (2, .int ((0 + (I 6 i 0)) + (I 6 i 1))), (0, .ref (ad 4 i)), (1, .int m)]) h.ok dX1_isAlarming_32 1 rfl (by decide) (by decide) rfl ?_
    refine r_goto h.ok 14 dX1_isAlarming_35 (by decide) ?_
    refine r_iload_n h.ok dX1_isAlarming_14 0 rfl ?_
    refine r_aload_n h.ok dX1_isAlarming_15 2 rfl ?_
    refine r_get h.ok 5 dX1_isAlarming_16 (xo_4 hi _) rfl inX1 (by decide) wfl_X1_15 rfl ?_
    refine r_alen (t0 := 0) (v := 5) h.ok dX1_isAlarming_19 (xo_6 hi _) rfl (show Int32.ofNat 5 = 5 by decide) ?_
    refine r_icmp_ge h.ok 38 dX1_isAlarming_20 (by decide) (fun q => absurd q (by decide)) (fun _ => ?_)
    refine r_iload_n h.ok dX1_isAlarming_23 1 rfl ?_
    refine r_aload_n h.ok dX1_isAlarming_24 2 rfl ?_
    refine r_get h.ok 5 dX1_isAlarming_25 (xo_4 hi _) rfl inX1 (by decide) wfl_X1_15 rfl ?_
    refine r_iload_n h.ok dX1_isAlarming_28 0 rfl ?_
    refine x_iald (v := I 6 i 2) h.ok 2 dX1_isAlarming_29 (xo_6 hi _) (by decide) (by decide) (by decide) rfl ?_
    refine r_iadd h.ok dX1_isAlarming_30 ?_
    refine r_istore_n (lv' := [(2, .int (((0 + (I 6 i 0)) + (I 6 i 1)) + (I 6 i 2))), (3, .int 2), (0, .ref (ad 4 i)), (1, .int m)]) h.ok dX1_isAlarming_31 (by decide) rfl ?_
    refine r_iinc (v := 3) (lv' := [(3, .int 3), (2, .int (((0 + (I 6 i 0)) + (I 6 i 1)) + (I 6 i 2))), (0, .ref (ad 4 i)), (1, .int m)]) h.ok dX1_isAlarming_32 1 rfl (by decide) (by decide) rfl ?_
    refine r_goto h.ok 14 dX1_isAlarming_35 (by decide) ?_
    refine r_iload_n h.ok dX1_isAlarming_14 0 rfl ?_
    refine r_aload_n h.ok dX1_isAlarming_15 2 rfl ?_
    refine r_get h.ok 5 dX1_isAlarming_16 (xo_4 hi _) rfl inX1 (by decide) wfl_X1_15 rfl ?_
    refine r_alen (t0 := 0) (v := 5) h.ok dX1_isAlarming_19 (xo_6 hi _) rfl (show Int32.ofNat 5 = 5 by decide) ?_
    refine r_icmp_ge h.ok 38 dX1_isAlarming_20 (by decide) (fun q => absurd q (by decide)) (fun _ => ?_)
    refine r_iload_n h.ok dX1_isAlarming_23 1 rfl ?_
    refine r_aload_n h.ok dX1_isAlarming_24 2 rfl ?_
    refine r_get h.ok 5 dX1_isAlarming_25 (xo_4 hi _) rfl inX1 (by decide) wfl_X1_15 rfl ?_
    refine r_iload_n h.ok dX1_isAlarming_28 0 rfl ?_
    refine x_iald (v := I 6 i 3) h.ok 3 dX1_isAlarming_29 (xo_6 hi _) (by decide) (by decide) (by decide) rfl ?_
    refine r_iadd h.ok dX1_isAlarming_30 ?_
    refine r_istore_n (lv' := [(2, .int ((((0 + (I 6 i 0)) + (I 6 i 1)) + (I 6 i 2)) + (I 6 i 3))), (3, .int 3), (0, .ref (ad 4 i)), (1, .int m)]) h.ok dX1_isAlarming_31 (by decide) rfl ?_
    refine r_iinc (v := 4) (lv' := [(3, .int 4), (2, .int ((((0 + (I 6 i 0)) + (I 6 i 1)) + (I 6 i 2)) + (I 6 i 3))), (0, .ref (ad 4 i)), (1, .int m)]) h.ok dX1_isAlarming_32 1 rfl (by decide) (by decide) rfl ?_
    refine r_goto h.ok 14 dX1_isAlarming_35 (by decide) ?_
    refine r_iload_n h.ok dX1_isAlarming_14 0 rfl ?_
    refine r_aload_n h.ok dX1_isAlarming_15 2 rfl ?_
    refine r_get h.ok 5 dX1_isAlarming_16 (xo_4 hi _) rfl inX1 (by decide) wfl_X1_15 rfl ?_
    refine r_alen (t0 := 0) (v := 5) h.ok dX1_isAlarming_19 (xo_6 hi _) rfl (show Int32.ofNat 5 = 5 by decide) ?_
    refine r_icmp_ge h.ok 38 dX1_isAlarming_20 (by decide) (fun q => absurd q (by decide)) (fun _ => ?_)
    refine r_iload_n h.ok dX1_isAlarming_23 1 rfl ?_
    refine r_aload_n h.ok dX1_isAlarming_24 2 rfl ?_
    refine r_get h.ok 5 dX1_isAlarming_25 (xo_4 hi _) rfl inX1 (by decide) wfl_X1_15 rfl ?_
    refine r_iload_n h.ok dX1_isAlarming_28 0 rfl ?_
    refine x_iald (v := I 6 i 4) h.ok 4 dX1_isAlarming_29 (xo_6 hi _) (by decide) (by decide) (by decide) rfl ?_
    refine r_iadd h.ok dX1_isAlarming_30 ?_
    refine r_istore_n (lv' := [(2, .int (((((0 + (I 6 i 0)) + (I 6 i 1)) + (I 6 i 2)) + (I 6 i 3)) + (I 6 i 4))), (3, .int 4), (0, .ref (ad 4 i)), (1, .int m)]) h.ok dX1_isAlarming_31 (by decide) rfl ?_
    refine r_iinc (v := 5) (lv' := [(3, .int 5), (2, .int (((((0 + (I 6 i 0)) + (I 6 i 1)) + (I 6 i 2)) + (I 6 i 3)) + (I 6 i 4))), (0, .ref (ad 4 i)), (1, .int m)]) h.ok dX1_isAlarming_32 1 rfl (by decide) (by decide) rfl ?_
    refine r_goto h.ok 14 dX1_isAlarming_35 (by decide) ?_
    refine r_iload_n h.ok dX1_isAlarming_14 0 rfl ?_
    refine r_aload_n h.ok dX1_isAlarming_15 2 rfl ?_
    refine r_get h.ok 5 dX1_isAlarming_16 (xo_4 hi _) rfl inX1 (by decide) wfl_X1_15 rfl ?_
    refine r_alen (t0 := 0) (v := 5) h.ok dX1_isAlarming_19 (xo_6 hi _) rfl (show Int32.ofNat 5 = 5 by decide) ?_
    refine r_icmp_ge h.ok 38 dX1_isAlarming_20 (by decide) (fun _ => ?_) (fun q => absurd q (by decide))
    refine r_bipush (v := 10) h.ok dX1_isAlarming_38 (by decide) ?_
    refine r_iload_n h.ok dX1_isAlarming_40 3 rfl ?_
    refine r_imul h.ok dX1_isAlarming_41 ?_
    refine r_aload_n h.ok dX1_isAlarming_42 2 rfl ?_
    refine r_get (v := .int (I 4 i 6)) h.ok 6 dX1_isAlarming_43 (xo_4 hi _) rfl inX1 (by decide) wfl_X1_62 rfl ?_
    refine r_iconst (v := 5) h.ok dX1_isAlarming_46 (by decide) ?_
    refine r_mmin h.ok dX1_isAlarming_47 wml_X1_40 ⟨by decide, Nat.le_of_ble_eq_true rfl, by decide, by decide⟩ ?_
    refine r_imul h.ok dX1_isAlarming_50 ?_
    refine r_bipush (v := 12) h.ok dX1_isAlarming_51 (by decide) ?_
    refine r_iload_n h.ok dX1_isAlarming_53 1 rfl ?_
    refine r_imul h.ok dX1_isAlarming_54 ?_
    refine r_icmp_le h.ok 62 dX1_isAlarming_55 (by decide) (fun c_55 => ?_) (fun c_55 => ?_)
    · refine r_iconst (v := 0) h.ok dX1_isAlarming_62 (by decide) ?_
      refine r_zret h dX1_isAlarming_63 ⟨by decide, by decide⟩ (by simp) ⟨(by unfold bAlarm_r; simp only [if_pos c_5, if_pos c_55]), rfl, rfl⟩
    · refine r_iconst (v := 1) h.ok dX1_isAlarming_58 (by decide) ?_
      refine r_goto h.ok 63 dX1_isAlarming_59 (by decide) ?_
      refine r_zret h dX1_isAlarming_63 ⟨by decide, by decide⟩ (by simp) ⟨(by unfold bAlarm_r; simp only [if_pos c_5, if_neg c_55]), rfl, rfl⟩
  · refine r_iconst (v := 0) h.ok dX1_isAlarming_8 (by decide) ?_
    refine r_zret h dX1_isAlarming_9 ⟨by decide, by decide⟩ (by simp) ⟨(by unfold bAlarm_r; simp only [if_neg c_5]), rfl, rfl⟩
noncomputable def bFeed_r (I : gI) (F : gF) (i : Nat) (m d : Int32) : Int32 := (if ((I 4 i 3) - (bFedOn_r I F i d)) < (10 * m) then (I 4 i 3) - (bFedOn_r I F i d) else 10 * m)
noncomputable def bFeed_I (I : gI) (F : gF) (i : Nat) (m d : Int32) : gI := gs (gs I 4 i 13 d) 4 i 12 ((bFedOn_r I F i d) + (if ((I 4 i 3) - (bFedOn_r I F i d)) < (10 * m) then (I 4 i 3) - (bFedOn_r I F i d) else 10 * m))
set_option maxHeartbeats 4000000 in
set_option maxRecDepth 100000 in
theorem c_X1_feedFor (D : va_G) (E : gEc) (ad : gAd) (I : gI) (F : gF) (lc ln : Nat) (i : Nat) (hi : i < lc) (m d : Int32) : gCon D E yX1_feedFor cX1_feedFor 5 (some .int) 1 0 0 [.ref (ad 4 i), .int m, .int d] ad (cX E ad I F lc ln) (gPd (some (.int (bFeed_r I F i m d))) ad (cX E ad (bFeed_I I F i m d) F lc ln)) := by
  refine gCon.of (by decide) (Nat.le_of_ble_eq_true rfl) ?_
  intro l A Rn h
  show Rn 0 [(0, .ref (ad 4 i)), (1, .int m), (2, .int d)] [] ad (cX E ad I F lc ln) 0 0
  refine r_aload_n h.ok dX1_feedFor_0 0 rfl ?_
  refine r_iload_n h.ok dX1_feedFor_1 2 rfl ?_
  refine r_callV h.ok [.int d] [] dX1_feedFor_2 (c_X1_fedOn D E ad I F lc ln i hi d) wml_X1_59 wim_X1_fedOn wse_X1_fedOn win_X1 wco_X1_fedOn yok_X1_fedOn (xo_4 hi _) rfl rfl ⟨by decide, by decide, by simp [gRm], by simp [gRm]⟩ (Nat.le_of_ble_eq_true rfl) rfl ?_
  show Rn 5 [(0, .ref (ad 4 i)), (1, .int m), (2, .int d)] [.int (bFedOn_r I F i d)] ad (cX E ad I F lc ln) 0 0
  refine r_istore_n (lv' := [(3, .int (bFedOn_r I F i d)), (0, .ref (ad 4 i)), (1, .int m), (2, .int d)]) h.ok dX1_feedFor_5 (by decide) rfl ?_
  refine r_bipush (v := 10) h.ok dX1_feedFor_6 (by decide) ?_
  refine r_iload_n h.ok dX1_feedFor_8 2 rfl ?_
  refine r_imul h.ok dX1_feedFor_9 ?_
  refine r_aload_n h.ok dX1_feedFor_10 1 rfl ?_
  refine r_get (v := .int (I 4 i 3)) h.ok 3 dX1_feedFor_11 (xo_4 hi _) rfl inX1 (by decide) wfl_X1_31 rfl ?_
  refine r_iload_n h.ok dX1_feedFor_14 0 rfl ?_
  refine r_isub h.ok dX1_feedFor_15 ?_
  refine r_mmin h.ok dX1_feedFor_16 wml_X1_40 ⟨by decide, Nat.le_of_ble_eq_true rfl, by decide, by decide⟩ ?_
  refine r_topi (fun g e_g => ?_)
  refine r_istore (lv' := [(4, .int g), (3, .int (bFedOn_r I F i d)), (0, .ref (ad 4 i)), (1, .int m), (2, .int d)]) h.ok dX1_feedFor_19 (by decide) rfl ?_
  refine r_aload_n h.ok dX1_feedFor_21 2 rfl ?_
  refine r_iload_n h.ok dX1_feedFor_22 4 rfl ?_
  refine r_put (ty := tyX1) h.ok 13 dX1_feedFor_23 (xo_4 hi _) rfl inX1 tyX1_ok nmX1 (by decide) wfl_X1_53 rfl rfl rfl (by simp) (cX_put (r' := upd (I 4 i) 13 d) (xo_4 hi _)) ?_
  refine r_aload_n h.ok dX1_feedFor_26 2 rfl ?_
  refine r_iload_n h.ok dX1_feedFor_27 1 rfl ?_
  refine r_iload h.ok dX1_feedFor_28 0 rfl ?_
  refine r_iadd h.ok dX1_feedFor_30 ?_
  refine r_put (ty := tyX1) h.ok 12 dX1_feedFor_31 (xo_4 hi _) rfl inX1 tyX1_ok nmX1 (by decide) wfl_X1_56 rfl rfl rfl (by simp) (cX_put (r' := upd ((gs I 4 i 13 d) 4 i) 12 ((bFedOn_r I F i d) + g)) (xo_4 hi _)) ?_
  refine r_iload h.ok dX1_feedFor_34 0 rfl ?_
  refine r_iret h dX1_feedFor_36 ⟨by decide, by decide⟩ ⟨(by subst e_g; unfold bFeed_r; rfl), rfl, (by subst e_g; unfold bFeed_I; rfl)⟩
theorem vp_b {x : Int32} {n : Nat} (hn : n < 2 ^ 31) (h1 : ¬ x < 0) (h2 : ¬ nI n ≤ x) : vp_in x n := by
  obtain ⟨j, hj, rfl⟩ := nI_of h1
  rw [nI_leI hn hj] at h2
  exact vp_in_nI (by omega) hn
noncomputable def bKeep_I (I : gI) (F : gF) (i : Nat) (m : Int32) : gI := (if ((I 4 i 6) - (I 4 i 6) / 5 * 5) < 0 then gs I 4 i 6 ((I 4 i 6) + 1) else (if 5 ≤ ((I 4 i 6) - (I 4 i 6) / 5 * 5) then gs I 4 i 6 ((I 4 i 6) + 1) else gs (gs I 6 i (((I 4 i 6) - (I 4 i 6) / 5 * 5).toNatClampNeg) m) 4 i 6 ((I 4 i 6) + 1)))
set_option maxHeartbeats 4000000 in
set_option maxRecDepth 100000 in
theorem c_X1_keepReading (D : va_G) (E : gEc) (ad : gAd) (I : gI) (F : gF) (lc ln : Nat) (i : Nat) (hi : i < lc) (m : Int32) : gCon D E yX1_keepReading cX1_keepReading 3 none 0 0 0 [.ref (ad 4 i), .int m] ad (cX E ad I F lc ln) (gPd none ad (cX E ad (bKeep_I I F i m) F lc ln)) := by
  refine gCon.of (by decide) (Nat.le_of_ble_eq_true rfl) ?_
  intro l A Rn h
  show Rn 0 [(0, .ref (ad 4 i)), (1, .int m)] [] ad (cX E ad I F lc ln) 0 0
  refine r_aload_n h.ok dX1_keepReading_0 0 rfl ?_
  refine r_get (v := .int (I 4 i 6)) h.ok 6 dX1_keepReading_1 (xo_4 hi _) rfl inX1 (by decide) wfl_X1_62 rfl ?_
  refine r_iconst (v := 5) h.ok dX1_keepReading_4 (by decide) ?_
  refine r_irem h.ok dX1_keepReading_5 (by decide) ?_
  refine r_istore_n (lv' := [(2, .int ((I 4 i 6) - (I 4 i 6) / 5 * 5)), (0, .ref (ad 4 i)), (1, .int m)]) h.ok dX1_keepReading_6 (by decide) rfl ?_
  refine r_iload_n h.ok dX1_keepReading_7 0 rfl ?_
  refine r_if_lt h.ok 27 dX1_keepReading_8 (by decide) (fun c_8 => ?_) (fun c_8 => ?_)
  · refine r_aload_n h.ok dX1_keepReading_27 1 rfl ?_
    refine r_dup h.ok dX1_keepReading_28 rfl ?_
    refine r_get (v := .int (I 4 i 6)) h.ok 6 dX1_keepReading_29 (xo_4 hi _) rfl inX1 (by decide) wfl_X1_62 rfl ?_
    refine r_iconst (v := 1) h.ok dX1_keepReading_32 (by decide) ?_
    refine r_iadd h.ok dX1_keepReading_33 ?_
    refine r_put (ty := tyX1) h.ok 6 dX1_keepReading_34 (xo_4 hi _) rfl inX1 tyX1_ok nmX1 (by decide) wfl_X1_62 rfl rfl rfl (by simp) (cX_put (r' := upd (I 4 i) 6 ((I 4 i 6) + 1)) (xo_4 hi _)) ?_
    refine r_vret h dX1_keepReading_37 ⟨by decide, by decide⟩ ⟨rfl, rfl, (by unfold bKeep_I; simp only [if_pos c_8])⟩
  · refine r_iload_n h.ok dX1_keepReading_11 0 rfl ?_
    refine r_aload_n h.ok dX1_keepReading_12 1 rfl ?_
    refine r_get h.ok 5 dX1_keepReading_13 (xo_4 hi _) rfl inX1 (by decide) wfl_X1_15 rfl ?_
    refine r_alen (t0 := 0) (v := 5) h.ok dX1_keepReading_16 (xo_6 hi _) rfl (show Int32.ofNat 5 = 5 by decide) ?_
    refine r_icmp_ge h.ok 27 dX1_keepReading_17 (by decide) (fun c_17 => ?_) (fun c_17 => ?_)
    · refine r_aload_n h.ok dX1_keepReading_27 1 rfl ?_
      refine r_dup h.ok dX1_keepReading_28 rfl ?_
      refine r_get (v := .int (I 4 i 6)) h.ok 6 dX1_keepReading_29 (xo_4 hi _) rfl inX1 (by decide) wfl_X1_62 rfl ?_
      refine r_iconst (v := 1) h.ok dX1_keepReading_32 (by decide) ?_
      refine r_iadd h.ok dX1_keepReading_33 ?_
      refine r_put (ty := tyX1) h.ok 6 dX1_keepReading_34 (xo_4 hi _) rfl inX1 tyX1_ok nmX1 (by decide) wfl_X1_62 rfl rfl rfl (by simp) (cX_put (r' := upd (I 4 i) 6 ((I 4 i 6) + 1)) (xo_4 hi _)) ?_
      refine r_vret h dX1_keepReading_37 ⟨by decide, by decide⟩ ⟨rfl, rfl, (by unfold bKeep_I; simp only [if_neg c_8, if_pos c_17])⟩
    · refine r_aload_n h.ok dX1_keepReading_20 1 rfl ?_
      refine r_get h.ok 5 dX1_keepReading_21 (xo_4 hi _) rfl inX1 (by decide) wfl_X1_15 rfl ?_
      refine r_iload_n h.ok dX1_keepReading_24 0 rfl ?_
      refine r_iload_n h.ok dX1_keepReading_25 2 rfl ?_
      refine x_iasp h.ok dX1_keepReading_26 (xo_6 hi) (vp_b (by decide) c_8 c_17) ?_
      refine r_aload_n h.ok dX1_keepReading_27 1 rfl ?_
      refine r_dup h.ok dX1_keepReading_28 rfl ?_
      refine r_get (v := .int (I 4 i 6)) h.ok 6 dX1_keepReading_29 (xo_4 hi _) rfl inX1 (by decide) wfl_X1_62 rfl ?_
      refine r_iconst (v := 1) h.ok dX1_keepReading_32 (by decide) ?_
      refine r_iadd h.ok dX1_keepReading_33 ?_
      refine r_put (ty := tyX1) h.ok 6 dX1_keepReading_34 (xo_4 hi _) rfl inX1 tyX1_ok nmX1 (by decide) wfl_X1_62 rfl rfl rfl (by simp) (cX_put (r' := upd ((gs I 6 i (((I 4 i 6) - (I 4 i 6) / 5 * 5).toNatClampNeg) m) 4 i) 6 ((I 4 i 6) + 1)) (xo_4 hi _)) ?_
      refine r_vret h dX1_keepReading_37 ⟨by decide, by decide⟩ ⟨rfl, rfl, (by unfold bKeep_I; simp only [if_neg c_8, if_neg c_17])⟩
noncomputable def bBegun_I (I : gI) (F : gF) (i : Nat) (m : Int32) : gI := gs (gs (gs (gs (gs (gs (gs I 4 i 10 m) 4 i 8 m) 4 i 9 0) 5 i 0 0) 5 i 1 0) 5 i 2 0) 5 i 3 0
set_option maxHeartbeats 4000000 in
set_option maxRecDepth 100000 in
theorem c_X1_beginMilking (D : va_G) (E : gEc) (ad : gAd) (I : gI) (F : gF) (lc ln : Nat) (i : Nat) (hi : i < lc) (m : Int32) : gCon D E yX1_beginMilking cX1_beginMilking 3 none 0 0 0 [.ref (ad 4 i), .int m] ad (cX E ad I F lc ln) (gPd none ad (cX E ad (bBegun_I I F i m) F lc ln)) := by
  refine gCon.of (by decide) (Nat.le_of_ble_eq_true rfl) ?_
  intro l A Rn h
  show Rn 0 [(0, .ref (ad 4 i)), (1, .int m)] [] ad (cX E ad I F lc ln) 0 0
  refine r_aload_n h.ok dX1_beginMilking_0 0 rfl ?_
  refine r_iload_n h.ok dX1_beginMilking_1 1 rfl ?_
  refine r_put (ty := tyX1) h.ok 10 dX1_beginMilking_2 (xo_4 hi _) rfl inX1 tyX1_ok nmX1 (by decide) wfl_X1_18 rfl rfl rfl (by simp) (cX_put (r' := upd (I 4 i) 10 m) (xo_4 hi _)) ?_
  refine r_aload_n h.ok dX1_beginMilking_5 0 rfl ?_
  refine r_iload_n h.ok dX1_beginMilking_6 1 rfl ?_
  refine r_put (ty := tyX1) h.ok 8 dX1_beginMilking_7 (xo_4 hi _) rfl inX1 tyX1_ok nmX1 (by decide) wfl_X1_34 rfl rfl rfl (by simp) (cX_put (r' := upd ((gs I 4 i 10 m) 4 i) 8 m) (xo_4 hi _)) ?_
  refine r_aload_n h.ok dX1_beginMilking_10 0 rfl ?_
  refine r_iconst (v := 0) h.ok dX1_beginMilking_11 (by decide) ?_
  refine r_put (ty := tyX1) h.ok 9 dX1_beginMilking_12 (xo_4 hi _) rfl inX1 tyX1_ok nmX1 (by decide) wfl_X1_37 rfl rfl rfl (by simp) (cX_put (r' := upd ((gs (gs I 4 i 10 m) 4 i 8 m) 4 i) 9 0) (xo_4 hi _)) ?_
  refine r_iconst (v := 0) h.ok dX1_beginMilking_15 (by decide) ?_
  refine r_istore_n (lv' := [(2, .int 0), (0, .ref (ad 4 i)), (1, .int m)]) h.ok dX1_beginMilking_16 (by decide) rfl ?_
  refine r_iload_n h.ok dX1_beginMilking_17 0 rfl ?_
  refine r_aload_n h.ok dX1_beginMilking_18 1 rfl ?_
  refine r_get h.ok 4 dX1_beginMilking_19 (xo_4 hi _) rfl inX1 (by decide) wfl_X1_9 rfl ?_
  refine r_alen (t0 := 0) (v := 4) h.ok dX1_beginMilking_22 (xo_5 hi _) rfl (show Int32.ofNat 4 = 4 by decide) ?_
  refine r_icmp_ge h.ok 39 dX1_beginMilking_23 (by decide) (fun q => absurd q (by decide)) (fun _ => ?_)
  refine r_aload_n h.ok dX1_beginMilking_26 1 rfl ?_
  refine r_get h.ok 4 dX1_beginMilking_27 (xo_4 hi _) rfl inX1 (by decide) wfl_X1_9 rfl ?_
  refine r_iload_n h.ok dX1_beginMilking_30 0 rfl ?_
  refine r_iconst (v := 0) h.ok dX1_beginMilking_31 (by decide) ?_
  refine x_iast h.ok 0 dX1_beginMilking_32 (xo_5 hi) (by decide) (by decide) (by decide) ?_
  refine r_iinc (v := 1) (lv' := [(2, .int 1), (0, .ref (ad 4 i)), (1, .int m)]) h.ok dX1_beginMilking_33 0 rfl (by decide) (by decide) rfl ?_
  refine r_goto h.ok 17 dX1_beginMilking_36 (by decide) ?_
  refine r_iload_n h.ok dX1_beginMilking_17 0 rfl ?_
  refine r_aload_n h.ok dX1_beginMilking_18 1 rfl ?_
  refine r_get h.ok 4 dX1_beginMilking_19 (xo_4 hi _) rfl inX1 (by decide) wfl_X1_9 rfl ?_
  refine r_alen (t0 := 0) (v := 4) h.ok dX1_beginMilking_22 (xo_5 hi _) rfl (show Int32.ofNat 4 = 4 by decide) ?_
  refine r_icmp_ge h.ok 39 dX1_beginMilking_23 (by decide) (fun q => absurd q (by decide)) (fun _ => ?_)
  refine r_aload_n h.ok dX1_beginMilking_26 1 rfl ?_
  refine r_get h.ok 4 dX1_beginMilking_27 (xo_4 hi _) rfl inX1 (by decide) wfl_X1_9 rfl ?_
  refine r_iload_n h.ok dX1_beginMilking_30 0 rfl ?_
  refine r_iconst (v := 0) h.ok dX1_beginMilking_31 (by decide) ?_
  refine x_iast h.ok 1 dX1_beginMilking_32 (xo_5 hi) (by decide) (by decide) (by decide) ?_
  refine r_iinc (v := 2) (lv' := [(2, .int 2), (0, .ref (ad 4 i)), (1, .int m)]) h.ok dX1_beginMilking_33 0 rfl (by decide) (by decide) rfl ?_
  refine r_goto h.ok 17 dX1_beginMilking_36 (by decide) ?_
  refine r_iload_n h.ok dX1_beginMilking_17 0 rfl ?_
  refine r_aload_n h.ok dX1_beginMilking_18 1 rfl ?_
  refine r_get h.ok 4 dX1_beginMilking_19 (xo_4 hi _) rfl inX1 (by decide) wfl_X1_9 rfl ?_
  refine r_alen (t0 := 0) (v := 4) h.ok dX1_beginMilking_22 (xo_5 hi _) rfl (show Int32.ofNat 4 = 4 by decide) ?_
  refine r_icmp_ge h.ok 39 dX1_beginMilking_23 (by decide) (fun q => absurd q (by decide)) (fun _ => ?_)
  refine r_aload_n h.ok dX1_beginMilking_26 1 rfl ?_
  refine r_get h.ok 4 dX1_beginMilking_27 (xo_4 hi _) rfl inX1 (by decide) wfl_X1_9 rfl ?_
  refine r_iload_n h.ok dX1_beginMilking_30 0 rfl ?_
  refine r_iconst (v := 0) h.ok dX1_beginMilking_31 (by decide) ?_
  refine x_iast h.ok 2 dX1_beginMilking_32 (xo_5 hi) (by decide) (by decide) (by decide) ?_
  refine r_iinc (v := 3) (lv' := [(2, .int 3), (0, .ref (ad 4 i)), (1, .int m)]) h.ok dX1_beginMilking_33 0 rfl (by decide) (by decide) rfl ?_
  refine r_goto h.ok 17 dX1_beginMilking_36 (by decide) ?_
  refine r_iload_n h.ok dX1_beginMilking_17 0 rfl ?_
  refine r_aload_n h.ok dX1_beginMilking_18 1 rfl ?_
  refine r_get h.ok 4 dX1_beginMilking_19 (xo_4 hi _) rfl inX1 (by decide) wfl_X1_9 rfl ?_
  refine r_alen (t0 := 0) (v := 4) h.ok dX1_beginMilking_22 (xo_5 hi _) rfl (show Int32.ofNat 4 = 4 by decide) ?_
  refine r_icmp_ge h.ok 39 dX1_beginMilking_23 (by decide) (fun q => absurd q (by decide)) (fun _ => ?_)
  refine r_aload_n h.ok dX1_beginMilking_26 1 rfl ?_
  refine r_get h.ok 4 dX1_beginMilking_27 (xo_4 hi _) rfl inX1 (by decide) wfl_X1_9 rfl ?_
  refine r_iload_n h.ok dX1_beginMilking_30 0 rfl ?_
  refine r_iconst (v := 0) h.ok dX1_beginMilking_31 (by decide) ?_
  refine x_iast h.ok 3 dX1_beginMilking_32 (xo_5 hi) (by decide) (by decide) (by decide) ?_
  refine r_iinc (v := 4) (lv' := [(2, .int 4), (0, .ref (ad 4 i)), (1, .int m)]) h.ok dX1_beginMilking_33 0 rfl (by decide) (by decide) rfl ?_
  refine r_goto h.ok 17 dX1_beginMilking_36 (by decide) ?_
  refine r_iload_n h.ok dX1_beginMilking_17 0 rfl ?_
  refine r_aload_n h.ok dX1_beginMilking_18 1 rfl ?_
  refine r_get h.ok 4 dX1_beginMilking_19 (xo_4 hi _) rfl inX1 (by decide) wfl_X1_9 rfl ?_
  refine r_alen (t0 := 0) (v := 4) h.ok dX1_beginMilking_22 (xo_5 hi _) rfl (show Int32.ofNat 4 = 4 by decide) ?_
  refine r_icmp_ge h.ok 39 dX1_beginMilking_23 (by decide) (fun _ => ?_) (fun q => absurd q (by decide))
  refine r_vret h dX1_beginMilking_39 ⟨by decide, by decide⟩ ⟨rfl, rfl, (by unfold bBegun_I; rfl)⟩
noncomputable def bPut_r (I : gI) (F : gF) (m b : Int32) : Int32 := (if b = 0 then (if ((I 3 0 0) - (I 3 0 1)) < m then 2 else 0) else 1)
noncomputable def bPut_I (I : gI) (F : gF) (m b : Int32) : gI := (if b = 0 then (if ((I 3 0 0) - (I 3 0 1)) < m then gs I 3 0 3 ((I 3 0 3) + m) else gs I 3 0 1 ((I 3 0 1) + m)) else gs I 3 0 2 ((I 3 0 2) + m))
set_option maxHeartbeats 4000000 in
set_option maxRecDepth 100000 in
theorem c_X3_put (D : va_G) (E : gEc) (ad : gAd) (I : gI) (F : gF) (lc ln : Nat) (m b : Int32) : gCon D E yX3_put cX3_put 3 (some .int) 0 0 0 [.ref (ad 3 0), .int m, .int b] ad (cX E ad I F lc ln) (gPd (some (.int (bPut_r I F m b))) ad (cX E ad (bPut_I I F m b) F lc ln)) := by
  refine gCon.of (by decide) (Nat.le_of_ble_eq_true rfl) ?_
  intro l A Rn h
  show Rn 0 [(0, .ref (ad 3 0)), (1, .int m), (2, .int b)] [] ad (cX E ad I F lc ln) 0 0
  refine r_iload_n h.ok dX3_put_0 2 rfl ?_
  refine r_if_eq h.ok 16 dX3_put_1 (by decide) (fun c_1 => ?_) (fun c_1 => ?_)
  · refine r_iload_n h.ok dX3_put_16 1 rfl ?_
    refine r_aload_n h.ok dX3_put_17 0 rfl ?_
    refine r_get (v := .int (I 3 0 0)) h.ok 0 dX3_put_18 (xo_3 _) rfl inX3 (by decide) wfl_X3_9 rfl ?_
    refine r_aload_n h.ok dX3_put_21 0 rfl ?_
    refine r_get (v := .int (I 3 0 1)) h.ok 1 dX3_put_22 (xo_3 _) rfl inX3 (by decide) wfl_X3_18 rfl ?_
    refine r_isub h.ok dX3_put_25 ?_
    refine r_icmp_gt h.ok 41 dX3_put_26 (by decide) (fun c_26 => ?_) (fun c_26 => ?_)
    · refine r_aload_n h.ok dX3_put_41 0 rfl ?_
      refine r_dup h.ok dX3_put_42 rfl ?_
      refine r_get (v := .int (I 3 0 3)) h.ok 3 dX3_put_43 (xo_3 _) rfl inX3 (by decide) wfl_X3_21 rfl ?_
      refine r_iload_n h.ok dX3_put_46 1 rfl ?_
      refine r_iadd h.ok dX3_put_47 ?_
      refine r_put (ty := tyX3) h.ok 3 dX3_put_48 (xo_3 _) rfl inX3 tyX3_ok nmX3 (by decide) wfl_X3_21 rfl rfl rfl (by simp) (cX_put (r' := upd (I 3 0) 3 ((I 3 0 3) + m)) (xo_3 _)) ?_
      refine r_iconst (v := 2) h.ok dX3_put_51 (by decide) ?_
      refine r_iret h dX3_put_52 ⟨by decide, by decide⟩ ⟨(by unfold bPut_r; simp only [if_pos c_1, if_pos c_26]), rfl, (by unfold bPut_I; simp only [if_pos c_1, if_pos c_26])⟩
    · refine r_aload_n h.ok dX3_put_29 0 rfl ?_
      refine r_dup h.ok dX3_put_30 rfl ?_
      refine r_get (v := .int (I 3 0 1)) h.ok 1 dX3_put_31 (xo_3 _) rfl inX3 (by decide) wfl_X3_18 rfl ?_
      refine r_iload_n h.ok dX3_put_34 1 rfl ?_
      refine r_iadd h.ok dX3_put_35 ?_
      refine r_put (ty := tyX3) h.ok 1 dX3_put_36 (xo_3 _) rfl inX3 tyX3_ok nmX3 (by decide) wfl_X3_18 rfl rfl rfl (by simp) (cX_put (r' := upd (I 3 0) 1 ((I 3 0 1) + m)) (xo_3 _)) ?_
      refine r_iconst (v := 0) h.ok dX3_put_39 (by decide) ?_
      refine r_iret h dX3_put_40 ⟨by decide, by decide⟩ ⟨(by unfold bPut_r; simp only [if_pos c_1, if_neg c_26]), rfl, (by unfold bPut_I; simp only [if_pos c_1, if_neg c_26])⟩
  · refine r_aload_n h.ok dX3_put_4 0 rfl ?_
    refine r_dup h.ok dX3_put_5 rfl ?_
    refine r_get (v := .int (I 3 0 2)) h.ok 2 dX3_put_6 (xo_3 _) rfl inX3 (by decide) wfl_X3_15 rfl ?_
    refine r_iload_n h.ok dX3_put_9 1 rfl ?_
    refine r_iadd h.ok dX3_put_10 ?_
    refine r_put (ty := tyX3) h.ok 2 dX3_put_11 (xo_3 _) rfl inX3 tyX3_ok nmX3 (by decide) wfl_X3_15 rfl rfl rfl (by simp) (cX_put (r' := upd (I 3 0) 2 ((I 3 0 2) + m)) (xo_3 _)) ?_
    refine r_iconst (v := 1) h.ok dX3_put_14 (by decide) ?_
    refine r_iret h dX3_put_15 ⟨by decide, by decide⟩ ⟨(by unfold bPut_r; simp only [if_neg c_1]), rfl, (by unfold bPut_I; simp only [if_neg c_1])⟩
noncomputable def bTake_r (I : gI) (F : gF) (m : Int32) : Int32 := (if (I 3 0 1) < m then I 3 0 1 else m)
noncomputable def bTake_I (I : gI) (F : gF) (m : Int32) : gI := gs (gs I 3 0 1 ((I 3 0 1) - (if (I 3 0 1) < m then I 3 0 1 else m))) 3 0 4 ((I 3 0 4) + (if (I 3 0 1) < m then I 3 0 1 else m))
set_option maxHeartbeats 4000000 in
set_option maxRecDepth 100000 in
theorem c_X3_takeAway (D : va_G) (E : gEc) (ad : gAd) (I : gI) (F : gF) (lc ln : Nat) (m : Int32) : gCon D E yX3_takeAway cX3_takeAway 3 (some .int) 1 0 0 [.ref (ad 3 0), .int m] ad (cX E ad I F lc ln) (gPd (some (.int (bTake_r I F m))) ad (cX E ad (bTake_I I F m) F lc ln)) := by
  refine gCon.of (by decide) (Nat.le_of_ble_eq_true rfl) ?_
  intro l A Rn h
  show Rn 0 [(0, .ref (ad 3 0)), (1, .int m)] [] ad (cX E ad I F lc ln) 0 0
  refine r_iload_n h.ok dX3_takeAway_0 1 rfl ?_
  refine r_aload_n h.ok dX3_takeAway_1 0 rfl ?_
  refine r_get (v := .int (I 3 0 1)) h.ok 1 dX3_takeAway_2 (xo_3 _) rfl inX3 (by decide) wfl_X3_18 rfl ?_
  refine r_mmin h.ok dX3_takeAway_5 wml_X3_24 ⟨by decide, Nat.le_of_ble_eq_true rfl, by decide, by decide⟩ ?_
  refine r_topi (fun g e_g => ?_)
  refine r_istore_n (lv' := [(2, .int g), (0, .ref (ad 3 0)), (1, .int m)]) h.ok dX3_takeAway_8 (by decide) rfl ?_
  refine r_aload_n h.ok dX3_takeAway_9 1 rfl ?_
  refine r_dup h.ok dX3_takeAway_10 rfl ?_
  refine r_get (v := .int (I 3 0 1)) h.ok 1 dX3_takeAway_11 (xo_3 _) rfl inX3 (by decide) wfl_X3_18 rfl ?_
  refine r_iload_n h.ok dX3_takeAway_14 0 rfl ?_
  refine r_isub h.ok dX3_takeAway_15 ?_
  refine r_put (ty := tyX3) h.ok 1 dX3_takeAway_16 (xo_3 _) rfl inX3 tyX3_ok nmX3 (by decide) wfl_X3_18 rfl rfl rfl (by simp) (cX_put (r' := upd (I 3 0) 1 ((I 3 0 1) - g)) (xo_3 _)) ?_
  refine r_aload_n h.ok dX3_takeAway_19 1 rfl ?_
  refine r_dup h.ok dX3_takeAway_20 rfl ?_
  refine r_get (v := .int (I 3 0 4)) h.ok 4 dX3_takeAway_21 (xo_3 _) rfl inX3 (by decide) wfl_X3_30 (congrArg (fun z => some (Value.int z)) (by simp [gr, upd] : (gs I 3 0 1 ((I 3 0 1) - g)) 3 0 4 = I 3 0 4)) ?_
  refine r_iload_n h.ok dX3_takeAway_24 0 rfl ?_
  refine r_iadd h.ok dX3_takeAway_25 ?_
  refine r_put (ty := tyX3) h.ok 4 dX3_takeAway_26 (xo_3 _) rfl inX3 tyX3_ok nmX3 (by decide) wfl_X3_30 rfl rfl rfl (by simp) (cX_put (r' := upd ((gs I 3 0 1 ((I 3 0 1) - g)) 3 0) 4 ((I 3 0 4) + g)) (xo_3 _)) ?_
  refine r_iload_n h.ok dX3_takeAway_29 0 rfl ?_
  refine r_iret h dX3_takeAway_30 ⟨by decide, by decide⟩ ⟨(by subst e_g; unfold bTake_r; rfl), rfl, (by subst e_g; unfold bTake_I; rfl)⟩
noncomputable def bOfKind_r (I : gI) (F : gF) (j : Nat) (m : Int32) : Int32 := (if m = 3 then 1 else (if m = (I 7 j 5) then 1 else (if m = 1 then (if (I 7 j 5) = 2 then 1 else 0) else 0)))
set_option maxHeartbeats 4000000 in
set_option maxRecDepth 100000 in
theorem c_X4_isOfKind (D : va_G) (E : gEc) (ad : gAd) (I : gI) (F : gF) (lc ln : Nat) (j : Nat) (hj : j < ln) (m : Int32) : gCon D E yX4_isOfKind cX4_isOfKind 2 (some .boolean) 0 0 0 [.ref (ad 7 j), .int m] ad (cX E ad I F lc ln) (gPd (some (.int (bOfKind_r I F j m))) ad (cX E ad I F lc ln)) := by
  refine gCon.of (by decide) (Nat.le_of_ble_eq_true rfl) ?_
  intro l A Rn h
  show Rn 0 [(0, .ref (ad 7 j)), (1, .int m)] [] ad (cX E ad I F lc ln) 0 0
  refine r_iload_n h.ok dX4_isOfKind_0 1 rfl ?_
  refine r_iconst (v := 3) h.ok dX4_isOfKind_1 (by decide) ?_
  refine r_icmp_eq h.ok 26 dX4_isOfKind_2 (by decide) (fun c_2 => ?_) (fun c_2 => ?_)
  · refine r_iconst (v := 1) h.ok dX4_isOfKind_26 (by decide) ?_
    refine r_goto h.ok 31 dX4_isOfKind_27 (by decide) ?_
    refine r_zret h dX4_isOfKind_31 ⟨by decide, by decide⟩ (by simp) ⟨(by unfold bOfKind_r; simp only [if_pos c_2]), rfl, rfl⟩
  · refine r_iload_n h.ok dX4_isOfKind_5 1 rfl ?_
    refine r_aload_n h.ok dX4_isOfKind_6 0 rfl ?_
    refine r_get (v := .int (I 7 j 5)) h.ok 5 dX4_isOfKind_7 (xo_7 hj _) rfl inX4 (by decide) wfl_X4_9 rfl ?_
    refine r_icmp_eq h.ok 26 dX4_isOfKind_10 (by decide) (fun c_10 => ?_) (fun c_10 => ?_)
    · refine r_iconst (v := 1) h.ok dX4_isOfKind_26 (by decide) ?_
      refine r_goto h.ok 31 dX4_isOfKind_27 (by decide) ?_
      refine r_zret h dX4_isOfKind_31 ⟨by decide, by decide⟩ (by simp) ⟨(by unfold bOfKind_r; simp only [if_neg c_2, if_pos c_10]), rfl, rfl⟩
    · refine r_iload_n h.ok dX4_isOfKind_13 1 rfl ?_
      refine r_iconst (v := 1) h.ok dX4_isOfKind_14 (by decide) ?_
      refine r_icmp_ne h.ok 30 dX4_isOfKind_15 (by decide) (fun c_15 => ?_) (fun c_15 => ?_)
      · refine r_iconst (v := 0) h.ok dX4_isOfKind_30 (by decide) ?_
        refine r_zret h dX4_isOfKind_31 ⟨by decide, by decide⟩ (by simp) ⟨(by unfold bOfKind_r; simp only [if_neg c_2, if_neg c_10, if_neg c_15]), rfl, rfl⟩
      · refine r_aload_n h.ok dX4_isOfKind_18 0 rfl ?_
        refine r_get (v := .int (I 7 j 5)) h.ok 5 dX4_isOfKind_19 (xo_7 hj _) rfl inX4 (by decide) wfl_X4_9 rfl ?_
        refine r_iconst (v := 2) h.ok dX4_isOfKind_22 (by decide) ?_
        refine r_icmp_ne h.ok 30 dX4_isOfKind_23 (by decide) (fun c_23 => ?_) (fun c_23 => ?_)
        · refine r_iconst (v := 0) h.ok dX4_isOfKind_30 (by decide) ?_
          refine r_zret h dX4_isOfKind_31 ⟨by decide, by decide⟩ (by simp) ⟨(by unfold bOfKind_r; simp only [if_neg c_2, if_neg c_10, if_pos c_15, if_neg c_23]), rfl, rfl⟩
        · refine r_iconst (v := 1) h.ok dX4_isOfKind_26 (by decide) ?_
          refine r_goto h.ok 31 dX4_isOfKind_27 (by decide) ?_
          refine r_zret h dX4_isOfKind_31 ⟨by decide, by decide⟩ (by simp) ⟨(by unfold bOfKind_r; simp only [if_neg c_2, if_neg c_10, if_pos c_15, if_pos c_23]), rfl, rfl⟩
noncomputable def bEndedOn_r (I : gI) (F : gF) (j : Nat) (m : Int32) : Int32 := (if (I 7 j 7) = (-9) then 0 else (if ((I 7 j 7) / 1440) = m then 1 else 0))
set_option maxHeartbeats 4000000 in
set_option maxRecDepth 100000 in
theorem c_X4_endedOn (D : va_G) (E : gEc) (ad : gAd) (I : gI) (F : gF) (lc ln : Nat) (j : Nat) (hj : j < ln) (m : Int32) : gCon D E yX4_endedOn cX4_endedOn 2 (some .boolean) 0 0 0 [.ref (ad 7 j), .int m] ad (cX E ad I F lc ln) (gPd (some (.int (bEndedOn_r I F j m))) ad (cX E ad I F lc ln)) := by
  refine gCon.of (by decide) (Nat.le_of_ble_eq_true rfl) ?_
  intro l A Rn h
  show Rn 0 [(0, .ref (ad 7 j)), (1, .int m)] [] ad (cX E ad I F lc ln) 0 0
  refine r_aload_n h.ok dX4_endedOn_0 0 rfl ?_
  refine r_get (v := .int (I 7 j 7)) h.ok 7 dX4_endedOn_1 (xo_7 hj _) rfl inX4 (by decide) wfl_X4_18 rfl ?_
  refine r_bipush (v := (-9)) h.ok dX4_endedOn_4 (by decide) ?_
  refine r_icmp_eq h.ok 25 dX4_endedOn_6 (by decide) (fun c_6 => ?_) (fun c_6 => ?_)
  · refine r_iconst (v := 0) h.ok dX4_endedOn_25 (by decide) ?_
    refine r_zret h dX4_endedOn_26 ⟨by decide, by decide⟩ (by simp) ⟨(by unfold bEndedOn_r; simp only [if_pos c_6]), rfl, rfl⟩
  · refine r_aload_n h.ok dX4_endedOn_9 0 rfl ?_
    refine r_get (v := .int (I 7 j 7)) h.ok 7 dX4_endedOn_10 (xo_7 hj _) rfl inX4 (by decide) wfl_X4_18 rfl ?_
    refine r_sipush (v := 1440) h.ok dX4_endedOn_13 (by decide) ?_
    refine r_idiv h.ok dX4_endedOn_16 (by decide) ?_
    refine r_iload_n h.ok dX4_endedOn_17 1 rfl ?_
    refine r_icmp_ne h.ok 25 dX4_endedOn_18 (by decide) (fun c_18 => ?_) (fun c_18 => ?_)
    · refine r_iconst (v := 0) h.ok dX4_endedOn_25 (by decide) ?_
      refine r_zret h dX4_endedOn_26 ⟨by decide, by decide⟩ (by simp) ⟨(by unfold bEndedOn_r; simp only [if_neg c_6, if_neg c_18]), rfl, rfl⟩
    · refine r_iconst (v := 1) h.ok dX4_endedOn_21 (by decide) ?_
      refine r_goto h.ok 26 dX4_endedOn_22 (by decide) ?_
      refine r_zret h dX4_endedOn_26 ⟨by decide, by decide⟩ (by simp) ⟨(by unfold bEndedOn_r; simp only [if_neg c_6, if_pos c_18]), rfl, rfl⟩
set_option maxHeartbeats 4000000 in
set_option maxRecDepth 100000 in
theorem c_X5_within (D : va_G) (E : gEc) (ad : gAd) (I : gI) (F : gF) (lc ln : Nat) (x y z : Int32) : gCon D E yX5_within cX5_within 3 (some .boolean) 0 0 0 [.int x, .int y, .int z] ad (cX E ad I F lc ln) (gPd (some (.int (pI (mIn x y z)))) ad (cX E ad I F lc ln)) := by
  refine gCon.of (by decide) (Nat.le_of_ble_eq_true rfl) ?_
  intro l A Rn h
  show Rn 0 [(0, .int x), (1, .int y), (2, .int z)] [] ad (cX E ad I F lc ln) 0 0
  refine r_iload_n h.ok dX5_within_0 0 rfl ?_
  refine r_iload_n h.ok dX5_within_1 1 rfl ?_
  refine r_icmp_lt h.ok 14 dX5_within_2 (by decide) (fun c_2 => ?_) (fun c_2 => ?_)
  · refine r_iconst (v := 0) h.ok dX5_within_14 (by decide) ?_
    refine r_zret h dX5_within_15 ⟨by decide, by decide⟩ (by simp) ⟨by rw [pI_f (show ¬ mIn x y z from fun q => q.1 c_2)], rfl, rfl⟩
  · refine r_iload_n h.ok dX5_within_5 0 rfl ?_
    refine r_iload_n h.ok dX5_within_6 2 rfl ?_
    refine r_icmp_gt h.ok 14 dX5_within_7 (by decide) (fun c_7 => ?_) (fun c_7 => ?_)
    · refine r_iconst (v := 0) h.ok dX5_within_14 (by decide) ?_
      refine r_zret h dX5_within_15 ⟨by decide, by decide⟩ (by simp) ⟨by rw [pI_f (show ¬ mIn x y z from fun q => q.2 c_7)], rfl, rfl⟩
    · refine r_iconst (v := 1) h.ok dX5_within_10 (by decide) ?_
      refine r_goto h.ok 15 dX5_within_11 (by decide) ?_
      refine r_zret h dX5_within_15 ⟨by decide, by decide⟩ (by simp) ⟨by rw [pI_t (show mIn x y z from ⟨c_2, c_7⟩)], rfl, rfl⟩
noncomputable def bNum_r (I : gI) (F : gF) (x : Int32) : Int32 := (if x = 0 then 0 else 1)
set_option maxHeartbeats 4000000 in
set_option maxRecDepth 100000 in
theorem c_X5_asNumber (D : va_G) (E : gEc) (ad : gAd) (I : gI) (F : gF) (lc ln : Nat) (x : Int32) : gCon D E yX5_asNumber cX5_asNumber 1 (some .int) 0 0 0 [.int x] ad (cX E ad I F lc ln) (gPd (some (.int (bNum_r I F x))) ad (cX E ad I F lc ln)) := by
  refine gCon.of (by decide) (Nat.le_of_ble_eq_true rfl) ?_
  intro l A Rn h
  show Rn 0 [(0, .int x)] [] ad (cX E ad I F lc ln) 0 0
  refine r_iload_n h.ok dX5_asNumber_0 0 rfl ?_
  refine r_if_eq h.ok 8 dX5_asNumber_1 (by decide) (fun c_1 => ?_) (fun c_1 => ?_)
  · refine r_iconst (v := 0) h.ok dX5_asNumber_8 (by decide) ?_
    refine r_iret h dX5_asNumber_9 ⟨by decide, by decide⟩ ⟨(by unfold bNum_r; simp only [if_pos c_1]), rfl, rfl⟩
  · refine r_iconst (v := 1) h.ok dX5_asNumber_4 (by decide) ?_
    refine r_goto h.ok 9 dX5_asNumber_5 (by decide) ?_
    refine r_iret h dX5_asNumber_9 ⟨by decide, by decide⟩ ⟨(by unfold bNum_r; simp only [if_neg c_1]), rfl, rfl⟩
noncomputable def bTell_r (I : gI) (F : gF) (j : Nat) (m : Int32) : Int32 := (if m = 0 then I 7 j 5 else (if m = 1 then I 7 j 0 else (if m = 2 then I 7 j 2 else (if m = 3 then I 7 j 3 else (if m = 4 then bNum_r I F (I 7 j 4) else (if m = 5 then I 7 j 6 else (if m = 6 then I 7 j 7 else (if m = 7 then I 7 j 8 else (if m = 8 then I 7 j 9 else (if m = 9 then I 7 j 10 else I 7 j 11))))))))))
set_option maxHeartbeats 4000000 in
set_option maxRecDepth 100000 in
theorem c_X4_tell (D : va_G) (E : gEc) (ad : gAd) (I : gI) (F : gF) (lc ln : Nat) (j : Nat) (hj : j < ln) (m : Int32) : gCon D E yX4_tell cX4_tell 2 (some .int) 1 0 0 [.ref (ad 7 j), .int m] ad (cX E ad I F lc ln) (gPd (some (.int (bTell_r I F j m))) ad (cX E ad I F lc ln)) := by
  refine gCon.of (by decide) (Nat.le_of_ble_eq_true rfl) ?_
  intro l A Rn h
  show Rn 0 [(0, .ref (ad 7 j)), (1, .int m)] [] ad (cX E ad I F lc ln) 0 0
  refine r_iload_n h.ok dX4_tell_0 1 rfl ?_
  by_cases s_0 : m = 0
  · refine r_tableIn (off := 55) h.ok 56 dX4_tell_1 (by rw [s_0]; decide) (by rw [s_0]; decide) (by rw [s_0]; rfl) (by decide) ?_
    refine r_aload_n h.ok dX4_tell_56 0 rfl ?_
    refine r_get (v := .int (I 7 j 5)) h.ok 5 dX4_tell_57 (xo_7 hj _) rfl inX4 (by decide) wfl_X4_9 rfl ?_
    refine r_iret h dX4_tell_60 ⟨by decide, by decide⟩ ⟨(by unfold bTell_r; simp only [if_pos s_0]), rfl, rfl⟩
  by_cases s_1 : m = 1
  · refine r_tableIn (off := 60) h.ok 61 dX4_tell_1 (by rw [s_1]; decide) (by rw [s_1]; decide) (by rw [s_1]; rfl) (by decide) ?_
    refine r_aload_n h.ok dX4_tell_61 0 rfl ?_
    refine r_get (v := .int (I 7 j 0)) h.ok 0 dX4_tell_62 (xo_7 hj _) rfl inX4 (by decide) wfl_X4_33 rfl ?_
    refine r_iret h dX4_tell_65 ⟨by decide, by decide⟩ ⟨(by unfold bTell_r; simp only [if_neg s_0, if_pos s_1]), rfl, rfl⟩
  by_cases s_2 : m = 2
  · refine r_tableIn (off := 65) h.ok 66 dX4_tell_1 (by rw [s_2]; decide) (by rw [s_2]; decide) (by rw [s_2]; rfl) (by decide) ?_
    refine r_aload_n h.ok dX4_tell_66 0 rfl ?_
    refine r_get (v := .int (I 7 j 2)) h.ok 2 dX4_tell_67 (xo_7 hj _) rfl inX4 (by decide) wfl_X4_40 rfl ?_
    refine r_iret h dX4_tell_70 ⟨by decide, by decide⟩ ⟨(by unfold bTell_r; simp only [if_neg s_0, if_neg s_1, if_pos s_2]), rfl, rfl⟩
  by_cases s_3 : m = 3
  · refine r_tableIn (off := 70) h.ok 71 dX4_tell_1 (by rw [s_3]; decide) (by rw [s_3]; decide) (by rw [s_3]; rfl) (by decide) ?_
    refine r_aload_n h.ok dX4_tell_71 0 rfl ?_
    refine r_get (v := .int (I 7 j 3)) h.ok 3 dX4_tell_72 (xo_7 hj _) rfl inX4 (by decide) wfl_X4_43 rfl ?_
    refine r_iret h dX4_tell_75 ⟨by decide, by decide⟩ ⟨(by unfold bTell_r; simp only [if_neg s_0, if_neg s_1, if_neg s_2, if_pos s_3]), rfl, rfl⟩
  by_cases s_4 : m = 4
  · refine r_tableIn (off := 75) h.ok 76 dX4_tell_1 (by rw [s_4]; decide) (by rw [s_4]; decide) (by rw [s_4]; rfl) (by decide) ?_
    refine r_aload_n h.ok dX4_tell_76 0 rfl ?_
    refine r_get (v := .int (I 7 j 4)) h.ok 4 dX4_tell_77 (xo_7 hj _) rfl inX4 (by decide) wfl_X4_46 rfl ?_
    refine r_callSN h.ok [.int (I 7 j 4)] [] dX4_tell_80 (c_X5_asNumber D E ad I F lc ln (I 7 j 4)) (fun _ hn => hn.2.2.2) wst_X5_asNumber win_X5 wco_X5_asNumber yok_X5_asNumber ⟨by decide, by decide, by simp [gRm], by simp [gRm]⟩ (Nat.le_of_ble_eq_true rfl) rfl ?_
    show Rn 83 [(0, .ref (ad 7 j)), (1, .int m)] [.int (bNum_r I F (I 7 j 4))] ad (cX E ad I F lc ln) 0 0
    refine r_iret h dX4_tell_83 ⟨by decide, by decide⟩ ⟨(by unfold bTell_r; simp only [if_neg s_0, if_neg s_1, if_neg s_2, if_neg s_3, if_pos s_4]), rfl, rfl⟩
  by_cases s_5 : m = 5
  · refine r_tableIn (off := 83) h.ok 84 dX4_tell_1 (by rw [s_5]; decide) (by rw [s_5]; decide) (by rw [s_5]; rfl) (by decide) ?_
    refine r_aload_n h.ok dX4_tell_84 0 rfl ?_
    refine r_get (v := .int (I 7 j 6)) h.ok 6 dX4_tell_85 (xo_7 hj _) rfl inX4 (by decide) wfl_X4_15 rfl ?_
    refine r_iret h dX4_tell_88 ⟨by decide, by decide⟩ ⟨(by unfold bTell_r; simp only [if_neg s_0, if_neg s_1, if_neg s_2, if_neg s_3, if_neg s_4, if_pos s_5]), rfl, rfl⟩
  by_cases s_6 : m = 6
  · refine r_tableIn (off := 88) h.ok 89 dX4_tell_1 (by rw [s_6]; decide) (by rw [s_6]; decide) (by rw [s_6]; rfl) (by decide) ?_
    refine r_aload_n h.ok dX4_tell_89 0 rfl ?_
    refine r_get (v := .int (I 7 j 7)) h.ok 7 dX4_tell_90 (xo_7 hj _) rfl inX4 (by decide) wfl_X4_18 rfl ?_
    refine r_iret h dX4_tell_93 ⟨by decide, by decide⟩ ⟨(by unfold bTell_r; simp only [if_neg s_0, if_neg s_1, if_neg s_2, if_neg s_3, if_neg s_4, if_neg s_5, if_pos s_6]), rfl, rfl⟩
  by_cases s_7 : m = 7
  · refine r_tableIn (off := 93) h.ok 94 dX4_tell_1 (by rw [s_7]; decide) (by rw [s_7]; decide) (by rw [s_7]; rfl) (by decide) ?_
    refine r_aload_n h.ok dX4_tell_94 0 rfl ?_
    refine r_get (v := .int (I 7 j 8)) h.ok 8 dX4_tell_95 (xo_7 hj _) rfl inX4 (by decide) wfl_X4_21 rfl ?_
    refine r_iret h dX4_tell_98 ⟨by decide, by decide⟩ ⟨(by unfold bTell_r; simp only [if_neg s_0, if_neg s_1, if_neg s_2, if_neg s_3, if_neg s_4, if_neg s_5, if_neg s_6, if_pos s_7]), rfl, rfl⟩
  by_cases s_8 : m = 8
  · refine r_tableIn (off := 98) h.ok 99 dX4_tell_1 (by rw [s_8]; decide) (by rw [s_8]; decide) (by rw [s_8]; rfl) (by decide) ?_
    refine r_aload_n h.ok dX4_tell_99 0 rfl ?_
    refine r_get (v := .int (I 7 j 9)) h.ok 9 dX4_tell_100 (xo_7 hj _) rfl inX4 (by decide) wfl_X4_24 rfl ?_
    refine r_iret h dX4_tell_103 ⟨by decide, by decide⟩ ⟨(by unfold bTell_r; simp only [if_neg s_0, if_neg s_1, if_neg s_2, if_neg s_3, if_neg s_4, if_neg s_5, if_neg s_6, if_neg s_7, if_pos s_8]), rfl, rfl⟩
  by_cases s_9 : m = 9
  · refine r_tableIn (off := 103) h.ok 104 dX4_tell_1 (by rw [s_9]; decide) (by rw [s_9]; decide) (by rw [s_9]; rfl) (by decide) ?_
    refine r_aload_n h.ok dX4_tell_104 0 rfl ?_
    refine r_get (v := .int (I 7 j 10)) h.ok 10 dX4_tell_105 (xo_7 hj _) rfl inX4 (by decide) wfl_X4_27 rfl ?_
    refine r_iret h dX4_tell_108 ⟨by decide, by decide⟩ ⟨(by unfold bTell_r; simp only [if_neg s_0, if_neg s_1, if_neg s_2, if_neg s_3, if_neg s_4, if_neg s_5, if_neg s_6, if_neg s_7, if_neg s_8, if_pos s_9]), rfl, rfl⟩
  refine r_tableOut h.ok 109 dX4_tell_1 (gOut9 s_0 s_1 s_2 s_3 s_4 s_5 s_6 s_7 s_8 s_9) (by decide) ?_
  refine r_aload_n h.ok dX4_tell_109 0 rfl ?_
  refine r_get (v := .int (I 7 j 11)) h.ok 11 dX4_tell_110 (xo_7 hj _) rfl inX4 (by decide) wfl_X4_30 rfl ?_
  refine r_iret h dX4_tell_113 ⟨by decide, by decide⟩ ⟨(by unfold bTell_r; simp only [if_neg s_0, if_neg s_1, if_neg s_2, if_neg s_3, if_neg s_4, if_neg s_5, if_neg s_6, if_neg s_7, if_neg s_8, if_neg s_9]), rfl, rfl⟩
noncomputable def bBusy_r (I : gI) (F : gF)  : Int32 := (if F 1 0 = none then 0 else 1)
set_option maxHeartbeats 4000000 in
set_option maxRecDepth 100000 in
theorem c_X0_isBusy (D : va_G) (E : gEc) (ad : gAd) (I : gI) (F : gF) (lc ln : Nat) (hbv : ¬ F 1 0 = none → F 1 0 = some (bv F) ∧ bv F < ln) : gCon D E yX0_isBusy cX0_isBusy 1 (some .boolean) 0 0 0 [.ref (ad 2 0)] ad (cX E ad I F lc ln) (gPd (some (.int (bBusy_r I F ))) ad (cX E ad I F lc ln)) := by
  refine gCon.of (by decide) (Nat.le_of_ble_eq_true rfl) ?_
  intro l A Rn h
  show Rn 0 [(0, .ref (ad 2 0))] [] ad (cX E ad I F lc ln) 0 0
  refine r_aload_n h.ok dX0_isBusy_0 0 rfl ?_
  by_cases c_1 : F 1 0 = none
  · refine r_get (v := .null) h.ok 0 dX0_isBusy_1 (xo_2 _) rfl inX0 (by decide) wfl_X0_9 (by simp [c_1, va_rf, gf]) ?_
    refine r_ifnullN h.ok 11 dX0_isBusy_4 (by decide) ?_
    refine r_iconst (v := 0) h.ok dX0_isBusy_11 (by decide) ?_
    refine r_zret h dX0_isBusy_12 ⟨by decide, by decide⟩ (by simp) ⟨(by unfold bBusy_r; simp only [if_pos c_1]), rfl, rfl⟩
  · refine r_get (v := .ref (ad 7 (bv F))) h.ok 0 dX0_isBusy_1 (xo_2 _) rfl inX0 (by decide) wfl_X0_9 (by simp [(hbv c_1).1, va_rf, gf]) ?_
    refine r_ifnull h.ok dX0_isBusy_4 ?_
    refine r_iconst (v := 1) h.ok dX0_isBusy_7 (by decide) ?_
    refine r_goto h.ok 12 dX0_isBusy_8 (by decide) ?_
    refine r_zret h dX0_isBusy_12 ⟨by decide, by decide⟩ (by simp) ⟨(by unfold bBusy_r; simp only [if_neg c_1]), rfl, rfl⟩
noncomputable def bHolds_r (I : gI) (F : gF) (c : Int32) : Int32 := (if F 1 0 = none then 0 else (if (I 7 (bv F) 0) = c then 1 else 0))
set_option maxHeartbeats 4000000 in
set_option maxRecDepth 100000 in
theorem c_X0_holds (D : va_G) (E : gEc) (ad : gAd) (I : gI) (F : gF) (lc ln : Nat) (hbv : ¬ F 1 0 = none → F 1 0 = some (bv F) ∧ bv F < ln) (c : Int32) : gCon D E yX0_holds cX0_holds 3 (some .boolean) 0 0 0 [.ref (ad 2 0), .int c] ad (cX E ad I F lc ln) (gPd (some (.int (bHolds_r I F c))) ad (cX E ad I F lc ln)) := by
  refine gCon.of (by decide) (Nat.le_of_ble_eq_true rfl) ?_
  intro l A Rn h
  show Rn 0 [(0, .ref (ad 2 0)), (1, .int c)] [] ad (cX E ad I F lc ln) 0 0
  refine r_aload_n h.ok dX0_holds_0 0 rfl ?_
  by_cases c_1 : F 1 0 = none
  · refine r_get (v := .null) h.ok 0 dX0_holds_1 (xo_2 _) rfl inX0 (by decide) wfl_X0_9 (by simp [c_1, va_rf, gf]) ?_
    refine r_astore_nN (lv' := [(2, .null), (0, .ref (ad 2 0)), (1, .int c)]) h.ok dX0_holds_4 (by decide) rfl ?_
    refine r_aload_nN h.ok dX0_holds_5 0 rfl ?_
    refine r_ifnullN h.ok 21 dX0_holds_6 (by decide) ?_
    refine r_iconst (v := 0) h.ok dX0_holds_21 (by decide) ?_
    refine r_zret h dX0_holds_22 ⟨by decide, by decide⟩ (by simp) ⟨(by unfold bHolds_r; simp only [if_pos c_1]), rfl, rfl⟩
  · refine r_get (v := .ref (ad 7 (bv F))) h.ok 0 dX0_holds_1 (xo_2 _) rfl inX0 (by decide) wfl_X0_9 (by simp [(hbv c_1).1, va_rf, gf]) ?_
    refine r_astore_n (lv' := [(2, .ref (ad 7 (bv F))), (0, .ref (ad 2 0)), (1, .int c)]) h.ok dX0_holds_4 (by decide) rfl ?_
    refine r_aload_n h.ok dX0_holds_5 0 rfl ?_
    refine r_ifnull h.ok dX0_holds_6 ?_
    refine r_aload_n h.ok dX0_holds_9 0 rfl ?_
    refine r_get (v := .int (I 7 (bv F) 0)) h.ok 0 dX0_holds_10 (xo_7 (hbv c_1).2 _) rfl inX4 (by decide) wfl_X0_15 rfl ?_
    refine r_iload_n h.ok dX0_holds_13 2 rfl ?_
    refine r_icmp_ne h.ok 21 dX0_holds_14 (by decide) (fun c_14 => ?_) (fun c_14 => ?_)
    · refine r_iconst (v := 0) h.ok dX0_holds_21 (by decide) ?_
      refine r_zret h dX0_holds_22 ⟨by decide, by decide⟩ (by simp) ⟨(by unfold bHolds_r; simp only [if_neg c_1, if_neg c_14]), rfl, rfl⟩
    · refine r_iconst (v := 1) h.ok dX0_holds_17 (by decide) ?_
      refine r_goto h.ok 22 dX0_holds_18 (by decide) ?_
      refine r_zret h dX0_holds_22 ⟨by decide, by decide⟩ (by simp) ⟨(by unfold bHolds_r; simp only [if_neg c_1, if_pos c_14]), rfl, rfl⟩
noncomputable def bMilkedBy_r (I : gI) (F : gF) (m : Int32) : Int32 := if (20 * (if 0 < (m - (I 2 0 3)) then m - (I 2 0 3) else 0)) < (I 2 0 2) then 20 * (if 0 < (m - (I 2 0 3)) then m - (I 2 0 3) else 0) else I 2 0 2
set_option maxHeartbeats 4000000 in
set_option maxRecDepth 100000 in
theorem c_X0_milkedBy (D : va_G) (E : gEc) (ad : gAd) (I : gI) (F : gF) (lc ln : Nat) (m : Int32) : gCon D E yX0_milkedBy cX0_milkedBy 2 (some .int) 1 0 0 [.ref (ad 2 0), .int m] ad (cX E ad I F lc ln) (gPd (some (.int (bMilkedBy_r I F m))) ad (cX E ad I F lc ln)) := by
  refine gCon.of (by decide) (Nat.le_of_ble_eq_true rfl) ?_
  intro l A Rn h
  show Rn 0 [(0, .ref (ad 2 0)), (1, .int m)] [] ad (cX E ad I F lc ln) 0 0
  refine r_aload_n h.ok dX0_milkedBy_0 0 rfl ?_
  refine r_get (v := .int (I 2 0 2)) h.ok 2 dX0_milkedBy_1 (xo_2 _) rfl inX0 (by decide) wfl_X0_30 rfl ?_
  refine r_bipush (v := 20) h.ok dX0_milkedBy_4 (by decide) ?_
  refine r_iconst (v := 0) h.ok dX0_milkedBy_6 (by decide) ?_
  refine r_iload_n h.ok dX0_milkedBy_7 1 rfl ?_
  refine r_aload_n h.ok dX0_milkedBy_8 0 rfl ?_
  refine r_get (v := .int (I 2 0 3)) h.ok 3 dX0_milkedBy_9 (xo_2 _) rfl inX0 (by decide) wfl_X0_33 rfl ?_
  refine r_isub h.ok dX0_milkedBy_12 ?_
  refine r_mmax h.ok dX0_milkedBy_13 wml_X0_58 ⟨by decide, Nat.le_of_ble_eq_true rfl, by decide, by decide⟩ ?_
  refine r_topi (fun g e_g => ?_)
  refine r_imul h.ok dX0_milkedBy_16 ?_
  refine r_mmin h.ok dX0_milkedBy_17 wml_X0_40 ⟨by decide, Nat.le_of_ble_eq_true rfl, by decide, by decide⟩ ?_
  refine r_iret h dX0_milkedBy_20 ⟨by decide, by decide⟩ ⟨(by subst e_g; unfold bMilkedBy_r; rfl), rfl, rfl⟩
noncomputable def bTeat_r (I : gI) (F : gF) (m : Int32) : Int32 := (if m = 0 then ((I 2 0 1) / 4) + ((I 2 0 1) - (I 2 0 1) / 4 * 4) else (I 2 0 1) / 4)
set_option maxHeartbeats 4000000 in
set_option maxRecDepth 100000 in
theorem c_X0_milkOfTeat (D : va_G) (E : gEc) (ad : gAd) (I : gI) (F : gF) (lc ln : Nat) (m : Int32) : gCon D E yX0_milkOfTeat cX0_milkOfTeat 3 (some .int) 0 0 0 [.ref (ad 2 0), .int m] ad (cX E ad I F lc ln) (gPd (some (.int (bTeat_r I F m))) ad (cX E ad I F lc ln)) := by
  refine gCon.of (by decide) (Nat.le_of_ble_eq_true rfl) ?_
  intro l A Rn h
  show Rn 0 [(0, .ref (ad 2 0)), (1, .int m)] [] ad (cX E ad I F lc ln) 0 0
  refine r_aload_n h.ok dX0_milkOfTeat_0 0 rfl ?_
  refine r_get (v := .int (I 2 0 1)) h.ok 1 dX0_milkOfTeat_1 (xo_2 _) rfl inX0 (by decide) wfl_X0_27 rfl ?_
  refine r_iconst (v := 4) h.ok dX0_milkOfTeat_4 (by decide) ?_
  refine r_idiv h.ok dX0_milkOfTeat_5 (by decide) ?_
  refine r_istore_n (lv' := [(2, .int ((I 2 0 1) / 4)), (0, .ref (ad 2 0)), (1, .int m)]) h.ok dX0_milkOfTeat_6 (by decide) rfl ?_
  refine r_iload_n h.ok dX0_milkOfTeat_7 2 rfl ?_
  refine r_if_ne h.ok 22 dX0_milkOfTeat_8 (by decide) (fun c_8 => ?_) (fun c_8 => ?_)
  · refine r_iload_n h.ok dX0_milkOfTeat_22 0 rfl ?_
    refine r_iret h dX0_milkOfTeat_23 ⟨by decide, by decide⟩ ⟨(by unfold bTeat_r; simp only [if_neg c_8]), rfl, rfl⟩
  · refine r_iload_n h.ok dX0_milkOfTeat_11 0 rfl ?_
    refine r_aload_n h.ok dX0_milkOfTeat_12 1 rfl ?_
    refine r_get (v := .int (I 2 0 1)) h.ok 1 dX0_milkOfTeat_13 (xo_2 _) rfl inX0 (by decide) wfl_X0_27 rfl ?_
    refine r_iconst (v := 4) h.ok dX0_milkOfTeat_16 (by decide) ?_
    refine r_irem h.ok dX0_milkOfTeat_17 (by decide) ?_
    refine r_iadd h.ok dX0_milkOfTeat_18 ?_
    refine r_goto h.ok 23 dX0_milkOfTeat_19 (by decide) ?_
    refine r_iret h dX0_milkOfTeat_23 ⟨by decide, by decide⟩ ⟨(by unfold bTeat_r; simp only [if_pos c_8]), rfl, rfl⟩
