/-- a number of a cow that is there -/
theorem mNo_in {I : gI} {c : Int32} {nc : Nat} (hn : I 11 0 3 = nI nc) (h12 : nc ≤ 12) (h : ¬ mNo I c) : vp_in c nc := by
  have hq : mIn c 0 (I 11 0 3 - 1) := Classical.not_not.mp h
  obtain ⟨h1, h2⟩ := hq
  rw [hn] at h2
  rw [vp_in_iff]
  rw [Int32.lt_iff_toInt_lt] at h1 h2
  have e1 : (nI nc - 1).toInt = (nc : Int) - 1 := pk_sub_toInt (a := nc) (b := 1) (by omega) (by decide)
  rw [e1] at h2
  have e0 : (0 : Int32).toInt = 0 := by decide
  rw [e0] at h1
  omega
theorem vp_mono {x : Int32} {a b : Nat} (h : vp_in x a) (hab : a ≤ b) : vp_in x b := by
  rw [vp_in_iff] at *
  omega
theorem cX_thr {E : gEc} {ad : gAd} {I : gI} {F : gF} {lc lv : Nat} (ht : I 11 0 0 = 0) : gup (cX E ad I F lc lv) 11 0 (.inr (6, [.int (I 11 0 0), .int (I 11 0 1), .int (I 11 0 2), .int (I 11 0 3), .ref (ad 12 4), .ref (ad 12 5), .ref (ad 12 6), .ref (ad 12 7), .ref (ad 12 8), .ref (ad 12 9), .ref (ad 12 10), .ref (ad 12 11), .ref (ad 12 12), .ref (ad 12 13), .ref (ad 12 14), .ref (ad 12 15), .ref (ad 12 16), .int (I 11 0 17), .ref (ad 12 18), .ref (ad 12 19), .ref (ad 12 20), .ref (ad 12 21), .ref (ad 12 22), .ref (ad 12 23), .ref (ad 12 24), .ref (ad 12 25), .ref (ad 12 26), .ref (ad 12 27), .ref (ad 12 28), .int (I 11 0 29), .ref (ad 12 30), .int (I 11 0 31), .int (I 11 0 32), .int (I 11 0 33), .int (I 11 0 34), .int (I 11 0 35), .int (I 11 0 36), .int (I 11 0 37), .int (I 11 0 38), .int (I 11 0 39), .int (I 11 0 40), .int (I 11 0 41), .int (I 11 0 42)].set 0 (.int 0))) = cX E ad I F lc lv := by
  refine (cX_put (r' := upd (I 11 0) 0 0) (xo_11 _)).trans ?_
  congr 1
  funext k i s
  unfold gr upd
  by_cases h : k = 11 ∧ i = 0
  · obtain ⟨rfl, rfl⟩ := h
    rw [if_pos ⟨rfl, rfl⟩]
    by_cases h2 : s = 0
    · subst h2; simp [ht]
    · simp [h2]
  · rw [if_neg h]
noncomputable def mEnds_r (I : gI) (F : gF)  : Int32 := (if (I 11 0 31) = (-9) then (-9) else I 11 0 35)
set_option maxHeartbeats 4000000 in
set_option maxRecDepth 100000 in
theorem c_X6_ends (D : va_G) (E : gEc) (ad : gAd) (I : gI) (F : gF) (lc ln : Nat) (ht : I 11 0 0 = 0) : gCon D E yX6_ends cX6_ends 1 (some .int) 0 0 0 [.ref (ad 11 0)] ad (cX E ad I F lc ln) (gPd (some (.int (mEnds_r I F ))) ad (cX E ad I F lc ln)) := by
  refine gCon.of (by decide) (Nat.le_of_ble_eq_true rfl) ?_
  intro l A Rn h
  show Rn 0 [(0, .ref (ad 11 0))] [] ad (cX E ad I F lc ln) 0 0
  refine r_aload_n h.ok dX6_ends_0 0 rfl ?_
  refine r_iconst (v := 0) h.ok dX6_ends_1 (by decide) ?_
  refine r_put (ty := tyX6) h.ok 0 dX6_ends_2 (xo_11 _) rfl inX6 tyX6_ok nmX6 (by decide) wfl_X6_97 rfl rfl rfl (by simp) (cX_thr ht) ?_
  refine r_aload_n h.ok dX6_ends_5 0 rfl ?_
  refine r_get (v := .int (I 11 0 31)) h.ok 31 dX6_ends_6 (xo_11 _) rfl inX6 (by decide) wfl_X6_90 rfl ?_
  refine r_bipush (v := (-9)) h.ok dX6_ends_9 (by decide) ?_
  refine r_icmp_ne h.ok 19 dX6_ends_11 (by decide) (fun c_11 => ?_) (fun c_11 => ?_)
  · refine r_aload_n h.ok dX6_ends_19 0 rfl ?_
    refine r_get (v := .int (I 11 0 35)) h.ok 35 dX6_ends_20 (xo_11 _) rfl inX6 (by decide) wfl_X6_130 rfl ?_
    refine r_iret h dX6_ends_23 ⟨by decide, by decide⟩ ⟨(by unfold mEnds_r; simp only [if_neg c_11]), rfl, rfl⟩
  · refine r_bipush (v := (-9)) h.ok dX6_ends_14 (by decide) ?_
    refine r_goto h.ok 23 dX6_ends_16 (by decide) ?_
    refine r_iret h dX6_ends_23 ⟨by decide, by decide⟩ ⟨(by unfold mEnds_r; simp only [if_pos c_11]), rfl, rfl⟩
noncomputable def mRoom_r (I : gI) (F : gF) (a : Int32) : Int32 := (if (pI (mIn a 1 100000)) = 0 then (-2) else (if (I 11 0 36) ≤ a then I 11 0 37 else (-3)))
noncomputable def mRoom_I (I : gI) (F : gF) (a : Int32) : gI := (if (pI (mIn a 1 100000)) = 0 then I else (if (I 11 0 36) ≤ a then gs I 11 0 37 a else I))
set_option maxHeartbeats 4000000 in
set_option maxRecDepth 100000 in
theorem c_X6_room (D : va_G) (E : gEc) (ad : gAd) (I : gI) (F : gF) (lc ln : Nat) (a : Int32) (ht : I 11 0 0 = 0) : gCon D E yX6_room cX6_room 3 (some .int) 1 0 0 [.ref (ad 11 0), .int a] ad (cX E ad I F lc ln) (gPd (some (.int (mRoom_r I F a))) ad (cX E ad (mRoom_I I F a) F lc ln)) := by
  refine gCon.of (by decide) (Nat.le_of_ble_eq_true rfl) ?_
  intro l A Rn h
  show Rn 0 [(0, .ref (ad 11 0)), (1, .int a)] [] ad (cX E ad I F lc ln) 0 0
  refine r_aload_n h.ok dX6_room_0 0 rfl ?_
  refine r_iconst (v := 0) h.ok dX6_room_1 (by decide) ?_
  refine r_put (ty := tyX6) h.ok 0 dX6_room_2 (xo_11 _) rfl inX6 tyX6_ok nmX6 (by decide) wfl_X6_97 rfl rfl rfl (by simp) (cX_thr ht) ?_
  refine r_iload_n h.ok dX6_room_5 1 rfl ?_
  refine r_i2l h.ok dX6_room_6 ?_
  refine r_lconst (v := Int32.toInt64 1) h.ok dX6_room_7 (by decide) ?_
  refine r_ldc2 (v' := Int32.toInt64 100000) h.ok dX6_room_8 wk_X6_197 (by decide) ?_
  refine r_callS h.ok [.long (Int32.toInt64 a), .long (Int32.toInt64 1), .long (Int32.toInt64 100000)] [] dX6_room_11 (c_X6_in D E ad I F lc ln a 1 100000) wml_X6_103 wst_X6_in win_X6 wco_X6_in yok_X6_in ⟨by decide, by decide, by simp [gRm], by simp [gRm]⟩ (Nat.le_of_ble_eq_true rfl) rfl ?_
  show Rn 14 [(0, .ref (ad 11 0)), (1, .int a)] [.int (pI (mIn a 1 100000))] ad (cX E ad I F lc ln) 0 0
  refine r_if_ne h.ok 20 dX6_room_14 (by decide) (fun c_14 => ?_) (fun c_14 => ?_)
  · refine r_aload_n h.ok dX6_room_20 0 rfl ?_
    refine r_get (v := .int (I 11 0 36)) h.ok 36 dX6_room_21 (xo_11 _) rfl inX6 (by decide) wfl_X6_133 rfl ?_
    refine r_iload_n h.ok dX6_room_24 1 rfl ?_
    refine r_icmp_le h.ok 31 dX6_room_25 (by decide) (fun c_25 => ?_) (fun c_25 => ?_)
    · refine r_aload_n h.ok dX6_room_31 0 rfl ?_
      refine r_get (v := .int (I 11 0 37)) h.ok 37 dX6_room_32 (xo_11 _) rfl inX6 (by decide) wfl_X6_94 rfl ?_
      refine r_istore_n (lv' := [(2, .int (I 11 0 37)), (0, .ref (ad 11 0)), (1, .int a)]) h.ok dX6_room_35 (by decide) rfl ?_
      refine r_aload_n h.ok dX6_room_36 1 rfl ?_
      refine r_iload_n h.ok dX6_room_37 2 rfl ?_
      refine r_put (ty := tyX6) h.ok 37 dX6_room_38 (xo_11 _) rfl inX6 tyX6_ok nmX6 (by decide) wfl_X6_94 rfl rfl rfl (by simp) (cX_put (r' := upd (I 11 0) 37 a) (xo_11 _)) ?_
      refine r_iload_n h.ok dX6_room_41 0 rfl ?_
      refine r_iret h dX6_room_42 ⟨by decide, by decide⟩ ⟨(by unfold mRoom_r; simp only [if_neg c_14, if_pos c_25]), rfl, (by unfold mRoom_I; simp only [if_neg c_14, if_pos c_25])⟩
    · refine r_bipush (v := (-3)) h.ok dX6_room_28 (by decide) ?_
      refine r_iret h dX6_room_30 ⟨by decide, by decide⟩ ⟨(by unfold mRoom_r; simp only [if_neg c_14, if_neg c_25]), rfl, (by unfold mRoom_I; simp only [if_neg c_14, if_neg c_25])⟩
  · refine r_bipush (v := (-2)) h.ok dX6_room_17 (by decide) ?_
    refine r_iret h dX6_room_19 ⟨by decide, by decide⟩ ⟨(by unfold mRoom_r; simp only [if_pos c_14]), rfl, (by unfold mRoom_I; simp only [if_pos c_14])⟩
noncomputable def mPick_r (I : gI) (F : gF) (a : Int32) : Int32 := (if (pI (mIn a 1 100000)) = 0 then (-2) else (if (I 11 0 36) ≤ a then I 11 0 36 else a))
noncomputable def mPick_I (I : gI) (F : gF) (a : Int32) : gI := (if (pI (mIn a 1 100000)) = 0 then I else (if (I 11 0 36) ≤ a then gs (gs I 11 0 36 ((I 11 0 36) - (I 11 0 36))) 11 0 40 ((I 11 0 40) + (I 11 0 36)) else gs (gs I 11 0 36 ((I 11 0 36) - a)) 11 0 40 ((I 11 0 40) + a)))
set_option maxHeartbeats 4000000 in
set_option maxRecDepth 100000 in
theorem c_X6_pick (D : va_G) (E : gEc) (ad : gAd) (I : gI) (F : gF) (lc ln : Nat) (a : Int32) (ht : I 11 0 0 = 0) : gCon D E yX6_pick cX6_pick 3 (some .int) 1 0 0 [.ref (ad 11 0), .int a] ad (cX E ad I F lc ln) (gPd (some (.int (mPick_r I F a))) ad (cX E ad (mPick_I I F a) F lc ln)) := by
  refine gCon.of (by decide) (Nat.le_of_ble_eq_true rfl) ?_
  intro l A Rn h
  show Rn 0 [(0, .ref (ad 11 0)), (1, .int a)] [] ad (cX E ad I F lc ln) 0 0
  refine r_aload_n h.ok dX6_pick_0 0 rfl ?_
  refine r_iconst (v := 0) h.ok dX6_pick_1 (by decide) ?_
  refine r_put (ty := tyX6) h.ok 0 dX6_pick_2 (xo_11 _) rfl inX6 tyX6_ok nmX6 (by decide) wfl_X6_97 rfl rfl rfl (by simp) (cX_thr ht) ?_
  refine r_iload_n h.ok dX6_pick_5 1 rfl ?_
  refine r_i2l h.ok dX6_pick_6 ?_
  refine r_lconst (v := Int32.toInt64 1) h.ok dX6_pick_7 (by decide) ?_
  refine r_ldc2 (v' := Int32.toInt64 100000) h.ok dX6_pick_8 wk_X6_197 (by decide) ?_
  refine r_callS h.ok [.long (Int32.toInt64 a), .long (Int32.toInt64 1), .long (Int32.toInt64 100000)] [] dX6_pick_11 (c_X6_in D E ad I F lc ln a 1 100000) wml_X6_103 wst_X6_in win_X6 wco_X6_in yok_X6_in ⟨by decide, by decide, by simp [gRm], by simp [gRm]⟩ (Nat.le_of_ble_eq_true rfl) rfl ?_
  show Rn 14 [(0, .ref (ad 11 0)), (1, .int a)] [.int (pI (mIn a 1 100000))] ad (cX E ad I F lc ln) 0 0
  refine r_if_ne h.ok 20 dX6_pick_14 (by decide) (fun c_14 => ?_) (fun c_14 => ?_)
  · refine r_iload_n h.ok dX6_pick_20 1 rfl ?_
    refine r_aload_n h.ok dX6_pick_21 0 rfl ?_
    refine r_get (v := .int (I 11 0 36)) h.ok 36 dX6_pick_22 (xo_11 _) rfl inX6 (by decide) wfl_X6_133 rfl ?_
    refine r_icmp_ge h.ok 32 dX6_pick_25 (by decide) (fun c_25 => ?_) (fun c_25 => ?_)
    · refine r_aload_n h.ok dX6_pick_32 0 rfl ?_
      refine r_get (v := .int (I 11 0 36)) h.ok 36 dX6_pick_33 (xo_11 _) rfl inX6 (by decide) wfl_X6_133 rfl ?_
      refine r_istore_n (lv' := [(2, .int (I 11 0 36)), (0, .ref (ad 11 0)), (1, .int a)]) h.ok dX6_pick_36 (by decide) rfl ?_
      refine r_aload_n h.ok dX6_pick_37 1 rfl ?_
      refine r_dup h.ok dX6_pick_38 rfl ?_
      refine r_get (v := .int (I 11 0 36)) h.ok 36 dX6_pick_39 (xo_11 _) rfl inX6 (by decide) wfl_X6_133 rfl ?_
      refine r_iload_n h.ok dX6_pick_42 0 rfl ?_
      refine r_isub h.ok dX6_pick_43 ?_
      refine r_put (ty := tyX6) h.ok 36 dX6_pick_44 (xo_11 _) rfl inX6 tyX6_ok nmX6 (by decide) wfl_X6_133 rfl rfl rfl (by simp) (cX_put (r' := upd (I 11 0) 36 ((I 11 0 36) - (I 11 0 36))) (xo_11 _)) ?_
      refine r_aload_n h.ok dX6_pick_47 1 rfl ?_
      refine r_dup h.ok dX6_pick_48 rfl ?_
      refine r_get (v := .int (I 11 0 40)) h.ok 40 dX6_pick_49 (xo_11 _) rfl inX6 (by decide) wfl_X6_199 (congrArg (fun z => some (Value.int z)) (by simp [gr, upd] : (gs I 11 0 36 ((I 11 0 36) - (I 11 0 36))) 11 0 40 = I 11 0 40)) ?_
      refine r_iload_n h.ok dX6_pick_52 0 rfl ?_
      refine r_iadd h.ok dX6_pick_53 ?_
      refine r_put (ty := tyX6) h.ok 40 dX6_pick_54 (xo_11 _) rfl inX6 tyX6_ok nmX6 (by decide) wfl_X6_199 rfl rfl rfl (by simp) (cX_put (r' := upd ((gs I 11 0 36 ((I 11 0 36) - (I 11 0 36))) 11 0) 40 ((I 11 0 40) + (I 11 0 36))) (xo_11 _)) ?_
      refine r_iload_n h.ok dX6_pick_57 0 rfl ?_
      refine r_iret h dX6_pick_58 ⟨by decide, by decide⟩ ⟨(by unfold mPick_r; simp only [if_neg c_14, if_pos c_25]), rfl, (by unfold mPick_I; simp only [if_neg c_14, if_pos c_25])⟩
    · refine r_iload_n h.ok dX6_pick_28 1 rfl ?_
      refine r_goto h.ok 36 dX6_pick_29 (by decide) ?_
      refine r_istore_n (lv' := [(2, .int a), (0, .ref (ad 11 0)), (1, .int a)]) h.ok dX6_pick_36 (by decide) rfl ?_
      refine r_aload_n h.ok dX6_pick_37 1 rfl ?_
      refine r_dup h.ok dX6_pick_38 rfl ?_
      refine r_get (v := .int (I 11 0 36)) h.ok 36 dX6_pick_39 (xo_11 _) rfl inX6 (by decide) wfl_X6_133 rfl ?_
      refine r_iload_n h.ok dX6_pick_42 0 rfl ?_
      refine r_isub h.ok dX6_pick_43 ?_
      refine r_put (ty := tyX6) h.ok 36 dX6_pick_44 (xo_11 _) rfl inX6 tyX6_ok nmX6 (by decide) wfl_X6_133 rfl rfl rfl (by simp) (cX_put (r' := upd (I 11 0) 36 ((I 11 0 36) - a)) (xo_11 _)) ?_
      refine r_aload_n h.ok dX6_pick_47 1 rfl ?_
      refine r_dup h.ok dX6_pick_48 rfl ?_
      refine r_get (v := .int (I 11 0 40)) h.ok 40 dX6_pick_49 (xo_11 _) rfl inX6 (by decide) wfl_X6_199 (congrArg (fun z => some (Value.int z)) (by simp [gr, upd] : (gs I 11 0 36 ((I 11 0 36) - a)) 11 0 40 = I 11 0 40)) ?_
      refine r_iload_n h.ok dX6_pick_52 0 rfl ?_
      refine r_iadd h.ok dX6_pick_53 ?_
      refine r_put (ty := tyX6) h.ok 40 dX6_pick_54 (xo_11 _) rfl inX6 tyX6_ok nmX6 (by decide) wfl_X6_199 rfl rfl rfl (by simp) (cX_put (r' := upd ((gs I 11 0 36 ((I 11 0 36) - a)) 11 0) 40 ((I 11 0 40) + a)) (xo_11 _)) ?_
      refine r_iload_n h.ok dX6_pick_57 0 rfl ?_
      refine r_iret h dX6_pick_58 ⟨by decide, by decide⟩ ⟨(by unfold mPick_r; simp only [if_neg c_14, if_neg c_25]), rfl, (by unfold mPick_I; simp only [if_neg c_14, if_neg c_25])⟩
  · refine r_bipush (v := (-2)) h.ok dX6_pick_17 (by decide) ?_
    refine r_iret h dX6_pick_19 ⟨by decide, by decide⟩ ⟨(by unfold mPick_r; simp only [if_pos c_14]), rfl, (by unfold mPick_I; simp only [if_pos c_14])⟩
noncomputable def mBoxOp_r (I : gI) (F : gF)  : Int32 := mBox I
set_option maxHeartbeats 4000000 in
set_option maxRecDepth 100000 in
theorem c_X6_box (D : va_G) (E : gEc) (ad : gAd) (I : gI) (F : gF) (lc ln : Nat) (ht : I 11 0 0 = 0) (hb : I 11 0 31 = -9 ∨ vp_in (I 11 0 31) 500) : gCon D E yX6_box cX6_box 1 (some .int) 1 0 0 [.ref (ad 11 0)] ad (cX E ad I F lc ln) (gPd (some (.int (mBoxOp_r I F ))) ad (cX E ad I F lc ln)) := by
  refine gCon.of (by decide) (Nat.le_of_ble_eq_true rfl) ?_
  intro l A Rn h
  show Rn 0 [(0, .ref (ad 11 0))] [] ad (cX E ad I F lc ln) 0 0
  refine r_aload_n h.ok dX6_box_0 0 rfl ?_
  refine r_iconst (v := 0) h.ok dX6_box_1 (by decide) ?_
  refine r_put (ty := tyX6) h.ok 0 dX6_box_2 (xo_11 _) rfl inX6 tyX6_ok nmX6 (by decide) wfl_X6_97 rfl rfl rfl (by simp) (cX_thr ht) ?_
  refine r_aload_n h.ok dX6_box_5 0 rfl ?_
  refine r_callV h.ok [] [] dX6_box_6 (c_X6_cowInBox D E ad I F lc ln hb) wml_X6_189 wim_X6_cowInBox wse_X6_cowInBox win_X6 wco_X6_cowInBox yok_X6_cowInBox (xo_11 _) rfl rfl ⟨by decide, by decide, by simp [gRm], by simp [gRm]⟩ (Nat.le_of_ble_eq_true rfl) rfl ?_
  show Rn 9 [(0, .ref (ad 11 0))] [.int (mBox I)] ad (cX E ad I F lc ln) 0 0
  refine r_iret h dX6_box_9 ⟨by decide, by decide⟩ ⟨(by unfold mBoxOp_r; rfl), rfl, rfl⟩
