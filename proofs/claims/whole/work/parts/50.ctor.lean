theorem gup_self {ce : gCe} {k i : Nat} {e : va_E} : gup ce k i e k i = some e := by simp [gup]
theorem gup_gup {ce : gCe} {k i : Nat} {e e' : va_E} : gup (gup ce k i e) k i e' = gup ce k i e' := by
  funext a b
  unfold gup
  by_cases h : a = k ∧ b = i
  · rw [if_pos h, if_pos h]
  · rw [if_neg h, if_neg h, if_neg h]
theorem gup_ck {ce : gCe} {k k' i i' : Nat} {e e' : va_E} (h : k ≠ k' ∨ i ≠ i') : gup (gup ce k i e) k' i' e' = gup (gup ce k' i' e') k i e := by
  funext a b
  unfold gup
  by_cases h1 : a = k' ∧ b = i'
  · obtain ⟨rfl, rfl⟩ := h1
    rw [if_pos ⟨rfl, rfl⟩, if_neg (by omega), if_pos ⟨rfl, rfl⟩]
  · rw [if_neg h1]
    by_cases h2 : a = k ∧ b = i
    · rw [if_pos h2, if_pos h2]
    · rw [if_neg h2, if_neg h2, if_neg h1]
theorem gup_ne {ce : gCe} {k k' i i' : Nat} {e : va_E} (h : k' ≠ k ∨ i' ≠ i) : gup ce k i e k' i' = ce k' i' := by
  unfold gup
  rw [if_neg (by omega)]
theorem gua_self {ad : gAd} {k i q : Nat} : gua ad k i q k i = q := by simp [gua]
theorem gua_ne {ad : gAd} {k k' i i' q : Nat} (h : k' ≠ k ∨ i' ≠ i) : gua ad k i q k' i' = ad k' i' := by
  unfold gua
  rw [if_neg (by omega)]
set_option maxHeartbeats 4000000 in
set_option maxRecDepth 100000 in
theorem c_X1_init (D : va_G) (E : gEc) (ad : gAd) (C0 : gCe) (i : Nat) (a b c d m : Int32) (h5 : C0 5 i = none) (h6 : C0 6 i = none) : gCon D E yX1_init cX1_init 6 none 1 2 9 [.ref (ad 4 i), .int a, .int b, .int c, .int d, .int m] ad (gup C0 4 i (.inr (1, [.int 0, .int 0, .int 0, .int 0, .null, .null, .int 0, .int 0, .int 0, .int 0, .int 0, .int 0, .int 0, .int 0]))) (fun v ad' ce' => v = none ∧ ∃ q5 q6 : Nat, ad' = gua (gua ad 5 i q5) 6 i q6 ∧ ce' = gup (gup (gup C0 5 i (.inl (E 0, 4, .inl (fun _ => 0)))) 6 i (.inl (E 0, 5, .inl (fun _ => 0)))) 4 i (.inr (1, [.int a, .int b, .int c, .int d, .ref (ad' 5 i), .ref (ad' 6 i), .int 0, .int 0, .int m, .int 0, .int (-9), .int 0, .int 0, .int 0]))) := by
  refine gCon.of (by decide) (Nat.le_of_ble_eq_true rfl) ?_
  intro l A Rn h
  show Rn 0 [(0, .ref (ad 4 i)), (1, .int a), (2, .int b), (3, .int c), (4, .int d), (5, .int m)] [] ad (gup C0 4 i (.inr (1, [.int 0, .int 0, .int 0, .int 0, .null, .null, .int 0, .int 0, .int 0, .int 0, .int 0, .int 0, .int 0, .int 0]))) 0 0
  refine r_aload_n h.ok dX1_init_0 0 rfl ?_
  refine r_objInit h.ok dX1_init_1 wml_X1_3 ⟨by decide, Nat.le_of_ble_eq_true rfl⟩ ?_
  refine r_aload_n h.ok dX1_init_4 0 rfl ?_
  refine r_iconst (v := 4) h.ok dX1_init_5 (by decide) ?_
  refine r_newi h.ok 5 i 4 dX1_init_6 ((gup_ne (Or.inl (by decide))).trans h5) (by decide) (by decide) (by decide) ⟨by decide, by decide⟩ (fun q1 => ?_)
  rw [show ad 4 i = gua ad 5 i q1 4 i from (gua_ne (Or.inl (by decide))).symm]
  obtain ⟨ad1, had1⟩ : ∃ z, z = gua ad 5 i q1 := ⟨_, rfl⟩
  rw [← had1, gup_ck (Or.inl (by decide))]
  refine r_putF (ty := tyX1) h.ok 4 dX1_init_8 gup_self rfl inX1 tyX1_ok nmX1 (by decide) wfl_X1_9 rfl rfl rfl rfl rfl (by simp) gup_gup ?_
  refine r_aload_n h.ok dX1_init_11 0 rfl ?_
  refine r_iconst (v := 5) h.ok dX1_init_12 (by decide) ?_
  refine r_newi h.ok 6 i 5 dX1_init_13 ((gup_ne (Or.inl (by decide))).trans ((gup_ne (Or.inl (by decide))).trans h6)) (by decide) (by decide) (by decide) ⟨by decide, by decide⟩ (fun q2 => ?_)
  rw [show ad1 4 i = gua ad1 6 i q2 4 i from (gua_ne (Or.inl (by decide))).symm]
  obtain ⟨ad2, had2⟩ : ∃ z, z = gua ad1 6 i q2 := ⟨_, rfl⟩
  rw [← had2, gup_ck (Or.inl (by decide))]
  refine r_putF (ty := tyX1) h.ok 5 dX1_init_15 gup_self rfl inX1 tyX1_ok nmX1 (by decide) wfl_X1_15 rfl rfl rfl rfl rfl (by simp) gup_gup ?_
  refine r_aload_n h.ok dX1_init_18 0 rfl ?_
  refine r_bipush (v := (-9)) h.ok dX1_init_19 (by decide) ?_
  refine r_put (ty := tyX1) h.ok 10 dX1_init_21 gup_self rfl inX1 tyX1_ok nmX1 (by decide) wfl_X1_18 rfl rfl rfl (by simp) gup_gup ?_
  refine r_aload_n h.ok dX1_init_24 0 rfl ?_
  refine r_iload_n h.ok dX1_init_25 1 rfl ?_
  refine r_putF (ty := tyX1) h.ok 0 dX1_init_26 gup_self rfl inX1 tyX1_ok nmX1 (by decide) wfl_X1_22 rfl rfl rfl rfl rfl (by simp) gup_gup ?_
  refine r_aload_n h.ok dX1_init_29 0 rfl ?_
  refine r_iload_n h.ok dX1_init_30 2 rfl ?_
  refine r_putF (ty := tyX1) h.ok 1 dX1_init_31 gup_self rfl inX1 tyX1_ok nmX1 (by decide) wfl_X1_25 rfl rfl rfl rfl rfl (by simp) gup_gup ?_
  refine r_aload_n h.ok dX1_init_34 0 rfl ?_
  refine r_iload_n h.ok dX1_init_35 3 rfl ?_
  refine r_putF (ty := tyX1) h.ok 2 dX1_init_36 gup_self rfl inX1 tyX1_ok nmX1 (by decide) wfl_X1_28 rfl rfl rfl rfl rfl (by simp) gup_gup ?_
  refine r_aload_n h.ok dX1_init_39 0 rfl ?_
  refine r_iload h.ok dX1_init_40 4 rfl ?_
  refine r_putF (ty := tyX1) h.ok 3 dX1_init_42 gup_self rfl inX1 tyX1_ok nmX1 (by decide) wfl_X1_31 rfl rfl rfl rfl rfl (by simp) gup_gup ?_
  refine r_aload_n h.ok dX1_init_45 0 rfl ?_
  refine r_iload h.ok dX1_init_46 5 rfl ?_
  refine r_put (ty := tyX1) h.ok 8 dX1_init_48 gup_self rfl inX1 tyX1_ok nmX1 (by decide) wfl_X1_34 rfl rfl rfl (by simp) gup_gup ?_
  refine r_vret h dX1_init_51 ⟨by decide, by decide⟩ ⟨rfl, q1, q2, by rw [had2, had1], by rw [had2, gua_self, gua_ne (Or.inl (by decide)), had1, gua_self]; rfl⟩
set_option maxHeartbeats 4000000 in
set_option maxRecDepth 100000 in
theorem c_X4_init (D : va_G) (E : gEc) (ad : gAd) (C0 : gCe) (i : Nat) (c s m a b : Int32) (s01 : s = 0 ∨ s = 1) (b01 : b = 0 ∨ b = 1) : gCon D E yX4_init cX4_init 6 none 1 0 0 [.ref (ad 7 i), .int c, .int s, .int m, .int a, .int b] ad (gup C0 7 i (.inr (4, [.int 0, .int 0, .int 0, .int 0, .int 0, .int 0, .int 0, .int 0, .int 0, .int 0, .int 0, .int 0]))) (gPd none ad (gup C0 7 i (.inr (4, [.int c, .int s, .int m, .int a, .int b, .int 1, .int (-9), .int (-9), .int (-9), .int (-9), .int (-9), .int (-9)])))) := by
  refine gCon.of (by decide) (Nat.le_of_ble_eq_true rfl) ?_
  intro l A Rn h
  show Rn 0 [(0, .ref (ad 7 i)), (1, .int c), (2, .int s), (3, .int m), (4, .int a), (5, .int b)] [] ad (gup C0 7 i (.inr (4, [.int 0, .int 0, .int 0, .int 0, .int 0, .int 0, .int 0, .int 0, .int 0, .int 0, .int 0, .int 0]))) 0 0
  refine r_aload_n h.ok dX4_init_0 0 rfl ?_
  refine r_objInit h.ok dX4_init_1 wml_X4_3 ⟨by decide, Nat.le_of_ble_eq_true rfl⟩ ?_
  refine r_aload_n h.ok dX4_init_4 0 rfl ?_
  refine r_iconst (v := 1) h.ok dX4_init_5 (by decide) ?_
  refine r_put (ty := tyX4) h.ok 5 dX4_init_6 gup_self rfl inX4 tyX4_ok nmX4 (by decide) wfl_X4_9 rfl rfl rfl (by simp) gup_gup ?_
  refine r_aload_n h.ok dX4_init_9 0 rfl ?_
  refine r_bipush (v := (-9)) h.ok dX4_init_10 (by decide) ?_
  refine r_put (ty := tyX4) h.ok 6 dX4_init_12 gup_self rfl inX4 tyX4_ok nmX4 (by decide) wfl_X4_15 rfl rfl rfl (by simp) gup_gup ?_
  refine r_aload_n h.ok dX4_init_15 0 rfl ?_
  refine r_bipush (v := (-9)) h.ok dX4_init_16 (by decide) ?_
  refine r_put (ty := tyX4) h.ok 7 dX4_init_18 gup_self rfl inX4 tyX4_ok nmX4 (by decide) wfl_X4_18 rfl rfl rfl (by simp) gup_gup ?_
  refine r_aload_n h.ok dX4_init_21 0 rfl ?_
  refine r_bipush (v := (-9)) h.ok dX4_init_22 (by decide) ?_
  refine r_put (ty := tyX4) h.ok 8 dX4_init_24 gup_self rfl inX4 tyX4_ok nmX4 (by decide) wfl_X4_21 rfl rfl rfl (by simp) gup_gup ?_
  refine r_aload_n h.ok dX4_init_27 0 rfl ?_
  refine r_bipush (v := (-9)) h.ok dX4_init_28 (by decide) ?_
  refine r_put (ty := tyX4) h.ok 9 dX4_init_30 gup_self rfl inX4 tyX4_ok nmX4 (by decide) wfl_X4_24 rfl rfl rfl (by simp) gup_gup ?_
  refine r_aload_n h.ok dX4_init_33 0 rfl ?_
  refine r_bipush (v := (-9)) h.ok dX4_init_34 (by decide) ?_
  refine r_put (ty := tyX4) h.ok 10 dX4_init_36 gup_self rfl inX4 tyX4_ok nmX4 (by decide) wfl_X4_27 rfl rfl rfl (by simp) gup_gup ?_
  refine r_aload_n h.ok dX4_init_39 0 rfl ?_
  refine r_bipush (v := (-9)) h.ok dX4_init_40 (by decide) ?_
  refine r_put (ty := tyX4) h.ok 11 dX4_init_42 gup_self rfl inX4 tyX4_ok nmX4 (by decide) wfl_X4_30 rfl rfl rfl (by simp) gup_gup ?_
  refine r_aload_n h.ok dX4_init_45 0 rfl ?_
  refine r_iload_n h.ok dX4_init_46 1 rfl ?_
  refine r_putF (ty := tyX4) h.ok 0 dX4_init_47 gup_self rfl inX4 tyX4_ok nmX4 (by decide) wfl_X4_33 rfl rfl rfl rfl rfl (by simp) gup_gup ?_
  refine r_aload_n h.ok dX4_init_50 0 rfl ?_
  refine r_iload_n h.ok dX4_init_51 2 rfl ?_
  refine r_putF (ty := tyX4) h.ok 1 dX4_init_52 gup_self rfl inX4 tyX4_ok nmX4 (by decide) wfl_X4_36 rfl rfl rfl (gNz s01) (gFz s01) (by simp) gup_gup ?_
  refine r_aload_n h.ok dX4_init_55 0 rfl ?_
  refine r_iload_n h.ok dX4_init_56 3 rfl ?_
  refine r_putF (ty := tyX4) h.ok 2 dX4_init_57 gup_self rfl inX4 tyX4_ok nmX4 (by decide) wfl_X4_40 rfl rfl rfl rfl rfl (by simp) gup_gup ?_
  refine r_aload_n h.ok dX4_init_60 0 rfl ?_
  refine r_iload h.ok dX4_init_61 4 rfl ?_
  refine r_putF (ty := tyX4) h.ok 3 dX4_init_63 gup_self rfl inX4 tyX4_ok nmX4 (by decide) wfl_X4_43 rfl rfl rfl rfl rfl (by simp) gup_gup ?_
  refine r_aload_n h.ok dX4_init_66 0 rfl ?_
  refine r_iload h.ok dX4_init_67 5 rfl ?_
  refine r_putF (ty := tyX4) h.ok 4 dX4_init_69 gup_self rfl inX4 tyX4_ok nmX4 (by decide) wfl_X4_46 rfl rfl rfl (gNz b01) (gFz b01) (by simp) gup_gup ?_
  refine r_vret h dX4_init_72 ⟨by decide, by decide⟩ ⟨rfl, rfl, rfl⟩
set_option maxHeartbeats 4000000 in
set_option maxRecDepth 100000 in
theorem c_X0_init (D : va_G) (E : gEc) (ad : gAd) (C0 : gCe)  : gCon D E yX0_init cX0_init 1 none 1 0 0 [.ref (ad 2 0)] ad (gup C0 2 0 (.inr (0, [.null, .int 0, .int 0, .int 0, .int 0]))) (gPd none ad (gup C0 2 0 (.inr (0, [.null, .int 0, .int 0, .int 0, .int 0])))) := by
  refine gCon.of (by decide) (Nat.le_of_ble_eq_true rfl) ?_
  intro l A Rn h
  show Rn 0 [(0, .ref (ad 2 0))] [] ad (gup C0 2 0 (.inr (0, [.null, .int 0, .int 0, .int 0, .int 0]))) 0 0
  refine r_aload_n h.ok dX0_init_0 0 rfl ?_
  refine r_objInit h.ok dX0_init_1 wml_X0_3 ⟨by decide, Nat.le_of_ble_eq_true rfl⟩ ?_
  refine r_vret h dX0_init_4 ⟨by decide, by decide⟩ ⟨rfl, rfl, rfl⟩
set_option maxHeartbeats 4000000 in
set_option maxRecDepth 100000 in
theorem c_X3_init (D : va_G) (E : gEc) (ad : gAd) (C0 : gCe)  : gCon D E yX3_init cX3_init 1 none 1 0 0 [.ref (ad 3 0)] ad (gup C0 3 0 (.inr (3, [.int 0, .int 0, .int 0, .int 0, .int 0]))) (gPd none ad (gup C0 3 0 (.inr (3, [.int 5000, .int 0, .int 0, .int 0, .int 0])))) := by
  refine gCon.of (by decide) (Nat.le_of_ble_eq_true rfl) ?_
  intro l A Rn h
  show Rn 0 [(0, .ref (ad 3 0))] [] ad (gup C0 3 0 (.inr (3, [.int 0, .int 0, .int 0, .int 0, .int 0]))) 0 0
  refine r_aload_n h.ok dX3_init_0 0 rfl ?_
  refine r_objInit h.ok dX3_init_1 wml_X3_3 ⟨by decide, Nat.le_of_ble_eq_true rfl⟩ ?_
  refine r_aload_n h.ok dX3_init_4 0 rfl ?_
  refine r_sipush (v := 5000) h.ok dX3_init_5 (by decide) ?_
  refine r_put (ty := tyX3) h.ok 0 dX3_init_8 gup_self rfl inX3 tyX3_ok nmX3 (by decide) wfl_X3_9 rfl rfl rfl (by simp) gup_gup ?_
  refine r_vret h dX3_init_11 ⟨by decide, by decide⟩ ⟨rfl, rfl, rfl⟩
set_option maxHeartbeats 4000000 in
set_option maxRecDepth 100000 in
theorem c_X2_init (D : va_G) (E : gEc) (ad : gAd) (C0 : gCe) (h10 : C0 10 0 = none) : gCon D E yX2_init cX2_init 1 none 1 1 12 [.ref (ad 1 0)] ad (gup C0 1 0 (.inr (2, [.null, .int 0]))) (fun v ad' ce' => v = none ∧ ∃ q : Nat, ad' = gua ad 10 0 q ∧ ce' = gup (gup C0 10 0 (.inl (E 3, 12, .inr (.inr (.inr (.inr (fun _ => none))))))) 1 0 (.inr (2, [.ref (ad' 10 0), .int 0]))) := by
  refine gCon.of (by decide) (Nat.le_of_ble_eq_true rfl) ?_
  intro l A Rn h
  show Rn 0 [(0, .ref (ad 1 0))] [] ad (gup C0 1 0 (.inr (2, [.null, .int 0]))) 0 0
  refine r_aload_n h.ok dX2_init_0 0 rfl ?_
  refine r_objInit h.ok dX2_init_1 wml_X2_3 ⟨by decide, Nat.le_of_ble_eq_true rfl⟩ ?_
  refine r_aload_n h.ok dX2_init_4 0 rfl ?_
  refine r_bipush (v := 12) h.ok dX2_init_5 (by decide) ?_
  refine r_newq (t0 := 3) h.ok 10 0 12 dX2_init_7 ((gup_ne (Or.inl (by decide))).trans h10) wcl_X2_9 rfl (Or.inr rfl) (by decide) (by decide) (by decide) ⟨by decide, by decide⟩ (fun q1 => ?_)
  rw [show ad 1 0 = gua ad 10 0 q1 1 0 from (gua_ne (Or.inl (by decide))).symm]
  obtain ⟨ad1, had1⟩ : ∃ z, z = gua ad 10 0 q1 := ⟨_, rfl⟩
  rw [← had1, gup_ck (Or.inl (by decide))]
  refine r_putF (ty := tyX2) h.ok 0 dX2_init_10 gup_self rfl inX2 tyX2_ok nmX2 (by decide) wfl_X2_11 rfl rfl rfl rfl rfl (by simp) gup_gup ?_
  refine r_vret h dX2_init_13 ⟨by decide, by decide⟩ ⟨rfl, q1, had1, by rw [had1, gua_self]; rfl⟩
