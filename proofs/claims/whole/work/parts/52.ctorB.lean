def gI0 : gI := gs (gs (fun _ _ _ => 0) 0 0 8 1) 3 0 0 5000
def gF0 : gF := fun _ _ => none
set_option maxHeartbeats 4000000 in
set_option maxRecDepth 100000 in
theorem c_X5_init (D : va_G) (E : gEc) (ad : gAd) (C0 : gCe) (hN : ∀ k i : Nat, C0 k i = none) : gCon D E yX5_init cX5_init 1 none 2 6 536 [.ref (ad 0 0)] ad (gup C0 0 0 (.inr (5, [.null, .null, .null, .null, .null, .int 0, .int 0, .int 0, .int 0, .int 0, .int 0, .int 0, .int 0, .int 0]))) (fun v ad' ce' => v = none ∧ (∀ i : Nat, ad' 0 i = ad 0 i) ∧ (∀ k i : Nat, k ≤ 10 → ce' k i = cX E ad' gI0 gF0 0 0 k i) ∧ ∀ k i : Nat, 11 ≤ k → ce' k i = none) := by
  refine gCon.of (by decide) (Nat.le_of_ble_eq_true rfl) ?_
  intro l A Rn h
  show Rn 0 [(0, .ref (ad 0 0))] [] ad (gup C0 0 0 (.inr (5, [.null, .null, .null, .null, .null, .int 0, .int 0, .int 0, .int 0, .int 0, .int 0, .int 0, .int 0, .int 0]))) 0 0
  refine r_aload_n h.ok dX5_init_0 0 rfl ?_
  refine r_objInit h.ok dX5_init_1 wml_X5_1 ⟨by decide, Nat.le_of_ble_eq_true rfl⟩ ?_
  refine r_aload_n h.ok dX5_init_4 0 rfl ?_
  refine r_bipush (v := 12) h.ok dX5_init_5 (by decide) ?_
  refine r_newq (t0 := 2) h.ok 8 0 12 dX5_init_7 (by simp [gup, hN]) wcl_X5_9 rfl (Or.inl rfl) (by decide) (by decide) (by decide) ⟨by decide, by decide⟩ (fun q8 => ?_)
  rw [show ad 0 0 = gua ad 8 0 q8 0 0 from (gua_ne (Or.inl (by decide))).symm]
  obtain ⟨ad8, had8⟩ : ∃ z, z = gua ad 8 0 q8 := ⟨_, rfl⟩
  rw [← had8]
  rw [gup_ck (k := 0) (Or.inl (by decide))]
  refine r_putF (ty := tyX5) h.ok 0 dX5_init_10 gup_self rfl inX5 tyX5_ok nmX5 (by decide) wfl_X5_11 rfl rfl rfl rfl rfl (by simp) gup_gup ?_
  refine r_aload_n h.ok dX5_init_13 0 rfl ?_
  refine r_sipush (v := 500) h.ok dX5_init_14 (by decide) ?_
  refine r_newq (t0 := 3) h.ok 9 0 500 dX5_init_17 (by simp [gup, hN]) wcl_X5_15 rfl (Or.inr rfl) (by decide) (by decide) (by decide) ⟨by decide, by decide⟩ (fun q9 => ?_)
  rw [show ad8 0 0 = gua ad8 9 0 q9 0 0 from (gua_ne (Or.inl (by decide))).symm]
  obtain ⟨ad9, had9⟩ : ∃ z, z = gua ad8 9 0 q9 := ⟨_, rfl⟩
  rw [← had9]
  rw [gup_ck (k := 0) (Or.inl (by decide))]
  refine r_putF (ty := tyX5) h.ok 1 dX5_init_20 gup_self rfl inX5 tyX5_ok nmX5 (by decide) wfl_X5_17 rfl rfl rfl rfl rfl (by simp) gup_gup ?_
  refine r_aload_n h.ok dX5_init_23 0 rfl ?_
  refine r_new (ci := 2) (ty := tyX2) (fs := [.null, .int 0]) h.ok 1 0 dX5_init_24 (by simp [gup, hN]) rfl inX2 tyX2_ok wcl_X5_21 wis_X2 win_X2 (fun j hj => by rcases (show j = 0 ∨ j = 1 by omega) with rfl | rfl <;> rfl) ⟨by decide, by decide⟩ (fun q1 => ?_)
  rw [show ad9 0 0 = gua ad9 1 0 q1 0 0 from (gua_ne (Or.inl (by decide))).symm]
  obtain ⟨ad1, had1⟩ : ∃ z, z = gua ad9 1 0 q1 := ⟨_, rfl⟩
  rw [← had1]
  rw [show q1 = ad1 1 0 from by rw [had1, gua_self]]
  refine r_dup h.ok dX5_init_27 rfl ?_
  refine r_callINX h.ok [] [.ref (ad1 1 0), .ref (ad1 0 0)] dX5_init_28 (c_X2_init D E ad1 _ (by simp [gup, hN])) (fun _ hn => hn.1) wim_X2_init win_X2 wco_X2_init rfl yok_X2_init ⟨by decide, by decide, by decide, by decide⟩ (Nat.le_of_ble_eq_true rfl) rfl (fun v ad2 ce2 hp => ?_)
  obtain ⟨rfl, q10, had10, rfl⟩ := hp
  show Rn 31 [(0, .ref (ad1 0 0))] [.ref (ad1 1 0), .ref (ad1 0 0)] ad2 _ 4 526
  rw [show ad1 0 0 = ad2 0 0 from by rw [had10, gua_ne (Or.inl (by decide))], show ad1 1 0 = ad2 1 0 from by rw [had10, gua_ne (Or.inl (by decide))]]
  rw [gup_ck (k := 0) (k' := 10) (Or.inl (by decide)), gup_ck (k := 0) (k' := 1) (Or.inl (by decide))]
  refine r_putF (ty := tyX5) h.ok 2 dX5_init_31 gup_self rfl inX5 tyX5_ok nmX5 (by decide) wfl_X5_24 rfl rfl rfl rfl rfl (by simp) gup_gup ?_
  refine r_aload_n h.ok dX5_init_34 0 rfl ?_
  refine r_new (ci := 0) (ty := tyX0) (fs := [.null, .int 0, .int 0, .int 0, .int 0]) h.ok 2 0 dX5_init_35 (by simp [gup, hN]) rfl inX0 tyX0_ok wcl_X5_28 wis_X0 win_X0 (fun j hj => by rcases (show j = 0 ∨ j = 1 ∨ j = 2 ∨ j = 3 ∨ j = 4 by omega) with rfl | rfl | rfl | rfl | rfl <;> rfl) ⟨by decide, by decide⟩ (fun q2 => ?_)
  rw [show ad2 0 0 = gua ad2 2 0 q2 0 0 from (gua_ne (Or.inl (by decide))).symm]
  obtain ⟨ad3, had3⟩ : ∃ z, z = gua ad2 2 0 q2 := ⟨_, rfl⟩
  rw [← had3]
  rw [show q2 = ad3 2 0 from by rw [had3, gua_self]]
  refine r_dup h.ok dX5_init_38 rfl ?_
  refine r_callINX h.ok [] [.ref (ad3 2 0), .ref (ad3 0 0)] dX5_init_39 (c_X0_init D E ad3 _) (fun _ hn => hn.2.1) wim_X0_init win_X0 wco_X0_init rfl yok_X0_init ⟨by decide, by decide, by decide, by decide⟩ (Nat.le_of_ble_eq_true rfl) rfl (fun v adz ce2 hp => ?_)
  obtain ⟨rfl, e2, rfl⟩ := hp
  rw [e2]
  show Rn 42 [(0, .ref (ad3 0 0))] [.ref (ad3 2 0), .ref (ad3 0 0)] ad3 _ 5 531
  rw [gup_ck (k := 0) (k' := 2) (Or.inl (by decide))]
  refine r_putF (ty := tyX5) h.ok 3 dX5_init_42 gup_self rfl inX5 tyX5_ok nmX5 (by decide) wfl_X5_31 rfl rfl rfl rfl rfl (by simp) gup_gup ?_
  refine r_aload_n h.ok dX5_init_45 0 rfl ?_
  refine r_new (ci := 3) (ty := tyX3) (fs := [.int 0, .int 0, .int 0, .int 0, .int 0]) h.ok 3 0 dX5_init_46 (by simp [gup, hN]) rfl inX3 tyX3_ok wcl_X5_35 wis_X3 win_X3 (fun j hj => by rcases (show j = 0 ∨ j = 1 ∨ j = 2 ∨ j = 3 ∨ j = 4 by omega) with rfl | rfl | rfl | rfl | rfl <;> rfl) ⟨by decide, by decide⟩ (fun q3 => ?_)
  rw [show ad3 0 0 = gua ad3 3 0 q3 0 0 from (gua_ne (Or.inl (by decide))).symm]
  obtain ⟨ad4, had4⟩ : ∃ z, z = gua ad3 3 0 q3 := ⟨_, rfl⟩
  rw [← had4]
  rw [show q3 = ad4 3 0 from by rw [had4, gua_self]]
  refine r_dup h.ok dX5_init_49 rfl ?_
  refine r_callINX h.ok [] [.ref (ad4 3 0), .ref (ad4 0 0)] dX5_init_50 (c_X3_init D E ad4 _) (fun _ hn => hn.2.2.1) wim_X3_init win_X3 wco_X3_init rfl yok_X3_init ⟨by decide, by decide, by decide, by decide⟩ (Nat.le_of_ble_eq_true rfl) rfl (fun v adz ce2 hp => ?_)
  obtain ⟨rfl, e2, rfl⟩ := hp
  rw [e2]
  show Rn 53 [(0, .ref (ad4 0 0))] [.ref (ad4 3 0), .ref (ad4 0 0)] ad4 _ 6 536
  rw [gup_ck (k := 0) (k' := 3) (Or.inl (by decide))]
  refine r_putF (ty := tyX5) h.ok 4 dX5_init_53 gup_self rfl inX5 tyX5_ok nmX5 (by decide) wfl_X5_38 rfl rfl rfl rfl rfl (by simp) gup_gup ?_
  refine r_aload_n h.ok dX5_init_56 0 rfl ?_
  refine r_iconst (v := 1) h.ok dX5_init_57 (by decide) ?_
  refine r_put (ty := tyX5) h.ok 8 dX5_init_58 gup_self rfl inX5 tyX5_ok nmX5 (by decide) wfl_X5_42 rfl (gNz (Or.inr rfl)) (gFz (Or.inr rfl)) (by simp) gup_gup ?_
  refine r_vret h dX5_init_61 ⟨by decide, by decide⟩ ⟨rfl, ?_, ?_, ?_⟩
  · intro i
    rw [had4, had3, had10, had1, had9, had8]
    simp [gua]
  · intro k i hk
    have hq : k = 0 ∨ k = 1 ∨ k = 2 ∨ k = 3 ∨ k = 4 ∨ k = 5 ∨ k = 6 ∨ k = 7 ∨ k = 8 ∨ k = 9 ∨ k = 10 := by omega
    rcases hq with rfl | rfl | rfl | rfl | rfl | rfl | rfl | rfl | rfl | rfl | rfl
    · by_cases hi : i = 0
      · subst hi; simp [gup, cX, cXr, gI0, gF0, gr, upd, va_rf, had4, had3, had10, had1, had9, had8, gua]
      · rw [show cX E ad4 gI0 gF0 0 0 0 i = none from if_neg hi]; simp [gup, hN, hi]
    · by_cases hi : i = 0
      · subst hi; simp [gup, cX, cXr, gI0, gF0, gr, upd, va_rf, had4, had3, had10, had1, had9, had8, gua]
      · rw [show cX E ad4 gI0 gF0 0 0 1 i = none from if_neg hi]; simp [gup, hN, hi]
    · by_cases hi : i = 0
      · subst hi; simp [gup, cX, cXr, gI0, gF0, gr, upd, va_rf, had4, had3, had10, had1, had9, had8, gua]
      · rw [show cX E ad4 gI0 gF0 0 0 2 i = none from if_neg hi]; simp [gup, hN, hi]
    · by_cases hi : i = 0
      · subst hi; simp [gup, cX, cXr, gI0, gF0, gr, upd, va_rf, had4, had3, had10, had1, had9, had8, gua]
      · rw [show cX E ad4 gI0 gF0 0 0 3 i = none from if_neg hi]; simp [gup, hN, hi]
    · rw [show cX E ad4 gI0 gF0 0 0 4 i = none from by simp [cX, cXr]]; simp [gup, hN]
    · rw [show cX E ad4 gI0 gF0 0 0 5 i = none from by simp [cX, cXr]]; simp [gup, hN]
    · rw [show cX E ad4 gI0 gF0 0 0 6 i = none from by simp [cX, cXr]]; simp [gup, hN]
    · rw [show cX E ad4 gI0 gF0 0 0 7 i = none from by simp [cX, cXr]]; simp [gup, hN]
    · by_cases hi : i = 0
      · subst hi; simp [gup, cX, cXr, gI0, gF0, gr, upd, va_rf, had4, had3, had10, had1, had9, had8, gua]
      · rw [show cX E ad4 gI0 gF0 0 0 8 i = none from if_neg hi]; simp [gup, hN, hi]
    · by_cases hi : i = 0
      · subst hi; simp [gup, cX, cXr, gI0, gF0, gr, upd, va_rf, had4, had3, had10, had1, had9, had8, gua]
      · rw [show cX E ad4 gI0 gF0 0 0 9 i = none from if_neg hi]; simp [gup, hN, hi]
    · by_cases hi : i = 0
      · subst hi; simp [gup, cX, cXr, gI0, gF0, gr, upd, va_rf, had4, had3, had10, had1, had9, had8, gua]
      · rw [show cX E ad4 gI0 gF0 0 0 10 i = none from if_neg hi]; simp [gup, hN, hi]
  · intro k i hk
    have h0 : ¬ k = 0 := by omega
    have h1 : ¬ k = 1 := by omega
    have h2 : ¬ k = 2 := by omega
    have h3 : ¬ k = 3 := by omega
    have h8 : ¬ k = 8 := by omega
    have h9 : ¬ k = 9 := by omega
    have h10 : ¬ k = 10 := by omega
    simp [gup, hN, h0, h1, h2, h3, h8, h9, h10]
