set_option maxHeartbeats 4000000 in
theorem ce12 {E : gEc} {C0 : gCe} {O : va_E} {ad : gAd} {F : gF} {lc lv : Nat} (hm : ∀ i : Nat, C0 12 i = none) (i : Nat) : gup (gup (gup (gup (gup (gup (gup (gup (gup (gup (gup (gup (gup (gup (gup (gup (gup (gup (gup (gup (gup (gup (gup (gup (gup (gup (C0) 12 4 (.inl (E 0, 12, .inl (fun _ => 0)))) 12 5 (.inl (E 0, 12, .inl (fun _ => 0)))) 12 6 (.inl (E 0, 12, .inl (fun _ => 0)))) 12 7 (.inl (E 0, 12, .inl (fun _ => 0)))) 12 8 (.inl (E 0, 12, .inl (fun _ => 0)))) 12 9 (.inl (E 0, 12, .inl (fun _ => 0)))) 12 10 (.inl (E 0, 12, .inl (fun _ => 0)))) 12 11 (.inl (E 0, 12, .inl (fun _ => 0)))) 12 12 (.inl (E 0, 48, .inl (fun _ => 0)))) 12 13 (.inl (E 0, 12, .inl (fun _ => 0)))) 12 14 (.inl (E 0, 12, .inl (fun _ => 0)))) 12 15 (.inl (E 0, 12, .inl (fun _ => 0)))) 12 16 (.inl (E 0, 12, .inl (fun _ => 0)))) 12 18 (.inl (E 0, 500, .inl (fun _ => 0)))) 12 19 (.inl (E 0, 500, .inl (fun _ => 0)))) 12 20 (.inl (E 0, 500, .inl (fun _ => 0)))) 12 21 (.inl (E 0, 500, .inl (fun _ => 0)))) 12 22 (.inl (E 1, 500, .inl (fun _ => 0)))) 12 23 (.inl (E 0, 500, .inl (fun _ => 0)))) 12 24 (.inl (E 0, 500, .inl (fun _ => 0)))) 12 25 (.inl (E 0, 500, .inl (fun _ => 0)))) 12 26 (.inl (E 0, 500, .inl (fun _ => 0)))) 12 27 (.inl (E 0, 500, .inl (fun _ => 0)))) 12 28 (.inl (E 0, 500, .inl (fun _ => 0)))) 12 30 (.inl (E 0, 12, .inl (fun _ => 0)))) 11 0 O 12 i = cXr E ad F lc lv 12 i (fun _ => 0) := by
  rw [gup_ne (Or.inl (by decide))]
  simp only [cXr]
  split
  · simp [gup]
  · simp [gup]
  · simp [gup]
  · simp [gup]
  · simp [gup]
  · simp [gup]
  · simp [gup]
  · simp [gup]
  · simp [gup]
  · simp [gup]
  · simp [gup]
  · simp [gup]
  · simp [gup]
  · simp [gup]
  · simp [gup]
  · simp [gup]
  · simp [gup]
  · simp [gup]
  · simp [gup]
  · simp [gup]
  · simp [gup]
  · simp [gup]
  · simp [gup]
  · simp [gup]
  · simp [gup]
  · rename_i z0 z1 z2 z3 z4 z5 z6 z7 z8 z9 z10 z11 z12 z13 z14 z15 z16 z17 z18 z19 z20 z21 z22 z23 z24
    repeat rw [gup_ne (Or.inr (by assumption))]
    exact hm _
set_option maxHeartbeats 4000000 in
set_option maxRecDepth 100000 in
theorem c_X6_init (D : va_G) (E : gEc) (ad : gAd) (C0 : gCe) (hm : ∀ i : Nat, C0 12 i = none) : gCon D E yX6_init cX6_init 1 none 1 25 5704 [.ref (ad 11 0)] ad (gup C0 11 0 (.inr (6, [.int 0, .int 0, .int 0, .int 0, .null, .null, .null, .null, .null, .null, .null, .null, .null, .null, .null, .null, .null, .int 0, .null, .null, .null, .null, .null, .null, .null, .null, .null, .null, .null, .int 0, .null, .int 0, .int 0, .int 0, .int 0, .int 0, .int 0, .int 0, .int 0, .int 0, .int 0, .int 0, .int 0]))) (fun v ad' ce' => v = none ∧ (∀ k i : Nat, k ≠ 12 → ad' k i = ad k i) ∧ (∀ (F : gF) (lc lv i : Nat), ce' 12 i = cXr E ad' F lc lv 12 i (fun _ => 0)) ∧ ce' 11 0 = some (.inr (6, [.int 0, .int 0, .int 1, .int 0, .ref (ad' 12 4), .ref (ad' 12 5), .ref (ad' 12 6), .ref (ad' 12 7), .ref (ad' 12 8), .ref (ad' 12 9), .ref (ad' 12 10), .ref (ad' 12 11), .ref (ad' 12 12), .ref (ad' 12 13), .ref (ad' 12 14), .ref (ad' 12 15), .ref (ad' 12 16), .int 0, .ref (ad' 12 18), .ref (ad' 12 19), .ref (ad' 12 20), .ref (ad' 12 21), .ref (ad' 12 22), .ref (ad' 12 23), .ref (ad' 12 24), .ref (ad' 12 25), .ref (ad' 12 26), .ref (ad' 12 27), .ref (ad' 12 28), .int 0, .ref (ad' 12 30), .int (-9), .int 0, .int 0, .int 0, .int 0, .int 0, .int 5000, .int 0, .int 0, .int 0, .int 0, .int 0])) ∧ ∀ k i : Nat, k ≠ 12 → ¬ (k = 11 ∧ i = 0) → ce' k i = C0 k i) := by
  refine gCon.of (by decide) (Nat.le_of_ble_eq_true rfl) ?_
  intro l A Rn h
  show Rn 0 [(0, .ref (ad 11 0))] [] ad (gup C0 11 0 (.inr (6, [.int 0, .int 0, .int 0, .int 0, .null, .null, .null, .null, .null, .null, .null, .null, .null, .null, .null, .null, .null, .int 0, .null, .null, .null, .null, .null, .null, .null, .null, .null, .null, .null, .int 0, .null, .int 0, .int 0, .int 0, .int 0, .int 0, .int 0, .int 0, .int 0, .int 0, .int 0, .int 0, .int 0]))) 0 0
  refine r_aload_n h.ok dX6_init_0 0 rfl ?_
  refine r_objInit h.ok dX6_init_1 wml_X6_1 ⟨by decide, Nat.le_of_ble_eq_true rfl⟩ ?_
  refine r_aload_n h.ok dX6_init_4 0 rfl ?_
  refine r_iconst (v := 1) h.ok dX6_init_5 (by decide) ?_
  refine r_put (ty := tyX6) h.ok 2 dX6_init_6 gup_self rfl inX6 tyX6_ok nmX6 (by decide) wfl_X6_7 rfl (gNz (Or.inr rfl)) (gFz (Or.inr rfl)) (by simp) gup_gup ?_
  refine r_aload_n h.ok dX6_init_9 0 rfl ?_
  refine r_bipush (v := 12) h.ok dX6_init_10 (by decide) ?_
  refine r_newi h.ok 12 4 12 dX6_init_12 (by simp [gup, hm]) (by decide) (by decide) (by decide) ⟨by decide, by decide⟩ (fun q1 => ?_)
  rw [show ad 11 0 = gua ad 12 4 q1 11 0 from (gua_ne (Or.inl (by decide))).symm]
  obtain ⟨ad1, had1⟩ : ∃ z, z = gua ad 12 4 q1 := ⟨_, rfl⟩
  rw [← had1, gup_ck (Or.inl (by decide))]
  refine r_putF (ty := tyX6) h.ok 4 dX6_init_14 gup_self rfl inX6 tyX6_ok nmX6 (by decide) wfl_X6_13 rfl rfl rfl rfl rfl (by simp) gup_gup ?_
  refine r_aload_n h.ok dX6_init_17 0 rfl ?_
  refine r_bipush (v := 12) h.ok dX6_init_18 (by decide) ?_
  refine r_newi h.ok 12 5 12 dX6_init_20 (by simp [gup, hm]) (by decide) (by decide) (by decide) ⟨by decide, by decide⟩ (fun q2 => ?_)
  rw [show ad1 11 0 = gua ad1 12 5 q2 11 0 from (gua_ne (Or.inl (by decide))).symm]
  obtain ⟨ad2, had2⟩ : ∃ z, z = gua ad1 12 5 q2 := ⟨_, rfl⟩
  rw [← had2, gup_ck (Or.inl (by decide))]
  refine r_putF (ty := tyX6) h.ok 5 dX6_init_22 gup_self rfl inX6 tyX6_ok nmX6 (by decide) wfl_X6_17 rfl rfl rfl rfl rfl (by simp) gup_gup ?_
  refine r_aload_n h.ok dX6_init_25 0 rfl ?_
  refine r_bipush (v := 12) h.ok dX6_init_26 (by decide) ?_
  refine r_newi h.ok 12 6 12 dX6_init_28 (by simp [gup, hm]) (by decide) (by decide) (by decide) ⟨by decide, by decide⟩ (fun q3 => ?_)
  rw [show ad2 11 0 = gua ad2 12 6 q3 11 0 from (gua_ne (Or.inl (by decide))).symm]
  obtain ⟨ad3, had3⟩ : ∃ z, z = gua ad2 12 6 q3 := ⟨_, rfl⟩
  rw [← had3, gup_ck (Or.inl (by decide))]
  refine r_putF (ty := tyX6) h.ok 6 dX6_init_30 gup_self rfl inX6 tyX6_ok nmX6 (by decide) wfl_X6_20 rfl rfl rfl rfl rfl (by simp) gup_gup ?_
  refine r_aload_n h.ok dX6_init_33 0 rfl ?_
  refine r_bipush (v := 12) h.ok dX6_init_34 (by decide) ?_
  refine r_newi h.ok 12 7 12 dX6_init_36 (by simp [gup, hm]) (by decide) (by decide) (by decide) ⟨by decide, by decide⟩ (fun q4 => ?_)
  rw [show ad3 11 0 = gua ad3 12 7 q4 11 0 from (gua_ne (Or.inl (by decide))).symm]
  obtain ⟨ad4, had4⟩ : ∃ z, z = gua ad3 12 7 q4 := ⟨_, rfl⟩
  rw [← had4, gup_ck (Or.inl (by decide))]
  refine r_putF (ty := tyX6) h.ok 7 dX6_init_38 gup_self rfl inX6 tyX6_ok nmX6 (by decide) wfl_X6_23 rfl rfl rfl rfl rfl (by simp) gup_gup ?_
  refine r_aload_n h.ok dX6_init_41 0 rfl ?_
  refine r_bipush (v := 12) h.ok dX6_init_42 (by decide) ?_
  refine r_newi h.ok 12 8 12 dX6_init_44 (by simp [gup, hm]) (by decide) (by decide) (by decide) ⟨by decide, by decide⟩ (fun q5 => ?_)
  rw [show ad4 11 0 = gua ad4 12 8 q5 11 0 from (gua_ne (Or.inl (by decide))).symm]
  obtain ⟨ad5, had5⟩ : ∃ z, z = gua ad4 12 8 q5 := ⟨_, rfl⟩
  rw [← had5, gup_ck (Or.inl (by decide))]
  refine r_putF (ty := tyX6) h.ok 8 dX6_init_46 gup_self rfl inX6 tyX6_ok nmX6 (by decide) wfl_X6_26 rfl rfl rfl rfl rfl (by simp) gup_gup ?_
  refine r_aload_n h.ok dX6_init_49 0 rfl ?_
  refine r_bipush (v := 12) h.ok dX6_init_50 (by decide) ?_
  refine r_newi h.ok 12 9 12 dX6_init_52 (by simp [gup, hm]) (by decide) (by decide) (by decide) ⟨by decide, by decide⟩ (fun q6 => ?_)
  rw [show ad5 11 0 = gua ad5 12 9 q6 11 0 from (gua_ne (Or.inl (by decide))).symm]
  obtain ⟨ad6, had6⟩ : ∃ z, z = gua ad5 12 9 q6 := ⟨_, rfl⟩
  rw [← had6, gup_ck (Or.inl (by decide))]
  refine r_putF (ty := tyX6) h.ok 9 dX6_init_54 gup_self rfl inX6 tyX6_ok nmX6 (by decide) wfl_X6_29 rfl rfl rfl rfl rfl (by simp) gup_gup ?_
  refine r_aload_n h.ok dX6_init_57 0 rfl ?_
  refine r_bipush (v := 12) h.ok dX6_init_58 (by decide) ?_
  refine r_newi h.ok 12 10 12 dX6_init_60 (by simp [gup, hm]) (by decide) (by decide) (by decide) ⟨by decide, by decide⟩ (fun q7 => ?_)
  rw [show ad6 11 0 = gua ad6 12 10 q7 11 0 from (gua_ne (Or.inl (by decide))).symm]
  obtain ⟨ad7, had7⟩ : ∃ z, z = gua ad6 12 10 q7 := ⟨_, rfl⟩
  rw [← had7, gup_ck (Or.inl (by decide))]
  refine r_putF (ty := tyX6) h.ok 10 dX6_init_62 gup_self rfl inX6 tyX6_ok nmX6 (by decide) wfl_X6_32 rfl rfl rfl rfl rfl (by simp) gup_gup ?_
  refine r_aload_n h.ok dX6_init_65 0 rfl ?_
  refine r_bipush (v := 12) h.ok dX6_init_66 (by decide) ?_
  refine r_newi h.ok 12 11 12 dX6_init_68 (by simp [gup, hm]) (by decide) (by decide) (by decide) ⟨by decide, by decide⟩ (fun q8 => ?_)
  rw [show ad7 11 0 = gua ad7 12 11 q8 11 0 from (gua_ne (Or.inl (by decide))).symm]
  obtain ⟨ad8, had8⟩ : ∃ z, z = gua ad7 12 11 q8 := ⟨_, rfl⟩
  rw [← had8, gup_ck (Or.inl (by decide))]
  refine r_putF (ty := tyX6) h.ok 11 dX6_init_70 gup_self rfl inX6 tyX6_ok nmX6 (by decide) wfl_X6_35 rfl rfl rfl rfl rfl (by simp) gup_gup ?_
  refine r_aload_n h.ok dX6_init_73 0 rfl ?_
  refine r_bipush (v := 48) h.ok dX6_init_74 (by decide) ?_
  refine r_newi h.ok 12 12 48 dX6_init_76 (by simp [gup, hm]) (by decide) (by decide) (by decide) ⟨by decide, by decide⟩ (fun q9 => ?_)
  rw [show ad8 11 0 = gua ad8 12 12 q9 11 0 from (gua_ne (Or.inl (by decide))).symm]
  obtain ⟨ad9, had9⟩ : ∃ z, z = gua ad8 12 12 q9 := ⟨_, rfl⟩
  rw [← had9, gup_ck (Or.inl (by decide))]
  refine r_putF (ty := tyX6) h.ok 12 dX6_init_78 gup_self rfl inX6 tyX6_ok nmX6 (by decide) wfl_X6_38 rfl rfl rfl rfl rfl (by simp) gup_gup ?_
  refine r_aload_n h.ok dX6_init_81 0 rfl ?_
  refine r_bipush (v := 12) h.ok dX6_init_82 (by decide) ?_
  refine r_newi h.ok 12 13 12 dX6_init_84 (by simp [gup, hm]) (by decide) (by decide) (by decide) ⟨by decide, by decide⟩ (fun q10 => ?_)
  rw [show ad9 11 0 = gua ad9 12 13 q10 11 0 from (gua_ne (Or.inl (by decide))).symm]
  obtain ⟨ad10, had10⟩ : ∃ z, z = gua ad9 12 13 q10 := ⟨_, rfl⟩
  rw [← had10, gup_ck (Or.inl (by decide))]
  refine r_putF (ty := tyX6) h.ok 13 dX6_init_86 gup_self rfl inX6 tyX6_ok nmX6 (by decide) wfl_X6_41 rfl rfl rfl rfl rfl (by simp) gup_gup ?_
  refine r_aload_n h.ok dX6_init_89 0 rfl ?_
  refine r_bipush (v := 12) h.ok dX6_init_90 (by decide) ?_
  refine r_newi h.ok 12 14 12 dX6_init_92 (by simp [gup, hm]) (by decide) (by decide) (by decide) ⟨by decide, by decide⟩ (fun q11 => ?_)
  rw [show ad10 11 0 = gua ad10 12 14 q11 11 0 from (gua_ne (Or.inl (by decide))).symm]
  obtain ⟨ad11, had11⟩ : ∃ z, z = gua ad10 12 14 q11 := ⟨_, rfl⟩
  rw [← had11, gup_ck (Or.inl (by decide))]
  refine r_putF (ty := tyX6) h.ok 14 dX6_init_94 gup_self rfl inX6 tyX6_ok nmX6 (by decide) wfl_X6_44 rfl rfl rfl rfl rfl (by simp) gup_gup ?_
  refine r_aload_n h.ok dX6_init_97 0 rfl ?_
  refine r_bipush (v := 12) h.ok dX6_init_98 (by decide) ?_
  refine r_newi h.ok 12 15 12 dX6_init_100 (by simp [gup, hm]) (by decide) (by decide) (by decide) ⟨by decide, by decide⟩ (fun q12 => ?_)
  rw [show ad11 11 0 = gua ad11 12 15 q12 11 0 from (gua_ne (Or.inl (by decide))).symm]
  obtain ⟨ad12, had12⟩ : ∃ z, z = gua ad11 12 15 q12 := ⟨_, rfl⟩
  rw [← had12, gup_ck (Or.inl (by decide))]
  refine r_putF (ty := tyX6) h.ok 15 dX6_init_102 gup_self rfl inX6 tyX6_ok nmX6 (by decide) wfl_X6_47 rfl rfl rfl rfl rfl (by simp) gup_gup ?_
  refine r_aload_n h.ok dX6_init_105 0 rfl ?_
  refine r_bipush (v := 12) h.ok dX6_init_106 (by decide) ?_
  refine r_newi h.ok 12 16 12 dX6_init_108 (by simp [gup, hm]) (by decide) (by decide) (by decide) ⟨by decide, by decide⟩ (fun q13 => ?_)
  rw [show ad12 11 0 = gua ad12 12 16 q13 11 0 from (gua_ne (Or.inl (by decide))).symm]
  obtain ⟨ad13, had13⟩ : ∃ z, z = gua ad12 12 16 q13 := ⟨_, rfl⟩
  rw [← had13, gup_ck (Or.inl (by decide))]
  refine r_putF (ty := tyX6) h.ok 16 dX6_init_110 gup_self rfl inX6 tyX6_ok nmX6 (by decide) wfl_X6_50 rfl rfl rfl rfl rfl (by simp) gup_gup ?_
  refine r_aload_n h.ok dX6_init_113 0 rfl ?_
  refine r_sipush (v := 500) h.ok dX6_init_114 (by decide) ?_
  refine r_newi h.ok 12 18 500 dX6_init_117 (by simp [gup, hm]) (by decide) (by decide) (by decide) ⟨by decide, by decide⟩ (fun q14 => ?_)
  rw [show ad13 11 0 = gua ad13 12 18 q14 11 0 from (gua_ne (Or.inl (by decide))).symm]
  obtain ⟨ad14, had14⟩ : ∃ z, z = gua ad13 12 18 q14 := ⟨_, rfl⟩
  rw [← had14, gup_ck (Or.inl (by decide))]
  refine r_putF (ty := tyX6) h.ok 18 dX6_init_119 gup_self rfl inX6 tyX6_ok nmX6 (by decide) wfl_X6_53 rfl rfl rfl rfl rfl (by simp) gup_gup ?_
  refine r_aload_n h.ok dX6_init_122 0 rfl ?_
  refine r_sipush (v := 500) h.ok dX6_init_123 (by decide) ?_
  refine r_newi h.ok 12 19 500 dX6_init_126 (by simp [gup, hm]) (by decide) (by decide) (by decide) ⟨by decide, by decide⟩ (fun q15 => ?_)
  rw [show ad14 11 0 = gua ad14 12 19 q15 11 0 from (gua_ne (Or.inl (by decide))).symm]
  obtain ⟨ad15, had15⟩ : ∃ z, z = gua ad14 12 19 q15 := ⟨_, rfl⟩
  rw [← had15, gup_ck (Or.inl (by decide))]
  refine r_putF (ty := tyX6) h.ok 19 dX6_init_128 gup_self rfl inX6 tyX6_ok nmX6 (by decide) wfl_X6_56 rfl rfl rfl rfl rfl (by simp) gup_gup ?_
  refine r_aload_n h.ok dX6_init_131 0 rfl ?_
  refine r_sipush (v := 500) h.ok dX6_init_132 (by decide) ?_
  refine r_newi h.ok 12 20 500 dX6_init_135 (by simp [gup, hm]) (by decide) (by decide) (by decide) ⟨by decide, by decide⟩ (fun q16 => ?_)
  rw [show ad15 11 0 = gua ad15 12 20 q16 11 0 from (gua_ne (Or.inl (by decide))).symm]
  obtain ⟨ad16, had16⟩ : ∃ z, z = gua ad15 12 20 q16 := ⟨_, rfl⟩
  rw [← had16, gup_ck (Or.inl (by decide))]
  refine r_putF (ty := tyX6) h.ok 20 dX6_init_137 gup_self rfl inX6 tyX6_ok nmX6 (by decide) wfl_X6_59 rfl rfl rfl rfl rfl (by simp) gup_gup ?_
  refine r_aload_n h.ok dX6_init_140 0 rfl ?_
  refine r_sipush (v := 500) h.ok dX6_init_141 (by decide) ?_
  refine r_newi h.ok 12 21 500 dX6_init_144 (by simp [gup, hm]) (by decide) (by decide) (by decide) ⟨by decide, by decide⟩ (fun q17 => ?_)
  rw [show ad16 11 0 = gua ad16 12 21 q17 11 0 from (gua_ne (Or.inl (by decide))).symm]
  obtain ⟨ad17, had17⟩ : ∃ z, z = gua ad16 12 21 q17 := ⟨_, rfl⟩
  rw [← had17, gup_ck (Or.inl (by decide))]
  refine r_putF (ty := tyX6) h.ok 21 dX6_init_146 gup_self rfl inX6 tyX6_ok nmX6 (by decide) wfl_X6_62 rfl rfl rfl rfl rfl (by simp) gup_gup ?_
  refine r_aload_n h.ok dX6_init_149 0 rfl ?_
  refine r_sipush (v := 500) h.ok dX6_init_150 (by decide) ?_
  refine r_newz h.ok 12 22 500 dX6_init_153 (by simp [gup, hm]) (by decide) (by decide) (by decide) ⟨by decide, by decide⟩ (fun q18 => ?_)
  rw [show ad17 11 0 = gua ad17 12 22 q18 11 0 from (gua_ne (Or.inl (by decide))).symm]
  obtain ⟨ad18, had18⟩ : ∃ z, z = gua ad17 12 22 q18 := ⟨_, rfl⟩
  rw [← had18, gup_ck (Or.inl (by decide))]
  refine r_putF (ty := tyX6) h.ok 22 dX6_init_155 gup_self rfl inX6 tyX6_ok nmX6 (by decide) wfl_X6_65 rfl rfl rfl rfl rfl (by simp) gup_gup ?_
  refine r_aload_n h.ok dX6_init_158 0 rfl ?_
  refine r_sipush (v := 500) h.ok dX6_init_159 (by decide) ?_
  refine r_newi h.ok 12 23 500 dX6_init_162 (by simp [gup, hm]) (by decide) (by decide) (by decide) ⟨by decide, by decide⟩ (fun q19 => ?_)
  rw [show ad18 11 0 = gua ad18 12 23 q19 11 0 from (gua_ne (Or.inl (by decide))).symm]
  obtain ⟨ad19, had19⟩ : ∃ z, z = gua ad18 12 23 q19 := ⟨_, rfl⟩
  rw [← had19, gup_ck (Or.inl (by decide))]
  refine r_putF (ty := tyX6) h.ok 23 dX6_init_164 gup_self rfl inX6 tyX6_ok nmX6 (by decide) wfl_X6_69 rfl rfl rfl rfl rfl (by simp) gup_gup ?_
  refine r_aload_n h.ok dX6_init_167 0 rfl ?_
  refine r_sipush (v := 500) h.ok dX6_init_168 (by decide) ?_
  refine r_newi h.ok 12 24 500 dX6_init_171 (by simp [gup, hm]) (by decide) (by decide) (by decide) ⟨by decide, by decide⟩ (fun q20 => ?_)
  rw [show ad19 11 0 = gua ad19 12 24 q20 11 0 from (gua_ne (Or.inl (by decide))).symm]
  obtain ⟨ad20, had20⟩ : ∃ z, z = gua ad19 12 24 q20 := ⟨_, rfl⟩
  rw [← had20, gup_ck (Or.inl (by decide))]
  refine r_putF (ty := tyX6) h.ok 24 dX6_init_173 gup_self rfl inX6 tyX6_ok nmX6 (by decide) wfl_X6_72 rfl rfl rfl rfl rfl (by simp) gup_gup ?_
  refine r_aload_n h.ok dX6_init_176 0 rfl ?_
  refine r_sipush (v := 500) h.ok dX6_init_177 (by decide) ?_
  refine r_newi h.ok 12 25 500 dX6_init_180 (by simp [gup, hm]) (by decide) (by decide) (by decide) ⟨by decide, by decide⟩ (fun q21 => ?_)
  rw [show ad20 11 0 = gua ad20 12 25 q21 11 0 from (gua_ne (Or.inl (by decide))).symm]
  obtain ⟨ad21, had21⟩ : ∃ z, z = gua ad20 12 25 q21 := ⟨_, rfl⟩
  rw [← had21, gup_ck (Or.inl (by decide))]
  refine r_putF (ty := tyX6) h.ok 25 dX6_init_182 gup_self rfl inX6 tyX6_ok nmX6 (by decide) wfl_X6_75 rfl rfl rfl rfl rfl (by simp) gup_gup ?_
  refine r_aload_n h.ok dX6_init_185 0 rfl ?_
  refine r_sipush (v := 500) h.ok dX6_init_186 (by decide) ?_
  refine r_newi h.ok 12 26 500 dX6_init_189 (by simp [gup, hm]) (by decide) (by decide) (by decide) ⟨by decide, by decide⟩ (fun q22 => ?_)
  rw [show ad21 11 0 = gua ad21 12 26 q22 11 0 from (gua_ne (Or.inl (by decide))).symm]
  obtain ⟨ad22, had22⟩ : ∃ z, z = gua ad21 12 26 q22 := ⟨_, rfl⟩
  rw [← had22, gup_ck (Or.inl (by decide))]
  refine r_putF (ty := tyX6) h.ok 26 dX6_init_191 gup_self rfl inX6 tyX6_ok nmX6 (by decide) wfl_X6_78 rfl rfl rfl rfl rfl (by simp) gup_gup ?_
  refine r_aload_n h.ok dX6_init_194 0 rfl ?_
  refine r_sipush (v := 500) h.ok dX6_init_195 (by decide) ?_
  refine r_newi h.ok 12 27 500 dX6_init_198 (by simp [gup, hm]) (by decide) (by decide) (by decide) ⟨by decide, by decide⟩ (fun q23 => ?_)
  rw [show ad22 11 0 = gua ad22 12 27 q23 11 0 from (gua_ne (Or.inl (by decide))).symm]
  obtain ⟨ad23, had23⟩ : ∃ z, z = gua ad22 12 27 q23 := ⟨_, rfl⟩
  rw [← had23, gup_ck (Or.inl (by decide))]
  refine r_putF (ty := tyX6) h.ok 27 dX6_init_200 gup_self rfl inX6 tyX6_ok nmX6 (by decide) wfl_X6_81 rfl rfl rfl rfl rfl (by simp) gup_gup ?_
  refine r_aload_n h.ok dX6_init_203 0 rfl ?_
  refine r_sipush (v := 500) h.ok dX6_init_204 (by decide) ?_
  refine r_newi h.ok 12 28 500 dX6_init_207 (by simp [gup, hm]) (by decide) (by decide) (by decide) ⟨by decide, by decide⟩ (fun q24 => ?_)
  rw [show ad23 11 0 = gua ad23 12 28 q24 11 0 from (gua_ne (Or.inl (by decide))).symm]
  obtain ⟨ad24, had24⟩ : ∃ z, z = gua ad23 12 28 q24 := ⟨_, rfl⟩
  rw [← had24, gup_ck (Or.inl (by decide))]
  refine r_putF (ty := tyX6) h.ok 28 dX6_init_209 gup_self rfl inX6 tyX6_ok nmX6 (by decide) wfl_X6_84 rfl rfl rfl rfl rfl (by simp) gup_gup ?_
  refine r_aload_n h.ok dX6_init_212 0 rfl ?_
  refine r_bipush (v := 12) h.ok dX6_init_213 (by decide) ?_
  refine r_newi h.ok 12 30 12 dX6_init_215 (by simp [gup, hm]) (by decide) (by decide) (by decide) ⟨by decide, by decide⟩ (fun q25 => ?_)
  rw [show ad24 11 0 = gua ad24 12 30 q25 11 0 from (gua_ne (Or.inl (by decide))).symm]
  obtain ⟨ad25, had25⟩ : ∃ z, z = gua ad24 12 30 q25 := ⟨_, rfl⟩
  rw [← had25, gup_ck (Or.inl (by decide))]
  refine r_putF (ty := tyX6) h.ok 30 dX6_init_217 gup_self rfl inX6 tyX6_ok nmX6 (by decide) wfl_X6_87 rfl rfl rfl rfl rfl (by simp) gup_gup ?_
  refine r_aload_n h.ok dX6_init_220 0 rfl ?_
  refine r_bipush (v := (-9)) h.ok dX6_init_221 (by decide) ?_
  refine r_put (ty := tyX6) h.ok 31 dX6_init_223 gup_self rfl inX6 tyX6_ok nmX6 (by decide) wfl_X6_90 rfl rfl rfl (by simp) gup_gup ?_
  refine r_aload_n h.ok dX6_init_226 0 rfl ?_
  refine r_sipush (v := 5000) h.ok dX6_init_227 (by decide) ?_
  refine r_put (ty := tyX6) h.ok 37 dX6_init_230 gup_self rfl inX6 tyX6_ok nmX6 (by decide) wfl_X6_94 rfl rfl rfl (by simp) gup_gup ?_
  refine r_vret h dX6_init_233 ⟨by decide, by decide⟩ ⟨rfl, ?_, ?_, ?_, ?_⟩
  · intro k i hk
    rw [had25, had24, had23, had22, had21, had20, had19, had18, had17, had16, had15, had14, had13, had12, had11, had10, had9, had8, had7, had6, had5, had4, had3, had2, had1]
    simp [gua, hk]
  · intro F lc lv i
    exact ce12 hm i
  · rw [gup_self]
    simp [had25, had24, had23, had22, had21, had20, had19, had18, had17, had16, had15, had14, had13, had12, had11, had10, had9, had8, had7, had6, had5, had4, had3, had2, had1, gua]
  · intro k i hk hk2
    simp [gup, hk, hk2]
