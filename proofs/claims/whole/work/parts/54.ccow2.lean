noncomputable def bCow_q {α : Type} (I : gI) (a b c d : Int32) (x y z : α) : α := if pI (mIn a 0 2) = 0 then x else if pI (mIn b 1 30) = 0 then x else if pI (mIn c 0 1440) = 0 then x else if pI (mIn d 0 5000) = 0 then x else if I 0 0 5 < 12 then z else y
noncomputable def bCow_r (I : gI) (a b c d : Int32) : Int32 := bCow_q I a b c d (-2) (-4) (I 0 0 5 + 1 - 1)
noncomputable def bCow_I (I : gI) (lc : Nat) (a b c d : Int32) : gI := bCow_q I a b c d I I (gs (bNewCow I lc a b c d (I 0 0 7)) 0 0 5 (I 0 0 5 + 1))
noncomputable def bCow_F (I : gI) (F : gF) (lc : Nat) (a b c d : Int32) : gF := bCow_q I a b c d F F (gf F 2 (I 0 0 5).toNatClampNeg (some lc))
noncomputable def bCow_l (I : gI) (lc : Nat) (a b c d : Int32) : Nat := bCow_q I a b c d lc lc (lc + 1)
theorem fresh4 {ad ad1 : gAd} {lc ln q : Nat} (h1 : ad1 = gua ad 4 lc q) : ∀ k i : Nat, (k = 4 ∨ k = 5 ∨ k = 6 → i < lc) → (k = 7 → i < ln) → ad1 k i = ad k i := fun k i a b => by
  rw [h1]
  refine gua_ne ?_
  by_cases q4 : k = 4
  · right
    have := a (Or.inl q4)
    omega
  · exact Or.inl q4
theorem fresh56 {ad1 ad2 : gAd} {lc ln q5 q6 : Nat} (h2 : ad2 = gua (gua ad1 5 lc q5) 6 lc q6) : ∀ k i : Nat, (k = 4 ∨ k = 5 ∨ k = 6 → i < lc) → (k = 7 → i < ln) → ad2 k i = ad1 k i := fun k i a b => by
  rw [h2]
  by_cases q : k = 5 ∨ k = 6
  · have := a (Or.inr q)
    rw [gua_ne (Or.inr (by omega)), gua_ne (Or.inr (by omega))]
  · rw [gua_ne (Or.inl (by omega)), gua_ne (Or.inl (by omega))]
set_option maxHeartbeats 4000000 in
set_option maxRecDepth 100000 in
theorem c_X5_cow (D : va_G) (E : gEc) (ad : gAd) (I : gI) (F : gF) (lc ln : Nat) (nc nv nw : Nat) (hC : CI I F lc ln nc nv nw) (hF : FW F lc ln) (a b c d : Int32) : gCon D E yX5_cow cX5_cow 5 (some .int) 2 3 23 [.ref (ad 0 0), .int a, .int b, .int c, .int d] ad (cX E ad I F lc ln) (fun v ad' ce' => v = some (.int (bCow_r I a b c d)) ∧ ad' 0 0 = ad 0 0 ∧ ad' 11 0 = ad 11 0 ∧ ce' = cX E ad' (bCow_I I lc a b c d) (bCow_F I F lc a b c d) (bCow_l I lc a b c d) ln) := by
  refine gCon.of (by decide) (Nat.le_of_ble_eq_true rfl) ?_
  intro l A Rn h
  have hC0 := hC
  obtain ⟨kn, k12, klc, kf2, kv, k500, kln, kf3, kw, kw12, kq, kb, kc⟩ := hC
  have hbv := hC0.hbv
  show Rn 0 [(0, .ref (ad 0 0)), (1, .int a), (2, .int b), (3, .int c), (4, .int d)] [] ad (cX E ad I F lc ln) 0 0
  refine r_iload_n h.ok dX5_cow_0 1 rfl ?_
  refine r_iconst (v := 0) h.ok dX5_cow_1 (by decide) ?_
  refine r_iconst (v := 2) h.ok dX5_cow_2 (by decide) ?_
  refine r_callS h.ok [.int a, .int 0, .int 2] [] dX5_cow_3 (c_X5_within D E ad I F lc ln a 0 2) wml_X5_46 wst_X5_within win_X5 wco_X5_within yok_X5_within ⟨by decide, by decide, by simp [gRm], by simp [gRm]⟩ (Nat.le_of_ble_eq_true rfl) rfl ?_
  show Rn 6 [(0, .ref (ad 0 0)), (1, .int a), (2, .int b), (3, .int c), (4, .int d)] [.int (pI (mIn a 0 2))] ad (cX E ad I F lc ln) 0 0
  refine r_if_eq h.ok 19 dX5_cow_6 (by decide) (fun c_6 => ?_) (fun c_6 => ?_)
  · refine r_bipush (v := (-2)) h.ok dX5_cow_19 (by decide) ?_
    refine r_iret h dX5_cow_21 ⟨by decide, by decide⟩ ⟨(by unfold bCow_r bCow_q; simp only [if_pos c_6]), rfl, rfl, (by unfold bCow_I bCow_F bCow_l bCow_q; simp only [if_pos c_6])⟩
  · refine r_iload_n h.ok dX5_cow_9 2 rfl ?_
    refine r_iconst (v := 1) h.ok dX5_cow_10 (by decide) ?_
    refine r_bipush (v := 30) h.ok dX5_cow_11 (by decide) ?_
    refine r_callS h.ok [.int b, .int 1, .int 30] [] dX5_cow_13 (c_X5_within D E ad I F lc ln b 1 30) wml_X5_46 wst_X5_within win_X5 wco_X5_within yok_X5_within ⟨by decide, by decide, by simp [gRm], by simp [gRm]⟩ (Nat.le_of_ble_eq_true rfl) rfl ?_
    show Rn 16 [(0, .ref (ad 0 0)), (1, .int a), (2, .int b), (3, .int c), (4, .int d)] [.int (pI (mIn b 1 30))] ad (cX E ad I F lc ln) 0 0
    refine r_if_ne h.ok 22 dX5_cow_16 (by decide) (fun c_16 => ?_) (fun c_16 => ?_)
    · refine r_iload_n h.ok dX5_cow_22 3 rfl ?_
      refine r_iconst (v := 0) h.ok dX5_cow_23 (by decide) ?_
      refine r_sipush (v := 1440) h.ok dX5_cow_24 (by decide) ?_
      refine r_callS h.ok [.int c, .int 0, .int 1440] [] dX5_cow_27 (c_X5_within D E ad I F lc ln c 0 1440) wml_X5_46 wst_X5_within win_X5 wco_X5_within yok_X5_within ⟨by decide, by decide, by simp [gRm], by simp [gRm]⟩ (Nat.le_of_ble_eq_true rfl) rfl ?_
      show Rn 30 [(0, .ref (ad 0 0)), (1, .int a), (2, .int b), (3, .int c), (4, .int d)] [.int (pI (mIn c 0 1440))] ad (cX E ad I F lc ln) 0 0
      refine r_if_eq h.ok 45 dX5_cow_30 (by decide) (fun c_30 => ?_) (fun c_30 => ?_)
      · refine r_bipush (v := (-2)) h.ok dX5_cow_45 (by decide) ?_
        refine r_iret h dX5_cow_47 ⟨by decide, by decide⟩ ⟨(by unfold bCow_r bCow_q; simp only [if_neg c_6, if_neg c_16, if_pos c_30]), rfl, rfl, (by unfold bCow_I bCow_F bCow_l bCow_q; simp only [if_neg c_6, if_neg c_16, if_pos c_30])⟩
      · refine r_iload h.ok dX5_cow_33 4 rfl ?_
        refine r_iconst (v := 0) h.ok dX5_cow_35 (by decide) ?_
        refine r_sipush (v := 5000) h.ok dX5_cow_36 (by decide) ?_
        refine r_callS h.ok [.int d, .int 0, .int 5000] [] dX5_cow_39 (c_X5_within D E ad I F lc ln d 0 5000) wml_X5_46 wst_X5_within win_X5 wco_X5_within yok_X5_within ⟨by decide, by decide, by simp [gRm], by simp [gRm]⟩ (Nat.le_of_ble_eq_true rfl) rfl ?_
        show Rn 42 [(0, .ref (ad 0 0)), (1, .int a), (2, .int b), (3, .int c), (4, .int d)] [.int (pI (mIn d 0 5000))] ad (cX E ad I F lc ln) 0 0
        refine r_if_ne h.ok 48 dX5_cow_42 (by decide) (fun c_42 => ?_) (fun c_42 => ?_)
        · refine r_aload_n h.ok dX5_cow_48 0 rfl ?_
          refine r_get (v := .int (I 0 0 5)) h.ok 5 dX5_cow_49 (xo_0 _) rfl inX5 (by decide) wfl_X5_50 rfl ?_
          refine r_bipush (v := 12) h.ok dX5_cow_52 (by decide) ?_
          refine r_icmp_lt h.ok 60 dX5_cow_54 (by decide) (fun c_54 => ?_) (fun c_54 => ?_)
          · refine r_aload_n h.ok dX5_cow_60 0 rfl ?_
            refine r_get h.ok 0 dX5_cow_61 (xo_0 _) rfl inX5 (by decide) wfl_X5_11 rfl ?_
            refine r_aload_n h.ok dX5_cow_64 0 rfl ?_
            refine r_get (v := .int (I 0 0 5)) h.ok 5 dX5_cow_65 (xo_0 _) rfl inX5 (by decide) wfl_X5_50 rfl ?_
            refine r_new (ci := 1) (ty := tyX1) (fs := [.int 0, .int 0, .int 0, .int 0, .null, .null, .int 0, .int 0, .int 0, .int 0, .int 0, .int 0, .int 0, .int 0]) h.ok 4 lc dX5_cow_68 (by simp [cX, cXr]) rfl inX1 tyX1_ok wcl_X5_9 wis_X1 win_X1 (fun j hj => by rcases (show j = 0 ∨ j = 1 ∨ j = 2 ∨ j = 3 ∨ j = 4 ∨ j = 5 ∨ j = 6 ∨ j = 7 ∨ j = 8 ∨ j = 9 ∨ j = 10 ∨ j = 11 ∨ j = 12 ∨ j = 13 by omega) with rfl | rfl | rfl | rfl | rfl | rfl | rfl | rfl | rfl | rfl | rfl | rfl | rfl | rfl <;> rfl) ⟨by decide, by decide⟩ (fun q => ?_)
            obtain ⟨ad1, h1⟩ : ∃ z, z = gua ad 4 lc q := ⟨_, rfl⟩
            rw [← h1, show q = ad1 4 lc from by rw [h1, gua_self], show ad 8 0 = ad1 8 0 from by rw [h1, gua_ne (Or.inl (by decide))], show ad 0 0 = ad1 0 0 from by rw [h1, gua_ne (Or.inl (by decide))], ← cX_ad (ad := ad) (ad' := ad1) hF (fresh4 h1)]
            refine r_dup h.ok dX5_cow_71 rfl ?_
            refine r_iload_n h.ok dX5_cow_72 1 rfl ?_
            refine r_iload_n h.ok dX5_cow_73 2 rfl ?_
            refine r_iload_n h.ok dX5_cow_74 3 rfl ?_
            refine r_iload h.ok dX5_cow_75 4 rfl ?_
            refine r_aload_n h.ok dX5_cow_77 0 rfl ?_
            refine r_get (v := .int (I 0 0 7)) h.ok 7 dX5_cow_78 ((gup_ne (Or.inl (by decide))).trans (xo_0 _)) rfl inX5 (by decide) wfl_X5_54 rfl ?_
            refine r_callIX h.ok [.int a, .int b, .int c, .int d, .int (I 0 0 7)] [.ref (ad1 4 lc), .int (I 0 0 5), .ref (ad1 8 0)] dX5_cow_81 (c_X1_init D E ad1 (cX E ad1 I F lc ln) lc a b c d (I 0 0 7) (by simp [cX, cXr]) (by simp [cX, cXr])) wml_X5_57 wim_X1_init win_X1 wco_X1_init rfl yok_X1_init ⟨by decide, by decide, by decide, by decide⟩ (Nat.le_of_ble_eq_true rfl) rfl (fun v ad2 ce2 hp => ?_)
            obtain ⟨rfl, q5, q6, h2, rfl⟩ := hp
            have e2 : ∀ k i : Nat, k ≠ 5 → k ≠ 6 → ad2 k i = ad1 k i := fun k i a b => by rw [h2, gua_ne (Or.inl b), gua_ne (Or.inl a)]
            have e1 : ∀ k i : Nat, k ≠ 4 → ad1 k i = ad k i := fun k i a => by rw [h1, gua_ne (Or.inl a)]
            show Rn 84 [(0, .ref (ad1 0 0)), (1, .int a), (2, .int b), (3, .int c), (4, .int d)] [.ref (ad1 4 lc), .int (I 0 0 5), .ref (ad1 8 0)] ad2 _ 3 23
            rw [← e2 0 0 (by decide) (by decide), ← e2 4 lc (by decide) (by decide), ← e2 8 0 (by decide) (by decide), ← cX_ad (ad := ad1) (ad' := ad2) hF (fresh56 h2), cX_newcow]
            have icn : vp_in (I 0 0 5) 12 := by rw [kn] at c_54 ⊢; rw [show (12 : Int32) = nI 12 by decide, nI_ltI (by omega) (by decide)] at c_54; exact vp_in_nI c_54 (by decide)
            exact cow_tail h (Nat.lt_succ_self _) icn (by simp [bNewCow, gr]) ⟨(by unfold bCow_r bCow_q; simp only [if_neg c_6, if_neg c_16, if_neg c_30, if_neg c_42, if_pos c_54]), (by rw [e2 0 0 (by decide) (by decide), e1 0 0 (by decide)]), (by rw [e2 11 0 (by decide) (by decide), e1 11 0 (by decide)]), (by unfold bCow_I bCow_F bCow_l bCow_q; simp only [if_neg c_6, if_neg c_16, if_neg c_30, if_neg c_42, if_pos c_54])⟩
          · refine r_bipush (v := (-4)) h.ok dX5_cow_57 (by decide) ?_
            refine r_iret h dX5_cow_59 ⟨by decide, by decide⟩ ⟨(by unfold bCow_r bCow_q; simp only [if_neg c_6, if_neg c_16, if_neg c_30, if_neg c_42, if_neg c_54]), rfl, rfl, (by unfold bCow_I bCow_F bCow_l bCow_q; simp only [if_neg c_6, if_neg c_16, if_neg c_30, if_neg c_42, if_neg c_54])⟩
        · refine r_bipush (v := (-2)) h.ok dX5_cow_45 (by decide) ?_
          refine r_iret h dX5_cow_47 ⟨by decide, by decide⟩ ⟨(by unfold bCow_r bCow_q; simp only [if_neg c_6, if_neg c_16, if_neg c_30, if_pos c_42]), rfl, rfl, (by unfold bCow_I bCow_F bCow_l bCow_q; simp only [if_neg c_6, if_neg c_16, if_neg c_30, if_pos c_42])⟩
    · refine r_bipush (v := (-2)) h.ok dX5_cow_19 (by decide) ?_
      refine r_iret h dX5_cow_21 ⟨by decide, by decide⟩ ⟨(by unfold bCow_r bCow_q; simp only [if_neg c_6, if_pos c_16]), rfl, rfl, (by unfold bCow_I bCow_F bCow_l bCow_q; simp only [if_neg c_6, if_pos c_16])⟩
