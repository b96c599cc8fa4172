noncomputable def bTaken_r (I : gI) (F : gF) (nc : Nat) (c a b : Int32) : Int32 := (if pI (vp_in c nc) = 0 then (-1) else (if (pI (mIn a 0 2)) = 0 then (-2) else (if (pI (mIn b 0 3)) = 0 then (-2) else (if a = 0 then (if b = 0 then I 4 c.toNatClampNeg 0 else (if b = 1 then I 4 c.toNatClampNeg 1 else (if b = 2 then I 4 c.toNatClampNeg 2 else I 4 c.toNatClampNeg 3))) else (if a = (I 4 c.toNatClampNeg 0) then (if b = 0 then I 4 c.toNatClampNeg 0 else (if b = 1 then I 4 c.toNatClampNeg 1 else (if b = 2 then I 4 c.toNatClampNeg 2 else I 4 c.toNatClampNeg 3))) else (-13))))))
set_option maxHeartbeats 4000000 in
set_option maxRecDepth 100000 in
theorem c_X5_taken (D : va_G) (E : gEc) (ad : gAd) (I : gI) (F : gF) (lc ln : Nat) (nc nv nw : Nat) (hC : CI I F lc ln nc nv nw) (c a b : Int32) : gCon D E yX5_taken cX5_taken 5 (some .int) 2 0 0 [.ref (ad 0 0), .int c, .int a, .int b] ad (cX E ad I F lc ln) (gPd (some (.int (bTaken_r I F nc c a b))) ad (cX E ad I F lc ln)) := by
  refine gCon.of (by decide) (Nat.le_of_ble_eq_true rfl) ?_
  intro l A Rn h
  have hC0 := hC
  obtain ⟨kn, k12, klc, kf2, kv, k500, kln, kf3, kw, kw12, kq, kb, kc⟩ := hC
  have hbv := hC0.hbv
  show Rn 0 [(0, .ref (ad 0 0)), (1, .int c), (2, .int a), (3, .int b)] [] ad (cX E ad I F lc ln) 0 0
  refine r_aload_n h.ok dX5_taken_0 0 rfl ?_
  refine r_iload_n h.ok dX5_taken_1 1 rfl ?_
  by_cases c_2 : pI (vp_in c nc) = 0
  · refine r_callV h.ok [.int c] [] dX5_taken_2 (c_X5_cowAt_n D E ad I F lc ln nc nv nw hC0 c (pI_0.mp c_2)) wml_X5_60 wim_X5_cowAt wse_X5_cowAt win_X5 wco_X5_cowAt yok_X5_cowAt (xo_0 _) rfl rfl ⟨by decide, by decide, by simp [gRm], by simp [gRm]⟩ (Nat.le_of_ble_eq_true rfl) rfl ?_
    show Rn 5 [(0, .ref (ad 0 0)), (1, .int c), (2, .int a), (3, .int b)] [.null] ad (cX E ad I F lc ln) 0 0
    refine r_astoreN (lv' := [(4, .null), (0, .ref (ad 0 0)), (1, .int c), (2, .int a), (3, .int b)]) h.ok dX5_taken_5 (by decide) rfl ?_
    refine r_aloadN h.ok dX5_taken_7 0 rfl ?_
    refine r_ifnonnullN h.ok dX5_taken_9 ?_
    refine r_iconst (v := (-1)) h.ok dX5_taken_12 (by decide) ?_
    refine r_iret h dX5_taken_13 ⟨by decide, by decide⟩ ⟨(by unfold bTaken_r; simp only [if_pos c_2]), rfl, rfl⟩
  · refine r_callV h.ok [.int c] [] dX5_taken_2 (c_X5_cowAt_s D E ad I F lc ln nc nv nw hC0 c c.toNatClampNeg (vp_eq (pI_n0.mp c_2)) (vp_lt (pI_n0.mp c_2))) wml_X5_60 wim_X5_cowAt wse_X5_cowAt win_X5 wco_X5_cowAt yok_X5_cowAt (xo_0 _) rfl rfl ⟨by decide, by decide, by simp [gRm], by simp [gRm]⟩ (Nat.le_of_ble_eq_true rfl) rfl ?_
    show Rn 5 [(0, .ref (ad 0 0)), (1, .int c), (2, .int a), (3, .int b)] [.ref (ad 4 c.toNatClampNeg)] ad (cX E ad I F lc ln) 0 0
    refine r_astore (lv' := [(4, .ref (ad 4 c.toNatClampNeg)), (0, .ref (ad 0 0)), (1, .int c), (2, .int a), (3, .int b)]) h.ok dX5_taken_5 (by decide) rfl ?_
    refine r_aload h.ok dX5_taken_7 0 rfl ?_
    refine r_ifnonnull h.ok 14 dX5_taken_9 (by decide) ?_
    refine r_iload_n h.ok dX5_taken_14 3 rfl ?_
    refine r_iconst (v := 0) h.ok dX5_taken_15 (by decide) ?_
    refine r_iconst (v := 2) h.ok dX5_taken_16 (by decide) ?_
    refine r_callS h.ok [.int a, .int 0, .int 2] [] dX5_taken_17 (c_X5_within D E ad I F lc ln a 0 2) wml_X5_46 wst_X5_within win_X5 wco_X5_within yok_X5_within ⟨by decide, by decide, by simp [gRm], by simp [gRm]⟩ (Nat.le_of_ble_eq_true rfl) rfl ?_
    show Rn 20 [(4, .ref (ad 4 c.toNatClampNeg)), (0, .ref (ad 0 0)), (1, .int c), (2, .int a), (3, .int b)] [.int (pI (mIn a 0 2))] ad (cX E ad I F lc ln) 0 0
    refine r_if_eq h.ok 32 dX5_taken_20 (by decide) (fun c_20 => ?_) (fun c_20 => ?_)
    · refine r_bipush (v := (-2)) h.ok dX5_taken_32 (by decide) ?_
      refine r_iret h dX5_taken_34 ⟨by decide, by decide⟩ ⟨(by unfold bTaken_r; simp only [if_neg c_2, if_pos c_20]), rfl, rfl⟩
    · refine r_iload_n h.ok dX5_taken_23 4 rfl ?_
      refine r_iconst (v := 0) h.ok dX5_taken_24 (by decide) ?_
      refine r_iconst (v := 3) h.ok dX5_taken_25 (by decide) ?_
      refine r_callS h.ok [.int b, .int 0, .int 3] [] dX5_taken_26 (c_X5_within D E ad I F lc ln b 0 3) wml_X5_46 wst_X5_within win_X5 wco_X5_within yok_X5_within ⟨by decide, by decide, by simp [gRm], by simp [gRm]⟩ (Nat.le_of_ble_eq_true rfl) rfl ?_
      show Rn 29 [(4, .ref (ad 4 c.toNatClampNeg)), (0, .ref (ad 0 0)), (1, .int c), (2, .int a), (3, .int b)] [.int (pI (mIn b 0 3))] ad (cX E ad I F lc ln) 0 0
      refine r_if_ne h.ok 35 dX5_taken_29 (by decide) (fun c_29 => ?_) (fun c_29 => ?_)
      · refine r_iload_n h.ok dX5_taken_35 3 rfl ?_
        refine r_if_eq h.ok 51 dX5_taken_36 (by decide) (fun c_36 => ?_) (fun c_36 => ?_)
        · refine r_iload_n h.ok dX5_taken_51 4 rfl ?_
          by_cases s_0 : b = 0
          · refine r_tableIn (off := 28) h.ok 80 dX5_taken_52 (by rw [s_0]; decide) (by rw [s_0]; decide) (by rw [s_0]; rfl) (by decide) ?_
            refine r_aload h.ok dX5_taken_80 0 rfl ?_
            refine r_get (v := .int (I 4 c.toNatClampNeg 0)) h.ok 0 dX5_taken_82 (xo_4 (Nat.lt_of_lt_of_le (vp_lt (pI_n0.mp c_2)) klc) _) rfl inX1 (by decide) wfl_X5_64 rfl ?_
            refine r_iret h dX5_taken_85 ⟨by decide, by decide⟩ ⟨(by unfold bTaken_r; simp only [if_neg c_2, if_neg c_20, if_neg c_29, if_pos c_36, if_pos s_0]), rfl, rfl⟩
          by_cases s_1 : b = 1
          · refine r_tableIn (off := 34) h.ok 86 dX5_taken_52 (by rw [s_1]; decide) (by rw [s_1]; decide) (by rw [s_1]; rfl) (by decide) ?_
            refine r_aload h.ok dX5_taken_86 0 rfl ?_
            refine r_get (v := .int (I 4 c.toNatClampNeg 1)) h.ok 1 dX5_taken_88 (xo_4 (Nat.lt_of_lt_of_le (vp_lt (pI_n0.mp c_2)) klc) _) rfl inX1 (by decide) wfl_X5_67 rfl ?_
            refine r_iret h dX5_taken_91 ⟨by decide, by decide⟩ ⟨(by unfold bTaken_r; simp only [if_neg c_2, if_neg c_20, if_neg c_29, if_pos c_36, if_neg s_0, if_pos s_1]), rfl, rfl⟩
          by_cases s_2 : b = 2
          · refine r_tableIn (off := 40) h.ok 92 dX5_taken_52 (by rw [s_2]; decide) (by rw [s_2]; decide) (by rw [s_2]; rfl) (by decide) ?_
            refine r_aload h.ok dX5_taken_92 0 rfl ?_
            refine r_get (v := .int (I 4 c.toNatClampNeg 2)) h.ok 2 dX5_taken_94 (xo_4 (Nat.lt_of_lt_of_le (vp_lt (pI_n0.mp c_2)) klc) _) rfl inX1 (by decide) wfl_X5_70 rfl ?_
            refine r_iret h dX5_taken_97 ⟨by decide, by decide⟩ ⟨(by unfold bTaken_r; simp only [if_neg c_2, if_neg c_20, if_neg c_29, if_pos c_36, if_neg s_0, if_neg s_1, if_pos s_2]), rfl, rfl⟩
          refine r_tableOut h.ok 98 dX5_taken_52 (gOut2 s_0 s_1 s_2) (by decide) ?_
          refine r_aload h.ok dX5_taken_98 0 rfl ?_
          refine r_get (v := .int (I 4 c.toNatClampNeg 3)) h.ok 3 dX5_taken_100 (xo_4 (Nat.lt_of_lt_of_le (vp_lt (pI_n0.mp c_2)) klc) _) rfl inX1 (by decide) wfl_X5_73 rfl ?_
          refine r_iret h dX5_taken_103 ⟨by decide, by decide⟩ ⟨(by unfold bTaken_r; simp only [if_neg c_2, if_neg c_20, if_neg c_29, if_pos c_36, if_neg s_0, if_neg s_1, if_neg s_2]), rfl, rfl⟩
        · refine r_iload_n h.ok dX5_taken_39 3 rfl ?_
          refine r_aload h.ok dX5_taken_40 0 rfl ?_
          refine r_get (v := .int (I 4 c.toNatClampNeg 0)) h.ok 0 dX5_taken_42 (xo_4 (Nat.lt_of_lt_of_le (vp_lt (pI_n0.mp c_2)) klc) _) rfl inX1 (by decide) wfl_X5_64 rfl ?_
          refine r_icmp_eq h.ok 51 dX5_taken_45 (by decide) (fun c_45 => ?_) (fun c_45 => ?_)
          · refine r_iload_n h.ok dX5_taken_51 4 rfl ?_
            by_cases s_0 : b = 0
            · refine r_tableIn (off := 28) h.ok 80 dX5_taken_52 (by rw [s_0]; decide) (by rw [s_0]; decide) (by rw [s_0]; rfl) (by decide) ?_
              refine r_aload h.ok dX5_taken_80 0 rfl ?_
              refine r_get (v := .int (I 4 c.toNatClampNeg 0)) h.ok 0 dX5_taken_82 (xo_4 (Nat.lt_of_lt_of_le (vp_lt (pI_n0.mp c_2)) klc) _) rfl inX1 (by decide) wfl_X5_64 rfl ?_
              refine r_iret h dX5_taken_85 ⟨by decide, by decide⟩ ⟨(by unfold bTaken_r; simp only [if_neg c_2, if_neg c_20, if_neg c_29, if_neg c_36, if_pos c_45, if_pos s_0]), rfl, rfl⟩
            by_cases s_1 : b = 1
            · refine r_tableIn (off := 34) h.ok 86 dX5_taken_52 (by rw [s_1]; decide) (by rw [s_1]; decide) (by rw [s_1]; rfl) (by decide) ?_
              refine r_aload h.ok dX5_taken_86 0 rfl ?_
              refine r_get (v := .int (I 4 c.toNatClampNeg 1)) h.ok 1 dX5_taken_88 (xo_4 (Nat.lt_of_lt_of_le (vp_lt (pI_n0.mp c_2)) klc) _) rfl inX1 (by decide) wfl_X5_67 rfl ?_
              refine r_iret h dX5_taken_91 ⟨by decide, by decide⟩ ⟨(by unfold bTaken_r; simp only [if_neg c_2, if_neg c_20, if_neg c_29, if_neg c_36, if_pos c_45, if_neg s_0, if_pos s_1]), rfl, rfl⟩
            by_cases s_2 : b = 2
            · refine r_tableIn (off := 40) h.ok 92 dX5_taken_52 (by rw [s_2]; decide) (by rw [s_2]; decide) (by rw [s_2]; rfl) (by decide) ?_
              refine r_aload h.ok dX5_taken_92 0 rfl ?_
              refine r_get (v := .int (I 4 c.toNatClampNeg 2)) h.ok 2 dX5_taken_94 (xo_4 (Nat.lt_of_lt_of_le (vp_lt (pI_n0.mp c_2)) klc) _) rfl inX1 (by decide) wfl_X5_70 rfl ?_
              refine r_iret h dX5_taken_97 ⟨by decide, by decide⟩ ⟨(by unfold bTaken_r; simp only [if_neg c_2, if_neg c_20, if_neg c_29, if_neg c_36, if_pos c_45, if_neg s_0, if_neg s_1, if_pos s_2]), rfl, rfl⟩
            refine r_tableOut h.ok 98 dX5_taken_52 (gOut2 s_0 s_1 s_2) (by decide) ?_
            refine r_aload h.ok dX5_taken_98 0 rfl ?_
            refine r_get (v := .int (I 4 c.toNatClampNeg 3)) h.ok 3 dX5_taken_100 (xo_4 (Nat.lt_of_lt_of_le (vp_lt (pI_n0.mp c_2)) klc) _) rfl inX1 (by decide) wfl_X5_73 rfl ?_
            refine r_iret h dX5_taken_103 ⟨by decide, by decide⟩ ⟨(by unfold bTaken_r; simp only [if_neg c_2, if_neg c_20, if_neg c_29, if_neg c_36, if_pos c_45, if_neg s_0, if_neg s_1, if_neg s_2]), rfl, rfl⟩
          · refine r_bipush (v := (-13)) h.ok dX5_taken_48 (by decide) ?_
            refine r_iret h dX5_taken_50 ⟨by decide, by decide⟩ ⟨(by unfold bTaken_r; simp only [if_neg c_2, if_neg c_20, if_neg c_29, if_neg c_36, if_neg c_45]), rfl, rfl⟩
      · refine r_bipush (v := (-2)) h.ok dX5_taken_32 (by decide) ?_
        refine r_iret h dX5_taken_34 ⟨by decide, by decide⟩ ⟨(by unfold bTaken_r; simp only [if_neg c_2, if_neg c_20, if_pos c_29]), rfl, rfl⟩
noncomputable def bWithhold_r (I : gI) (F : gF) (nc : Nat) (c a : Int32) : Int32 := (if pI (vp_in c nc) = 0 then (-1) else (if (pI (mIn a 0 200000)) = 0 then (-2) else I 4 c.toNatClampNeg 7))
noncomputable def bWithhold_I (I : gI) (F : gF) (nc : Nat) (c a : Int32) : gI := (if pI (vp_in c nc) = 0 then I else (if (pI (mIn a 0 200000)) = 0 then I else gs I 4 c.toNatClampNeg 7 a))
set_option maxHeartbeats 4000000 in
set_option maxRecDepth 100000 in
theorem c_X5_withhold (D : va_G) (E : gEc) (ad : gAd) (I : gI) (F : gF) (lc ln : Nat) (nc nv nw : Nat) (hC : CI I F lc ln nc nv nw) (c a : Int32) : gCon D E yX5_withhold cX5_withhold 5 (some .int) 2 0 0 [.ref (ad 0 0), .int c, .int a] ad (cX E ad I F lc ln) (gPd (some (.int (bWithhold_r I F nc c a))) ad (cX E ad (bWithhold_I I F nc c a) F lc ln)) := by
  refine gCon.of (by decide) (Nat.le_of_ble_eq_true rfl) ?_
  intro l A Rn h
  have hC0 := hC
  obtain ⟨kn, k12, klc, kf2, kv, k500, kln, kf3, kw, kw12, kq, kb, kc⟩ := hC
  have hbv := hC0.hbv
  show Rn 0 [(0, .ref (ad 0 0)), (1, .int c), (2, .int a)] [] ad (cX E ad I F lc ln) 0 0
  refine r_aload_n h.ok dX5_withhold_0 0 rfl ?_
  refine r_iload_n h.ok dX5_withhold_1 1 rfl ?_
  by_cases c_2 : pI (vp_in c nc) = 0
  · refine r_callV h.ok [.int c] [] dX5_withhold_2 (c_X5_cowAt_n D E ad I F lc ln nc nv nw hC0 c (pI_0.mp c_2)) wml_X5_60 wim_X5_cowAt wse_X5_cowAt win_X5 wco_X5_cowAt yok_X5_cowAt (xo_0 _) rfl rfl ⟨by decide, by decide, by simp [gRm], by simp [gRm]⟩ (Nat.le_of_ble_eq_true rfl) rfl ?_
    show Rn 5 [(0, .ref (ad 0 0)), (1, .int c), (2, .int a)] [.null] ad (cX E ad I F lc ln) 0 0
    refine r_astore_nN (lv' := [(3, .null), (0, .ref (ad 0 0)), (1, .int c), (2, .int a)]) h.ok dX5_withhold_5 (by decide) rfl ?_
    refine r_aload_nN h.ok dX5_withhold_6 0 rfl ?_
    refine r_ifnonnullN h.ok dX5_withhold_7 ?_
    refine r_iconst (v := (-1)) h.ok dX5_withhold_10 (by decide) ?_
    refine r_iret h dX5_withhold_11 ⟨by decide, by decide⟩ ⟨(by unfold bWithhold_r; simp only [if_pos c_2]), rfl, (by unfold bWithhold_I; simp only [if_pos c_2])⟩
  · refine r_callV h.ok [.int c] [] dX5_withhold_2 (c_X5_cowAt_s D E ad I F lc ln nc nv nw hC0 c c.toNatClampNeg (vp_eq (pI_n0.mp c_2)) (vp_lt (pI_n0.mp c_2))) wml_X5_60 wim_X5_cowAt wse_X5_cowAt win_X5 wco_X5_cowAt yok_X5_cowAt (xo_0 _) rfl rfl ⟨by decide, by decide, by simp [gRm], by simp [gRm]⟩ (Nat.le_of_ble_eq_true rfl) rfl ?_
    show Rn 5 [(0, .ref (ad 0 0)), (1, .int c), (2, .int a)] [.ref (ad 4 c.toNatClampNeg)] ad (cX E ad I F lc ln) 0 0
    refine r_astore_n (lv' := [(3, .ref (ad 4 c.toNatClampNeg)), (0, .ref (ad 0 0)), (1, .int c), (2, .int a)]) h.ok dX5_withhold_5 (by decide) rfl ?_
    refine r_aload_n h.ok dX5_withhold_6 0 rfl ?_
    refine r_ifnonnull h.ok 12 dX5_withhold_7 (by decide) ?_
    refine r_iload_n h.ok dX5_withhold_12 3 rfl ?_
    refine r_iconst (v := 0) h.ok dX5_withhold_13 (by decide) ?_
    refine r_ldc h.ok dX5_withhold_14 wk_X5_76 ?_
    refine r_callS h.ok [.int a, .int 0, .int 200000] [] dX5_withhold_16 (c_X5_within D E ad I F lc ln a 0 200000) wml_X5_46 wst_X5_within win_X5 wco_X5_within yok_X5_within ⟨by decide, by decide, by simp [gRm], by simp [gRm]⟩ (Nat.le_of_ble_eq_true rfl) rfl ?_
    show Rn 19 [(3, .ref (ad 4 c.toNatClampNeg)), (0, .ref (ad 0 0)), (1, .int c), (2, .int a)] [.int (pI (mIn a 0 200000))] ad (cX E ad I F lc ln) 0 0
    refine r_if_ne h.ok 25 dX5_withhold_19 (by decide) (fun c_19 => ?_) (fun c_19 => ?_)
    · refine r_aload_n h.ok dX5_withhold_25 0 rfl ?_
      refine r_get (v := .int (I 4 c.toNatClampNeg 7)) h.ok 7 dX5_withhold_26 (xo_4 (Nat.lt_of_lt_of_le (vp_lt (pI_n0.mp c_2)) klc) _) rfl inX1 (by decide) wfl_X5_77 rfl ?_
      refine r_istore (lv' := [(4, .int (I 4 c.toNatClampNeg 7)), (3, .ref (ad 4 c.toNatClampNeg)), (0, .ref (ad 0 0)), (1, .int c), (2, .int a)]) h.ok dX5_withhold_29 (by decide) rfl ?_
      refine r_aload_n h.ok dX5_withhold_31 1 rfl ?_
      refine r_iload_n h.ok dX5_withhold_32 4 rfl ?_
      refine r_put (ty := tyX1) h.ok 7 dX5_withhold_33 (xo_4 (Nat.lt_of_lt_of_le (vp_lt (pI_n0.mp c_2)) klc) _) rfl inX1 tyX1_ok nmX1 (by decide) wfl_X5_77 rfl rfl rfl (by simp) (cX_put (r' := upd (I 4 c.toNatClampNeg) 7 a) (xo_4 (Nat.lt_of_lt_of_le (vp_lt (pI_n0.mp c_2)) klc) _)) ?_
      refine r_iload h.ok dX5_withhold_36 0 rfl ?_
      refine r_iret h dX5_withhold_38 ⟨by decide, by decide⟩ ⟨(by unfold bWithhold_r; simp only [if_neg c_2, if_neg c_19]), rfl, (by unfold bWithhold_I; simp only [if_neg c_2, if_neg c_19])⟩
    · refine r_bipush (v := (-2)) h.ok dX5_withhold_22 (by decide) ?_
      refine r_iret h dX5_withhold_24 ⟨by decide, by decide⟩ ⟨(by unfold bWithhold_r; simp only [if_neg c_2, if_pos c_19]), rfl, (by unfold bWithhold_I; simp only [if_neg c_2, if_pos c_19])⟩
theorem mIn_4 {t : Int32} (ht : mIn t 0 3) : vp_in t 4 := by
  obtain ⟨h1, h2⟩ := ht
  rw [vp_in_iff]
  rw [Int32.lt_iff_toInt_lt] at h1 h2
  have e0 : (0 : Int32).toInt = 0 := by decide
  have e3 : (3 : Int32).toInt = 3 := by decide
  rw [e0] at h1
  rw [e3] at h2
  omega
noncomputable def bTrouble_r (I : gI) (F : gF) (nc : Nat) (c a b : Int32) : Int32 := (if pI (vp_in c nc) = 0 then (-1) else (if (pI (mIn a 0 3)) = 0 then (-1) else (if (pI (mIn b 0 9)) = 0 then (-2) else I 5 c.toNatClampNeg a.toNatClampNeg)))
noncomputable def bTrouble_I (I : gI) (F : gF) (nc : Nat) (c a b : Int32) : gI := (if pI (vp_in c nc) = 0 then I else (if (pI (mIn a 0 3)) = 0 then I else (if (pI (mIn b 0 9)) = 0 then I else gs I 5 c.toNatClampNeg a.toNatClampNeg b)))
set_option maxHeartbeats 4000000 in
set_option maxRecDepth 100000 in
theorem c_X5_trouble (D : va_G) (E : gEc) (ad : gAd) (I : gI) (F : gF) (lc ln : Nat) (nc nv nw : Nat) (hC : CI I F lc ln nc nv nw) (c a b : Int32) : gCon D E yX5_trouble cX5_trouble 6 (some .int) 2 0 0 [.ref (ad 0 0), .int c, .int a, .int b] ad (cX E ad I F lc ln) (gPd (some (.int (bTrouble_r I F nc c a b))) ad (cX E ad (bTrouble_I I F nc c a b) F lc ln)) := by
  refine gCon.of (by decide) (Nat.le_of_ble_eq_true rfl) ?_
  intro l A Rn h
  have hC0 := hC
  obtain ⟨kn, k12, klc, kf2, kv, k500, kln, kf3, kw, kw12, kq, kb, kc⟩ := hC
  have hbv := hC0.hbv
  show Rn 0 [(0, .ref (ad 0 0)), (1, .int c), (2, .int a), (3, .int b)] [] ad (cX E ad I F lc ln) 0 0
  refine r_aload_n h.ok dX5_trouble_0 0 rfl ?_
  refine r_iload_n h.ok dX5_trouble_1 1 rfl ?_
  by_cases c_2 : pI (vp_in c nc) = 0
  · refine r_callV h.ok [.int c] [] dX5_trouble_2 (c_X5_cowAt_n D E ad I F lc ln nc nv nw hC0 c (pI_0.mp c_2)) wml_X5_60 wim_X5_cowAt wse_X5_cowAt win_X5 wco_X5_cowAt yok_X5_cowAt (xo_0 _) rfl rfl ⟨by decide, by decide, by simp [gRm], by simp [gRm]⟩ (Nat.le_of_ble_eq_true rfl) rfl ?_
    show Rn 5 [(0, .ref (ad 0 0)), (1, .int c), (2, .int a), (3, .int b)] [.null] ad (cX E ad I F lc ln) 0 0
    refine r_astoreN (lv' := [(4, .null), (0, .ref (ad 0 0)), (1, .int c), (2, .int a), (3, .int b)]) h.ok dX5_trouble_5 (by decide) rfl ?_
    refine r_aloadN h.ok dX5_trouble_7 0 rfl ?_
    refine r_ifnullN h.ok 21 dX5_trouble_9 (by decide) ?_
    refine r_iconst (v := (-1)) h.ok dX5_trouble_21 (by decide) ?_
    refine r_iret h dX5_trouble_22 ⟨by decide, by decide⟩ ⟨(by unfold bTrouble_r; simp only [if_pos c_2]), rfl, (by unfold bTrouble_I; simp only [if_pos c_2])⟩
  · refine r_callV h.ok [.int c] [] dX5_trouble_2 (c_X5_cowAt_s D E ad I F lc ln nc nv nw hC0 c c.toNatClampNeg (vp_eq (pI_n0.mp c_2)) (vp_lt (pI_n0.mp c_2))) wml_X5_60 wim_X5_cowAt wse_X5_cowAt win_X5 wco_X5_cowAt yok_X5_cowAt (xo_0 _) rfl rfl ⟨by decide, by decide, by simp [gRm], by simp [gRm]⟩ (Nat.le_of_ble_eq_true rfl) rfl ?_
    show Rn 5 [(0, .ref (ad 0 0)), (1, .int c), (2, .int a), (3, .int b)] [.ref (ad 4 c.toNatClampNeg)] ad (cX E ad I F lc ln) 0 0
    refine r_astore (lv' := [(4, .ref (ad 4 c.toNatClampNeg)), (0, .ref (ad 0 0)), (1, .int c), (2, .int a), (3, .int b)]) h.ok dX5_trouble_5 (by decide) rfl ?_
    refine r_aload h.ok dX5_trouble_7 0 rfl ?_
    refine r_ifnull h.ok dX5_trouble_9 ?_
    refine r_iload_n h.ok dX5_trouble_12 3 rfl ?_
    refine r_iconst (v := 0) h.ok dX5_trouble_13 (by decide) ?_
    refine r_iconst (v := 3) h.ok dX5_trouble_14 (by decide) ?_
    refine r_callS h.ok [.int a, .int 0, .int 3] [] dX5_trouble_15 (c_X5_within D E ad I F lc ln a 0 3) wml_X5_46 wst_X5_within win_X5 wco_X5_within yok_X5_within ⟨by decide, by decide, by simp [gRm], by simp [gRm]⟩ (Nat.le_of_ble_eq_true rfl) rfl ?_
    show Rn 18 [(4, .ref (ad 4 c.toNatClampNeg)), (0, .ref (ad 0 0)), (1, .int c), (2, .int a), (3, .int b)] [.int (pI (mIn a 0 3))] ad (cX E ad I F lc ln) 0 0
    refine r_if_ne h.ok 23 dX5_trouble_18 (by decide) (fun c_18 => ?_) (fun c_18 => ?_)
    · refine r_iload_n h.ok dX5_trouble_23 4 rfl ?_
      refine r_iconst (v := 0) h.ok dX5_trouble_24 (by decide) ?_
      refine r_bipush (v := 9) h.ok dX5_trouble_25 (by decide) ?_
      refine r_callS h.ok [.int b, .int 0, .int 9] [] dX5_trouble_27 (c_X5_within D E ad I F lc ln b 0 9) wml_X5_46 wst_X5_within win_X5 wco_X5_within yok_X5_within ⟨by decide, by decide, by simp [gRm], by simp [gRm]⟩ (Nat.le_of_ble_eq_true rfl) rfl ?_
      show Rn 30 [(4, .ref (ad 4 c.toNatClampNeg)), (0, .ref (ad 0 0)), (1, .int c), (2, .int a), (3, .int b)] [.int (pI (mIn b 0 9))] ad (cX E ad I F lc ln) 0 0
      refine r_if_ne h.ok 36 dX5_trouble_30 (by decide) (fun c_30 => ?_) (fun c_30 => ?_)
      · refine r_aload h.ok dX5_trouble_36 0 rfl ?_
        refine r_get h.ok 4 dX5_trouble_38 (xo_4 (Nat.lt_of_lt_of_le (vp_lt (pI_n0.mp c_2)) klc) _) rfl inX1 (by decide) wfl_X5_80 rfl ?_
        refine r_iload_n h.ok dX5_trouble_41 3 rfl ?_
        refine x_ialp (v := I 5 c.toNatClampNeg a.toNatClampNeg) h.ok dX5_trouble_42 (xo_5 (Nat.lt_of_lt_of_le (vp_lt (pI_n0.mp c_2)) klc) _) (mIn_4 (pI_n0.mp c_18)) rfl ?_
        refine r_istore (lv' := [(5, .int (I 5 c.toNatClampNeg a.toNatClampNeg)), (4, .ref (ad 4 c.toNatClampNeg)), (0, .ref (ad 0 0)), (1, .int c), (2, .int a), (3, .int b)]) h.ok dX5_trouble_43 (by decide) rfl ?_
        refine r_aload h.ok dX5_trouble_45 1 rfl ?_
        refine r_get h.ok 4 dX5_trouble_47 (xo_4 (Nat.lt_of_lt_of_le (vp_lt (pI_n0.mp c_2)) klc) _) rfl inX1 (by decide) wfl_X5_80 rfl ?_
        refine r_iload_n h.ok dX5_trouble_50 4 rfl ?_
        refine r_iload_n h.ok dX5_trouble_51 5 rfl ?_
        refine x_iasp h.ok dX5_trouble_52 (xo_5 (Nat.lt_of_lt_of_le (vp_lt (pI_n0.mp c_2)) klc)) (mIn_4 (pI_n0.mp c_18)) ?_
        refine r_iload h.ok dX5_trouble_53 0 rfl ?_
        refine r_iret h dX5_trouble_55 ⟨by decide, by decide⟩ ⟨(by unfold bTrouble_r; simp only [if_neg c_2, if_neg c_18, if_neg c_30]), rfl, (by unfold bTrouble_I; simp only [if_neg c_2, if_neg c_18, if_neg c_30])⟩
      · refine r_bipush (v := (-2)) h.ok dX5_trouble_33 (by decide) ?_
        refine r_iret h dX5_trouble_35 ⟨by decide, by decide⟩ ⟨(by unfold bTrouble_r; simp only [if_neg c_2, if_neg c_18, if_pos c_30]), rfl, (by unfold bTrouble_I; simp only [if_neg c_2, if_neg c_18, if_pos c_30])⟩
    · refine r_iconst (v := (-1)) h.ok dX5_trouble_21 (by decide) ?_
      refine r_iret h dX5_trouble_22 ⟨by decide, by decide⟩ ⟨(by unfold bTrouble_r; simp only [if_neg c_2, if_pos c_18]), rfl, (by unfold bTrouble_I; simp only [if_neg c_2, if_pos c_18])⟩
noncomputable def bAbout_r (I : gI) (F : gF) (nc nw : Nat) (c a : Int32) : Int32 := (if pI (vp_in c nc) = 0 then (-1) else (if (pI (mIn a 0 6)) = 0 then (-2) else (if a = 0 then bMilkAt_r I F c.toNatClampNeg (I 0 0 7) else (if a = 1 then I 4 c.toNatClampNeg 10 else (if a = 2 then bNum_r I F (bRight_r I F c.toNatClampNeg (I 0 0 7)) else (if a = 3 then bFedOn_r I F c.toNatClampNeg ((I 0 0 7) / 1440) else (if a = 4 then bPlace I F nw c else (if a = 5 then I 4 c.toNatClampNeg 11 else I 4 c.toNatClampNeg 6))))))))
set_option maxHeartbeats 4000000 in
set_option maxRecDepth 100000 in
theorem c_X5_about (D : va_G) (E : gEc) (ad : gAd) (I : gI) (F : gF) (lc ln : Nat) (nc nv nw : Nat) (hC : CI I F lc ln nc nv nw) (c a : Int32) : gCon D E yX5_about cX5_about 4 (some .int) 2 0 0 [.ref (ad 0 0), .int c, .int a] ad (cX E ad I F lc ln) (gPd (some (.int (bAbout_r I F nc nw c a))) ad (cX E ad I F lc ln)) := by
  refine gCon.of (by decide) (Nat.le_of_ble_eq_true rfl) ?_
  intro l A Rn h
  have hC0 := hC
  obtain ⟨kn, k12, klc, kf2, kv, k500, kln, kf3, kw, kw12, kq, kb, kc⟩ := hC
  have hbv := hC0.hbv
  show Rn 0 [(0, .ref (ad 0 0)), (1, .int c), (2, .int a)] [] ad (cX E ad I F lc ln) 0 0
  refine r_aload_n h.ok dX5_about_0 0 rfl ?_
  refine r_iload_n h.ok dX5_about_1 1 rfl ?_
  by_cases c_2 : pI (vp_in c nc) = 0
  · refine r_callV h.ok [.int c] [] dX5_about_2 (c_X5_cowAt_n D E ad I F lc ln nc nv nw hC0 c (pI_0.mp c_2)) wml_X5_60 wim_X5_cowAt wse_X5_cowAt win_X5 wco_X5_cowAt yok_X5_cowAt (xo_0 _) rfl rfl ⟨by decide, by decide, by simp [gRm], by simp [gRm]⟩ (Nat.le_of_ble_eq_true rfl) rfl ?_
    show Rn 5 [(0, .ref (ad 0 0)), (1, .int c), (2, .int a)] [.null] ad (cX E ad I F lc ln) 0 0
    refine r_astore_nN (lv' := [(3, .null), (0, .ref (ad 0 0)), (1, .int c), (2, .int a)]) h.ok dX5_about_5 (by decide) rfl ?_
    refine r_aload_nN h.ok dX5_about_6 0 rfl ?_
    refine r_ifnonnullN h.ok dX5_about_7 ?_
    refine r_iconst (v := (-1)) h.ok dX5_about_10 (by decide) ?_
    refine r_iret h dX5_about_11 ⟨by decide, by decide⟩ ⟨(by unfold bAbout_r; simp only [if_pos c_2]), rfl, rfl⟩
  · refine r_callV h.ok [.int c] [] dX5_about_2 (c_X5_cowAt_s D E ad I F lc ln nc nv nw hC0 c c.toNatClampNeg (vp_eq (pI_n0.mp c_2)) (vp_lt (pI_n0.mp c_2))) wml_X5_60 wim_X5_cowAt wse_X5_cowAt win_X5 wco_X5_cowAt yok_X5_cowAt (xo_0 _) rfl rfl ⟨by decide, by decide, by simp [gRm], by simp [gRm]⟩ (Nat.le_of_ble_eq_true rfl) rfl ?_
    show Rn 5 [(0, .ref (ad 0 0)), (1, .int c), (2, .int a)] [.ref (ad 4 c.toNatClampNeg)] ad (cX E ad I F lc ln) 0 0
    refine r_astore_n (lv' := [(3, .ref (ad 4 c.toNatClampNeg)), (0, .ref (ad 0 0)), (1, .int c), (2, .int a)]) h.ok dX5_about_5 (by decide) rfl ?_
    refine r_aload_n h.ok dX5_about_6 0 rfl ?_
    refine r_ifnonnull h.ok 12 dX5_about_7 (by decide) ?_
    refine r_iload_n h.ok dX5_about_12 3 rfl ?_
    refine r_iconst (v := 0) h.ok dX5_about_13 (by decide) ?_
    refine r_bipush (v := 6) h.ok dX5_about_14 (by decide) ?_
    refine r_callS h.ok [.int a, .int 0, .int 6] [] dX5_about_16 (c_X5_within D E ad I F lc ln a 0 6) wml_X5_46 wst_X5_within win_X5 wco_X5_within yok_X5_within ⟨by decide, by decide, by simp [gRm], by simp [gRm]⟩ (Nat.le_of_ble_eq_true rfl) rfl ?_
    show Rn 19 [(3, .ref (ad 4 c.toNatClampNeg)), (0, .ref (ad 0 0)), (1, .int c), (2, .int a)] [.int (pI (mIn a 0 6))] ad (cX E ad I F lc ln) 0 0
    refine r_if_ne h.ok 25 dX5_about_19 (by decide) (fun c_19 => ?_) (fun c_19 => ?_)
    · refine r_iload_n h.ok dX5_about_25 3 rfl ?_
      by_cases s_0 : a = 0
      · refine r_tableIn (off := 38) h.ok 64 dX5_about_26 (by rw [s_0]; decide) (by rw [s_0]; decide) (by rw [s_0]; rfl) (by decide) ?_
        refine r_aload_n h.ok dX5_about_64 0 rfl ?_
        refine r_aload_n h.ok dX5_about_65 1 rfl ?_
        refine r_get (v := .int (I 0 0 7)) h.ok 7 dX5_about_66 (xo_0 _) rfl inX5 (by decide) wfl_X5_54 rfl ?_
        refine r_callV h.ok [.int (I 0 0 7)] [] dX5_about_69 (c_X1_milkAt D E ad I F lc ln c.toNatClampNeg (Nat.lt_of_lt_of_le (vp_lt (pI_n0.mp c_2)) klc) (I 0 0 7)) wml_X5_84 wim_X1_milkAt wse_X1_milkAt win_X1 wco_X1_milkAt yok_X1_milkAt (xo_4 (Nat.lt_of_lt_of_le (vp_lt (pI_n0.mp c_2)) klc) _) rfl rfl ⟨by decide, by decide, by simp [gRm], by simp [gRm]⟩ (Nat.le_of_ble_eq_true rfl) rfl ?_
        show Rn 72 [(3, .ref (ad 4 c.toNatClampNeg)), (0, .ref (ad 0 0)), (1, .int c), (2, .int a)] [.int (bMilkAt_r I F c.toNatClampNeg (I 0 0 7))] ad (cX E ad I F lc ln) 0 0
        refine r_iret h dX5_about_72 ⟨by decide, by decide⟩ ⟨(by unfold bAbout_r; simp only [if_neg c_2, if_neg c_19, if_pos s_0]), rfl, rfl⟩
      by_cases s_1 : a = 1
      · refine r_tableIn (off := 47) h.ok 73 dX5_about_26 (by rw [s_1]; decide) (by rw [s_1]; decide) (by rw [s_1]; rfl) (by decide) ?_
        refine r_aload_n h.ok dX5_about_73 0 rfl ?_
        refine r_get (v := .int (I 4 c.toNatClampNeg 10)) h.ok 10 dX5_about_74 (xo_4 (Nat.lt_of_lt_of_le (vp_lt (pI_n0.mp c_2)) klc) _) rfl inX1 (by decide) wfl_X5_88 rfl ?_
        refine r_iret h dX5_about_77 ⟨by decide, by decide⟩ ⟨(by unfold bAbout_r; simp only [if_neg c_2, if_neg c_19, if_neg s_0, if_pos s_1]), rfl, rfl⟩
      by_cases s_2 : a = 2
      · refine r_tableIn (off := 52) h.ok 78 dX5_about_26 (by rw [s_2]; decide) (by rw [s_2]; decide) (by rw [s_2]; rfl) (by decide) ?_
        refine r_aload_n h.ok dX5_about_78 0 rfl ?_
        refine r_aload_n h.ok dX5_about_79 1 rfl ?_
        refine r_get (v := .int (I 0 0 7)) h.ok 7 dX5_about_80 (xo_0 _) rfl inX5 (by decide) wfl_X5_54 rfl ?_
        refine r_callV h.ok [.int (I 0 0 7)] [] dX5_about_83 (c_X1_hasRightAt D E ad I F lc ln c.toNatClampNeg (Nat.lt_of_lt_of_le (vp_lt (pI_n0.mp c_2)) klc) (I 0 0 7)) wml_X5_91 wim_X1_hasRightAt wse_X1_hasRightAt win_X1 wco_X1_hasRightAt yok_X1_hasRightAt (xo_4 (Nat.lt_of_lt_of_le (vp_lt (pI_n0.mp c_2)) klc) _) rfl rfl ⟨by decide, by decide, by simp [gRm], by simp [gRm]⟩ (Nat.le_of_ble_eq_true rfl) rfl ?_
        show Rn 86 [(3, .ref (ad 4 c.toNatClampNeg)), (0, .ref (ad 0 0)), (1, .int c), (2, .int a)] [.int (bRight_r I F c.toNatClampNeg (I 0 0 7))] ad (cX E ad I F lc ln) 0 0
        refine r_callS h.ok [.int (bRight_r I F c.toNatClampNeg (I 0 0 7))] [] dX5_about_86 (c_X5_asNumber D E ad I F lc ln (bRight_r I F c.toNatClampNeg (I 0 0 7))) wml_X5_95 wst_X5_asNumber win_X5 wco_X5_asNumber yok_X5_asNumber ⟨by decide, by decide, by simp [gRm], by simp [gRm]⟩ (Nat.le_of_ble_eq_true rfl) rfl ?_
        show Rn 89 [(3, .ref (ad 4 c.toNatClampNeg)), (0, .ref (ad 0 0)), (1, .int c), (2, .int a)] [.int (bNum_r I F (bRight_r I F c.toNatClampNeg (I 0 0 7)))] ad (cX E ad I F lc ln) 0 0
        refine r_iret h dX5_about_89 ⟨by decide, by decide⟩ ⟨(by unfold bAbout_r; simp only [if_neg c_2, if_neg c_19, if_neg s_0, if_neg s_1, if_pos s_2]), rfl, rfl⟩
      by_cases s_3 : a = 3
      · refine r_tableIn (off := 64) h.ok 90 dX5_about_26 (by rw [s_3]; decide) (by rw [s_3]; decide) (by rw [s_3]; rfl) (by decide) ?_
        refine r_aload_n h.ok dX5_about_90 0 rfl ?_
        refine r_aload_n h.ok dX5_about_91 1 rfl ?_
        refine r_get (v := .int (I 0 0 7)) h.ok 7 dX5_about_92 (xo_0 _) rfl inX5 (by decide) wfl_X5_54 rfl ?_
        refine r_sipush (v := 1440) h.ok dX5_about_95 (by decide) ?_
        refine r_idiv h.ok dX5_about_98 (by decide) ?_
        refine r_callV h.ok [.int ((I 0 0 7) / 1440)] [] dX5_about_99 (c_X1_fedOn D E ad I F lc ln c.toNatClampNeg (Nat.lt_of_lt_of_le (vp_lt (pI_n0.mp c_2)) klc) ((I 0 0 7) / 1440)) wml_X5_99 wim_X1_fedOn wse_X1_fedOn win_X1 wco_X1_fedOn yok_X1_fedOn (xo_4 (Nat.lt_of_lt_of_le (vp_lt (pI_n0.mp c_2)) klc) _) rfl rfl ⟨by decide, by decide, by simp [gRm], by simp [gRm]⟩ (Nat.le_of_ble_eq_true rfl) rfl ?_
        show Rn 102 [(3, .ref (ad 4 c.toNatClampNeg)), (0, .ref (ad 0 0)), (1, .int c), (2, .int a)] [.int (bFedOn_r I F c.toNatClampNeg ((I 0 0 7) / 1440))] ad (cX E ad I F lc ln) 0 0
        refine r_iret h dX5_about_102 ⟨by decide, by decide⟩ ⟨(by unfold bAbout_r; simp only [if_neg c_2, if_neg c_19, if_neg s_0, if_neg s_1, if_neg s_2, if_pos s_3]), rfl, rfl⟩
      by_cases s_4 : a = 4
      · refine r_tableIn (off := 77) h.ok 103 dX5_about_26 (by rw [s_4]; decide) (by rw [s_4]; decide) (by rw [s_4]; rfl) (by decide) ?_
        refine r_aload_n h.ok dX5_about_103 1 rfl ?_
        refine r_get h.ok 2 dX5_about_104 (xo_0 _) rfl inX5 (by decide) wfl_X5_24 rfl ?_
        refine r_iload_n h.ok dX5_about_107 2 rfl ?_
        refine r_callV h.ok [.int c] [] dX5_about_108 (c_X2_placeOf D E ad I F lc ln nc nv nw hC0 c) wml_X5_102 wim_X2_placeOf wse_X2_placeOf win_X2 wco_X2_placeOf yok_X2_placeOf (xo_1 _) rfl rfl ⟨by decide, by decide, by simp [gRm], by simp [gRm]⟩ (Nat.le_of_ble_eq_true rfl) rfl ?_
        show Rn 111 [(3, .ref (ad 4 c.toNatClampNeg)), (0, .ref (ad 0 0)), (1, .int c), (2, .int a)] [.int (bPlace I F nw c)] ad (cX E ad I F lc ln) 0 0
        refine r_iret h dX5_about_111 ⟨by decide, by decide⟩ ⟨(by unfold bAbout_r; simp only [if_neg c_2, if_neg c_19, if_neg s_0, if_neg s_1, if_neg s_2, if_neg s_3, if_pos s_4]), rfl, rfl⟩
      by_cases s_5 : a = 5
      · refine r_tableIn (off := 86) h.ok 112 dX5_about_26 (by rw [s_5]; decide) (by rw [s_5]; decide) (by rw [s_5]; rfl) (by decide) ?_
        refine r_aload_n h.ok dX5_about_112 0 rfl ?_
        refine r_get (v := .int (I 4 c.toNatClampNeg 11)) h.ok 11 dX5_about_113 (xo_4 (Nat.lt_of_lt_of_le (vp_lt (pI_n0.mp c_2)) klc) _) rfl inX1 (by decide) wfl_X5_105 rfl ?_
        refine r_iret h dX5_about_116 ⟨by decide, by decide⟩ ⟨(by unfold bAbout_r; simp only [if_neg c_2, if_neg c_19, if_neg s_0, if_neg s_1, if_neg s_2, if_neg s_3, if_neg s_4, if_pos s_5]), rfl, rfl⟩
      refine r_tableOut h.ok 117 dX5_about_26 (gOut5 s_0 s_1 s_2 s_3 s_4 s_5) (by decide) ?_
      refine r_aload_n h.ok dX5_about_117 0 rfl ?_
      refine r_get (v := .int (I 4 c.toNatClampNeg 6)) h.ok 6 dX5_about_118 (xo_4 (Nat.lt_of_lt_of_le (vp_lt (pI_n0.mp c_2)) klc) _) rfl inX1 (by decide) wfl_X5_108 rfl ?_
      refine r_iret h dX5_about_121 ⟨by decide, by decide⟩ ⟨(by unfold bAbout_r; simp only [if_neg c_2, if_neg c_19, if_neg s_0, if_neg s_1, if_neg s_2, if_neg s_3, if_neg s_4, if_neg s_5]), rfl, rfl⟩
    · refine r_bipush (v := (-2)) h.ok dX5_about_22 (by decide) ?_
      refine r_iret h dX5_about_24 ⟨by decide, by decide⟩ ⟨(by unfold bAbout_r; simp only [if_neg c_2, if_pos c_19]), rfl, rfl⟩
noncomputable def bBox_r (I : gI) (F : gF)  : Int32 := (if F 1 0 = none then (-9) else I 7 (bv F) 0)
set_option maxHeartbeats 4000000 in
set_option maxRecDepth 100000 in
theorem c_X5_box (D : va_G) (E : gEc) (ad : gAd) (I : gI) (F : gF) (lc ln : Nat) (nc nv nw : Nat) (hC : CI I F lc ln nc nv nw) : gCon D E yX5_box cX5_box 2 (some .int) 0 0 0 [.ref (ad 0 0)] ad (cX E ad I F lc ln) (gPd (some (.int (bBox_r I F ))) ad (cX E ad I F lc ln)) := by
  refine gCon.of (by decide) (Nat.le_of_ble_eq_true rfl) ?_
  intro l A Rn h
  have hC0 := hC
  obtain ⟨kn, k12, klc, kf2, kv, k500, kln, kf3, kw, kw12, kq, kb, kc⟩ := hC
  have hbv := hC0.hbv
  show Rn 0 [(0, .ref (ad 0 0))] [] ad (cX E ad I F lc ln) 0 0
  refine r_aload_n h.ok dX5_box_0 0 rfl ?_
  refine r_get h.ok 3 dX5_box_1 (xo_0 _) rfl inX5 (by decide) wfl_X5_31 rfl ?_
  by_cases c_4 : F 1 0 = none
  · refine r_get (v := .null) h.ok 0 dX5_box_4 (xo_2 _) rfl inX0 (by decide) wfl_X5_155 (by simp [c_4, va_rf, gf]) ?_
    refine r_astore_nN (lv' := [(1, .null), (0, .ref (ad 0 0))]) h.ok dX5_box_7 (by decide) rfl ?_
    refine r_aload_nN h.ok dX5_box_8 0 rfl ?_
    refine r_ifnonnullN h.ok dX5_box_9 ?_
    refine r_bipush (v := (-9)) h.ok dX5_box_12 (by decide) ?_
    refine r_goto h.ok 21 dX5_box_14 (by decide) ?_
    refine r_iret h dX5_box_21 ⟨by decide, by decide⟩ ⟨(by unfold bBox_r; simp only [if_pos c_4]), rfl, rfl⟩
  · refine r_get (v := .ref (ad 7 (bv F))) h.ok 0 dX5_box_4 (xo_2 _) rfl inX0 (by decide) wfl_X5_155 (by simp [(hbv c_4).1, va_rf, gf]) ?_
    refine r_astore_n (lv' := [(1, .ref (ad 7 (bv F))), (0, .ref (ad 0 0))]) h.ok dX5_box_7 (by decide) rfl ?_
    refine r_aload_n h.ok dX5_box_8 0 rfl ?_
    refine r_ifnonnull h.ok 17 dX5_box_9 (by decide) ?_
    refine r_aload_n h.ok dX5_box_17 0 rfl ?_
    refine r_get (v := .int (I 7 (bv F) 0)) h.ok 0 dX5_box_18 (xo_7 (hbv c_4).2 _) rfl inX4 (by decide) wfl_X5_159 rfl ?_
    refine r_iret h dX5_box_21 ⟨by decide, by decide⟩ ⟨(by unfold bBox_r; simp only [if_neg c_4]), rfl, rfl⟩
noncomputable def bQueue_r (I : gI) (F : gF) (nw : Nat) (a : Int32) : Int32 := (if pI (vp_in a nw) = 0 then (-9) else I 7 (qv F a.toNatClampNeg) 0)
set_option maxHeartbeats 4000000 in
set_option maxRecDepth 100000 in
theorem c_X5_queue (D : va_G) (E : gEc) (ad : gAd) (I : gI) (F : gF) (lc ln : Nat) (nc nv nw : Nat) (hC : CI I F lc ln nc nv nw) (a : Int32) : gCon D E yX5_queue cX5_queue 3 (some .int) 1 0 0 [.ref (ad 0 0), .int a] ad (cX E ad I F lc ln) (gPd (some (.int (bQueue_r I F nw a))) ad (cX E ad I F lc ln)) := by
  refine gCon.of (by decide) (Nat.le_of_ble_eq_true rfl) ?_
  intro l A Rn h
  have hC0 := hC
  obtain ⟨kn, k12, klc, kf2, kv, k500, kln, kf3, kw, kw12, kq, kb, kc⟩ := hC
  have hbv := hC0.hbv
  show Rn 0 [(0, .ref (ad 0 0)), (1, .int a)] [] ad (cX E ad I F lc ln) 0 0
  refine r_aload_n h.ok dX5_queue_0 0 rfl ?_
  refine r_get h.ok 2 dX5_queue_1 (xo_0 _) rfl inX5 (by decide) wfl_X5_24 rfl ?_
  refine r_iload_n h.ok dX5_queue_4 1 rfl ?_
  by_cases c_5 : pI (vp_in a nw) = 0
  · refine r_callV h.ok [.int a] [] dX5_queue_5 (c_X2_at_n D E ad I F lc ln nc nv nw hC0 a (pI_0.mp c_5)) wml_X5_162 wim_X2_at wse_X2_at win_X2 wco_X2_at yok_X2_at (xo_1 _) rfl rfl ⟨by decide, by decide, by simp [gRm], by simp [gRm]⟩ (Nat.le_of_ble_eq_true rfl) rfl ?_
    show Rn 8 [(0, .ref (ad 0 0)), (1, .int a)] [.null] ad (cX E ad I F lc ln) 0 0
    refine r_astore_nN (lv' := [(2, .null), (0, .ref (ad 0 0)), (1, .int a)]) h.ok dX5_queue_8 (by decide) rfl ?_
    refine r_aload_nN h.ok dX5_queue_9 0 rfl ?_
    refine r_ifnonnullN h.ok dX5_queue_10 ?_
    refine r_bipush (v := (-9)) h.ok dX5_queue_13 (by decide) ?_
    refine r_goto h.ok 22 dX5_queue_15 (by decide) ?_
    refine r_iret h dX5_queue_22 ⟨by decide, by decide⟩ ⟨(by unfold bQueue_r; simp only [if_pos c_5]), rfl, rfl⟩
  · refine r_callV h.ok [.int a] [] dX5_queue_5 (c_X2_at_s D E ad I F lc ln nc nv nw hC0 a a.toNatClampNeg (vp_eq (pI_n0.mp c_5)) (vp_lt (pI_n0.mp c_5))) wml_X5_162 wim_X2_at wse_X2_at win_X2 wco_X2_at yok_X2_at (xo_1 _) rfl rfl ⟨by decide, by decide, by simp [gRm], by simp [gRm]⟩ (Nat.le_of_ble_eq_true rfl) rfl ?_
    show Rn 8 [(0, .ref (ad 0 0)), (1, .int a)] [.ref (ad 7 (qv F a.toNatClampNeg))] ad (cX E ad I F lc ln) 0 0
    refine r_astore_n (lv' := [(2, .ref (ad 7 (qv F a.toNatClampNeg))), (0, .ref (ad 0 0)), (1, .int a)]) h.ok dX5_queue_8 (by decide) rfl ?_
    refine r_aload_n h.ok dX5_queue_9 0 rfl ?_
    refine r_ifnonnull h.ok 18 dX5_queue_10 (by decide) ?_
    refine r_aload_n h.ok dX5_queue_18 0 rfl ?_
    refine r_get (v := .int (I 7 (qv F a.toNatClampNeg) 0)) h.ok 0 dX5_queue_19 (xo_7 (Nat.lt_of_lt_of_le (kq a.toNatClampNeg (vp_lt (pI_n0.mp c_5))).2 kln) _) rfl inX4 (by decide) wfl_X5_159 rfl ?_
    refine r_iret h dX5_queue_22 ⟨by decide, by decide⟩ ⟨(by unfold bQueue_r; simp only [if_neg c_5]), rfl, rfl⟩
noncomputable def bEnds_r (I : gI) (F : gF)  : Int32 := (if (bBusy_r I F) = 0 then (-9) else I 2 0 4)
set_option maxHeartbeats 4000000 in
set_option maxRecDepth 100000 in
theorem c_X5_ends (D : va_G) (E : gEc) (ad : gAd) (I : gI) (F : gF) (lc ln : Nat) (nc nv nw : Nat) (hC : CI I F lc ln nc nv nw) : gCon D E yX5_ends cX5_ends 1 (some .int) 1 0 0 [.ref (ad 0 0)] ad (cX E ad I F lc ln) (gPd (some (.int (bEnds_r I F ))) ad (cX E ad I F lc ln)) := by
  refine gCon.of (by decide) (Nat.le_of_ble_eq_true rfl) ?_
  intro l A Rn h
  have hC0 := hC
  obtain ⟨kn, k12, klc, kf2, kv, k500, kln, kf3, kw, kw12, kq, kb, kc⟩ := hC
  have hbv := hC0.hbv
  show Rn 0 [(0, .ref (ad 0 0))] [] ad (cX E ad I F lc ln) 0 0
  refine r_aload_n h.ok dX5_ends_0 0 rfl ?_
  refine r_get h.ok 3 dX5_ends_1 (xo_0 _) rfl inX5 (by decide) wfl_X5_31 rfl ?_
  refine r_callV h.ok [] [] dX5_ends_4 (c_X0_isBusy D E ad I F lc ln hbv) wml_X5_112 wim_X0_isBusy wse_X0_isBusy win_X0 wco_X0_isBusy yok_X0_isBusy (xo_2 _) rfl rfl ⟨by decide, by decide, by simp [gRm], by simp [gRm]⟩ (Nat.le_of_ble_eq_true rfl) rfl ?_
  show Rn 7 [(0, .ref (ad 0 0))] [.int (bBusy_r I F)] ad (cX E ad I F lc ln) 0 0
  refine r_if_eq h.ok 20 dX5_ends_7 (by decide) (fun c_7 => ?_) (fun c_7 => ?_)
  · refine r_bipush (v := (-9)) h.ok dX5_ends_20 (by decide) ?_
    refine r_iret h dX5_ends_22 ⟨by decide, by decide⟩ ⟨(by unfold bEnds_r; simp only [if_pos c_7]), rfl, rfl⟩
  · refine r_aload_n h.ok dX5_ends_10 0 rfl ?_
    refine r_get h.ok 3 dX5_ends_11 (xo_0 _) rfl inX5 (by decide) wfl_X5_31 rfl ?_
    refine r_get (v := .int (I 2 0 4)) h.ok 4 dX5_ends_14 (xo_2 _) rfl inX0 (by decide) wfl_X5_116 rfl ?_
    refine r_goto h.ok 22 dX5_ends_17 (by decide) ?_
    refine r_iret h dX5_ends_22 ⟨by decide, by decide⟩ ⟨(by unfold bEnds_r; simp only [if_neg c_7]), rfl, rfl⟩
noncomputable def bRoom_r (I : gI) (F : gF) (a : Int32) : Int32 := (if (pI (mIn a 1 100000)) = 0 then (-2) else (if (I 3 0 1) ≤ a then I 3 0 0 else (-3)))
noncomputable def bRoom_I (I : gI) (F : gF) (a : Int32) : gI := (if (pI (mIn a 1 100000)) = 0 then I else (if (I 3 0 1) ≤ a then gs I 3 0 0 a else I))
set_option maxHeartbeats 4000000 in
set_option maxRecDepth 100000 in
theorem c_X5_room (D : va_G) (E : gEc) (ad : gAd) (I : gI) (F : gF) (lc ln : Nat) (a : Int32) : gCon D E yX5_room cX5_room 3 (some .int) 1 0 0 [.ref (ad 0 0), .int a] ad (cX E ad I F lc ln) (gPd (some (.int (bRoom_r I F a))) ad (cX E ad (bRoom_I I F a) F lc ln)) := by
  refine gCon.of (by decide) (Nat.le_of_ble_eq_true rfl) ?_
  intro l A Rn h
  show Rn 0 [(0, .ref (ad 0 0)), (1, .int a)] [] ad (cX E ad I F lc ln) 0 0
  refine r_iload_n h.ok dX5_room_0 1 rfl ?_
  refine r_iconst (v := 1) h.ok dX5_room_1 (by decide) ?_
  refine r_ldc h.ok dX5_room_2 wk_X5_111 ?_
  refine r_callS h.ok [.int a, .int 1, .int 100000] [] dX5_room_4 (c_X5_within D E ad I F lc ln a 1 100000) wml_X5_46 wst_X5_within win_X5 wco_X5_within yok_X5_within ⟨by decide, by decide, by simp [gRm], by simp [gRm]⟩ (Nat.le_of_ble_eq_true rfl) rfl ?_
  show Rn 7 [(0, .ref (ad 0 0)), (1, .int a)] [.int (pI (mIn a 1 100000))] ad (cX E ad I F lc ln) 0 0
  refine r_if_ne h.ok 13 dX5_room_7 (by decide) (fun c_7 => ?_) (fun c_7 => ?_)
  · refine r_aload_n h.ok dX5_room_13 0 rfl ?_
    refine r_get h.ok 4 dX5_room_14 (xo_0 _) rfl inX5 (by decide) wfl_X5_38 rfl ?_
    refine r_get (v := .int (I 3 0 1)) h.ok 1 dX5_room_17 (xo_3 _) rfl inX3 (by decide) wfl_X5_166 rfl ?_
    refine r_iload_n h.ok dX5_room_20 1 rfl ?_
    refine r_icmp_le h.ok 27 dX5_room_21 (by decide) (fun c_21 => ?_) (fun c_21 => ?_)
    · refine r_aload_n h.ok dX5_room_27 0 rfl ?_
      refine r_get h.ok 4 dX5_room_28 (xo_0 _) rfl inX5 (by decide) wfl_X5_38 rfl ?_
      refine r_get (v := .int (I 3 0 0)) h.ok 0 dX5_room_31 (xo_3 _) rfl inX3 (by decide) wfl_X5_169 rfl ?_
      refine r_istore_n (lv' := [(2, .int (I 3 0 0)), (0, .ref (ad 0 0)), (1, .int a)]) h.ok dX5_room_34 (by decide) rfl ?_
      refine r_aload_n h.ok dX5_room_35 1 rfl ?_
      refine r_get h.ok 4 dX5_room_36 (xo_0 _) rfl inX5 (by decide) wfl_X5_38 rfl ?_
      refine r_iload_n h.ok dX5_room_39 2 rfl ?_
      refine r_put (ty := tyX3) h.ok 0 dX5_room_40 (xo_3 _) rfl inX3 tyX3_ok nmX3 (by decide) wfl_X5_169 rfl rfl rfl (by simp) (cX_put (r' := upd (I 3 0) 0 a) (xo_3 _)) ?_
      refine r_iload_n h.ok dX5_room_43 0 rfl ?_
      refine r_iret h dX5_room_44 ⟨by decide, by decide⟩ ⟨(by unfold bRoom_r; simp only [if_neg c_7, if_pos c_21]), rfl, (by unfold bRoom_I; simp only [if_neg c_7, if_pos c_21])⟩
    · refine r_bipush (v := (-3)) h.ok dX5_room_24 (by decide) ?_
      refine r_iret h dX5_room_26 ⟨by decide, by decide⟩ ⟨(by unfold bRoom_r; simp only [if_neg c_7, if_neg c_21]), rfl, (by unfold bRoom_I; simp only [if_neg c_7, if_neg c_21])⟩
  · refine r_bipush (v := (-2)) h.ok dX5_room_10 (by decide) ?_
    refine r_iret h dX5_room_12 ⟨by decide, by decide⟩ ⟨(by unfold bRoom_r; simp only [if_pos c_7]), rfl, (by unfold bRoom_I; simp only [if_pos c_7])⟩
noncomputable def bPick_r (I : gI) (F : gF) (a : Int32) : Int32 := (if (pI (mIn a 1 100000)) = 0 then (-2) else bTake_r I F a)
noncomputable def bPick_I (I : gI) (F : gF) (a : Int32) : gI := (if (pI (mIn a 1 100000)) = 0 then I else bTake_I I F a)
set_option maxHeartbeats 4000000 in
set_option maxRecDepth 100000 in
theorem c_X5_pick (D : va_G) (E : gEc) (ad : gAd) (I : gI) (F : gF) (lc ln : Nat) (a : Int32) : gCon D E yX5_pick cX5_pick 2 (some .int) 2 0 0 [.ref (ad 0 0), .int a] ad (cX E ad I F lc ln) (gPd (some (.int (bPick_r I F a))) ad (cX E ad (bPick_I I F a) F lc ln)) := by
  refine gCon.of (by decide) (Nat.le_of_ble_eq_true rfl) ?_
  intro l A Rn h
  show Rn 0 [(0, .ref (ad 0 0)), (1, .int a)] [] ad (cX E ad I F lc ln) 0 0
  refine r_iload_n h.ok dX5_pick_0 1 rfl ?_
  refine r_iconst (v := 1) h.ok dX5_pick_1 (by decide) ?_
  refine r_ldc h.ok dX5_pick_2 wk_X5_111 ?_
  refine r_callS h.ok [.int a, .int 1, .int 100000] [] dX5_pick_4 (c_X5_within D E ad I F lc ln a 1 100000) wml_X5_46 wst_X5_within win_X5 wco_X5_within yok_X5_within ⟨by decide, by decide, by simp [gRm], by simp [gRm]⟩ (Nat.le_of_ble_eq_true rfl) rfl ?_
  show Rn 7 [(0, .ref (ad 0 0)), (1, .int a)] [.int (pI (mIn a 1 100000))] ad (cX E ad I F lc ln) 0 0
  refine r_if_ne h.ok 13 dX5_pick_7 (by decide) (fun c_7 => ?_) (fun c_7 => ?_)
  · refine r_aload_n h.ok dX5_pick_13 0 rfl ?_
    refine r_get h.ok 4 dX5_pick_14 (xo_0 _) rfl inX5 (by decide) wfl_X5_38 rfl ?_
    refine r_iload_n h.ok dX5_pick_17 1 rfl ?_
    refine r_callV h.ok [.int a] [] dX5_pick_18 (c_X3_takeAway D E ad I F lc ln a) wml_X5_172 wim_X3_takeAway wse_X3_takeAway win_X3 wco_X3_takeAway yok_X3_takeAway (xo_3 _) rfl rfl ⟨by decide, by decide, by simp [gRm], by simp [gRm]⟩ (Nat.le_of_ble_eq_true rfl) rfl ?_
    show Rn 21 [(0, .ref (ad 0 0)), (1, .int a)] [.int (bTake_r I F a)] ad (cX E ad (bTake_I I F a) F lc ln) 0 0
    refine r_iret h dX5_pick_21 ⟨by decide, by decide⟩ ⟨(by unfold bPick_r; simp only [if_neg c_7]), rfl, (by unfold bPick_I; simp only [if_neg c_7])⟩
  · refine r_bipush (v := (-2)) h.ok dX5_pick_10 (by decide) ?_
    refine r_iret h dX5_pick_12 ⟨by decide, by decide⟩ ⟨(by unfold bPick_r; simp only [if_pos c_7]), rfl, (by unfold bPick_I; simp only [if_pos c_7])⟩
noncomputable def bTotal_r (I : gI) (F : gF) (a : Int32) : Int32 := (if a = 0 then I 3 0 1 else (if a = 1 then I 3 0 2 else (if a = 2 then I 3 0 3 else (if a = 3 then I 3 0 4 else (if a = 4 then I 0 0 9 else (if a = 5 then I 0 0 10 else (if a = 6 then I 0 0 7 else (if a = 7 then I 0 0 5 else (if a = 8 then I 0 0 6 else (if a = 9 then I 1 0 1 else (if a = 10 then I 0 0 11 else (if a = 11 then bNum_r I F (I 0 0 8) else (if a = 12 then I 0 0 12 else (-2))))))))))))))
set_option maxHeartbeats 4000000 in
set_option maxRecDepth 100000 in
theorem c_X5_total (D : va_G) (E : gEc) (ad : gAd) (I : gI) (F : gF) (lc ln : Nat) (a : Int32) : gCon D E yX5_total cX5_total 2 (some .int) 1 0 0 [.ref (ad 0 0), .int a] ad (cX E ad I F lc ln) (gPd (some (.int (bTotal_r I F a))) ad (cX E ad I F lc ln)) := by
  refine gCon.of (by decide) (Nat.le_of_ble_eq_true rfl) ?_
  intro l A Rn h
  show Rn 0 [(0, .ref (ad 0 0)), (1, .int a)] [] ad (cX E ad I F lc ln) 0 0
  refine r_iload_n h.ok dX5_total_0 1 rfl ?_
  by_cases s_0 : a = 0
  · refine r_tableIn (off := 67) h.ok 68 dX5_total_1 (by rw [s_0]; decide) (by rw [s_0]; decide) (by rw [s_0]; rfl) (by decide) ?_
    refine r_aload_n h.ok dX5_total_68 0 rfl ?_
    refine r_get h.ok 4 dX5_total_69 (xo_0 _) rfl inX5 (by decide) wfl_X5_38 rfl ?_
    refine r_get (v := .int (I 3 0 1)) h.ok 1 dX5_total_72 (xo_3 _) rfl inX3 (by decide) wfl_X5_166 rfl ?_
    refine r_iret h dX5_total_75 ⟨by decide, by decide⟩ ⟨(by unfold bTotal_r; simp only [if_pos s_0]), rfl, rfl⟩
  by_cases s_1 : a = 1
  · refine r_tableIn (off := 75) h.ok 76 dX5_total_1 (by rw [s_1]; decide) (by rw [s_1]; decide) (by rw [s_1]; rfl) (by decide) ?_
    refine r_aload_n h.ok dX5_total_76 0 rfl ?_
    refine r_get h.ok 4 dX5_total_77 (xo_0 _) rfl inX5 (by decide) wfl_X5_38 rfl ?_
    refine r_get (v := .int (I 3 0 2)) h.ok 2 dX5_total_80 (xo_3 _) rfl inX3 (by decide) wfl_X5_175 rfl ?_
    refine r_iret h dX5_total_83 ⟨by decide, by decide⟩ ⟨(by unfold bTotal_r; simp only [if_neg s_0, if_pos s_1]), rfl, rfl⟩
  by_cases s_2 : a = 2
  · refine r_tableIn (off := 83) h.ok 84 dX5_total_1 (by rw [s_2]; decide) (by rw [s_2]; decide) (by rw [s_2]; rfl) (by decide) ?_
    refine r_aload_n h.ok dX5_total_84 0 rfl ?_
    refine r_get h.ok 4 dX5_total_85 (xo_0 _) rfl inX5 (by decide) wfl_X5_38 rfl ?_
    refine r_get (v := .int (I 3 0 3)) h.ok 3 dX5_total_88 (xo_3 _) rfl inX3 (by decide) wfl_X5_178 rfl ?_
    refine r_iret h dX5_total_91 ⟨by decide, by decide⟩ ⟨(by unfold bTotal_r; simp only [if_neg s_0, if_neg s_1, if_pos s_2]), rfl, rfl⟩
  by_cases s_3 : a = 3
  · refine r_tableIn (off := 91) h.ok 92 dX5_total_1 (by rw [s_3]; decide) (by rw [s_3]; decide) (by rw [s_3]; rfl) (by decide) ?_
    refine r_aload_n h.ok dX5_total_92 0 rfl ?_
    refine r_get h.ok 4 dX5_total_93 (xo_0 _) rfl inX5 (by decide) wfl_X5_38 rfl ?_
    refine r_get (v := .int (I 3 0 4)) h.ok 4 dX5_total_96 (xo_3 _) rfl inX3 (by decide) wfl_X5_181 rfl ?_
    refine r_iret h dX5_total_99 ⟨by decide, by decide⟩ ⟨(by unfold bTotal_r; simp only [if_neg s_0, if_neg s_1, if_neg s_2, if_pos s_3]), rfl, rfl⟩
  by_cases s_4 : a = 4
  · refine r_tableIn (off := 99) h.ok 100 dX5_total_1 (by rw [s_4]; decide) (by rw [s_4]; decide) (by rw [s_4]; rfl) (by decide) ?_
    refine r_aload_n h.ok dX5_total_100 0 rfl ?_
    refine r_get (v := .int (I 0 0 9)) h.ok 9 dX5_total_101 (xo_0 _) rfl inX5 (by decide) wfl_X5_184 rfl ?_
    refine r_iret h dX5_total_104 ⟨by decide, by decide⟩ ⟨(by unfold bTotal_r; simp only [if_neg s_0, if_neg s_1, if_neg s_2, if_neg s_3, if_pos s_4]), rfl, rfl⟩
  by_cases s_5 : a = 5
  · refine r_tableIn (off := 104) h.ok 105 dX5_total_1 (by rw [s_5]; decide) (by rw [s_5]; decide) (by rw [s_5]; rfl) (by decide) ?_
    refine r_aload_n h.ok dX5_total_105 0 rfl ?_
    refine r_get (v := .int (I 0 0 10)) h.ok 10 dX5_total_106 (xo_0 _) rfl inX5 (by decide) wfl_X5_187 rfl ?_
    refine r_iret h dX5_total_109 ⟨by decide, by decide⟩ ⟨(by unfold bTotal_r; simp only [if_neg s_0, if_neg s_1, if_neg s_2, if_neg s_3, if_neg s_4, if_pos s_5]), rfl, rfl⟩
  by_cases s_6 : a = 6
  · refine r_tableIn (off := 109) h.ok 110 dX5_total_1 (by rw [s_6]; decide) (by rw [s_6]; decide) (by rw [s_6]; rfl) (by decide) ?_
    refine r_aload_n h.ok dX5_total_110 0 rfl ?_
    refine r_get (v := .int (I 0 0 7)) h.ok 7 dX5_total_111 (xo_0 _) rfl inX5 (by decide) wfl_X5_54 rfl ?_
    refine r_iret h dX5_total_114 ⟨by decide, by decide⟩ ⟨(by unfold bTotal_r; simp only [if_neg s_0, if_neg s_1, if_neg s_2, if_neg s_3, if_neg s_4, if_neg s_5, if_pos s_6]), rfl, rfl⟩
  by_cases s_7 : a = 7
  · refine r_tableIn (off := 114) h.ok 115 dX5_total_1 (by rw [s_7]; decide) (by rw [s_7]; decide) (by rw [s_7]; rfl) (by decide) ?_
    refine r_aload_n h.ok dX5_total_115 0 rfl ?_
    refine r_get (v := .int (I 0 0 5)) h.ok 5 dX5_total_116 (xo_0 _) rfl inX5 (by decide) wfl_X5_50 rfl ?_
    refine r_iret h dX5_total_119 ⟨by decide, by decide⟩ ⟨(by unfold bTotal_r; simp only [if_neg s_0, if_neg s_1, if_neg s_2, if_neg s_3, if_neg s_4, if_neg s_5, if_neg s_6, if_pos s_7]), rfl, rfl⟩
  by_cases s_8 : a = 8
  · refine r_tableIn (off := 119) h.ok 120 dX5_total_1 (by rw [s_8]; decide) (by rw [s_8]; decide) (by rw [s_8]; rfl) (by decide) ?_
    refine r_aload_n h.ok dX5_total_120 0 rfl ?_
    refine r_get (v := .int (I 0 0 6)) h.ok 6 dX5_total_121 (xo_0 _) rfl inX5 (by decide) wfl_X5_129 rfl ?_
    refine r_iret h dX5_total_124 ⟨by decide, by decide⟩ ⟨(by unfold bTotal_r; simp only [if_neg s_0, if_neg s_1, if_neg s_2, if_neg s_3, if_neg s_4, if_neg s_5, if_neg s_6, if_neg s_7, if_pos s_8]), rfl, rfl⟩
  by_cases s_9 : a = 9
  · refine r_tableIn (off := 124) h.ok 125 dX5_total_1 (by rw [s_9]; decide) (by rw [s_9]; decide) (by rw [s_9]; rfl) (by decide) ?_
    refine r_aload_n h.ok dX5_total_125 0 rfl ?_
    refine r_get h.ok 2 dX5_total_126 (xo_0 _) rfl inX5 (by decide) wfl_X5_24 rfl ?_
    refine r_get (v := .int (I 1 0 1)) h.ok 1 dX5_total_129 (xo_1 _) rfl inX2 (by decide) wfl_X5_190 rfl ?_
    refine r_iret h dX5_total_132 ⟨by decide, by decide⟩ ⟨(by unfold bTotal_r; simp only [if_neg s_0, if_neg s_1, if_neg s_2, if_neg s_3, if_neg s_4, if_neg s_5, if_neg s_6, if_neg s_7, if_neg s_8, if_pos s_9]), rfl, rfl⟩
  by_cases s_10 : a = 10
  · refine r_tableIn (off := 132) h.ok 133 dX5_total_1 (by rw [s_10]; decide) (by rw [s_10]; decide) (by rw [s_10]; rfl) (by decide) ?_
    refine r_aload_n h.ok dX5_total_133 0 rfl ?_
    refine r_get (v := .int (I 0 0 11)) h.ok 11 dX5_total_134 (xo_0 _) rfl inX5 (by decide) wfl_X5_144 rfl ?_
    refine r_iret h dX5_total_137 ⟨by decide, by decide⟩ ⟨(by unfold bTotal_r; simp only [if_neg s_0, if_neg s_1, if_neg s_2, if_neg s_3, if_neg s_4, if_neg s_5, if_neg s_6, if_neg s_7, if_neg s_8, if_neg s_9, if_pos s_10]), rfl, rfl⟩
  by_cases s_11 : a = 11
  · refine r_tableIn (off := 137) h.ok 138 dX5_total_1 (by rw [s_11]; decide) (by rw [s_11]; decide) (by rw [s_11]; rfl) (by decide) ?_
    refine r_aload_n h.ok dX5_total_138 0 rfl ?_
    refine r_get (v := .int (I 0 0 8)) h.ok 8 dX5_total_139 (xo_0 _) rfl inX5 (by decide) wfl_X5_42 rfl ?_
    refine r_callS h.ok [.int (I 0 0 8)] [] dX5_total_142 (c_X5_asNumber D E ad I F lc ln (I 0 0 8)) wml_X5_95 wst_X5_asNumber win_X5 wco_X5_asNumber yok_X5_asNumber ⟨by decide, by decide, by simp [gRm], by simp [gRm]⟩ (Nat.le_of_ble_eq_true rfl) rfl ?_
    show Rn 145 [(0, .ref (ad 0 0)), (1, .int a)] [.int (bNum_r I F (I 0 0 8))] ad (cX E ad I F lc ln) 0 0
    refine r_iret h dX5_total_145 ⟨by decide, by decide⟩ ⟨(by unfold bTotal_r; simp only [if_neg s_0, if_neg s_1, if_neg s_2, if_neg s_3, if_neg s_4, if_neg s_5, if_neg s_6, if_neg s_7, if_neg s_8, if_neg s_9, if_neg s_10, if_pos s_11]), rfl, rfl⟩
  by_cases s_12 : a = 12
  · refine r_tableIn (off := 145) h.ok 146 dX5_total_1 (by rw [s_12]; decide) (by rw [s_12]; decide) (by rw [s_12]; rfl) (by decide) ?_
    refine r_aload_n h.ok dX5_total_146 0 rfl ?_
    refine r_get (v := .int (I 0 0 12)) h.ok 12 dX5_total_147 (xo_0 _) rfl inX5 (by decide) wfl_X5_152 rfl ?_
    refine r_iret h dX5_total_150 ⟨by decide, by decide⟩ ⟨(by unfold bTotal_r; simp only [if_neg s_0, if_neg s_1, if_neg s_2, if_neg s_3, if_neg s_4, if_neg s_5, if_neg s_6, if_neg s_7, if_neg s_8, if_neg s_9, if_neg s_10, if_neg s_11, if_pos s_12]), rfl, rfl⟩
  refine r_tableOut h.ok 151 dX5_total_1 (gOut12 s_0 s_1 s_2 s_3 s_4 s_5 s_6 s_7 s_8 s_9 s_10 s_11 s_12) (by decide) ?_
  refine r_bipush (v := (-2)) h.ok dX5_total_151 (by decide) ?_
  refine r_iret h dX5_total_153 ⟨by decide, by decide⟩ ⟨(by unfold bTotal_r; simp only [if_neg s_0, if_neg s_1, if_neg s_2, if_neg s_3, if_neg s_4, if_neg s_5, if_neg s_6, if_neg s_7, if_neg s_8, if_neg s_9, if_neg s_10, if_neg s_11, if_neg s_12]), rfl, rfl⟩
noncomputable def bVisit_r (I : gI) (F : gF) (nv : Nat) (a b c : Int32) : Int32 := (if pI (vp_in a nv) = 0 then (-1) else (if (pI (mIn b 0 3)) = 0 then (-2) else (if (pI (mIn c 0 10)) = 0 then (-2) else (if (bOfKind_r I F a.toNatClampNeg b) = 0 then (-13) else bTell_r I F a.toNatClampNeg c))))
set_option maxHeartbeats 4000000 in
set_option maxRecDepth 100000 in
theorem c_X5_visit (D : va_G) (E : gEc) (ad : gAd) (I : gI) (F : gF) (lc ln : Nat) (nc nv nw : Nat) (hC : CI I F lc ln nc nv nw) (a b c : Int32) : gCon D E yX5_visit cX5_visit 5 (some .int) 2 0 0 [.ref (ad 0 0), .int a, .int b, .int c] ad (cX E ad I F lc ln) (gPd (some (.int (bVisit_r I F nv a b c))) ad (cX E ad I F lc ln)) := by
  refine gCon.of (by decide) (Nat.le_of_ble_eq_true rfl) ?_
  intro l A Rn h
  have hC0 := hC
  obtain ⟨kn, k12, klc, kf2, kv, k500, kln, kf3, kw, kw12, kq, kb, kc⟩ := hC
  have hbv := hC0.hbv
  show Rn 0 [(0, .ref (ad 0 0)), (1, .int a), (2, .int b), (3, .int c)] [] ad (cX E ad I F lc ln) 0 0
  refine r_aload_n h.ok dX5_visit_0 0 rfl ?_
  refine r_iload_n h.ok dX5_visit_1 1 rfl ?_
  by_cases c_2 : pI (vp_in a nv) = 0
  · refine r_callV h.ok [.int a] [] dX5_visit_2 (c_X5_visitAt_n D E ad I F lc ln nc nv nw hC0 a (pI_0.mp c_2)) wml_X5_193 wim_X5_visitAt wse_X5_visitAt win_X5 wco_X5_visitAt yok_X5_visitAt (xo_0 _) rfl rfl ⟨by decide, by decide, by simp [gRm], by simp [gRm]⟩ (Nat.le_of_ble_eq_true rfl) rfl ?_
    show Rn 5 [(0, .ref (ad 0 0)), (1, .int a), (2, .int b), (3, .int c)] [.null] ad (cX E ad I F lc ln) 0 0
    refine r_astoreN (lv' := [(4, .null), (0, .ref (ad 0 0)), (1, .int a), (2, .int b), (3, .int c)]) h.ok dX5_visit_5 (by decide) rfl ?_
    refine r_aloadN h.ok dX5_visit_7 0 rfl ?_
    refine r_ifnonnullN h.ok dX5_visit_9 ?_
    refine r_iconst (v := (-1)) h.ok dX5_visit_12 (by decide) ?_
    refine r_iret h dX5_visit_13 ⟨by decide, by decide⟩ ⟨(by unfold bVisit_r; simp only [if_pos c_2]), rfl, rfl⟩
  · refine r_callV h.ok [.int a] [] dX5_visit_2 (c_X5_visitAt_s D E ad I F lc ln nc nv nw hC0 a a.toNatClampNeg (vp_eq (pI_n0.mp c_2)) (vp_lt (pI_n0.mp c_2))) wml_X5_193 wim_X5_visitAt wse_X5_visitAt win_X5 wco_X5_visitAt yok_X5_visitAt (xo_0 _) rfl rfl ⟨by decide, by decide, by simp [gRm], by simp [gRm]⟩ (Nat.le_of_ble_eq_true rfl) rfl ?_
    show Rn 5 [(0, .ref (ad 0 0)), (1, .int a), (2, .int b), (3, .int c)] [.ref (ad 7 a.toNatClampNeg)] ad (cX E ad I F lc ln) 0 0
    refine r_astore (lv' := [(4, .ref (ad 7 a.toNatClampNeg)), (0, .ref (ad 0 0)), (1, .int a), (2, .int b), (3, .int c)]) h.ok dX5_visit_5 (by decide) rfl ?_
    refine r_aload h.ok dX5_visit_7 0 rfl ?_
    refine r_ifnonnull h.ok 14 dX5_visit_9 (by decide) ?_
    refine r_iload_n h.ok dX5_visit_14 3 rfl ?_
    refine r_iconst (v := 0) h.ok dX5_visit_15 (by decide) ?_
    refine r_iconst (v := 3) h.ok dX5_visit_16 (by decide) ?_
    refine r_callS h.ok [.int b, .int 0, .int 3] [] dX5_visit_17 (c_X5_within D E ad I F lc ln b 0 3) wml_X5_46 wst_X5_within win_X5 wco_X5_within yok_X5_within ⟨by decide, by decide, by simp [gRm], by simp [gRm]⟩ (Nat.le_of_ble_eq_true rfl) rfl ?_
    show Rn 20 [(4, .ref (ad 7 a.toNatClampNeg)), (0, .ref (ad 0 0)), (1, .int a), (2, .int b), (3, .int c)] [.int (pI (mIn b 0 3))] ad (cX E ad I F lc ln) 0 0
    refine r_if_eq h.ok 33 dX5_visit_20 (by decide) (fun c_20 => ?_) (fun c_20 => ?_)
    · refine r_bipush (v := (-2)) h.ok dX5_visit_33 (by decide) ?_
      refine r_iret h dX5_visit_35 ⟨by decide, by decide⟩ ⟨(by unfold bVisit_r; simp only [if_neg c_2, if_pos c_20]), rfl, rfl⟩
    · refine r_iload_n h.ok dX5_visit_23 4 rfl ?_
      refine r_iconst (v := 0) h.ok dX5_visit_24 (by decide) ?_
      refine r_bipush (v := 10) h.ok dX5_visit_25 (by decide) ?_
      refine r_callS h.ok [.int c, .int 0, .int 10] [] dX5_visit_27 (c_X5_within D E ad I F lc ln c 0 10) wml_X5_46 wst_X5_within win_X5 wco_X5_within yok_X5_within ⟨by decide, by decide, by simp [gRm], by simp [gRm]⟩ (Nat.le_of_ble_eq_true rfl) rfl ?_
      show Rn 30 [(4, .ref (ad 7 a.toNatClampNeg)), (0, .ref (ad 0 0)), (1, .int a), (2, .int b), (3, .int c)] [.int (pI (mIn c 0 10))] ad (cX E ad I F lc ln) 0 0
      refine r_if_ne h.ok 36 dX5_visit_30 (by decide) (fun c_30 => ?_) (fun c_30 => ?_)
      · refine r_aload h.ok dX5_visit_36 0 rfl ?_
        refine r_iload_n h.ok dX5_visit_38 3 rfl ?_
        refine r_callV h.ok [.int b] [] dX5_visit_39 (c_X4_isOfKind D E ad I F lc ln a.toNatClampNeg (Nat.lt_of_lt_of_le (vp_lt (pI_n0.mp c_2)) kln) b) wml_X5_196 wim_X4_isOfKind wse_X4_isOfKind win_X4 wco_X4_isOfKind yok_X4_isOfKind (xo_7 (Nat.lt_of_lt_of_le (vp_lt (pI_n0.mp c_2)) kln) _) rfl rfl ⟨by decide, by decide, by simp [gRm], by simp [gRm]⟩ (Nat.le_of_ble_eq_true rfl) rfl ?_
        show Rn 42 [(4, .ref (ad 7 a.toNatClampNeg)), (0, .ref (ad 0 0)), (1, .int a), (2, .int b), (3, .int c)] [.int (bOfKind_r I F a.toNatClampNeg b)] ad (cX E ad I F lc ln) 0 0
        refine r_if_ne h.ok 48 dX5_visit_42 (by decide) (fun c_42 => ?_) (fun c_42 => ?_)
        · refine r_aload h.ok dX5_visit_48 0 rfl ?_
          refine r_iload_n h.ok dX5_visit_50 4 rfl ?_
          refine r_callV h.ok [.int c] [] dX5_visit_51 (c_X4_tell D E ad I F lc ln a.toNatClampNeg (Nat.lt_of_lt_of_le (vp_lt (pI_n0.mp c_2)) kln) c) wml_X5_199 wim_X4_tell wse_X4_tell win_X4 wco_X4_tell yok_X4_tell (xo_7 (Nat.lt_of_lt_of_le (vp_lt (pI_n0.mp c_2)) kln) _) rfl rfl ⟨by decide, by decide, by simp [gRm], by simp [gRm]⟩ (Nat.le_of_ble_eq_true rfl) rfl ?_
          show Rn 54 [(4, .ref (ad 7 a.toNatClampNeg)), (0, .ref (ad 0 0)), (1, .int a), (2, .int b), (3, .int c)] [.int (bTell_r I F a.toNatClampNeg c)] ad (cX E ad I F lc ln) 0 0
          refine r_iret h dX5_visit_54 ⟨by decide, by decide⟩ ⟨(by unfold bVisit_r; simp only [if_neg c_2, if_neg c_20, if_neg c_30, if_neg c_42]), rfl, rfl⟩
        · refine r_bipush (v := (-13)) h.ok dX5_visit_45 (by decide) ?_
          refine r_iret h dX5_visit_47 ⟨by decide, by decide⟩ ⟨(by unfold bVisit_r; simp only [if_neg c_2, if_neg c_20, if_neg c_30, if_pos c_42]), rfl, rfl⟩
      · refine r_bipush (v := (-2)) h.ok dX5_visit_33 (by decide) ?_
        refine r_iret h dX5_visit_35 ⟨by decide, by decide⟩ ⟨(by unfold bVisit_r; simp only [if_neg c_2, if_neg c_20, if_pos c_30]), rfl, rfl⟩
set_option maxHeartbeats 4000000 in
set_option maxRecDepth 100000 in
theorem c_X5_longest (D : va_G) (E : gEc) (ad : gAd) (I : gI) (F : gF) (lc ln : Nat)  : gCon D E yX5_longest cX5_longest 1 (some .int) 0 0 0 [.ref (ad 0 0)] ad (cX E ad I F lc ln) (gPd (some (.int (I 0 0 13))) ad (cX E ad I F lc ln)) := by
  refine gCon.of (by decide) (Nat.le_of_ble_eq_true rfl) ?_
  intro l A Rn h
  show Rn 0 [(0, .ref (ad 0 0))] [] ad (cX E ad I F lc ln) 0 0
  refine r_aload_n h.ok dX5_longest_0 0 rfl ?_
  refine r_get (v := .int (I 0 0 13)) h.ok 13 dX5_longest_1 (xo_0 _) rfl inX5 (by decide) wfl_X5_208 rfl ?_
  refine r_iret h dX5_longest_4 ⟨by decide, by decide⟩ ⟨rfl, rfl, rfl⟩
noncomputable def bUntil_r (I : gI) (F : gF) (nc : Nat) (c a : Int32) : Int32 := (if pI (vp_in c nc) = 0 then (-1) else (if (pI (mIn a 1 400)) = 0 then (-2) else (if (bHolds_r I F c) = 0 then bMinutesTo_r I F c.toNatClampNeg a (I 0 0 7) else (-9))))
set_option maxHeartbeats 4000000 in
set_option maxRecDepth 100000 in
theorem c_X5_until (D : va_G) (E : gEc) (ad : gAd) (I : gI) (F : gF) (lc ln : Nat) (nc nv nw : Nat) (hC : CI I F lc ln nc nv nw) (c a : Int32) : gCon D E yX5_until cX5_until 4 (some .int) 3 0 0 [.ref (ad 0 0), .int c, .int a] ad (cX E ad I F lc ln) (gPd (some (.int (bUntil_r I F nc c a))) ad (cX E ad I F lc ln)) := by
  refine gCon.of (by decide) (Nat.le_of_ble_eq_true rfl) ?_
  intro l A Rn h
  have hC0 := hC
  obtain ⟨kn, k12, klc, kf2, kv, k500, kln, kf3, kw, kw12, kq, kb, kc⟩ := hC
  have hbv := hC0.hbv
  show Rn 0 [(0, .ref (ad 0 0)), (1, .int c), (2, .int a)] [] ad (cX E ad I F lc ln) 0 0
  refine r_aload_n h.ok dX5_until_0 0 rfl ?_
  refine r_iload_n h.ok dX5_until_1 1 rfl ?_
  by_cases c_2 : pI (vp_in c nc) = 0
  · refine r_callV h.ok [.int c] [] dX5_until_2 (c_X5_cowAt_n D E ad I F lc ln nc nv nw hC0 c (pI_0.mp c_2)) wml_X5_60 wim_X5_cowAt wse_X5_cowAt win_X5 wco_X5_cowAt yok_X5_cowAt (xo_0 _) rfl rfl ⟨by decide, by decide, by simp [gRm], by simp [gRm]⟩ (Nat.le_of_ble_eq_true rfl) rfl ?_
    show Rn 5 [(0, .ref (ad 0 0)), (1, .int c), (2, .int a)] [.null] ad (cX E ad I F lc ln) 0 0
    refine r_astore_nN (lv' := [(3, .null), (0, .ref (ad 0 0)), (1, .int c), (2, .int a)]) h.ok dX5_until_5 (by decide) rfl ?_
    refine r_aload_nN h.ok dX5_until_6 0 rfl ?_
    refine r_ifnonnullN h.ok dX5_until_7 ?_
    refine r_iconst (v := (-1)) h.ok dX5_until_10 (by decide) ?_
    refine r_iret h dX5_until_11 ⟨by decide, by decide⟩ ⟨(by unfold bUntil_r; simp only [if_pos c_2]), rfl, rfl⟩
  · refine r_callV h.ok [.int c] [] dX5_until_2 (c_X5_cowAt_s D E ad I F lc ln nc nv nw hC0 c c.toNatClampNeg (vp_eq (pI_n0.mp c_2)) (vp_lt (pI_n0.mp c_2))) wml_X5_60 wim_X5_cowAt wse_X5_cowAt win_X5 wco_X5_cowAt yok_X5_cowAt (xo_0 _) rfl rfl ⟨by decide, by decide, by simp [gRm], by simp [gRm]⟩ (Nat.le_of_ble_eq_true rfl) rfl ?_
    show Rn 5 [(0, .ref (ad 0 0)), (1, .int c), (2, .int a)] [.ref (ad 4 c.toNatClampNeg)] ad (cX E ad I F lc ln) 0 0
    refine r_astore_n (lv' := [(3, .ref (ad 4 c.toNatClampNeg)), (0, .ref (ad 0 0)), (1, .int c), (2, .int a)]) h.ok dX5_until_5 (by decide) rfl ?_
    refine r_aload_n h.ok dX5_until_6 0 rfl ?_
    refine r_ifnonnull h.ok 12 dX5_until_7 (by decide) ?_
    refine r_iload_n h.ok dX5_until_12 3 rfl ?_
    refine r_iconst (v := 1) h.ok dX5_until_13 (by decide) ?_
    refine r_sipush (v := 400) h.ok dX5_until_14 (by decide) ?_
    refine r_callS h.ok [.int a, .int 1, .int 400] [] dX5_until_17 (c_X5_within D E ad I F lc ln a 1 400) wml_X5_46 wst_X5_within win_X5 wco_X5_within yok_X5_within ⟨by decide, by decide, by simp [gRm], by simp [gRm]⟩ (Nat.le_of_ble_eq_true rfl) rfl ?_
    show Rn 20 [(3, .ref (ad 4 c.toNatClampNeg)), (0, .ref (ad 0 0)), (1, .int c), (2, .int a)] [.int (pI (mIn a 1 400))] ad (cX E ad I F lc ln) 0 0
    refine r_if_ne h.ok 26 dX5_until_20 (by decide) (fun c_20 => ?_) (fun c_20 => ?_)
    · refine r_aload_n h.ok dX5_until_26 1 rfl ?_
      refine r_get h.ok 3 dX5_until_27 (xo_0 _) rfl inX5 (by decide) wfl_X5_31 rfl ?_
      refine r_iload_n h.ok dX5_until_30 2 rfl ?_
      refine r_callV h.ok [.int c] [] dX5_until_31 (c_X0_holds D E ad I F lc ln hbv c) wml_X5_126 wim_X0_holds wse_X0_holds win_X0 wco_X0_holds yok_X0_holds (xo_2 _) rfl rfl ⟨by decide, by decide, by simp [gRm], by simp [gRm]⟩ (Nat.le_of_ble_eq_true rfl) rfl ?_
      show Rn 34 [(3, .ref (ad 4 c.toNatClampNeg)), (0, .ref (ad 0 0)), (1, .int c), (2, .int a)] [.int (bHolds_r I F c)] ad (cX E ad I F lc ln) 0 0
      refine r_if_eq h.ok 40 dX5_until_34 (by decide) (fun c_34 => ?_) (fun c_34 => ?_)
      · refine r_aload_n h.ok dX5_until_40 0 rfl ?_
        refine r_iload_n h.ok dX5_until_41 3 rfl ?_
        refine r_aload_n h.ok dX5_until_42 1 rfl ?_
        refine r_get (v := .int (I 0 0 7)) h.ok 7 dX5_until_43 (xo_0 _) rfl inX5 (by decide) wfl_X5_54 rfl ?_
        refine r_callV h.ok [.int a, .int (I 0 0 7)] [] dX5_until_46 (c_X1_minutesTo D E ad I F lc ln c.toNatClampNeg (Nat.lt_of_lt_of_le (vp_lt (pI_n0.mp c_2)) klc) a (I 0 0 7)) wml_X5_214 wim_X1_minutesTo wse_X1_minutesTo win_X1 wco_X1_minutesTo yok_X1_minutesTo (xo_4 (Nat.lt_of_lt_of_le (vp_lt (pI_n0.mp c_2)) klc) _) rfl rfl ⟨by decide, by decide, by simp [gRm], by simp [gRm]⟩ (Nat.le_of_ble_eq_true rfl) rfl ?_
        show Rn 49 [(3, .ref (ad 4 c.toNatClampNeg)), (0, .ref (ad 0 0)), (1, .int c), (2, .int a)] [.int (bMinutesTo_r I F c.toNatClampNeg a (I 0 0 7))] ad (cX E ad I F lc ln) 0 0
        refine r_iret h dX5_until_49 ⟨by decide, by decide⟩ ⟨(by unfold bUntil_r; simp only [if_neg c_2, if_neg c_20, if_pos c_34]), rfl, rfl⟩
      · refine r_bipush (v := (-9)) h.ok dX5_until_37 (by decide) ?_
        refine r_iret h dX5_until_39 ⟨by decide, by decide⟩ ⟨(by unfold bUntil_r; simp only [if_neg c_2, if_neg c_20, if_neg c_34]), rfl, rfl⟩
    · refine r_bipush (v := (-2)) h.ok dX5_until_23 (by decide) ?_
      refine r_iret h dX5_until_25 ⟨by decide, by decide⟩ ⟨(by unfold bUntil_r; simp only [if_neg c_2, if_pos c_20]), rfl, rfl⟩
