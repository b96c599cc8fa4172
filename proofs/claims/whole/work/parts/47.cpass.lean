theorem CI_g0 {I : gI} {F : gF} {lc ln nc nv nw k : Nat} {x : Int32} (h : CI I F lc ln nc nv nw) (hk : k ≠ 5 ∧ k ≠ 6) : CI (gs I 0 0 k x) F lc ln nc nv nw := by
  obtain ⟨h1, h2⟩ := hk
  obtain ⟨kn, k12, klc, kf2, kv, k500, kln, kf3, kw, kw12, kq, kb, kc⟩ := h
  exact ⟨by simp [gr, upd, Ne.symm h1, kn], k12, klc, kf2, by simp [gr, upd, Ne.symm h2, kv], k500, kln, kf3, by simp [gr, kw], kw12, kq, kb, by simpa [gr] using kc⟩
noncomputable def bPower_I (I : gI) (F : gF) (nw : Nat) (b : Int32) : gI := if b = 0 then bFin_I (gs I 0 0 8 b) F 2 else bFill_I (gs I 0 0 8 b) F nw
noncomputable def bPower_F (I : gI) (F : gF) (nw : Nat) (b : Int32) : gF := if b = 0 then bFin_F F else bFill_F (gs I 0 0 8 b) F nw
set_option maxHeartbeats 4000000 in
set_option maxRecDepth 100000 in
theorem c_X5_power (D : va_G) (E : gEc) (ad : gAd) (I : gI) (F : gF) (lc ln : Nat) (nc nv nw : Nat) (hC : CI I F lc ln nc nv nw) (b : Int32) (b01 : b = 0 ∨ b = 1) : gCon D E yX5_power cX5_power 3 (some .int) 4 0 0 [.ref (ad 0 0), .int b] ad (cX E ad I F lc ln) (gPd (some (.int (bNum_r I F (I 0 0 8)))) ad (cX E ad (bPower_I I F nw b) (bPower_F I F nw b) lc ln)) := by
  refine gCon.of (by decide) (Nat.le_of_ble_eq_true rfl) ?_
  intro l A Rn h
  have hC0 := hC
  obtain ⟨kn, k12, klc, kf2, kv, k500, kln, kf3, kw, kw12, kq, kb, kc⟩ := hC
  have hbv := hC0.hbv
  show Rn 0 [(0, .ref (ad 0 0)), (1, .int b)] [] ad (cX E ad I F lc ln) 0 0
  refine r_aload_n h.ok dX5_power_0 0 rfl ?_
  refine r_get (v := .int (I 0 0 8)) h.ok 8 dX5_power_1 (xo_0 _) rfl inX5 (by decide) wfl_X5_42 rfl ?_
  refine r_callS h.ok [.int (I 0 0 8)] [] dX5_power_4 (c_X5_asNumber D E ad I F lc ln (I 0 0 8)) wml_X5_95 wst_X5_asNumber win_X5 wco_X5_asNumber yok_X5_asNumber ⟨by decide, by decide, by simp [gRm], by simp [gRm]⟩ (Nat.le_of_ble_eq_true rfl) rfl ?_
  show Rn 7 [(0, .ref (ad 0 0)), (1, .int b)] [.int (bNum_r I F (I 0 0 8))] ad (cX E ad I F lc ln) 0 0
  refine r_istore_n (lv' := [(2, .int (bNum_r I F (I 0 0 8))), (0, .ref (ad 0 0)), (1, .int b)]) h.ok dX5_power_7 (by decide) rfl ?_
  refine r_aload_n h.ok dX5_power_8 1 rfl ?_
  refine r_iload_n h.ok dX5_power_9 2 rfl ?_
  refine r_put (ty := tyX5) h.ok 8 dX5_power_10 (xo_0 _) rfl inX5 tyX5_ok nmX5 (by decide) wfl_X5_42 rfl (gNz b01) (gFz b01) (by simp) (cX_put (r' := upd (I 0 0) 8 b) (xo_0 _)) ?_
  refine r_iload_n h.ok dX5_power_13 2 rfl ?_
  refine r_if_eq h.ok 24 dX5_power_14 (by decide) (fun c_14 => ?_) (fun c_14 => ?_)
  · refine r_aload_n h.ok dX5_power_24 1 rfl ?_
    refine r_iconst (v := 2) h.ok dX5_power_25 (by decide) ?_
    refine r_callV h.ok [.int 2] [] dX5_power_26 (c_X5_finishMilking D E ad (gs I 0 0 8 b) F lc ln nc nv nw (CI_g0 hC0 (by decide)) 2) wml_X5_119 wim_X5_finishMilking wse_X5_finishMilking win_X5 wco_X5_finishMilking yok_X5_finishMilking (xo_0 _) rfl rfl ⟨by decide, by decide, by simp [gRm], by simp [gRm]⟩ (Nat.le_of_ble_eq_true rfl) rfl ?_
    show Rn 29 [(2, .int (bNum_r I F (I 0 0 8))), (0, .ref (ad 0 0)), (1, .int b)] [] ad (cX E ad (bFin_I (gs I 0 0 8 b) F 2) (bFin_F F) lc ln) 0 0
    refine r_iload_n h.ok dX5_power_29 0 rfl ?_
    refine r_iret h dX5_power_30 ⟨by decide, by decide⟩ ⟨rfl, rfl, (by unfold bPower_I bPower_F; simp only [if_pos c_14])⟩
  · refine r_aload_n h.ok dX5_power_17 1 rfl ?_
    refine r_callV h.ok [] [] dX5_power_18 (c_X5_fillBox D E ad (gs I 0 0 8 b) F lc ln nc nv nw (CI_g0 hC0 (by decide))) wml_X5_123 wim_X5_fillBox wse_X5_fillBox win_X5 wco_X5_fillBox yok_X5_fillBox (xo_0 _) rfl rfl ⟨by decide, by decide, by simp [gRm], by simp [gRm]⟩ (Nat.le_of_ble_eq_true rfl) rfl ?_
    show Rn 21 [(2, .int (bNum_r I F (I 0 0 8))), (0, .ref (ad 0 0)), (1, .int b)] [] ad (cX E ad (bFill_I (gs I 0 0 8 b) F nw) (bFill_F (gs I 0 0 8 b) F nw) lc ln) 0 0
    refine r_goto h.ok 29 dX5_power_21 (by decide) ?_
    refine r_iload_n h.ok dX5_power_29 0 rfl ?_
    refine r_iret h dX5_power_30 ⟨by decide, by decide⟩ ⟨rfl, rfl, (by unfold bPower_I bPower_F; simp only [if_neg c_14])⟩
