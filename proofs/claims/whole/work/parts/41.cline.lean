/-- what the class needs of itself to run -/
def CI (I : gI) (F : gF) (lc ln nc nv nw : Nat) : Prop := I 0 0 5 = nI nc ∧ nc ≤ 12 ∧ nc ≤ lc ∧ (∀ j : Nat, j < nc → F 2 j = some j) ∧ I 0 0 6 = nI nv ∧ nv ≤ 500 ∧ nv ≤ ln ∧ (∀ j : Nat, j < nv → F 3 j = some j) ∧ I 1 0 1 = nI nw ∧ nw ≤ 12 ∧ (∀ j : Nat, j < nw → F 0 j = some (qv F j) ∧ qv F j < nv) ∧ (¬ F 1 0 = none → F 1 0 = some (bv F) ∧ bv F < nv) ∧ (∀ v : Nat, v < nv → vp_in (I 7 v 0) nc)
theorem CI.hbv {I : gI} {F : gF} {lc ln nc nv nw : Nat} (h : CI I F lc ln nc nv nw) : ¬ F 1 0 = none → F 1 0 = some (bv F) ∧ bv F < ln := fun q => by
  obtain ⟨kn, k12, klc, kf2, kv, k500, kln, kf3, kw, kw12, kq, kb, kc⟩ := h
  exact ⟨(kb q).1, Nat.lt_of_lt_of_le (kb q).2 kln⟩
theorem in_mIn {w x : Int32} {n : Nat} (hw : w = nI n) (hn : n ≤ 1000) (h : vp_in x n) : mIn x 0 (w - 1) := by
  rw [vp_in_iff] at h
  have e1 : (nI n - 1).toInt = (n : Int) - 1 := pk_sub_toInt (a := n) (b := 1) (by omega) (by decide)
  have e0 : (0 : Int32).toInt = 0 := by decide
  refine ⟨?_, ?_⟩
  · rw [Int32.lt_iff_toInt_lt, e0]; omega
  · rw [hw, Int32.lt_iff_toInt_lt, e1]; omega
theorem j_nle {x : Int32} {j n : Nat} (hx : x = nI j) (hj : j < n) (hn : n < 2 ^ 31) : ¬ nI n ≤ x := by
  rw [hx, nI_leI hn (by omega)]
  omega
theorem gSt_mono {P : Nat → Prop} {a : Nat} : ∀ {w j : Nat}, gSt P j = some a → j ≤ w → gSt P w = some a
  | 0, j, h, hj => by rw [show j = 0 by omega] at h; exact h
  | w + 1, j, h, hj => by
    by_cases q : j = w + 1
    · rw [← q]; exact h
    · exact gSt_keep (gSt_mono h (by omega))
def bCowAt (I : gI) (F : gF) (c : Int32) (j : Nat) : Prop := I 7 (qv F j) 0 = c
noncomputable def bPlace (I : gI) (F : gF) (nw : Nat) (c : Int32) : Int32 := gFind (bCowAt I F c) (nw - 0) 0
def bShy (I : gI) (F : gF) (m : Int32) (j : Nat) : Prop := ¬ I 7 (qv F j) 1 = 0 ∧ ¬ m - I 7 (qv F j) 2 < 30
noncomputable def bCh (I : gI) (F : gF) (nw : Nat) (m : Int32) : Nat := (gSt (bShy I F m) nw).getD 0
def gSh (F : gF) (a w : Nat) : gF := fun k i => if k = 0 ∧ a ≤ i ∧ i < w then F 0 (i + 1) else F k i
theorem gSh_0 (F : gF) (a : Nat) : gSh F a a = F := by
  funext k i
  unfold gSh
  rw [if_neg (by omega)]
theorem gSh_step {F : gF} {a j v : Nat} (ha : a ≤ j) (hv : F 0 (j + 1) = some v) : gf (gSh F a j) 0 j (some v) = gSh F a (j + 1) := by
  funext k i
  unfold gf gSh
  by_cases h : k = 0 ∧ i = j
  · obtain ⟨rfl, rfl⟩ := h
    rw [if_pos ⟨rfl, rfl⟩, if_pos (by omega), hv]
  · rw [if_neg h]
    by_cases h1 : k = 0 ∧ a ≤ i ∧ i < j
    · rw [if_pos h1, if_pos (by omega)]
    · rw [if_neg h1, if_neg (by omega)]
set_option maxHeartbeats 4000000 in
set_option maxRecDepth 100000 in
theorem c_X5_cowAt_s (D : va_G) (E : gEc) (ad : gAd) (I : gI) (F : gF) (lc ln : Nat) (nc nv nw : Nat) (hC : CI I F lc ln nc nv nw) (c : Int32) (j : Nat) (hx : c = nI j) (hj : j < nc) : gCon D E yX5_cowAt cX5_cowAt 2 (some (.object "MilkBox$Cow")) 1 0 0 [.ref (ad 0 0), .int c] ad (cX E ad I F lc ln) (gPd (some (.ref (ad 4 j))) ad (cX E ad I F lc ln)) := by
  refine gCon.of (by decide) (Nat.le_of_ble_eq_true rfl) ?_
  intro l A Rn h
  obtain ⟨kn, k12, klc, kf2, kv, k500, kln, kf3, kw, kw12, kq, kb, kc⟩ := hC
  show Rn 0 [(0, .ref (ad 0 0)), (1, .int c)] [] ad (cX E ad I F lc ln) 0 0
  refine r_iload_n h.ok dX5_cowAt_0 1 rfl ?_
  refine r_iconst (v := 0) h.ok dX5_cowAt_1 (by decide) ?_
  refine r_aload_n h.ok dX5_cowAt_2 0 rfl ?_
  refine r_get (v := .int (I 0 0 5)) h.ok 5 dX5_cowAt_3 (xo_0 _) rfl inX5 (by decide) wfl_X5_50 rfl ?_
  refine r_iconst (v := 1) h.ok dX5_cowAt_6 (by decide) ?_
  refine r_isub h.ok dX5_cowAt_7 ?_
  refine r_callS h.ok [.int c, .int 0, .int ((I 0 0 5) - 1)] [] dX5_cowAt_8 (c_X5_within D E ad I F lc ln c 0 ((I 0 0 5) - 1)) wml_X5_46 wst_X5_within win_X5 wco_X5_within yok_X5_within ⟨by decide, by decide, by simp [gRm], by simp [gRm]⟩ (Nat.le_of_ble_eq_true rfl) rfl ?_
  show Rn 11 [(0, .ref (ad 0 0)), (1, .int c)] [.int (pI (mIn c 0 ((I 0 0 5) - 1)))] ad (cX E ad I F lc ln) 0 0
  refine r_if_eq h.ok 32 dX5_cowAt_11 (by decide) (fun q => absurd q (pI_n0.mpr (in_mIn kn (by omega) (by rw [hx]; exact vp_in_nI hj (by omega))))) (fun _ => ?_)
  refine r_iload_n h.ok dX5_cowAt_14 1 rfl ?_
  refine r_aload_n h.ok dX5_cowAt_15 0 rfl ?_
  refine r_get h.ok 0 dX5_cowAt_16 (xo_0 _) rfl inX5 (by decide) wfl_X5_11 rfl ?_
  refine r_alen (t0 := 2) (v := 12) h.ok dX5_cowAt_19 (xo_8 _) rfl (show Int32.ofNat 12 = 12 by decide) ?_
  refine r_icmp_ge h.ok 32 dX5_cowAt_20 (by decide) (fun q => absurd q (fun q => j_nle hx (Nat.lt_of_lt_of_le hj k12) (by decide) (by rw [show nI 12 = 12 by decide]; exact q))) (fun _ => ?_)
  refine r_aload_n h.ok dX5_cowAt_23 0 rfl ?_
  refine r_get h.ok 0 dX5_cowAt_24 (xo_0 _) rfl inX5 (by decide) wfl_X5_11 rfl ?_
  refine r_iload_n h.ok dX5_cowAt_27 1 rfl ?_
  refine r_aaldv (v := .ref (ad 4 j)) (t0 := 2) h.ok dX5_cowAt_28 (xo_8 _) rfl (by rw [hx]; exact vp_in_nI (Nat.lt_of_lt_of_le hj k12) (by decide)) (by simp [show F 2 c.toNatClampNeg = some j by rw [hx, nI_clamp (by omega)]; exact kf2 j hj, va_rf]) ?_
  refine r_goto h.ok 33 dX5_cowAt_29 (by decide) ?_
  refine r_aret h dX5_cowAt_33 ⟨by decide, by decide⟩ (Or.inr ⟨_, rfl⟩) ⟨rfl, rfl, rfl⟩
set_option maxHeartbeats 4000000 in
set_option maxRecDepth 100000 in
theorem c_X5_cowAt_n (D : va_G) (E : gEc) (ad : gAd) (I : gI) (F : gF) (lc ln : Nat) (nc nv nw : Nat) (hC : CI I F lc ln nc nv nw) (c : Int32) (hv : ¬ vp_in c nc) : gCon D E yX5_cowAt cX5_cowAt 2 (some (.object "MilkBox$Cow")) 1 0 0 [.ref (ad 0 0), .int c] ad (cX E ad I F lc ln) (gPd (some (.null)) ad (cX E ad I F lc ln)) := by
  refine gCon.of (by decide) (Nat.le_of_ble_eq_true rfl) ?_
  intro l A Rn h
  obtain ⟨kn, k12, klc, kf2, kv, k500, kln, kf3, kw, kw12, kq, kb, kc⟩ := hC
  show Rn 0 [(0, .ref (ad 0 0)), (1, .int c)] [] ad (cX E ad I F lc ln) 0 0
  refine r_iload_n h.ok dX5_cowAt_0 1 rfl ?_
  refine r_iconst (v := 0) h.ok dX5_cowAt_1 (by decide) ?_
  refine r_aload_n h.ok dX5_cowAt_2 0 rfl ?_
  refine r_get (v := .int (I 0 0 5)) h.ok 5 dX5_cowAt_3 (xo_0 _) rfl inX5 (by decide) wfl_X5_50 rfl ?_
  refine r_iconst (v := 1) h.ok dX5_cowAt_6 (by decide) ?_
  refine r_isub h.ok dX5_cowAt_7 ?_
  refine r_callS h.ok [.int c, .int 0, .int ((I 0 0 5) - 1)] [] dX5_cowAt_8 (c_X5_within D E ad I F lc ln c 0 ((I 0 0 5) - 1)) wml_X5_46 wst_X5_within win_X5 wco_X5_within yok_X5_within ⟨by decide, by decide, by simp [gRm], by simp [gRm]⟩ (Nat.le_of_ble_eq_true rfl) rfl ?_
  show Rn 11 [(0, .ref (ad 0 0)), (1, .int c)] [.int (pI (mIn c 0 ((I 0 0 5) - 1)))] ad (cX E ad I F lc ln) 0 0
  refine r_if_eq h.ok 32 dX5_cowAt_11 (by decide) (fun _ => ?_) (fun q => absurd q (fun z => z (pI_f (fun m => hv (mIn_in kn (by omega) m)))))
  refine r_null h.ok dX5_cowAt_32 ?_
  refine r_aret h dX5_cowAt_33 ⟨by decide, by decide⟩ (Or.inl rfl) ⟨rfl, rfl, rfl⟩
set_option maxHeartbeats 4000000 in
set_option maxRecDepth 100000 in
theorem c_X5_visitAt_s (D : va_G) (E : gEc) (ad : gAd) (I : gI) (F : gF) (lc ln : Nat) (nc nv nw : Nat) (hC : CI I F lc ln nc nv nw) (c : Int32) (j : Nat) (hx : c = nI j) (hj : j < nv) : gCon D E yX5_visitAt cX5_visitAt 2 (some (.object "MilkBox$Visit")) 1 0 0 [.ref (ad 0 0), .int c] ad (cX E ad I F lc ln) (gPd (some (.ref (ad 7 j))) ad (cX E ad I F lc ln)) := by
  refine gCon.of (by decide) (Nat.le_of_ble_eq_true rfl) ?_
  intro l A Rn h
  obtain ⟨kn, k12, klc, kf2, kv, k500, kln, kf3, kw, kw12, kq, kb, kc⟩ := hC
  show Rn 0 [(0, .ref (ad 0 0)), (1, .int c)] [] ad (cX E ad I F lc ln) 0 0
  refine r_iload_n h.ok dX5_visitAt_0 1 rfl ?_
  refine r_iconst (v := 0) h.ok dX5_visitAt_1 (by decide) ?_
  refine r_aload_n h.ok dX5_visitAt_2 0 rfl ?_
  refine r_get (v := .int (I 0 0 6)) h.ok 6 dX5_visitAt_3 (xo_0 _) rfl inX5 (by decide) wfl_X5_129 rfl ?_
  refine r_iconst (v := 1) h.ok dX5_visitAt_6 (by decide) ?_
  refine r_isub h.ok dX5_visitAt_7 ?_
  refine r_callS h.ok [.int c, .int 0, .int ((I 0 0 6) - 1)] [] dX5_visitAt_8 (c_X5_within D E ad I F lc ln c 0 ((I 0 0 6) - 1)) wml_X5_46 wst_X5_within win_X5 wco_X5_within yok_X5_within ⟨by decide, by decide, by simp [gRm], by simp [gRm]⟩ (Nat.le_of_ble_eq_true rfl) rfl ?_
  show Rn 11 [(0, .ref (ad 0 0)), (1, .int c)] [.int (pI (mIn c 0 ((I 0 0 6) - 1)))] ad (cX E ad I F lc ln) 0 0
  refine r_if_eq h.ok 32 dX5_visitAt_11 (by decide) (fun q => absurd q (pI_n0.mpr (in_mIn kv (by omega) (by rw [hx]; exact vp_in_nI hj (by omega))))) (fun _ => ?_)
  refine r_iload_n h.ok dX5_visitAt_14 1 rfl ?_
  refine r_aload_n h.ok dX5_visitAt_15 0 rfl ?_
  refine r_get h.ok 1 dX5_visitAt_16 (xo_0 _) rfl inX5 (by decide) wfl_X5_17 rfl ?_
  refine r_alen (t0 := 3) (v := 500) h.ok dX5_visitAt_19 (xo_9 _) rfl (show Int32.ofNat 500 = 500 by decide) ?_
  refine r_icmp_ge h.ok 32 dX5_visitAt_20 (by decide) (fun q => absurd q (fun q => j_nle hx (Nat.lt_of_lt_of_le hj k500) (by decide) (by rw [show nI 500 = 500 by decide]; exact q))) (fun _ => ?_)
  refine r_aload_n h.ok dX5_visitAt_23 0 rfl ?_
  refine r_get h.ok 1 dX5_visitAt_24 (xo_0 _) rfl inX5 (by decide) wfl_X5_17 rfl ?_
  refine r_iload_n h.ok dX5_visitAt_27 1 rfl ?_
  refine r_aaldv (v := .ref (ad 7 j)) (t0 := 3) h.ok dX5_visitAt_28 (xo_9 _) rfl (by rw [hx]; exact vp_in_nI (Nat.lt_of_lt_of_le hj k500) (by decide)) (by simp [show F 3 c.toNatClampNeg = some j by rw [hx, nI_clamp (by omega)]; exact kf3 j hj, va_rf]) ?_
  refine r_goto h.ok 33 dX5_visitAt_29 (by decide) ?_
  refine r_aret h dX5_visitAt_33 ⟨by decide, by decide⟩ (Or.inr ⟨_, rfl⟩) ⟨rfl, rfl, rfl⟩
set_option maxHeartbeats 4000000 in
set_option maxRecDepth 100000 in
theorem c_X5_visitAt_n (D : va_G) (E : gEc) (ad : gAd) (I : gI) (F : gF) (lc ln : Nat) (nc nv nw : Nat) (hC : CI I F lc ln nc nv nw) (c : Int32) (hv : ¬ vp_in c nv) : gCon D E yX5_visitAt cX5_visitAt 2 (some (.object "MilkBox$Visit")) 1 0 0 [.ref (ad 0 0), .int c] ad (cX E ad I F lc ln) (gPd (some (.null)) ad (cX E ad I F lc ln)) := by
  refine gCon.of (by decide) (Nat.le_of_ble_eq_true rfl) ?_
  intro l A Rn h
  obtain ⟨kn, k12, klc, kf2, kv, k500, kln, kf3, kw, kw12, kq, kb, kc⟩ := hC
  show Rn 0 [(0, .ref (ad 0 0)), (1, .int c)] [] ad (cX E ad I F lc ln) 0 0
  refine r_iload_n h.ok dX5_visitAt_0 1 rfl ?_
  refine r_iconst (v := 0) h.ok dX5_visitAt_1 (by decide) ?_
  refine r_aload_n h.ok dX5_visitAt_2 0 rfl ?_
  refine r_get (v := .int (I 0 0 6)) h.ok 6 dX5_visitAt_3 (xo_0 _) rfl inX5 (by decide) wfl_X5_129 rfl ?_
  refine r_iconst (v := 1) h.ok dX5_visitAt_6 (by decide) ?_
  refine r_isub h.ok dX5_visitAt_7 ?_
  refine r_callS h.ok [.int c, .int 0, .int ((I 0 0 6) - 1)] [] dX5_visitAt_8 (c_X5_within D E ad I F lc ln c 0 ((I 0 0 6) - 1)) wml_X5_46 wst_X5_within win_X5 wco_X5_within yok_X5_within ⟨by decide, by decide, by simp [gRm], by simp [gRm]⟩ (Nat.le_of_ble_eq_true rfl) rfl ?_
  show Rn 11 [(0, .ref (ad 0 0)), (1, .int c)] [.int (pI (mIn c 0 ((I 0 0 6) - 1)))] ad (cX E ad I F lc ln) 0 0
  refine r_if_eq h.ok 32 dX5_visitAt_11 (by decide) (fun _ => ?_) (fun q => absurd q (fun z => z (pI_f (fun m => hv (mIn_in kv (by omega) m)))))
  refine r_null h.ok dX5_visitAt_32 ?_
  refine r_aret h dX5_visitAt_33 ⟨by decide, by decide⟩ (Or.inl rfl) ⟨rfl, rfl, rfl⟩
set_option maxHeartbeats 4000000 in
set_option maxRecDepth 100000 in
theorem c_X2_at_s (D : va_G) (E : gEc) (ad : gAd) (I : gI) (F : gF) (lc ln : Nat) (nc nv nw : Nat) (hC : CI I F lc ln nc nv nw) (c : Int32) (j : Nat) (hx : c = nI j) (hj : j < nw) : gCon D E yX2_at cX2_at 2 (some (.object "MilkBox$Visit")) 0 0 0 [.ref (ad 1 0), .int c] ad (cX E ad I F lc ln) (gPd (some (.ref (ad 7 (qv F j)))) ad (cX E ad I F lc ln)) := by
  refine gCon.of (by decide) (Nat.le_of_ble_eq_true rfl) ?_
  intro l A Rn h
  obtain ⟨kn, k12, klc, kf2, kv, k500, kln, kf3, kw, kw12, kq, kb, kc⟩ := hC
  show Rn 0 [(0, .ref (ad 1 0)), (1, .int c)] [] ad (cX E ad I F lc ln) 0 0
  refine r_iload_n h.ok dX2_at_0 1 rfl ?_
  refine r_if_lt h.ok 30 dX2_at_1 (by decide) (fun q => absurd q (by rw [hx]; exact nI_pos (by omega))) (fun _ => ?_)
  refine r_iload_n h.ok dX2_at_4 1 rfl ?_
  refine r_aload_n h.ok dX2_at_5 0 rfl ?_
  refine r_get (v := .int (I 1 0 1)) h.ok 1 dX2_at_6 (xo_1 _) rfl inX2 (by decide) wfl_X2_17 rfl ?_
  refine r_icmp_ge h.ok 30 dX2_at_9 (by decide) (fun q => absurd q (fun q => j_nle hx hj (by omega) (kw ▸ q))) (fun _ => ?_)
  refine r_iload_n h.ok dX2_at_12 1 rfl ?_
  refine r_aload_n h.ok dX2_at_13 0 rfl ?_
  refine r_get h.ok 0 dX2_at_14 (xo_1 _) rfl inX2 (by decide) wfl_X2_11 rfl ?_
  refine r_alen (t0 := 3) (v := 12) h.ok dX2_at_17 (xo_10 _) rfl (show Int32.ofNat 12 = 12 by decide) ?_
  refine r_icmp_ge h.ok 30 dX2_at_18 (by decide) (fun q => absurd q (fun q => j_nle hx (Nat.lt_of_lt_of_le hj kw12) (by decide) (by rw [show nI 12 = 12 by decide]; exact q))) (fun _ => ?_)
  refine r_aload_n h.ok dX2_at_21 0 rfl ?_
  refine r_get h.ok 0 dX2_at_22 (xo_1 _) rfl inX2 (by decide) wfl_X2_11 rfl ?_
  refine r_iload_n h.ok dX2_at_25 1 rfl ?_
  refine r_aaldv (v := .ref (ad 7 (qv F j))) (t0 := 3) h.ok dX2_at_26 (xo_10 _) rfl (by rw [hx]; exact vp_in_nI (Nat.lt_of_lt_of_le hj kw12) (by decide)) (by simp [show F 0 c.toNatClampNeg = some (qv F j) by rw [hx, nI_clamp (by omega)]; exact (kq j hj).1, va_rf]) ?_
  refine r_goto h.ok 31 dX2_at_27 (by decide) ?_
  refine r_aret h dX2_at_31 ⟨by decide, by decide⟩ (Or.inr ⟨_, rfl⟩) ⟨rfl, rfl, rfl⟩
set_option maxHeartbeats 4000000 in
set_option maxRecDepth 100000 in
theorem c_X2_at_n (D : va_G) (E : gEc) (ad : gAd) (I : gI) (F : gF) (lc ln : Nat) (nc nv nw : Nat) (hC : CI I F lc ln nc nv nw) (c : Int32) (hv : ¬ vp_in c nw) : gCon D E yX2_at cX2_at 2 (some (.object "MilkBox$Visit")) 0 0 0 [.ref (ad 1 0), .int c] ad (cX E ad I F lc ln) (gPd (some (.null)) ad (cX E ad I F lc ln)) := by
  refine gCon.of (by decide) (Nat.le_of_ble_eq_true rfl) ?_
  intro l A Rn h
  obtain ⟨kn, k12, klc, kf2, kv, k500, kln, kf3, kw, kw12, kq, kb, kc⟩ := hC
  show Rn 0 [(0, .ref (ad 1 0)), (1, .int c)] [] ad (cX E ad I F lc ln) 0 0
  refine r_iload_n h.ok dX2_at_0 1 rfl ?_
  refine r_if_lt h.ok 30 dX2_at_1 (by decide) (fun c_1 => ?_) (fun c_1 => ?_)
  · refine r_null h.ok dX2_at_30 ?_
    refine r_aret h dX2_at_31 ⟨by decide, by decide⟩ (Or.inl rfl) ⟨rfl, rfl, rfl⟩
  · refine r_iload_n h.ok dX2_at_4 1 rfl ?_
    refine r_aload_n h.ok dX2_at_5 0 rfl ?_
    refine r_get (v := .int (I 1 0 1)) h.ok 1 dX2_at_6 (xo_1 _) rfl inX2 (by decide) wfl_X2_17 rfl ?_
    refine r_icmp_ge h.ok 30 dX2_at_9 (by decide) (fun _ => ?_) (fun q => absurd q (fun z => hv (vp_b (by omega) c_1 (kw ▸ z))))
    refine r_null h.ok dX2_at_30 ?_
    refine r_aret h dX2_at_31 ⟨by decide, by decide⟩ (Or.inl rfl) ⟨rfl, rfl, rfl⟩
set_option maxHeartbeats 4000000 in
set_option maxRecDepth 100000 in
theorem c_X2_placeOf (D : va_G) (E : gEc) (ad : gAd) (I : gI) (F : gF) (lc ln : Nat) (nc nv nw : Nat) (hC : CI I F lc ln nc nv nw) (c : Int32) : gCon D E yX2_placeOf cX2_placeOf 4 (some .int) 1 0 0 [.ref (ad 1 0), .int c] ad (cX E ad I F lc ln) (gPd (some (.int (bPlace I F nw c))) ad (cX E ad I F lc ln)) := by
  refine gCon.of (by decide) (Nat.le_of_ble_eq_true rfl) ?_
  intro l A Rn h
  have hC0 := hC
  obtain ⟨kn, k12, klc, kf2, kv, k500, kln, kf3, kw, kw12, kq, kb, kc⟩ := hC
  show Rn 0 [(0, .ref (ad 1 0)), (1, .int c)] [] ad (cX E ad I F lc ln) 0 0
  refine r_iconst (v := 0) h.ok dX2_placeOf_0 (by decide) ?_
  refine r_istore_n (lv' := [(2, .int 0), (0, .ref (ad 1 0)), (1, .int c)]) h.ok dX2_placeOf_1 (by decide) rfl ?_
  have lp2 : ∀ (n : Nat) (j : Nat) (x : Int32), (j ≤ nw) → (nw + 1 ≤ j + n) → (x = nI j) → (bPlace I F nw c = gFind (bCowAt I F c) (nw - j) j) → Rn 2 [(2, .int x), (0, .ref (ad 1 0)), (1, .int c)] [] ad (cX E ad I F lc ln) 0 0 := by
    intro n
    induction n with
    | zero => intro j  x  hj hf hx hs; exfalso; omega
    | succ n ih2 =>
      intro j  x  hj hf hx hs
      refine r_iload_n h.ok dX2_placeOf_2 0 rfl ?_
      refine r_aload_n h.ok dX2_placeOf_3 1 rfl ?_
      refine r_get (v := .int (I 1 0 1)) h.ok 1 dX2_placeOf_4 (xo_1 _) rfl inX2 (by decide) wfl_X2_17 rfl ?_
      rw [kw]
      refine r_icmp_ge h.ok 36 dX2_placeOf_7 (by decide) (fun c_7 => ?_) (fun c_7 => ?_)
      · have jw : j = nw := ge_nI hx (by omega) hj c_7
        refine r_bipush (v := (-9)) h.ok dX2_placeOf_36 (by decide) ?_
        refine r_iret h dX2_placeOf_38 ⟨by decide, by decide⟩ ⟨by rw [hs, gFind_end (by omega)], rfl, rfl⟩
      · have jw : j < nw := lt_nI hx (by omega) hj c_7
        refine r_aload_n h.ok dX2_placeOf_10 1 rfl ?_
        refine r_iload_n h.ok dX2_placeOf_11 0 rfl ?_
        refine r_callV h.ok [.int x] [] dX2_placeOf_12 (c_X2_at_s D E ad I F lc ln nc nv nw hC0 x j hx jw) wml_X2_21 wim_X2_at wse_X2_at win_X2 wco_X2_at yok_X2_at (xo_1 _) rfl rfl ⟨by decide, by decide, by simp [gRm], by simp [gRm]⟩ (Nat.le_of_ble_eq_true rfl) rfl ?_
        show Rn 15 [(2, .int x), (0, .ref (ad 1 0)), (1, .int c)] [.ref (ad 7 (qv F j))] ad (cX E ad I F lc ln) 0 0
        refine r_astore_n (lv' := [(3, .ref (ad 7 (qv F j))), (2, .int x), (0, .ref (ad 1 0)), (1, .int c)]) h.ok dX2_placeOf_15 (by decide) rfl ?_
        refine r_aload_n h.ok dX2_placeOf_16 0 rfl ?_
        refine r_ifnull h.ok dX2_placeOf_17 ?_
        refine r_aload_n h.ok dX2_placeOf_20 0 rfl ?_
        refine r_get (v := .int (I 7 (qv F j) 0)) h.ok 0 dX2_placeOf_21 (xo_7 (Nat.lt_of_lt_of_le (kq j jw).2 kln) _) rfl inX4 (by decide) wfl_X2_25 rfl ?_
        refine r_iload_n h.ok dX2_placeOf_24 3 rfl ?_
        refine r_icmp_ne h.ok 30 dX2_placeOf_25 (by decide) (fun c_25 => ?_) (fun c_25 => ?_)
        · refine r_iinc (v := x + 1) (lv' := [(2, .int (x + 1)), (3, .ref (ad 7 (qv F j))), (0, .ref (ad 1 0)), (1, .int c)]) h.ok dX2_placeOf_30 1 rfl rfl (by decide) rfl ?_
          refine r_goto h.ok 2 dX2_placeOf_33 (by decide) ?_
          refine r_lv (lv' := [(2, .int (x + 1)), (0, .ref (ad 1 0)), (1, .int c)]) h.ok [0, 2, 3] rfl ?_
          exact ih2 (j + 1) _ (by omega) (by omega) (by rw [hx]; exact nI_1 j) (by rw [hs]; exact gFind_miss jw (show ¬ bCowAt I F c j from c_25))
        · refine r_iload_n h.ok dX2_placeOf_28 1 rfl ?_
          refine r_iret h dX2_placeOf_29 ⟨by decide, by decide⟩ ⟨by rw [hs, gFind_hit jw (show bCowAt I F c j from c_25), hx], rfl, rfl⟩
  exact lp2 (nw + 1) 0 0 (Nat.zero_le _) (by omega) rfl rfl
set_option maxHeartbeats 4000000 in
set_option maxRecDepth 100000 in
theorem c_X2_choose (D : va_G) (E : gEc) (ad : gAd) (I : gI) (F : gF) (lc ln : Nat) (nc nv nw : Nat) (hC : CI I F lc ln nc nv nw) (m : Int32) : gCon D E yX2_choose cX2_choose 4 (some .int) 1 0 0 [.ref (ad 1 0), .int m] ad (cX E ad I F lc ln) (gPd (some (.int (nI (bCh I F nw m)))) ad (cX E ad I F lc ln)) := by
  refine gCon.of (by decide) (Nat.le_of_ble_eq_true rfl) ?_
  intro l A Rn h
  have hC0 := hC
  obtain ⟨kn, k12, klc, kf2, kv, k500, kln, kf3, kw, kw12, kq, kb, kc⟩ := hC
  show Rn 0 [(0, .ref (ad 1 0)), (1, .int m)] [] ad (cX E ad I F lc ln) 0 0
  refine r_iconst (v := 0) h.ok dX2_choose_0 (by decide) ?_
  refine r_istore_n (lv' := [(2, .int 0), (0, .ref (ad 1 0)), (1, .int m)]) h.ok dX2_choose_1 (by decide) rfl ?_
  have lp2 : ∀ (n : Nat) (j : Nat) (x : Int32), (j ≤ nw) → (nw + 1 ≤ j + n) → (x = nI j) → (gSt (bShy I F m) j = none) → Rn 2 [(2, .int x), (0, .ref (ad 1 0)), (1, .int m)] [] ad (cX E ad I F lc ln) 0 0 := by
    intro n
    induction n with
    | zero => intro j  x  hj hf hx hs; exfalso; omega
    | succ n ih2 =>
      intro j  x  hj hf hx hs
      refine r_iload_n h.ok dX2_choose_2 0 rfl ?_
      refine r_aload_n h.ok dX2_choose_3 1 rfl ?_
      refine r_get (v := .int (I 1 0 1)) h.ok 1 dX2_choose_4 (xo_1 _) rfl inX2 (by decide) wfl_X2_17 rfl ?_
      rw [kw]
      refine r_icmp_ge h.ok 46 dX2_choose_7 (by decide) (fun c_7 => ?_) (fun c_7 => ?_)
      · have jw : j = nw := ge_nI hx (by omega) hj c_7
        refine r_iconst (v := 0) h.ok dX2_choose_46 (by decide) ?_
        refine r_iret h dX2_choose_47 ⟨by decide, by decide⟩ ⟨by unfold bCh; rw [← jw, hs]; rfl, rfl, rfl⟩
      · have jw : j < nw := lt_nI hx (by omega) hj c_7
        refine r_aload_n h.ok dX2_choose_10 1 rfl ?_
        refine r_iload_n h.ok dX2_choose_11 0 rfl ?_
        refine r_callV h.ok [.int x] [] dX2_choose_12 (c_X2_at_s D E ad I F lc ln nc nv nw hC0 x j hx jw) wml_X2_21 wim_X2_at wse_X2_at win_X2 wco_X2_at yok_X2_at (xo_1 _) rfl rfl ⟨by decide, by decide, by simp [gRm], by simp [gRm]⟩ (Nat.le_of_ble_eq_true rfl) rfl ?_
        show Rn 15 [(2, .int x), (0, .ref (ad 1 0)), (1, .int m)] [.ref (ad 7 (qv F j))] ad (cX E ad I F lc ln) 0 0
        refine r_astore_n (lv' := [(3, .ref (ad 7 (qv F j))), (2, .int x), (0, .ref (ad 1 0)), (1, .int m)]) h.ok dX2_choose_15 (by decide) rfl ?_
        refine r_aload_n h.ok dX2_choose_16 0 rfl ?_
        refine r_ifnull h.ok dX2_choose_17 ?_
        refine r_aload_n h.ok dX2_choose_20 0 rfl ?_
        refine r_get (v := .int (I 7 (qv F j) 1)) h.ok 1 dX2_choose_21 (xo_7 (Nat.lt_of_lt_of_le (kq j jw).2 kln) _) rfl inX4 (by decide) wfl_X2_36 rfl ?_
        refine r_if_eq h.ok 40 dX2_choose_24 (by decide) (fun c_24 => ?_) (fun c_24 => ?_)
        · refine r_iinc (v := x + 1) (lv' := [(2, .int (x + 1)), (3, .ref (ad 7 (qv F j))), (0, .ref (ad 1 0)), (1, .int m)]) h.ok dX2_choose_40 1 rfl rfl (by decide) rfl ?_
          refine r_goto h.ok 2 dX2_choose_43 (by decide) ?_
          refine r_lv (lv' := [(2, .int (x + 1)), (0, .ref (ad 1 0)), (1, .int m)]) h.ok [0, 2, 3] rfl ?_
          exact ih2 (j + 1) _ (by omega) (by omega) (by rw [hx]; exact nI_1 j) (gSt_miss hs (show ¬ bShy I F m j from (fun q => q.1 c_24)))
        · refine r_iload_n h.ok dX2_choose_27 3 rfl ?_
          refine r_aload_n h.ok dX2_choose_28 0 rfl ?_
          refine r_get (v := .int (I 7 (qv F j) 2)) h.ok 2 dX2_choose_29 (xo_7 (Nat.lt_of_lt_of_le (kq j jw).2 kln) _) rfl inX4 (by decide) wfl_X2_40 rfl ?_
          refine r_isub h.ok dX2_choose_32 ?_
          refine r_bipush (v := 30) h.ok dX2_choose_33 (by decide) ?_
          refine r_icmp_lt h.ok 40 dX2_choose_35 (by decide) (fun c_35 => ?_) (fun c_35 => ?_)
          · refine r_iinc (v := x + 1) (lv' := [(2, .int (x + 1)), (3, .ref (ad 7 (qv F j))), (0, .ref (ad 1 0)), (1, .int m)]) h.ok dX2_choose_40 1 rfl rfl (by decide) rfl ?_
            refine r_goto h.ok 2 dX2_choose_43 (by decide) ?_
            refine r_lv (lv' := [(2, .int (x + 1)), (0, .ref (ad 1 0)), (1, .int m)]) h.ok [0, 2, 3] rfl ?_
            exact ih2 (j + 1) _ (by omega) (by omega) (by rw [hx]; exact nI_1 j) (gSt_miss hs (show ¬ bShy I F m j from (fun q => q.2 c_35)))
          · refine r_iload_n h.ok dX2_choose_38 1 rfl ?_
            refine r_iret h dX2_choose_39 ⟨by decide, by decide⟩ ⟨by unfold bCh; rw [gSt_mono (gSt_hit hs (show bShy I F m j from ⟨c_24, c_35⟩)) jw, hx]; rfl, rfl, rfl⟩
  exact lp2 (nw + 1) 0 0 (Nat.zero_le _) (by omega) rfl rfl
set_option maxHeartbeats 4000000 in
set_option maxRecDepth 100000 in
theorem c_X2_addLast (D : va_G) (E : gEc) (ad : gAd) (I : gI) (F : gF) (lc ln : Nat) (nc nv nw : Nat) (hC : CI I F lc ln nc nv nw) (v : Nat) (hv : v < ln) (hw : nw < 12) : gCon D E yX2_addLast cX2_addLast 2 none 0 0 0 [.ref (ad 1 0), .ref (ad 7 v)] ad (cX E ad I F lc ln) (gPd none ad (cX E ad (gs I 1 0 1 (I 1 0 1 + 1)) (gf F 0 (I 1 0 1).toNatClampNeg (some v)) lc ln)) := by
  refine gCon.of (by decide) (Nat.le_of_ble_eq_true rfl) ?_
  intro l A Rn h
  have hC0 := hC
  obtain ⟨kn, k12, klc, kf2, kv, k500, kln, kf3, kw, kw12, kq, kb, kc⟩ := hC
  show Rn 0 [(0, .ref (ad 1 0)), (1, .ref (ad 7 v))] [] ad (cX E ad I F lc ln) 0 0
  refine r_aload_n h.ok dX2_addLast_0 0 rfl ?_
  refine r_get (v := .int (I 1 0 1)) h.ok 1 dX2_addLast_1 (xo_1 _) rfl inX2 (by decide) wfl_X2_17 rfl ?_
  refine r_if_lt h.ok 39 dX2_addLast_4 (by decide) (fun q => absurd q (by rw [kw]; exact nI_pos (by omega))) (fun _ => ?_)
  refine r_aload_n h.ok dX2_addLast_7 0 rfl ?_
  refine r_get (v := .int (I 1 0 1)) h.ok 1 dX2_addLast_8 (xo_1 _) rfl inX2 (by decide) wfl_X2_17 rfl ?_
  refine r_aload_n h.ok dX2_addLast_11 0 rfl ?_
  refine r_get h.ok 0 dX2_addLast_12 (xo_1 _) rfl inX2 (by decide) wfl_X2_11 rfl ?_
  refine r_alen (t0 := 3) (v := 12) h.ok dX2_addLast_15 (xo_10 _) rfl (show Int32.ofNat 12 = 12 by decide) ?_
  refine r_icmp_ge h.ok 39 dX2_addLast_16 (by decide) (fun q => absurd q (fun q => j_nle kw hw (by decide) (by rw [show nI 12 = 12 by decide]; exact q))) (fun _ => ?_)
  refine r_aload_n h.ok dX2_addLast_19 0 rfl ?_
  refine r_get h.ok 0 dX2_addLast_20 (xo_1 _) rfl inX2 (by decide) wfl_X2_11 rfl ?_
  refine r_aload_n h.ok dX2_addLast_23 0 rfl ?_
  refine r_get (v := .int (I 1 0 1)) h.ok 1 dX2_addLast_24 (xo_1 _) rfl inX2 (by decide) wfl_X2_17 rfl ?_
  refine r_aload_n h.ok dX2_addLast_27 1 rfl ?_
  refine r_aast (t0 := 3) h.ok dX2_addLast_28 (xo_10 _) rfl (xo_7 hv _) rfl (by rw [kw]; exact vp_in_nI hw (by decide)) (cX_put10 (I 1 0 1).toNatClampNeg (some v)) ?_
  refine r_aload_n h.ok dX2_addLast_29 0 rfl ?_
  refine r_dup h.ok dX2_addLast_30 rfl ?_
  refine r_get (v := .int (I 1 0 1)) h.ok 1 dX2_addLast_31 (xo_1 _) rfl inX2 (by decide) wfl_X2_17 rfl ?_
  refine r_iconst (v := 1) h.ok dX2_addLast_34 (by decide) ?_
  refine r_iadd h.ok dX2_addLast_35 ?_
  refine r_put (ty := tyX2) h.ok 1 dX2_addLast_36 (xo_1 _) rfl inX2 tyX2_ok nmX2 (by decide) wfl_X2_17 rfl rfl rfl (by simp) (cX_put (r' := upd (I 1 0) 1 ((I 1 0 1) + 1)) (xo_1 _)) ?_
  refine r_vret h dX2_addLast_39 ⟨by decide, by decide⟩ ⟨rfl, rfl, rfl⟩
theorem nI_not_pos {a : Nat} (ha : a < 2 ^ 31) (h : ¬ (0 : Int32) < nI a) : (0 : Int32) = nI a := by
  rcases Nat.eq_zero_or_pos a with q | q
  · rw [q]; rfl
  · exact absurd (show nI 0 < nI a from nI_lt q ha) h
theorem max0 {c : Int32} {a : Nat} (hc : c = nI a) (ha : a < 2 ^ 31) : (if 0 < c then c else 0) = nI a := by
  by_cases h : 0 < c
  · rw [if_pos h, hc]
  · rw [if_neg h]
    exact nI_not_pos ha (hc ▸ h)
set_option maxHeartbeats 4000000 in
set_option maxRecDepth 100000 in
theorem c_X2_closeUp (D : va_G) (E : gEc) (ad : gAd) (I : gI) (F : gF) (lc ln : Nat) (nc nv nw : Nat) (hC : CI I F lc ln nc nv nw) (c : Int32) (a : Nat) (hxa : c = nI a) (ha : a < nw) : gCon D E yX2_closeUp cX2_closeUp 3 none 1 0 0 [.ref (ad 1 0), .int c] ad (cX E ad I F lc ln) (gPd none ad (cX E ad (gs I 1 0 1 (I 1 0 1 - 1)) (gSh F a (nw - 1)) lc ln)) := by
  refine gCon.of (by decide) (Nat.le_of_ble_eq_true rfl) ?_
  intro l A Rn h
  have hC0 := hC
  obtain ⟨kn, k12, klc, kf2, kv, k500, kln, kf3, kw, kw12, kq, kb, kc⟩ := hC
  show Rn 0 [(0, .ref (ad 1 0)), (1, .int c)] [] ad (cX E ad I F lc ln) 0 0
  refine r_iconst (v := 0) h.ok dX2_closeUp_0 (by decide) ?_
  refine r_iload_n h.ok dX2_closeUp_1 1 rfl ?_
  refine r_mmax h.ok dX2_closeUp_2 wml_X2_43 ⟨by decide, Nat.le_of_ble_eq_true rfl, by decide, by decide⟩ ?_
  refine r_topi (fun g e_g => ?_)
  refine r_istore_n (lv' := [(2, .int g), (0, .ref (ad 1 0)), (1, .int c)]) h.ok dX2_closeUp_5 (by decide) rfl ?_
  have lp6 : ∀ (n : Nat) (j : Nat) (x : Int32), (a ≤ j) → (j ≤ nw - 1) → (nw ≤ j + n) → (x = nI j) → Rn 6 [(2, .int x), (0, .ref (ad 1 0))] [] ad (cX E ad I (gSh F a j) lc ln) 0 0 := by
    intro n
    induction n with
    | zero => intro j  x  ha hj hf hx; exfalso; omega
    | succ n ih6 =>
      intro j  x  ha hj hf hx
      refine r_iload_n h.ok dX2_closeUp_6 0 rfl ?_
      refine r_iconst (v := 1) h.ok dX2_closeUp_7 (by decide) ?_
      refine r_iadd h.ok dX2_closeUp_8 ?_
      refine r_aload_n h.ok dX2_closeUp_9 1 rfl ?_
      refine r_get (v := .int (I 1 0 1)) h.ok 1 dX2_closeUp_10 (xo_1 _) rfl inX2 (by decide) wfl_X2_17 rfl ?_
      rw [kw]
      refine r_icmp_ge h.ok 47 dX2_closeUp_13 (by decide) (fun c_13 => ?_) (fun c_13 => ?_)
      · have jw : j = nw - 1 := by have := ge_nI (x := x + 1) (j := j + 1) (by rw [hx]; exact nI_1 j) (by omega) (by omega) c_13; omega
        refine r_aload_n h.ok dX2_closeUp_47 1 rfl ?_
        refine r_dup h.ok dX2_closeUp_48 rfl ?_
        refine r_get (v := .int (I 1 0 1)) h.ok 1 dX2_closeUp_49 (xo_1 _) rfl inX2 (by decide) wfl_X2_17 rfl ?_
        refine r_iconst (v := 1) h.ok dX2_closeUp_52 (by decide) ?_
        refine r_isub h.ok dX2_closeUp_53 ?_
        refine r_put (ty := tyX2) h.ok 1 dX2_closeUp_54 (xo_1 _) rfl inX2 tyX2_ok nmX2 (by decide) wfl_X2_17 rfl rfl rfl (by simp) (cX_put (r' := upd (I 1 0) 1 ((I 1 0 1) - 1)) (xo_1 _)) ?_
        refine r_vret h dX2_closeUp_57 ⟨by decide, by decide⟩ ⟨rfl, rfl, by rw [jw]⟩
      · have jw : j + 1 < nw := lt_nI (x := x + 1) (by rw [hx]; exact nI_1 j) (by omega) (by omega) c_13
        refine r_iload_n h.ok dX2_closeUp_16 0 rfl ?_
        refine r_iconst (v := 1) h.ok dX2_closeUp_17 (by decide) ?_
        refine r_iadd h.ok dX2_closeUp_18 ?_
        refine r_aload_n h.ok dX2_closeUp_19 1 rfl ?_
        refine r_get h.ok 0 dX2_closeUp_20 (xo_1 _) rfl inX2 (by decide) wfl_X2_11 rfl ?_
        refine r_alen (t0 := 3) (v := 12) h.ok dX2_closeUp_23 (xo_10 _) rfl (show Int32.ofNat 12 = 12 by decide) ?_
        refine r_icmp_ge h.ok 47 dX2_closeUp_24 (by decide) (fun q => absurd q (fun q => j_nle (n := 12) (x := x + 1) (j := j + 1) (by rw [hx]; exact nI_1 j) (by omega) (by decide) (by rw [show nI 12 = 12 by decide]; exact q))) (fun _ => ?_)
        refine r_aload_n h.ok dX2_closeUp_27 1 rfl ?_
        refine r_get h.ok 0 dX2_closeUp_28 (xo_1 _) rfl inX2 (by decide) wfl_X2_11 rfl ?_
        refine r_iload_n h.ok dX2_closeUp_31 0 rfl ?_
        refine r_aload_n h.ok dX2_closeUp_32 1 rfl ?_
        refine r_get h.ok 0 dX2_closeUp_33 (xo_1 _) rfl inX2 (by decide) wfl_X2_11 rfl ?_
        refine r_iload_n h.ok dX2_closeUp_36 0 rfl ?_
        refine r_iconst (v := 1) h.ok dX2_closeUp_37 (by decide) ?_
        refine r_iadd h.ok dX2_closeUp_38 ?_
        refine r_aaldv (v := .ref (ad 7 (qv F (j + 1)))) (t0 := 3) h.ok dX2_closeUp_39 (xo_10 _) rfl (by rw [hx, nI_1]; exact vp_in_nI (by omega) (by decide)) (by simp [show (gSh F a j) 0 (x + 1).toNatClampNeg = some (qv F (j + 1)) by rw [hx, nI_1, nI_clamp (by omega)]; unfold gSh; rw [if_neg (by omega)]; exact (kq (j + 1) jw).1, va_rf]) ?_
        refine r_aast (t0 := 3) h.ok dX2_closeUp_40 (xo_10 _) rfl (xo_7 (Nat.lt_of_lt_of_le (kq (j + 1) jw).2 kln) _) rfl (by rw [hx]; exact vp_in_nI (by omega) (by decide)) (cX_put10 x.toNatClampNeg (some (qv F (j + 1)))) ?_
        refine r_iinc (v := x + 1) (lv' := [(2, .int (x + 1)), (0, .ref (ad 1 0))]) h.ok dX2_closeUp_41 0 rfl rfl (by decide) rfl ?_
        refine r_goto h.ok 6 dX2_closeUp_44 (by decide) ?_
        rw [show gf (gSh F a j) 0 x.toNatClampNeg (some (qv F (j + 1))) = gSh F a (j + 1) from by rw [show x.toNatClampNeg = j by rw [hx, nI_clamp (by omega)]]; exact gSh_step ha (kq (j + 1) (by omega)).1]
        exact ih6 (j + 1) _ (by omega) (by omega) (by omega) (by rw [hx]; exact nI_1 j)
  refine r_lv (lv' := [(2, .int g), (0, .ref (ad 1 0))]) h.ok [0, 1] rfl ?_
  rw [show F = gSh F a a from (gSh_0 F a).symm]
  exact lp6 nw a _ (Nat.le_refl _) (by omega) (by omega) (by rw [e_g]; exact max0 hxa (by omega))
