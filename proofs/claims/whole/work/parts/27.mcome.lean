theorem vp_vis {I : gI} {nv : Nat} (hv : I 11 0 17 = nI nv) (v500 : nv ≤ 500) (h : ¬ I 11 0 17 = 500) : vp_in (I 11 0 17) 500 ∧ nv < 500 := by
  have q : nv < 500 := by
    rcases Nat.lt_or_ge nv 500 with q | q
    · exact q
    · exact absurd (show I 11 0 17 = 500 by rw [hv, show nv = 500 by omega]; decide) h
  rw [hv]
  exact ⟨vp_in_nI q (by decide), q⟩
set_option maxHeartbeats 4000000 in
set_option maxRecDepth 100000 in
theorem come_tail {D : va_G} {E : gEc} {ad : gAd} {F : gF} {lc ln : Nat} {l : Launch} {A : Nat → Prop} {Rn : gR} {post : Option Value → gAd → gCe → Prop} {J : gI} {v c a kd wv : Int32} {nc nv nw : Nat} (h : gOkM l (gRm 3 0 0) cX6_come 4 (some .int) yX6_come.cls yX6_come.name D A E 0 0 post Rn) (iv : vp_in v 500) (hk : J 12 18 v.toNatClampNeg = kd) (j29 : J 11 0 29 = wv) (iw : kd = 1 → vp_in wv 12) (hM2 : kd = 1 → MI (gs (gs J 12 30 wv.toNatClampNeg v) 11 0 29 (wv + 1)) nc nv nw) (p0 : ¬ kd = 1 → post (some (.int v)) ad (cX E ad J F lc ln)) (p1 : kd = 1 → post (some (.int v)) ad (cX E ad (mEnter (gs (gs J 12 30 wv.toNatClampNeg v) 11 0 29 (wv + 1)) F nw) F lc ln)) : Rn 192 [(3, .int v), (0, .ref (ad 11 0)), (1, .int c), (2, .int a)] [] ad (cX E ad J F lc ln) 0 0 := by
  refine r_aload_n h.ok dX6_come_192 1 rfl ?_
  refine r_get h.ok 18 dX6_come_193 (xo_11 _) rfl inX6 (by decide) wfl_X6_53 rfl ?_
  refine r_iload_n h.ok dX6_come_196 0 rfl ?_
  refine x_ialp (v := kd) h.ok dX6_come_197 rfl iv hk ?_
  refine r_iconst (v := 1) h.ok dX6_come_198 (by decide) ?_
  refine r_icmp_ne h.ok 226 dX6_come_199 (by decide) (fun c_199 => ?_) (fun c_199 => ?_)
  · refine r_iload_n h.ok dX6_come_226 0 rfl ?_
    refine r_iret h dX6_come_227 ⟨by decide, by decide⟩ (p0 c_199)
  · refine r_aload_n h.ok dX6_come_202 1 rfl ?_
    refine r_get h.ok 30 dX6_come_203 (xo_11 _) rfl inX6 (by decide) wfl_X6_87 rfl ?_
    refine r_aload_n h.ok dX6_come_206 1 rfl ?_
    refine r_get (v := .int wv) h.ok 29 dX6_come_207 (xo_11 _) rfl inX6 (by decide) wfl_X6_110 (congrArg (fun z => some (Value.int z)) (j29 : J 11 0 29 = wv)) ?_
    refine r_iload_n h.ok dX6_come_210 0 rfl ?_
    refine x_iasp h.ok dX6_come_211 (fun _ => rfl) (iw c_199) ?_
    refine r_aload_n h.ok dX6_come_212 1 rfl ?_
    refine r_dup h.ok dX6_come_213 rfl ?_
    refine r_get (v := .int wv) h.ok 29 dX6_come_214 (xo_11 _) rfl inX6 (by decide) wfl_X6_110 (congrArg (fun z => some (Value.int z)) ((by simp [gr]; exact j29) : (gs J 12 30 wv.toNatClampNeg v) 11 0 29 = wv)) ?_
    refine r_iconst (v := 1) h.ok dX6_come_217 (by decide) ?_
    refine r_iadd h.ok dX6_come_218 ?_
    refine r_put (ty := tyX6) h.ok 29 dX6_come_219 (xo_11 _) rfl inX6 tyX6_ok nmX6 (by decide) wfl_X6_110 rfl rfl rfl (by simp) (cX_put (r' := upd ((gs J 12 30 wv.toNatClampNeg v) 11 0) 29 (wv + 1)) (xo_11 _)) ?_
    refine r_aload_n h.ok dX6_come_222 1 rfl ?_
    refine r_callV h.ok [] [] dX6_come_223 (c_X6_enter D E ad (gs (gs J 12 30 wv.toNatClampNeg v) 11 0 29 (wv + 1)) F lc ln nc nv nw (hM2 c_199)) wml_X6_181 wim_X6_enter wse_X6_enter win_X6 wco_X6_enter yok_X6_enter (xo_11 _) rfl rfl ⟨by decide, by decide, by simp [gRm], by simp [gRm]⟩ (Nat.le_of_ble_eq_true rfl) rfl ?_
    show Rn 226 [(3, .int v), (0, .ref (ad 11 0)), (1, .int c), (2, .int a)] [] ad (cX E ad (mEnter (gs (gs J 12 30 wv.toNatClampNeg v) 11 0 29 (wv + 1)) F nw) F lc ln) 0 0
    refine r_iload_n h.ok dX6_come_226 0 rfl ?_
    refine r_iret h dX6_come_227 ⟨by decide, by decide⟩ (p1 c_199)
noncomputable def mCome1 (I : gI) (nv : Nat) (c a : Int32) : gI := gs (gs (gs (gs (gs (gs (gs (gs (gs (gs (gs (gs (gs I 12 22 ((I 11 0 17).toNatClampNeg) (pI (mAlarm I nv c a))) 12 19 ((I 11 0 17).toNatClampNeg) c) 12 20 ((I 11 0 17).toNatClampNeg) (I 11 0 1)) 12 21 ((I 11 0 17).toNatClampNeg) a) 12 18 ((I 11 0 17).toNatClampNeg) (if pI (mRight I c) = 0 then 0 else 1)) 12 23 ((I 11 0 17).toNatClampNeg) (-9)) 12 24 ((I 11 0 17).toNatClampNeg) (-9)) 12 25 ((I 11 0 17).toNatClampNeg) (-9)) 12 26 ((I 11 0 17).toNatClampNeg) (-9)) 12 27 ((I 11 0 17).toNatClampNeg) (-9)) 12 28 ((I 11 0 17).toNatClampNeg) (-9)) 11 0 17 ((I 11 0 17) + 1)) 12 16 c.toNatClampNeg ((I 12 16 c.toNatClampNeg) + 1)
noncomputable def mCome2 (I : gI) (nv : Nat) (c a : Int32) : gI := gs (gs (mCome1 I nv c a) 12 30 (I 11 0 29).toNatClampNeg (I 11 0 17)) 11 0 29 (I 11 0 29 + 1)
noncomputable def mCome_r (I : gI) (nv nw : Nat) (c a : Int32) : Int32 := if pI (mNo I c) = 0 then (if pI (mIn a 0 1000) = 0 then -2 else if mBox I = c then -3 else if mPlace I nw c = -9 then (if I 11 0 17 = 500 then -4 else I 11 0 17) else -3) else -1
noncomputable def mCome_I (I : gI) (F : gF) (nv nw : Nat) (c a : Int32) : gI := if pI (mNo I c) = 0 then (if pI (mIn a 0 1000) = 0 then I else if mBox I = c then I else if mPlace I nw c = -9 then (if I 11 0 17 = 500 then I else if (if pI (mRight I c) = 0 then (0 : Int32) else 1) = 1 then mEnter (mCome2 I nv c a) F (nw + 1) else mCome1 I nv c a) else I) else I
theorem MI_come {I : gI} {nc nv nw : Nat} {c a : Int32} (hM : MI I nc nv nw) (c10 : pI (mNo I c) = 0) (c58 : ¬ I 11 0 17 = 500) (iw : nw < 12) : MI (mCome2 I nv c a) nc (nv + 1) (nw + 1) := by
  obtain ⟨ht, hn, h12, hv, v500, hw, w12, hvc, hq, hb, hr⟩ := hM
  obtain ⟨hvi, hvl⟩ := vp_vis hv v500 c58
  have hcn := mNo_in hn h12 (pI_0.mp c10)
  have ev : (I 11 0 17).toNatClampNeg = nv := by rw [hv, nI_clamp (by omega)]
  have ew : (I 11 0 29).toNatClampNeg = nw := by rw [hw, nI_clamp (by omega)]
  unfold mCome2 mCome1
  refine ⟨?_, ?_, h12, ?_, by omega, ?_, by omega, ?_, ?_, ?_, ?_⟩
  · simp [gr, upd, ht]
  · simp [gr, upd, hn]
  · simp [gr, upd, hv, nI_1]
  · simp [gr, upd, hw, nI_1]
  · intro v hvv
    simp [gr, upd, ev]
    by_cases q : v = nv
    · simp [q, hcn]
    · simp [q]; exact hvc v (by omega)
  · intro j hj
    simp [gr, upd, ew]
    by_cases q : j = nw
    · simp [q, hv]; exact vp_in_nI (by omega) (by omega)
    · simp [q]; exact vp_mono (hq j (by omega)) (by omega)
  · simp [gr, upd]; exact hb.imp id (fun q => vp_mono q (by omega))
  · intro j hj; simp [gr]; exact hr j hj
