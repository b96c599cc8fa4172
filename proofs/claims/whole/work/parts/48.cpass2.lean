theorem bPut_k {I : gI} {F : gF} {m b : Int32} {k : Nat} (h : k ≠ 3) : (bPut_I I F m b) k = I k := by
  funext i
  unfold bPut_I
  repeat' split
  all_goals simp [gr, h]
theorem bFeed_k {I : gI} {F : gF} {i : Nat} {m d : Int32} {k : Nat} (h : k ≠ 4) : (bFeed_I I F i m d) k = I k := by
  funext j
  unfold bFeed_I
  simp [gr, h]
theorem bFinish_0 {I : gI} {F : gF} {v i : Nat} {kd mk : Int32} {s : Nat} (h : s ≠ 9 ∧ s ≠ 10) : (bFinish I F v i kd mk) 0 0 s = I 0 0 s := by
  obtain ⟨h1, h2⟩ := h
  unfold bFinish bFin2 bFin3
  simp [gr, upd, h1, h2, bFeed_k, bPut_k, bFin1]
theorem bFinish_k {I : gI} {F : gF} {v i : Nat} {kd mk : Int32} {k : Nat} (h : k ≠ 0 ∧ k ≠ 3 ∧ k ≠ 4 ∧ k ≠ 7) : (bFinish I F v i kd mk) k = I k := by
  obtain ⟨h1, h2, h3, h4⟩ := h
  funext a b
  unfold bFinish bFin2 bFin3
  simp [gr, h1, h3, h4, bFeed_k h3, bPut_k h2, bFin1]
theorem bFinish_70 {I : gI} {F : gF} {v i w : Nat} {kd mk : Int32} {s : Nat} (h : s ≠ 5 ∧ s ≠ 7 ∧ s ≠ 8 ∧ s ≠ 9 ∧ s ≠ 11) : (bFinish I F v i kd mk) 7 w s = I 7 w s := by
  obtain ⟨h1, h2, h3, h4, h5⟩ := h
  unfold bFinish bFin2 bFin3
  by_cases q : w = v
  · subst q
    simp [gr, upd, bFeed_k, bPut_k, bFin1, h1, h2, h3, h4, h5]
  · simp [gr, q, bFeed_k, bPut_k, bFin1]
theorem CI_fin {I : gI} {F : gF} {lc ln nc nv nw : Nat} {kd : Int32} (h : CI I F lc ln nc nv nw) : CI (bFin_I I F kd) (bFin_F F) lc ln nc nv nw := by
  have h0 := h
  obtain ⟨kn, k12, klc, kf2, kv, k500, kln, kf3, kw, kw12, kq, kb, kc⟩ := h
  unfold bFin_I bFin_F
  by_cases q : F 1 0 = none
  · rw [if_pos q, if_pos q]; exact h0
  · rw [if_neg q, if_neg q]
    refine ⟨by rw [bFinish_0 (by decide)]; exact kn, k12, klc, ?_, by rw [bFinish_0 (by decide)]; exact kv, k500, kln, ?_, by rw [bFinish_k (by decide)]; exact kw, kw12, ?_, ?_, ?_⟩
    · intro j hj; rw [gf_k (by decide)]; exact kf2 j hj
    · intro j hj; rw [gf_k (by decide)]; exact kf3 j hj
    · intro j hj; unfold qv; rw [gf_k (by decide)]; exact kq j hj
    · intro z; exact absurd gf_self z
    · intro v hv; rw [bFinish_70 (by decide)]; exact kc v hv
theorem bArm_k {I : gI} {F : gF} {v i : Nat} {m h0 : Int32} {k : Nat} (h : k ≠ 2 ∧ k ≠ 7) : (bArm_I I F v i m h0) k = I k := by
  obtain ⟨h1, h2⟩ := h
  funext a b
  simp [bArm_I, gr, h1, h2]
theorem bArm_7 {I : gI} {F : gF} {v i w : Nat} {m h0 : Int32} {s : Nat} (h : s ≠ 6 ∧ s ≠ 10) : (bArm_I I F v i m h0) 7 w s = I 7 w s := by
  obtain ⟨h1, h2⟩ := h
  by_cases q : w = v
  · subst q; simp [bArm_I, gr, upd, h1, h2]
  · simp [bArm_I, gr, q]
theorem bBegun_k {I : gI} {F : gF} {i : Nat} {m : Int32} {k : Nat} (h : k ≠ 4 ∧ k ≠ 5) : (bBegun_I I F i m) k = I k := by
  obtain ⟨h1, h2⟩ := h
  funext a b
  simp [bBegun_I, gr, h1, h2]
theorem bFillB_0 {J : gI} {G : gF} {v i : Nat} {s : Nat} (h : s ≠ 13) : (bFillB J G v i) 0 0 s = J 0 0 s := by
  unfold bFillB
  rw [bBegun_k (by decide), bArm_k (by decide)]
  simp [gr, upd, h]
theorem bFillB_k {J : gI} {G : gF} {v i : Nat} {k : Nat} (h : k ≠ 0 ∧ k ≠ 2 ∧ k ≠ 4 ∧ k ≠ 5 ∧ k ≠ 7) : (bFillB J G v i) k = J k := by
  obtain ⟨h1, h2, h3, h4, h5⟩ := h
  unfold bFillB
  rw [bBegun_k ⟨h3, h4⟩, bArm_k ⟨h2, h5⟩]
  funext a
  simp [gr, h1]
theorem bFillB_7 {J : gI} {G : gF} {v i w : Nat} {s : Nat} (h : s ≠ 6 ∧ s ≠ 10) : (bFillB J G v i) 7 w s = J 7 w s := by
  unfold bFillB
  rw [bBegun_k (by decide), bArm_7 h]
  simp [gr]
noncomputable def nwB (I : gI) (F : gF) (nw : Nat) : Nat := if I 0 0 8 = 0 then nw else if bBusy_r I F = 0 then nw - 1 else nw
theorem CI_fill {I : gI} {F : gF} {lc ln nc nv nw : Nat} (h : CI I F lc ln nc nv nw) : CI (bFill_I I F nw) (bFill_F I F nw) lc ln nc nv (nwB I F nw) := by
  have hh := h
  obtain ⟨kn, k12, klc, kf2, kv, k500, kln, kf3, kw, kw12, kq, kb, kc⟩ := h
  unfold bFill_I bFill_F nwB
  by_cases c1 : I 0 0 8 = 0
  · rw [if_pos c1, if_pos c1, if_pos c1]; exact hh
  · rw [if_neg c1, if_neg c1, if_neg c1]
    by_cases c2 : bBusy_r I F = 0
    · rw [if_pos c2, if_pos c2, if_pos c2]
      by_cases c3 : nw = 0
      · rw [if_pos c3, if_pos c3]; rw [show nw - 1 = nw by omega]; exact hh
      · rw [if_neg c3, if_neg c3]
        have a0 : bCh I F nw (I 0 0 7) < nw := gSt_getD (Nat.pos_of_ne_zero c3)
        have hT := CI_take hh (Nat.pos_of_ne_zero c3) a0
        have v0 := (kq _ a0).2
        generalize bCh I F nw (I 0 0 7) = a at *
        generalize hJ : gs I 1 0 1 (I 1 0 1 - 1) = J at *
        have hk7 : ∀ w : Nat, J 7 w 0 = I 7 w 0 := fun w => by rw [← hJ]; simp [gr]
        obtain ⟨tn, t12, tlc, tf2, tv, t500, tln, tf3, tw, tw12, tq, tb, tc⟩ := hT
        refine ⟨by rw [bFillB_0 (by decide)]; exact tn, t12, tlc, ?_, by rw [bFillB_0 (by decide)]; exact tv, t500, tln, ?_, by rw [bFillB_k (by decide)]; exact tw, tw12, ?_, ?_, ?_⟩
        · intro j hj; rw [gf_k (by decide)]; exact tf2 j hj
        · intro j hj; rw [gf_k (by decide)]; exact tf3 j hj
        · intro j hj
          have := tq j hj
          unfold qv at this ⊢
          rw [gf_k (by decide)]
          exact this
        · intro z
          unfold bv
          rw [gf_self]
          exact ⟨rfl, v0⟩
        · intro v hv; rw [bFillB_7 (by decide)]; exact tc v hv
    · rw [if_neg c2, if_neg c2, if_neg c2]; exact hh
noncomputable def bPasF (I : gI) (F : gF) : gI := bFin_I (gs I 0 0 7 (I 2 0 4)) F 1
noncomputable def bPassL (to : Int32) : Nat → gI → gF → Nat → gI × gF
  | 0, I, F, _ => (I, F)
  | n + 1, I, F, nw => if bBusy_r I F = 0 then (I, F) else if to < I 2 0 4 then (I, F) else bPassL to n (bFill_I (bPasF I F) (bFin_F F) nw) (bFill_F (bPasF I F) (bFin_F F) nw) (nwB (bPasF I F) (bFin_F F) nw)
noncomputable def bPass_r (I : gI) (a : Int32) : Int32 := if pI (mIn a 1 20000) = 0 then -2 else if I 0 0 7 + a ≤ 100000 then I 0 0 7 + a else -4
noncomputable def bPass_I (I : gI) (F : gF) (nw : Nat) (a : Int32) : gI := if pI (mIn a 1 20000) = 0 then I else if I 0 0 7 + a ≤ 100000 then gs (bPassL (I 0 0 7 + a) 12 I F nw).1 0 0 7 (I 0 0 7 + a) else I
noncomputable def bPass_F (I : gI) (F : gF) (nw : Nat) (a : Int32) : gF := if pI (mIn a 1 20000) = 0 then F else if I 0 0 7 + a ≤ 100000 then (bPassL (I 0 0 7 + a) 12 I F nw).2 else F
theorem bPassL_out {to : Int32} {f nw : Nat} {J : gI} {G : gF} (h : f = 0 ∨ bBusy_r J G = 0 ∨ to < J 2 0 4) : bPassL to f J G nw = (J, G) := by
  cases f with
  | zero => rfl
  | succ f =>
    show (if bBusy_r J G = 0 then (J, G) else if to < J 2 0 4 then (J, G) else _) = (J, G)
    by_cases q : bBusy_r J G = 0
    · rw [if_pos q]
    · rw [if_neg q, if_pos ((h.resolve_left (by omega)).resolve_left q)]
theorem bPassL_step {to : Int32} {f nw : Nat} {J : gI} {G : gF} (h1 : ¬ bBusy_r J G = 0) (h2 : ¬ to < J 2 0 4) (hf : 0 < f) : bPassL to f J G nw = bPassL to (f - 1) (bFill_I (bPasF J G) (bFin_F G) nw) (bFill_F (bPasF J G) (bFin_F G) nw) (nwB (bPasF J G) (bFin_F G) nw) := by
  obtain ⟨f, rfl⟩ : ∃ q, f = q + 1 := ⟨f - 1, by omega⟩
  show (if bBusy_r J G = 0 then (J, G) else if to < J 2 0 4 then (J, G) else _) = _
  rw [if_neg h1, if_neg h2]
  rfl
set_option maxHeartbeats 4000000 in
set_option maxRecDepth 100000 in
theorem c_X5_pass (D : va_G) (E : gEc) (ad : gAd) (I : gI) (F : gF) (lc ln : Nat) (nc nv nw : Nat) (hC : CI I F lc ln nc nv nw) (a : Int32) : gCon D E yX5_pass cX5_pass 4 (some .int) 4 0 0 [.ref (ad 0 0), .int a] ad (cX E ad I F lc ln) (gPd (some (.int (bPass_r I a))) ad (cX E ad (bPass_I I F nw a) (bPass_F I F nw a) lc ln)) := by
  refine gCon.of (by decide) (Nat.le_of_ble_eq_true rfl) ?_
  intro l A Rn h
  have hC0 := hC
  obtain ⟨kn, k12, klc, kf2, kv, k500, kln, kf3, kw, kw12, kq, kb, kc⟩ := hC
  have hbv := hC0.hbv
  show Rn 0 [(0, .ref (ad 0 0)), (1, .int a)] [] ad (cX E ad I F lc ln) 0 0
  refine r_iload_n h.ok dX5_pass_0 1 rfl ?_
  refine r_iconst (v := 1) h.ok dX5_pass_1 (by decide) ?_
  refine r_sipush (v := 20000) h.ok dX5_pass_2 (by decide) ?_
  refine r_callS h.ok [.int a, .int 1, .int 20000] [] dX5_pass_5 (c_X5_within D E ad I F lc ln a 1 20000) wml_X5_46 wst_X5_within win_X5 wco_X5_within yok_X5_within ⟨by decide, by decide, by simp [gRm], by simp [gRm]⟩ (Nat.le_of_ble_eq_true rfl) rfl ?_
  show Rn 8 [(0, .ref (ad 0 0)), (1, .int a)] [.int (pI (mIn a 1 20000))] ad (cX E ad I F lc ln) 0 0
  refine r_if_ne h.ok 14 dX5_pass_8 (by decide) (fun c_8 => ?_) (fun c_8 => ?_)
  · refine r_aload_n h.ok dX5_pass_14 0 rfl ?_
    refine r_get (v := .int (I 0 0 7)) h.ok 7 dX5_pass_15 (xo_0 _) rfl inX5 (by decide) wfl_X5_54 rfl ?_
    refine r_iload_n h.ok dX5_pass_18 1 rfl ?_
    refine r_iadd h.ok dX5_pass_19 ?_
    refine r_istore_n (lv' := [(2, .int ((I 0 0 7) + a)), (0, .ref (ad 0 0)), (1, .int a)]) h.ok dX5_pass_20 (by decide) rfl ?_
    refine r_iload_n h.ok dX5_pass_21 0 rfl ?_
    refine r_ldc h.ok dX5_pass_22 wk_X5_111 ?_
    refine r_icmp_le h.ok 30 dX5_pass_24 (by decide) (fun c_24 => ?_) (fun c_24 => ?_)
    · refine r_iconst (v := 0) h.ok dX5_pass_30 (by decide) ?_
      refine r_istore_n (lv' := [(3, .int 0), (2, .int ((I 0 0 7) + a)), (0, .ref (ad 0 0)), (1, .int a)]) h.ok dX5_pass_31 (by decide) rfl ?_
      have lp32 : ∀ (n : Nat) (j : Nat) (x : Int32) (J : gI) (G : gF) (w : Nat), (j ≤ 12) → (13 ≤ j + n) → (x = nI j) → (CI J G lc ln nc nv w) → (bPassL (I 0 0 7 + a) 12 I F nw = bPassL (I 0 0 7 + a) (12 - j) J G w) → Rn 32 [(3, .int x), (2, .int ((I 0 0 7) + a)), (0, .ref (ad 0 0))] [] ad (cX E ad J G lc ln) 0 0 := by
        intro n
        induction n with
        | zero => intro j  x  J  G  w  hj hf hx hCJ hs; exfalso; omega
        | succ n ih32 =>
          intro j  x  J  G  w  hj hf hx hCJ hs
          refine r_iload_n h.ok dX5_pass_32 0 rfl ?_
          refine r_bipush (v := 12) h.ok dX5_pass_33 (by decide) ?_
          refine r_icmp_ge h.ok 85 dX5_pass_35 (by decide) (fun c_35 => ?_) (fun c_35 => ?_)
          · have jw : j = 12 := ge_nI hx (by decide) hj (by rw [show nI 12 = 12 by decide]; exact c_35)
            refine r_aload_n h.ok dX5_pass_85 2 rfl ?_
            refine r_iload_n h.ok dX5_pass_86 1 rfl ?_
            refine r_put (ty := tyX5) h.ok 7 dX5_pass_87 (xo_0 _) rfl inX5 tyX5_ok nmX5 (by decide) wfl_X5_54 rfl rfl rfl (by simp) (cX_put (r' := upd (J 0 0) 7 ((I 0 0 7) + a)) (xo_0 _)) ?_
            refine r_aload_n h.ok dX5_pass_90 2 rfl ?_
            refine r_get (v := .int ((I 0 0 7) + a)) h.ok 7 dX5_pass_91 (xo_0 _) rfl inX5 (by decide) wfl_X5_54 (congrArg (fun z => some (Value.int z)) (by simp [gr, upd] : (gs J 0 0 7 ((I 0 0 7) + a)) 0 0 7 = (I 0 0 7) + a)) ?_
            refine r_iret h dX5_pass_94 ⟨by decide, by decide⟩ ⟨(by unfold bPass_r; rw [if_neg c_8, if_pos c_24]), rfl, (by unfold bPass_I bPass_F; rw [if_neg c_8, if_pos c_24, if_neg c_8, if_pos c_24, hs, bPassL_out (Or.inl (by omega))])⟩
          · have jw : j < 12 := lt_nI hx (by decide) hj (by rw [show nI 12 = 12 by decide]; exact c_35)
            refine r_aload_n h.ok dX5_pass_38 2 rfl ?_
            refine r_get h.ok 3 dX5_pass_39 (xo_0 _) rfl inX5 (by decide) wfl_X5_31 rfl ?_
            refine r_callV h.ok [] [] dX5_pass_42 (c_X0_isBusy D E ad J G lc ln hCJ.hbv) wml_X5_112 wim_X0_isBusy wse_X0_isBusy win_X0 wco_X0_isBusy yok_X0_isBusy (xo_2 _) rfl rfl ⟨by decide, by decide, by simp [gRm], by simp [gRm]⟩ (Nat.le_of_ble_eq_true rfl) rfl ?_
            show Rn 45 [(3, .int x), (2, .int ((I 0 0 7) + a)), (0, .ref (ad 0 0))] [.int (bBusy_r J G)] ad (cX E ad J G lc ln) 0 0
            refine r_if_eq h.ok 85 dX5_pass_45 (by decide) (fun c_45 => ?_) (fun c_45 => ?_)
            · refine r_aload_n h.ok dX5_pass_85 2 rfl ?_
              refine r_iload_n h.ok dX5_pass_86 1 rfl ?_
              refine r_put (ty := tyX5) h.ok 7 dX5_pass_87 (xo_0 _) rfl inX5 tyX5_ok nmX5 (by decide) wfl_X5_54 rfl rfl rfl (by simp) (cX_put (r' := upd (J 0 0) 7 ((I 0 0 7) + a)) (xo_0 _)) ?_
              refine r_aload_n h.ok dX5_pass_90 2 rfl ?_
              refine r_get (v := .int ((I 0 0 7) + a)) h.ok 7 dX5_pass_91 (xo_0 _) rfl inX5 (by decide) wfl_X5_54 (congrArg (fun z => some (Value.int z)) (by simp [gr, upd] : (gs J 0 0 7 ((I 0 0 7) + a)) 0 0 7 = (I 0 0 7) + a)) ?_
              refine r_iret h dX5_pass_94 ⟨by decide, by decide⟩ ⟨(by unfold bPass_r; rw [if_neg c_8, if_pos c_24]), rfl, (by unfold bPass_I bPass_F; rw [if_neg c_8, if_pos c_24, if_neg c_8, if_pos c_24, hs, bPassL_out (Or.inr (Or.inl c_45))])⟩
            · refine r_aload_n h.ok dX5_pass_48 2 rfl ?_
              refine r_get h.ok 3 dX5_pass_49 (xo_0 _) rfl inX5 (by decide) wfl_X5_31 rfl ?_
              refine r_get (v := .int (J 2 0 4)) h.ok 4 dX5_pass_52 (xo_2 _) rfl inX0 (by decide) wfl_X5_116 rfl ?_
              refine r_iload_n h.ok dX5_pass_55 1 rfl ?_
              refine r_icmp_gt h.ok 85 dX5_pass_56 (by decide) (fun c_56 => ?_) (fun c_56 => ?_)
              · refine r_aload_n h.ok dX5_pass_85 2 rfl ?_
                refine r_iload_n h.ok dX5_pass_86 1 rfl ?_
                refine r_put (ty := tyX5) h.ok 7 dX5_pass_87 (xo_0 _) rfl inX5 tyX5_ok nmX5 (by decide) wfl_X5_54 rfl rfl rfl (by simp) (cX_put (r' := upd (J 0 0) 7 ((I 0 0 7) + a)) (xo_0 _)) ?_
                refine r_aload_n h.ok dX5_pass_90 2 rfl ?_
                refine r_get (v := .int ((I 0 0 7) + a)) h.ok 7 dX5_pass_91 (xo_0 _) rfl inX5 (by decide) wfl_X5_54 (congrArg (fun z => some (Value.int z)) (by simp [gr, upd] : (gs J 0 0 7 ((I 0 0 7) + a)) 0 0 7 = (I 0 0 7) + a)) ?_
                refine r_iret h dX5_pass_94 ⟨by decide, by decide⟩ ⟨(by unfold bPass_r; rw [if_neg c_8, if_pos c_24]), rfl, (by unfold bPass_I bPass_F; rw [if_neg c_8, if_pos c_24, if_neg c_8, if_pos c_24, hs, bPassL_out (Or.inr (Or.inr c_56))])⟩
              · refine r_aload_n h.ok dX5_pass_59 2 rfl ?_
                refine r_aload_n h.ok dX5_pass_60 2 rfl ?_
                refine r_get h.ok 3 dX5_pass_61 (xo_0 _) rfl inX5 (by decide) wfl_X5_31 rfl ?_
                refine r_get (v := .int (J 2 0 4)) h.ok 4 dX5_pass_64 (xo_2 _) rfl inX0 (by decide) wfl_X5_116 rfl ?_
                refine r_put (ty := tyX5) h.ok 7 dX5_pass_67 (xo_0 _) rfl inX5 tyX5_ok nmX5 (by decide) wfl_X5_54 rfl rfl rfl (by simp) (cX_put (r' := upd (J 0 0) 7 (J 2 0 4)) (xo_0 _)) ?_
                refine r_aload_n h.ok dX5_pass_70 2 rfl ?_
                refine r_iconst (v := 1) h.ok dX5_pass_71 (by decide) ?_
                refine r_callV h.ok [.int 1] [] dX5_pass_72 (c_X5_finishMilking D E ad (gs J 0 0 7 (J 2 0 4)) G lc ln nc nv w (CI_g0 hCJ (by decide)) 1) wml_X5_119 wim_X5_finishMilking wse_X5_finishMilking win_X5 wco_X5_finishMilking yok_X5_finishMilking (xo_0 _) rfl rfl ⟨by decide, by decide, by simp [gRm], by simp [gRm]⟩ (Nat.le_of_ble_eq_true rfl) rfl ?_
                show Rn 75 [(3, .int x), (2, .int ((I 0 0 7) + a)), (0, .ref (ad 0 0))] [] ad (cX E ad (bFin_I (gs J 0 0 7 (J 2 0 4)) G 1) (bFin_F G) lc ln) 0 0
                show Rn 75 [(3, .int x), (2, .int ((I 0 0 7) + a)), (0, .ref (ad 0 0))] [] ad (cX E ad (bPasF J G) (bFin_F G) lc ln) 0 0
                refine r_aload_n h.ok dX5_pass_75 2 rfl ?_
                refine r_callV h.ok [] [] dX5_pass_76 (c_X5_fillBox D E ad (bPasF J G) (bFin_F G) lc ln nc nv w (CI_fin (CI_g0 hCJ (by decide)))) wml_X5_123 wim_X5_fillBox wse_X5_fillBox win_X5 wco_X5_fillBox yok_X5_fillBox (xo_0 _) rfl rfl ⟨by decide, by decide, by simp [gRm], by simp [gRm]⟩ (Nat.le_of_ble_eq_true rfl) rfl ?_
                show Rn 79 [(3, .int x), (2, .int ((I 0 0 7) + a)), (0, .ref (ad 0 0))] [] ad (cX E ad (bFill_I (bPasF J G) (bFin_F G) w) (bFill_F (bPasF J G) (bFin_F G) w) lc ln) 0 0
                refine r_iinc (v := x + 1) (lv' := [(3, .int (x + 1)), (2, .int ((I 0 0 7) + a)), (0, .ref (ad 0 0))]) h.ok dX5_pass_79 0 rfl rfl (by decide) rfl ?_
                refine r_goto h.ok 32 dX5_pass_82 (by decide) ?_
                exact ih32 (j + 1) _ _ _ (nwB (bPasF J G) (bFin_F G) w) (by omega) (by omega) (by rw [hx]; exact nI_1 j) (CI_fill (CI_fin (CI_g0 hCJ (by decide)))) (by rw [hs, bPassL_step c_45 c_56 (by omega)]; rfl)
      refine r_lv (lv' := [(3, .int 0), (2, .int ((I 0 0 7) + a)), (0, .ref (ad 0 0))]) h.ok [0, 1, 2] rfl ?_
      exact lp32 13 0 0 I F nw (by decide) (by decide) rfl hC0 rfl
    · refine r_bipush (v := (-4)) h.ok dX5_pass_27 (by decide) ?_
      refine r_iret h dX5_pass_29 ⟨by decide, by decide⟩ ⟨(by unfold bPass_r; rw [if_neg c_8, if_neg c_24]), rfl, (by unfold bPass_I bPass_F; rw [if_neg c_8, if_neg c_24, if_neg c_8, if_neg c_24])⟩
  · refine r_bipush (v := (-2)) h.ok dX5_pass_11 (by decide) ?_
    refine r_iret h dX5_pass_13 ⟨by decide, by decide⟩ ⟨(by unfold bPass_r; rw [if_pos c_8]), rfl, (by unfold bPass_I bPass_F; rw [if_pos c_8, if_pos c_8])⟩
