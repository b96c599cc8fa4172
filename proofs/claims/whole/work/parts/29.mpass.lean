noncomputable def mPassF (I : gI) (F : gF) : gI := mFinish_I (gs I 11 0 1 (I 11 0 35)) F (I 11 0 33) (I 11 0 31) (I 12 19 (I 11 0 31).toNatClampNeg)
noncomputable def mPassL (F : gF) (to : Int32) : Nat → gI → Nat → gI
  | 0, I, _ => I
  | n + 1, I, nw => if I 11 0 31 = -9 then I else if to < I 11 0 35 then I else mPassL F to n (mEnter (mPassF I F) F nw) (nwE (mPassF I F) nw)
noncomputable def mPass_r (I : gI) (a : Int32) : Int32 := if pI (mIn a 1 20000) = 0 then -2 else if I 11 0 1 + a ≤ 100000 then I 11 0 1 + a else -4
noncomputable def mPass_I (I : gI) (F : gF) (nw : Nat) (a : Int32) : gI := if pI (mIn a 1 20000) = 0 then I else if I 11 0 1 + a ≤ 100000 then gs (mPassL F (I 11 0 1 + a) 13 I nw) 11 0 1 (I 11 0 1 + a) else I
theorem mPassL_out {F : gF} {to : Int32} {f nw : Nat} {J : gI} (h : J 11 0 31 = -9 ∨ to < J 11 0 35) : mPassL F to f J nw = J := by
  cases f with
  | zero => rfl
  | succ f =>
    show (if J 11 0 31 = -9 then J else if to < J 11 0 35 then J else _) = J
    by_cases q : J 11 0 31 = -9
    · rw [if_pos q]
    · rw [if_neg q, if_pos (h.resolve_left q)]
theorem mPassL_step {F : gF} {to : Int32} {f nw : Nat} {J : gI} (h1 : ¬ J 11 0 31 = -9) (h2 : ¬ to < J 11 0 35) (hf : 1 ≤ f) : mPassL F to f J nw = mPassL F to (f - 1) (mEnter (mPassF J F) F nw) (nwE (mPassF J F) nw) := by
  obtain ⟨f, rfl⟩ : ∃ q, f = q + 1 := ⟨f - 1, by omega⟩
  show (if J 11 0 31 = -9 then J else if to < J 11 0 35 then J else _) = _
  rw [if_neg h1, if_neg h2]
  rfl
theorem MI_passF {J : gI} {F : gF} {nc nv nw : Nat} (h : MI J nc nv nw) : MI (mPassF J F) nc nv nw := MI_finish (MI_gs h (by decide))
/-- a step ends one milking: behind it the box is free, or one less waits -/
theorem mPass_less {J : gI} {F : gF} {nc nv nw : Nat} (h : MI J nc nv nw) (hb : ¬ mEnter (mPassF J F) F nw 11 0 31 = -9) : nwE (mPassF J F) nw + 1 ≤ nw := by
  have e31 : (mPassF J F) 11 0 31 = -9 := by simp [mPassF, mFinish_I, gr, upd]
  have hM := MI_passF (F := F) h
  unfold mEnter at hb
  unfold nwE
  rw [if_pos e31] at hb ⊢
  by_cases c2 : (mPassF J F) 11 0 2 = 0
  · rw [if_pos c2] at hb; exact absurd e31 hb
  · rw [if_neg c2] at hb ⊢
    by_cases c3 : (mPassF J F) 11 0 29 = 0
    · rw [if_pos c3] at hb; exact absurd e31 hb
    · rw [if_neg c3]
      have hw := hM.2.2.2.2.2.1
      have : 0 < nw := Nat.pos_of_ne_zero (fun q => c3 (by rw [hw, q]; rfl))
      omega
set_option maxHeartbeats 4000000 in
set_option maxRecDepth 100000 in
theorem c_X6_pass (D : va_G) (E : gEc) (ad : gAd) (I : gI) (F : gF) (lc ln : Nat) (a : Int32) (nc nv nw : Nat) (hM : MI I nc nv nw) : gCon D E yX6_pass cX6_pass 3 (some .int) 3 0 0 [.ref (ad 11 0), .int a] ad (cX E ad I F lc ln) (gPd (some (.int (mPass_r I a))) ad (cX E ad (mPass_I I F nw a) F lc ln)) := by
  refine gCon.of (by decide) (Nat.le_of_ble_eq_true rfl) ?_
  intro l A Rn h
  have hM0 := hM
  obtain ⟨ht, hn, h12, hv, v500, hw, w12, hvc, hq, hb, hr⟩ := hM
  show Rn 0 [(0, .ref (ad 11 0)), (1, .int a)] [] ad (cX E ad I F lc ln) 0 0
  refine r_aload_n h.ok dX6_pass_0 0 rfl ?_
  refine r_iconst (v := 0) h.ok dX6_pass_1 (by decide) ?_
  refine r_put (ty := tyX6) h.ok 0 dX6_pass_2 (xo_11 _) rfl inX6 tyX6_ok nmX6 (by decide) wfl_X6_97 rfl rfl rfl (by simp) (cX_thr ht) ?_
  refine r_iload_n h.ok dX6_pass_5 1 rfl ?_
  refine r_i2l h.ok dX6_pass_6 ?_
  refine r_lconst (v := Int32.toInt64 1) h.ok dX6_pass_7 (by decide) ?_
  refine r_ldc2 (v' := Int32.toInt64 20000) h.ok dX6_pass_8 wk_X6_175 (by decide) ?_
  refine r_callS h.ok [.long (Int32.toInt64 a), .long (Int32.toInt64 1), .long (Int32.toInt64 20000)] [] dX6_pass_11 (c_X6_in D E ad I F lc ln a 1 20000) wml_X6_103 wst_X6_in win_X6 wco_X6_in yok_X6_in ⟨by decide, by decide, by simp [gRm], by simp [gRm]⟩ (Nat.le_of_ble_eq_true rfl) rfl ?_
  show Rn 14 [(0, .ref (ad 11 0)), (1, .int a)] [.int (pI (mIn a 1 20000))] ad (cX E ad I F lc ln) 0 0
  refine r_if_ne h.ok 20 dX6_pass_14 (by decide) (fun c_14 => ?_) (fun c_14 => ?_)
  · refine r_aload_n h.ok dX6_pass_20 0 rfl ?_
    refine r_get (v := .int (I 11 0 1)) h.ok 1 dX6_pass_21 (xo_11 _) rfl inX6 (by decide) wfl_X6_107 rfl ?_
    refine r_iload_n h.ok dX6_pass_24 1 rfl ?_
    refine r_iadd h.ok dX6_pass_25 ?_
    refine r_ldc h.ok dX6_pass_26 wk_X6_177 ?_
    refine r_icmp_le h.ok 34 dX6_pass_28 (by decide) (fun c_28 => ?_) (fun c_28 => ?_)
    · refine r_aload_n h.ok dX6_pass_34 0 rfl ?_
      refine r_get (v := .int (I 11 0 1)) h.ok 1 dX6_pass_35 (xo_11 _) rfl inX6 (by decide) wfl_X6_107 rfl ?_
      refine r_iload_n h.ok dX6_pass_38 1 rfl ?_
      refine r_iadd h.ok dX6_pass_39 ?_
      refine r_istore_n (lv' := [(2, .int ((I 11 0 1) + a)), (0, .ref (ad 11 0)), (1, .int a)]) h.ok dX6_pass_40 (by decide) rfl ?_
      have lp41 : ∀ (n : Nat) (J : gI) (w f : Nat), (f + 1 ≤ n) → (MI J nc nv w) → (¬ J 11 0 31 = -9 → w + 1 ≤ f) → (mPassL F (I 11 0 1 + a) 13 I nw = mPassL F (I 11 0 1 + a) f J w) → Rn 41 [(2, .int ((I 11 0 1) + a)), (0, .ref (ad 11 0))] [] ad (cX E ad J F lc ln) 0 0 := by
        intro n
        induction n with
        | zero => intro J  w f  hf hMJ hfu hs; exfalso; omega
        | succ n ih41 =>
          intro J  w f  hf hMJ hfu hs
          refine r_aload_n h.ok dX6_pass_41 1 rfl ?_
          refine r_get (v := .int (J 11 0 31)) h.ok 31 dX6_pass_42 (xo_11 _) rfl inX6 (by decide) wfl_X6_90 rfl ?_
          refine r_bipush (v := (-9)) h.ok dX6_pass_45 (by decide) ?_
          refine r_icmp_eq h.ok 81 dX6_pass_47 (by decide) (fun c_47 => ?_) (fun c_47 => ?_)
          · refine r_aload_n h.ok dX6_pass_81 1 rfl ?_
            refine r_iload_n h.ok dX6_pass_82 0 rfl ?_
            refine r_put (ty := tyX6) h.ok 1 dX6_pass_83 (xo_11 _) rfl inX6 tyX6_ok nmX6 (by decide) wfl_X6_107 rfl rfl rfl (by simp) (cX_put (r' := upd (J 11 0) 1 ((I 11 0 1) + a)) (xo_11 _)) ?_
            refine r_aload_n h.ok dX6_pass_86 1 rfl ?_
            refine r_get (v := .int ((I 11 0 1) + a)) h.ok 1 dX6_pass_87 (xo_11 _) rfl inX6 (by decide) wfl_X6_107 (congrArg (fun z => some (Value.int z)) (by simp [gr, upd] : (gs J 11 0 1 ((I 11 0 1) + a)) 11 0 1 = (I 11 0 1) + a)) ?_
            refine r_iret h dX6_pass_90 ⟨by decide, by decide⟩ ⟨(by unfold mPass_r; rw [if_neg c_14, if_pos c_28]), rfl, (by unfold mPass_I; rw [if_neg c_14, if_pos c_28, hs, mPassL_out (Or.inl c_47)])⟩
          · refine r_aload_n h.ok dX6_pass_50 1 rfl ?_
            refine r_get (v := .int (J 11 0 35)) h.ok 35 dX6_pass_51 (xo_11 _) rfl inX6 (by decide) wfl_X6_130 rfl ?_
            refine r_iload_n h.ok dX6_pass_54 0 rfl ?_
            refine r_icmp_gt h.ok 81 dX6_pass_55 (by decide) (fun c_55 => ?_) (fun c_55 => ?_)
            · refine r_aload_n h.ok dX6_pass_81 1 rfl ?_
              refine r_iload_n h.ok dX6_pass_82 0 rfl ?_
              refine r_put (ty := tyX6) h.ok 1 dX6_pass_83 (xo_11 _) rfl inX6 tyX6_ok nmX6 (by decide) wfl_X6_107 rfl rfl rfl (by simp) (cX_put (r' := upd (J 11 0) 1 ((I 11 0 1) + a)) (xo_11 _)) ?_
              refine r_aload_n h.ok dX6_pass_86 1 rfl ?_
              refine r_get (v := .int ((I 11 0 1) + a)) h.ok 1 dX6_pass_87 (xo_11 _) rfl inX6 (by decide) wfl_X6_107 (congrArg (fun z => some (Value.int z)) (by simp [gr, upd] : (gs J 11 0 1 ((I 11 0 1) + a)) 11 0 1 = (I 11 0 1) + a)) ?_
              refine r_iret h dX6_pass_90 ⟨by decide, by decide⟩ ⟨(by unfold mPass_r; rw [if_neg c_14, if_pos c_28]), rfl, (by unfold mPass_I; rw [if_neg c_14, if_pos c_28, hs, mPassL_out (Or.inr c_55)])⟩
            · refine r_aload_n h.ok dX6_pass_58 1 rfl ?_
              refine r_aload_n h.ok dX6_pass_59 1 rfl ?_
              refine r_get (v := .int (J 11 0 35)) h.ok 35 dX6_pass_60 (xo_11 _) rfl inX6 (by decide) wfl_X6_130 rfl ?_
              refine r_put (ty := tyX6) h.ok 1 dX6_pass_63 (xo_11 _) rfl inX6 tyX6_ok nmX6 (by decide) wfl_X6_107 rfl rfl rfl (by simp) (cX_put (r' := upd (J 11 0) 1 (J 11 0 35)) (xo_11 _)) ?_
              refine r_aload_n h.ok dX6_pass_66 1 rfl ?_
              refine r_aload_n h.ok dX6_pass_67 1 rfl ?_
              refine r_get (v := .int (J 11 0 33)) h.ok 33 dX6_pass_68 (xo_11 _) rfl inX6 (by decide) wfl_X6_124 (congrArg (fun z => some (Value.int z)) (by simp [gr, upd] : (gs J 11 0 1 (J 11 0 35)) 11 0 33 = J 11 0 33)) ?_
              refine r_callV h.ok [.int (J 11 0 33)] [] dX6_pass_71 (c_X6_finish D E ad (gs J 11 0 1 (J 11 0 35)) F lc ln (J 11 0 33) (J 11 0 31) (J 12 19 (J 11 0 31).toNatClampNeg) (by simp [gr, upd]) (by simp [gr]) (vp_mono (hMJ.2.2.2.2.2.2.2.2.2.1.resolve_left c_47) v500) (vp_mono (hMJ.2.2.2.2.2.2.2.1 _ (vp_lt (hMJ.2.2.2.2.2.2.2.2.2.1.resolve_left c_47))) h12)) wml_X6_178 wim_X6_finish wse_X6_finish win_X6 wco_X6_finish yok_X6_finish (xo_11 _) rfl rfl ⟨by decide, by decide, by simp [gRm], by simp [gRm]⟩ (Nat.le_of_ble_eq_true rfl) rfl ?_
              show Rn 74 [(2, .int ((I 11 0 1) + a)), (0, .ref (ad 11 0))] [] ad (cX E ad (mFinish_I (gs J 11 0 1 (J 11 0 35)) F (J 11 0 33) (J 11 0 31) (J 12 19 (J 11 0 31).toNatClampNeg)) F lc ln) 0 0
              show Rn 74 [(2, .int ((I 11 0 1) + a)), (0, .ref (ad 11 0))] [] ad (cX E ad (mPassF J F) F lc ln) 0 0
              refine r_aload_n h.ok dX6_pass_74 1 rfl ?_
              refine r_callV h.ok [] [] dX6_pass_75 (c_X6_enter D E ad (mPassF J F) F lc ln nc nv w (MI_passF hMJ)) wml_X6_181 wim_X6_enter wse_X6_enter win_X6 wco_X6_enter yok_X6_enter (xo_11 _) rfl rfl ⟨by decide, by decide, by simp [gRm], by simp [gRm]⟩ (Nat.le_of_ble_eq_true rfl) rfl ?_
              show Rn 78 [(2, .int ((I 11 0 1) + a)), (0, .ref (ad 11 0))] [] ad (cX E ad (mEnter (mPassF J F) F w) F lc ln) 0 0
              refine r_goto h.ok 41 dX6_pass_78 (by decide) ?_
              exact ih41 _ (nwE (mPassF J F) w) (f - 1) (by have := hfu c_47; omega) (MI_enter (MI_passF hMJ)) (fun q => by have := mPass_less hMJ q; have := hfu c_47; omega) (by rw [hs]; exact mPassL_step c_47 c_55 (by have := hfu c_47; omega))
      refine r_lv (lv' := [(2, .int ((I 11 0 1) + a)), (0, .ref (ad 11 0))]) h.ok [0, 1] rfl ?_
      exact lp41 14 I nw 13 (by decide) hM0 (fun _ => by omega) rfl
    · refine r_bipush (v := (-4)) h.ok dX6_pass_31 (by decide) ?_
      refine r_iret h dX6_pass_33 ⟨by decide, by decide⟩ ⟨(by unfold mPass_r; rw [if_neg c_14, if_neg c_28]), rfl, (by unfold mPass_I; rw [if_neg c_14, if_neg c_28])⟩
  · refine r_bipush (v := (-2)) h.ok dX6_pass_17 (by decide) ?_
    refine r_iret h dX6_pass_19 ⟨by decide, by decide⟩ ⟨(by unfold mPass_r; rw [if_pos c_14]), rfl, (by unfold mPass_I; rw [if_pos c_14])⟩
