theorem MI_gs {I : gI} {nc nv nw k : Nat} {x : Int32} (h : MI I nc nv nw) (hk : k ≠ 0 ∧ k ≠ 3 ∧ k ≠ 17 ∧ k ≠ 29 ∧ k ≠ 31) : MI (gs I 11 0 k x) nc nv nw := by
  obtain ⟨h1, h2, h3, h4, h5⟩ := hk
  obtain ⟨ht, hn, h12, hv, v500, hw, w12, hvc, hq, hb, hr⟩ := h
  refine ⟨?_, ?_, h12, ?_, v500, ?_, w12, ?_, ?_, ?_, ?_⟩
  · simp [gr, upd, Ne.symm h1, ht]
  · simp [gr, upd, Ne.symm h2, hn]
  · simp [gr, upd, Ne.symm h3, hv]
  · simp [gr, upd, Ne.symm h4, hw]
  · simpa [gr] using hvc
  · simpa [gr] using hq
  · simpa [gr, upd, Ne.symm h5] using hb
  · simpa [gr] using hr
theorem MI_g12 {I : gI} {nc nv nw s j : Nat} {x : Int32} (h : MI I nc nv nw) (hk : s ≠ 19 ∧ s ≠ 30 ∧ s ≠ 5) : MI (gs I 12 s j x) nc nv nw := by
  obtain ⟨h1, h2, h3⟩ := hk
  obtain ⟨ht, hn, h12, hv, v500, hw, w12, hvc, hq, hb, hr⟩ := h
  refine ⟨?_, ?_, h12, ?_, v500, ?_, w12, ?_, ?_, ?_, ?_⟩
  · simp [gr, ht]
  · simp [gr, hn]
  · simp [gr, hv]
  · simp [gr, hw]
  · simpa [gr, Ne.symm h1] using hvc
  · simpa [gr, Ne.symm h2] using hq
  · simpa [gr] using hb
  · simpa [gr, Ne.symm h3] using hr
def mMin (I : gI) : Int32 := I 11 0 1 - I 12 23 (I 11 0 31).toNatClampNeg - I 11 0 34
def mCutM (I : gI) : Int32 := if mMin I ≤ 0 then 0 else 20 * mMin I
def mCut (I : gI) : Int32 := if I 11 0 33 ≤ mCutM I then I 11 0 33 else mCutM I
noncomputable def mPower1 (I : gI) (F : gF) (b : Int32) : gI := if b = 0 then (if I 11 0 31 = -9 then gs I 11 0 2 b else mFinish_I (gs (gs I 11 0 2 b) 12 18 (I 11 0 31).toNatClampNeg 2) F (mCut I) (I 11 0 31) (I 12 19 (I 11 0 31).toNatClampNeg)) else gs I 11 0 2 b
noncomputable def mPower_I (I : gI) (F : gF) (nw : Nat) (b : Int32) : gI := mEnter (mPower1 I F b) F nw
def mPower_r (I : gI) : Int32 := if I 11 0 2 = 0 then 0 else 1
set_option maxHeartbeats 4000000 in
set_option maxRecDepth 100000 in
theorem power_tail {D : va_G} {E : gEc} {ad : gAd} {F : gF} {lc ln : Nat} {l : Launch} {A : Nat → Prop} {Rn : gR} {post : Option Value → gAd → gCe → Prop} {J : gI} {r : Int32} {nc nv nw : Nat} (h : gOkM l (gRm 3 0 0) cX6_power 5 (some .int) yX6_power.cls yX6_power.name D A E 0 0 post Rn) (hM : MI J nc nv nw) (hp : post (some (.int r)) ad (cX E ad (mEnter J F nw) F lc ln)) : Rn 102 [(2, .int r), (0, .ref (ad 11 0))] [] ad (cX E ad J F lc ln) 0 0 := by
  refine r_aload_n h.ok dX6_power_102 1 rfl ?_
  refine r_callV h.ok [] [] dX6_power_103 (c_X6_enter D E ad J F lc ln nc nv nw hM) wml_X6_181 wim_X6_enter wse_X6_enter win_X6 wco_X6_enter yok_X6_enter (xo_11 _) rfl rfl ⟨by decide, by decide, by simp [gRm], by simp [gRm]⟩ (Nat.le_of_ble_eq_true rfl) rfl ?_
  show Rn 106 [(2, .int r), (0, .ref (ad 11 0))] [] ad (cX E ad (mEnter J F nw) F lc ln) 0 0
  refine r_iload_n h.ok dX6_power_106 0 rfl ?_
  refine r_iret h dX6_power_107 ⟨by decide, by decide⟩ hp
set_option maxHeartbeats 4000000 in
set_option maxRecDepth 100000 in
theorem c_X6_power (D : va_G) (E : gEc) (ad : gAd) (I : gI) (F : gF) (lc ln : Nat) (b : Int32) (b01 : b = 0 ∨ b = 1) (nc nv nw : Nat) (hM : MI I nc nv nw) : gCon D E yX6_power cX6_power 5 (some .int) 3 0 0 [.ref (ad 11 0), .int b] ad (cX E ad I F lc ln) (gPd (some (.int (mPower_r I))) ad (cX E ad (mPower_I I F nw b) F lc ln)) := by
  refine gCon.of (by decide) (Nat.le_of_ble_eq_true rfl) ?_
  intro l A Rn h
  have hM0 := hM
  obtain ⟨ht, hn, h12, hv, v500, hw, w12, hvc, hq, hb, hr⟩ := hM
  show Rn 0 [(0, .ref (ad 11 0)), (1, .int b)] [] ad (cX E ad I F lc ln) 0 0
  refine r_aload_n h.ok dX6_power_0 0 rfl ?_
  refine r_iconst (v := 0) h.ok dX6_power_1 (by decide) ?_
  refine r_put (ty := tyX6) h.ok 0 dX6_power_2 (xo_11 _) rfl inX6 tyX6_ok nmX6 (by decide) wfl_X6_97 rfl rfl rfl (by simp) (cX_thr ht) ?_
  refine r_aload_n h.ok dX6_power_5 0 rfl ?_
  refine r_get (v := .int (I 11 0 2)) h.ok 2 dX6_power_6 (xo_11 _) rfl inX6 (by decide) wfl_X6_7 rfl ?_
  have K_9 : ∀ r : Int32, r = (mPower_r I) → Rn 17 [(0, .ref (ad 11 0)), (1, .int b)] [.int r] ad (cX E ad I F lc ln) 0 0 := by
    intro r e_r
    refine r_istore_n (lv' := [(2, .int r), (0, .ref (ad 11 0)), (1, .int b)]) h.ok dX6_power_17 (by decide) rfl ?_
    refine r_aload_n h.ok dX6_power_18 1 rfl ?_
    refine r_iload_n h.ok dX6_power_19 2 rfl ?_
    refine r_put (ty := tyX6) h.ok 2 dX6_power_20 (xo_11 _) rfl inX6 tyX6_ok nmX6 (by decide) wfl_X6_7 rfl (gNz b01) (gFz b01) (by simp) (cX_put (r' := upd (I 11 0) 2 b) (xo_11 _)) ?_
    refine r_iload_n h.ok dX6_power_23 2 rfl ?_
    refine r_if_ne h.ok 102 dX6_power_24 (by decide) (fun c_24 => ?_) (fun c_24 => ?_)
    · refine r_lv (lv' := [(2, .int r), (0, .ref (ad 11 0))]) h.ok [0, 1] rfl ?_
      exact power_tail h (MI_gs hM0 (by decide)) ⟨by rw [e_r], rfl, by unfold mPower_I mPower1; rw [if_neg c_24]⟩
    · refine r_aload_n h.ok dX6_power_27 1 rfl ?_
      refine r_get (v := .int (I 11 0 31)) h.ok 31 dX6_power_28 (xo_11 _) rfl inX6 (by decide) wfl_X6_90 (congrArg (fun z => some (Value.int z)) (by simp [gr, upd] : (gs I 11 0 2 b) 11 0 31 = I 11 0 31)) ?_
      refine r_bipush (v := (-9)) h.ok dX6_power_31 (by decide) ?_
      refine r_icmp_eq h.ok 102 dX6_power_33 (by decide) (fun c_33 => ?_) (fun c_33 => ?_)
      · refine r_lv (lv' := [(2, .int r), (0, .ref (ad 11 0))]) h.ok [0, 1] rfl ?_
        exact power_tail h (MI_gs hM0 (by decide)) ⟨by rw [e_r], rfl, by unfold mPower_I mPower1; rw [if_pos c_24, if_pos c_33]⟩
      · refine r_aload_n h.ok dX6_power_36 1 rfl ?_
        refine r_get (v := .int (I 11 0 1)) h.ok 1 dX6_power_37 (xo_11 _) rfl inX6 (by decide) wfl_X6_107 (congrArg (fun z => some (Value.int z)) (by simp [gr, upd] : (gs I 11 0 2 b) 11 0 1 = I 11 0 1)) ?_
        refine r_aload_n h.ok dX6_power_40 1 rfl ?_
        refine r_get h.ok 23 dX6_power_41 (xo_11 _) rfl inX6 (by decide) wfl_X6_69 rfl ?_
        refine r_aload_n h.ok dX6_power_44 1 rfl ?_
        refine r_get (v := .int (I 11 0 31)) h.ok 31 dX6_power_45 (xo_11 _) rfl inX6 (by decide) wfl_X6_90 (congrArg (fun z => some (Value.int z)) (by simp [gr, upd] : (gs I 11 0 2 b) 11 0 31 = I 11 0 31)) ?_
        refine x_ialp (v := I 12 23 ((I 11 0 31).toNatClampNeg)) h.ok dX6_power_48 rfl (vp_mono (hb.resolve_left c_33) v500) rfl ?_
        refine r_isub h.ok dX6_power_49 ?_
        refine r_aload_n h.ok dX6_power_50 1 rfl ?_
        refine r_get (v := .int (I 11 0 34)) h.ok 34 dX6_power_51 (xo_11 _) rfl inX6 (by decide) wfl_X6_127 (congrArg (fun z => some (Value.int z)) (by simp [gr, upd] : (gs I 11 0 2 b) 11 0 34 = I 11 0 34)) ?_
        refine r_isub h.ok dX6_power_54 ?_
        refine r_istore_n (lv' := [(3, .int (((I 11 0 1) - (I 12 23 ((I 11 0 31).toNatClampNeg))) - (I 11 0 34))), (2, .int r), (0, .ref (ad 11 0)), (1, .int b)]) h.ok dX6_power_55 (by decide) rfl ?_
        refine r_iload_n h.ok dX6_power_56 0 rfl ?_
        have K_57 : ∀ mc : Int32, mc = (mCutM I) → Rn 68 [(3, .int (((I 11 0 1) - (I 12 23 ((I 11 0 31).toNatClampNeg))) - (I 11 0 34))), (2, .int r), (0, .ref (ad 11 0)), (1, .int b)] [.int mc] ad (cX E ad (gs I 11 0 2 b) F lc ln) 0 0 := by
          intro mc e_mc
          refine r_istore (lv' := [(4, .int mc), (3, .int (((I 11 0 1) - (I 12 23 ((I 11 0 31).toNatClampNeg))) - (I 11 0 34))), (2, .int r), (0, .ref (ad 11 0)), (1, .int b)]) h.ok dX6_power_68 (by decide) rfl ?_
          refine r_aload_n h.ok dX6_power_70 3 rfl ?_
          refine r_get h.ok 18 dX6_power_71 (xo_11 _) rfl inX6 (by decide) wfl_X6_53 rfl ?_
          refine r_aload_n h.ok dX6_power_74 3 rfl ?_
          refine r_get (v := .int (I 11 0 31)) h.ok 31 dX6_power_75 (xo_11 _) rfl inX6 (by decide) wfl_X6_90 (congrArg (fun z => some (Value.int z)) (by simp [gr, upd] : (gs I 11 0 2 b) 11 0 31 = I 11 0 31)) ?_
          refine r_iconst (v := 2) h.ok dX6_power_78 (by decide) ?_
          refine x_iasp h.ok dX6_power_79 (fun _ => rfl) (vp_mono (hb.resolve_left c_33) v500) ?_
          refine r_aload_n h.ok dX6_power_80 3 rfl ?_
          refine r_iload h.ok dX6_power_81 0 rfl ?_
          refine r_aload_n h.ok dX6_power_83 3 rfl ?_
          refine r_get (v := .int (I 11 0 33)) h.ok 33 dX6_power_84 (xo_11 _) rfl inX6 (by decide) wfl_X6_124 (congrArg (fun z => some (Value.int z)) (by simp [gr, upd] : (gs (gs I 11 0 2 b) 12 18 ((I 11 0 31).toNatClampNeg) 2) 11 0 33 = I 11 0 33)) ?_
          have K_87 : ∀ ml : Int32, ml = (if I 11 0 33 ≤ mc then I 11 0 33 else mc) → Rn 99 [(4, .int mc), (3, .int (((I 11 0 1) - (I 12 23 ((I 11 0 31).toNatClampNeg))) - (I 11 0 34))), (2, .int r), (0, .ref (ad 11 0)), (1, .int b)] [.int ml, .ref (ad 11 0)] ad (cX E ad (gs (gs I 11 0 2 b) 12 18 ((I 11 0 31).toNatClampNeg) 2) F lc ln) 0 0 := by
            intro ml e_ml
            refine r_callV h.ok [.int ml] [] dX6_power_99 (c_X6_finish D E ad (gs (gs I 11 0 2 b) 12 18 ((I 11 0 31).toNatClampNeg) 2) F lc ln ml (I 11 0 31) (I 12 19 (I 11 0 31).toNatClampNeg) (by simp [gr, upd]) (by simp [gr]) (vp_mono (hb.resolve_left c_33) v500) (vp_mono (hvc _ (vp_lt (hb.resolve_left c_33))) h12)) wml_X6_178 wim_X6_finish wse_X6_finish win_X6 wco_X6_finish yok_X6_finish (xo_11 _) rfl rfl ⟨by decide, by decide, by simp [gRm], by simp [gRm]⟩ (Nat.le_of_ble_eq_true rfl) rfl ?_
            show Rn 102 [(4, .int mc), (3, .int (((I 11 0 1) - (I 12 23 ((I 11 0 31).toNatClampNeg))) - (I 11 0 34))), (2, .int r), (0, .ref (ad 11 0)), (1, .int b)] [] ad (cX E ad (mFinish_I (gs (gs I 11 0 2 b) 12 18 ((I 11 0 31).toNatClampNeg) 2) F ml (I 11 0 31) (I 12 19 (I 11 0 31).toNatClampNeg)) F lc ln) 0 0
            refine r_lv (lv' := [(2, .int r), (0, .ref (ad 11 0))]) h.ok [2, 3] rfl ?_
            exact power_tail h (MI_finish (MI_g12 (MI_gs hM0 (by decide)) (by decide))) ⟨by rw [e_r], rfl, by unfold mPower_I mPower1; rw [if_pos c_24, if_neg c_33]; subst e_ml; subst e_mc; rfl⟩
          refine r_icmp_ge h.ok 95 dX6_power_87 (by decide) (fun c_87 => ?_) (fun c_87 => ?_)
          · refine r_aload_n h.ok dX6_power_95 3 rfl ?_
            refine r_get (v := .int (I 11 0 33)) h.ok 33 dX6_power_96 (xo_11 _) rfl inX6 (by decide) wfl_X6_124 (congrArg (fun z => some (Value.int z)) (by simp [gr, upd] : (gs (gs I 11 0 2 b) 12 18 ((I 11 0 31).toNatClampNeg) 2) 11 0 33 = I 11 0 33)) ?_
            exact K_87 _ (by simp [c_87])
          · refine r_iload h.ok dX6_power_90 0 rfl ?_
            refine r_goto h.ok 99 dX6_power_92 (by decide) ?_
            exact K_87 _ (by simp [c_87])
        refine r_if_le h.ok 67 dX6_power_57 (by decide) (fun c_57 => ?_) (fun c_57 => ?_)
        · refine r_iconst (v := 0) h.ok dX6_power_67 (by decide) ?_
          exact K_57 _ (by unfold mCutM; rw [if_pos (show mMin I ≤ 0 from c_57)])
        · refine r_bipush (v := 20) h.ok dX6_power_60 (by decide) ?_
          refine r_iload_n h.ok dX6_power_62 0 rfl ?_
          refine r_imul h.ok dX6_power_63 ?_
          refine r_goto h.ok 68 dX6_power_64 (by decide) ?_
          exact K_57 _ (by unfold mCutM; rw [if_neg (show ¬ mMin I ≤ 0 from c_57)]; rfl)
  refine r_if_eq h.ok 16 dX6_power_9 (by decide) (fun c_9 => ?_) (fun c_9 => ?_)
  · refine r_iconst (v := 0) h.ok dX6_power_16 (by decide) ?_
    exact K_9 _ (by simp [mPower_r, c_9])
  · refine r_iconst (v := 1) h.ok dX6_power_12 (by decide) ?_
    refine r_goto h.ok 17 dX6_power_13 (by decide) ?_
    exact K_9 _ (by simp [mPower_r, c_9])
