set_option maxHeartbeats 4000000 in
set_option maxRecDepth 100000 in
theorem c_X6_enter (D : va_G) (E : gEc) (ad : gAd) (I : gI) (F : gF) (lc ln : Nat) (nc nv nw : Nat) (hM : MI I nc nv nw) : gCon D E yX6_enter cX6_enter 5 none 2 0 0 [.ref (ad 11 0)] ad (cX E ad I F lc ln) (gPd none ad (cX E ad (mEnter I F nw) F lc ln)) := by
  refine gCon.of (by decide) (Nat.le_of_ble_eq_true rfl) ?_
  intro l A Rn h
  obtain ⟨ht, hn, h12, hv, v500, hw, w12, hvc, hq, hb, hr⟩ := hM
  show Rn 0 [(0, .ref (ad 11 0))] [] ad (cX E ad I F lc ln) 0 0
  refine r_aload_n h.ok dX6_enter_0 0 rfl ?_
  refine r_get (v := .int (I 11 0 31)) h.ok 31 dX6_enter_1 (xo_11 _) rfl inX6 (by decide) wfl_X6_90 rfl ?_
  refine r_bipush (v := (-9)) h.ok dX6_enter_4 (by decide) ?_
  refine r_icmp_ne h.ok 23 dX6_enter_6 (by decide) (fun c_6 => ?_) (fun c_6 => ?_)
  · refine r_vret h dX6_enter_23 ⟨by decide, by decide⟩ ⟨rfl, rfl, (by unfold mEnter; rw [if_neg c_6])⟩
  · refine r_aload_n h.ok dX6_enter_9 0 rfl ?_
    refine r_get (v := .int (I 11 0 2)) h.ok 2 dX6_enter_10 (xo_11 _) rfl inX6 (by decide) wfl_X6_7 rfl ?_
    refine r_if_eq h.ok 23 dX6_enter_13 (by decide) (fun c_13 => ?_) (fun c_13 => ?_)
    · refine r_vret h dX6_enter_23 ⟨by decide, by decide⟩ ⟨rfl, rfl, (by unfold mEnter; rw [if_pos c_6, if_pos c_13])⟩
    · refine r_aload_n h.ok dX6_enter_16 0 rfl ?_
      refine r_get (v := .int (I 11 0 29)) h.ok 29 dX6_enter_17 (xo_11 _) rfl inX6 (by decide) wfl_X6_110 rfl ?_
      refine r_if_ne h.ok 24 dX6_enter_20 (by decide) (fun c_20 => ?_) (fun c_20 => ?_)
      · have nw0 : 0 < nw := Nat.pos_of_ne_zero (fun q => c_20 (by rw [hw, q]; rfl))
        refine r_iconst (v := 0) h.ok dX6_enter_24 (by decide) ?_
        refine r_istore_n (lv' := [(1, .int 0), (0, .ref (ad 11 0))]) h.ok dX6_enter_25 (by decide) rfl ?_
        refine r_iconst (v := 0) h.ok dX6_enter_26 (by decide) ?_
        refine r_istore_n (lv' := [(2, .int 0), (1, .int 0), (0, .ref (ad 11 0))]) h.ok dX6_enter_27 (by decide) rfl ?_
        refine r_iconst (v := 0) h.ok dX6_enter_28 (by decide) ?_
        refine r_istore_n (lv' := [(3, .int 0), (2, .int 0), (1, .int 0), (0, .ref (ad 11 0))]) h.ok dX6_enter_29 (by decide) rfl ?_
        have lp30 : ∀ (n : Nat) (j : Nat) (x3 x2 x1 : Int32), (j ≤ nw) → (nw + 1 ≤ j + n) → (x3 = nI j) → (x2 = gFl (gSt (mShy I) j)) → (x1 = nI ((gSt (mShy I) j).getD 0)) → Rn 30 [(3, .int x3), (2, .int x2), (1, .int x1), (0, .ref (ad 11 0))] [] ad (cX E ad I F lc ln) 0 0 := by
          intro n
          induction n with
          | zero => intro j  x3 x2 x1  hj hf hx3 h2 h1; exfalso; omega
          | succ n ih30 =>
            intro j  x3 x2 x1  hj hf hx3 h2 h1
            refine r_iload_n h.ok dX6_enter_30 0 rfl ?_
            refine r_aload_n h.ok dX6_enter_31 3 rfl ?_
            refine r_get (v := .int (I 11 0 29)) h.ok 29 dX6_enter_32 (xo_11 _) rfl inX6 (by decide) wfl_X6_110 rfl ?_
            rw [hw]
            refine r_icmp_ge h.ok 93 dX6_enter_35 (by decide) (fun c_35 => ?_) (fun c_35 => ?_)
            · have jw : j = nw := ge_nI hx3 (by omega) hj c_35
              have hx1 : x1 = nI (mCh I nw) := by rw [h1, jw]; rfl
              have alt : mCh I nw < nw := gSt_getD nw0
              refine r_aload_n h.ok dX6_enter_93 3 rfl ?_
              refine r_aload_n h.ok dX6_enter_94 3 rfl ?_
              refine r_get h.ok 30 dX6_enter_95 (xo_11 _) rfl inX6 (by decide) wfl_X6_87 rfl ?_
              refine r_iload_n h.ok dX6_enter_98 2 rfl ?_
              refine x_iald (v := I 12 30 (mCh I nw)) h.ok (mCh I nw) dX6_enter_99 rfl hx1 (by omega) (by decide) rfl ?_
              refine r_callV h.ok [.int (I 12 30 (mCh I nw))] [] dX6_enter_100 (c_X6_begin D E ad I F lc ln (I 12 30 (mCh I nw)) _ rfl (vp_mono (hq _ alt) v500) (vp_mono (hvc _ (vp_lt (hq _ alt))) h12)) wml_X6_113 wim_X6_begin wse_X6_begin win_X6 wco_X6_begin yok_X6_begin (xo_11 _) rfl rfl ⟨by decide, by decide, by simp [gRm], by simp [gRm]⟩ (Nat.le_of_ble_eq_true rfl) rfl ?_
              show Rn 103 [(3, .int x3), (2, .int x2), (1, .int x1), (0, .ref (ad 11 0))] [] ad (cX E ad (mBegin_I I F (I 12 30 (mCh I nw)) (I 12 19 (I 12 30 (mCh I nw)).toNatClampNeg)) F lc ln) 0 0
              have b29 := (mBegin_11 (I := I) (F := F) (v := I 12 30 (mCh I nw)) (c := I 12 19 (I 12 30 (mCh I nw)).toNatClampNeg)).2.2.2.1
              have b30 := (mBegin_12 (I := I) (F := F) (v := I 12 30 (mCh I nw)) (c := I 12 19 (I 12 30 (mCh I nw)).toNatClampNeg)).2.1
              generalize hB : mBegin_I I F (I 12 30 (mCh I nw)) (I 12 19 (I 12 30 (mCh I nw)).toNatClampNeg) = B at b29 b30 ⊢
              exact enter_tail h nw0 w12 alt hx1 (b29.trans hw) b30 (fun I2 hI2 => ⟨rfl, rfl, by unfold mEnter; rw [if_pos c_6, if_neg c_13, if_neg c_20]; unfold mEnterB; rw [hB, ← hI2]⟩)
            · have jw : j < nw := lt_nI hx3 (by omega) hj c_35
              refine r_aload_n h.ok dX6_enter_38 3 rfl ?_
              refine r_get h.ok 30 dX6_enter_39 (xo_11 _) rfl inX6 (by decide) wfl_X6_87 rfl ?_
              refine r_iload_n h.ok dX6_enter_42 0 rfl ?_
              refine x_iald (v := I 12 30 j) h.ok j dX6_enter_43 rfl hx3 (by omega) (by decide) rfl ?_
              refine r_istore (lv' := [(4, .int (I 12 30 j)), (3, .int x3), (2, .int x2), (1, .int x1), (0, .ref (ad 11 0))]) h.ok dX6_enter_44 (by decide) rfl ?_
              refine r_iload_n h.ok dX6_enter_46 2 rfl ?_
              refine r_if_ne h.ok 87 dX6_enter_47 (by decide) (fun c_47 => ?_) (fun c_47 => ?_)
              · refine r_iinc (v := x3 + 1) (lv' := [(3, .int (x3 + 1)), (4, .int (I 12 30 j)), (2, .int x2), (1, .int x1), (0, .ref (ad 11 0))]) h.ok dX6_enter_87 1 rfl rfl (by decide) rfl ?_
                refine r_goto h.ok 30 dX6_enter_90 (by decide) ?_
                refine r_lv (lv' := [(3, .int (x3 + 1)), (2, .int x2), (1, .int x1), (0, .ref (ad 11 0))]) h.ok [0, 2, 3, 4] rfl ?_
                exact ih30 (j + 1) _ _ _ (by omega) (by omega) (by rw [hx3]; exact nI_1 j) (by obtain ⟨a, ha⟩ := gFl_1 (fun q => c_47 (h2.trans q)); rw [gSt_keep ha, ← ha]; exact h2) (by obtain ⟨a, ha⟩ := gFl_1 (fun q => c_47 (h2.trans q)); rw [gSt_keep ha, ← ha]; exact h1)
              · refine r_aload_n h.ok dX6_enter_50 4 rfl ?_
                refine r_get h.ok 4 dX6_enter_51 (xo_11 _) rfl inX6 (by decide) wfl_X6_13 rfl ?_
                refine r_aload_n h.ok dX6_enter_54 4 rfl ?_
                refine r_get h.ok 19 dX6_enter_55 (xo_11 _) rfl inX6 (by decide) wfl_X6_56 rfl ?_
                refine r_iload h.ok dX6_enter_58 0 rfl ?_
                refine x_ialp (v := I 12 19 ((I 12 30 j).toNatClampNeg)) h.ok dX6_enter_60 rfl (vp_mono (hq j jw) v500) rfl ?_
                refine x_ialp (v := I 12 4 ((I 12 19 ((I 12 30 j).toNatClampNeg)).toNatClampNeg)) h.ok dX6_enter_61 rfl (vp_mono (hvc _ (vp_lt (hq j jw))) h12) rfl ?_
                refine r_iconst (v := 1) h.ok dX6_enter_62 (by decide) ?_
                refine r_icmp_ne h.ok 87 dX6_enter_63 (by decide) (fun c_63 => ?_) (fun c_63 => ?_)
                · refine r_iinc (v := x3 + 1) (lv' := [(3, .int (x3 + 1)), (4, .int (I 12 30 j)), (2, .int x2), (1, .int x1), (0, .ref (ad 11 0))]) h.ok dX6_enter_87 1 rfl rfl (by decide) rfl ?_
                  refine r_goto h.ok 30 dX6_enter_90 (by decide) ?_
                  refine r_lv (lv' := [(3, .int (x3 + 1)), (2, .int x2), (1, .int x1), (0, .ref (ad 11 0))]) h.ok [0, 2, 3, 4] rfl ?_
                  exact ih30 (j + 1) _ _ _ (by omega) (by omega) (by rw [hx3]; exact nI_1 j) (by rw [gSt_miss (gFl_0 (h2.symm.trans c_47)) (show ¬ mShy I j from fun q => c_63 q.1)]; exact h2.trans (by rw [(gFl_0 (h2.symm.trans c_47))])) (by rw [gSt_miss (gFl_0 (h2.symm.trans c_47)) (show ¬ mShy I j from fun q => c_63 q.1)]; exact h1.trans (by rw [(gFl_0 (h2.symm.trans c_47))]))
                · refine r_aload_n h.ok dX6_enter_66 4 rfl ?_
                  refine r_get (v := .int (I 11 0 1)) h.ok 1 dX6_enter_67 (xo_11 _) rfl inX6 (by decide) wfl_X6_107 rfl ?_
                  refine r_aload_n h.ok dX6_enter_70 4 rfl ?_
                  refine r_get h.ok 20 dX6_enter_71 (xo_11 _) rfl inX6 (by decide) wfl_X6_59 rfl ?_
                  refine r_iload h.ok dX6_enter_74 0 rfl ?_
                  refine x_ialp (v := I 12 20 ((I 12 30 j).toNatClampNeg)) h.ok dX6_enter_76 rfl (vp_mono (hq j jw) v500) rfl ?_
                  refine r_isub h.ok dX6_enter_77 ?_
                  refine r_bipush (v := 30) h.ok dX6_enter_78 (by decide) ?_
                  refine r_icmp_lt h.ok 87 dX6_enter_80 (by decide) (fun c_80 => ?_) (fun c_80 => ?_)
                  · refine r_iinc (v := x3 + 1) (lv' := [(3, .int (x3 + 1)), (4, .int (I 12 30 j)), (2, .int x2), (1, .int x1), (0, .ref (ad 11 0))]) h.ok dX6_enter_87 1 rfl rfl (by decide) rfl ?_
                    refine r_goto h.ok 30 dX6_enter_90 (by decide) ?_
                    refine r_lv (lv' := [(3, .int (x3 + 1)), (2, .int x2), (1, .int x1), (0, .ref (ad 11 0))]) h.ok [0, 2, 3, 4] rfl ?_
                    exact ih30 (j + 1) _ _ _ (by omega) (by omega) (by rw [hx3]; exact nI_1 j) (by rw [gSt_miss (gFl_0 (h2.symm.trans c_47)) (show ¬ mShy I j from fun q => q.2 c_80)]; exact h2.trans (by rw [(gFl_0 (h2.symm.trans c_47))])) (by rw [gSt_miss (gFl_0 (h2.symm.trans c_47)) (show ¬ mShy I j from fun q => q.2 c_80)]; exact h1.trans (by rw [(gFl_0 (h2.symm.trans c_47))]))
                  · refine r_iload_n h.ok dX6_enter_83 1 rfl ?_
                    refine r_istore_n (lv' := [(1, .int x3), (4, .int (I 12 30 j)), (3, .int x3), (2, .int x2), (0, .ref (ad 11 0))]) h.ok dX6_enter_84 (by decide) rfl ?_
                    refine r_iconst (v := 1) h.ok dX6_enter_85 (by decide) ?_
                    refine r_istore_n (lv' := [(2, .int 1), (1, .int x3), (4, .int (I 12 30 j)), (3, .int x3), (0, .ref (ad 11 0))]) h.ok dX6_enter_86 (by decide) rfl ?_
                    refine r_iinc (v := x3 + 1) (lv' := [(3, .int (x3 + 1)), (2, .int 1), (1, .int x3), (4, .int (I 12 30 j)), (0, .ref (ad 11 0))]) h.ok dX6_enter_87 3 rfl rfl (by decide) rfl ?_
                    refine r_goto h.ok 30 dX6_enter_90 (by decide) ?_
                    refine r_lv (lv' := [(3, .int (x3 + 1)), (2, .int 1), (1, .int x3), (0, .ref (ad 11 0))]) h.ok [0, 1, 2, 4] rfl ?_
                    exact ih30 (j + 1) _ _ _ (by omega) (by omega) (by rw [hx3]; exact nI_1 j) (by rw [gSt_hit (gFl_0 (h2.symm.trans c_47)) (show mShy I j from ⟨c_63, c_80⟩)]; rfl) (by rw [gSt_hit (gFl_0 (h2.symm.trans c_47)) (show mShy I j from ⟨c_63, c_80⟩)]; exact hx3)
        exact lp30 (nw + 1) 0 _ _ _ (Nat.zero_le _) (by omega) rfl rfl rfl
      · refine r_vret h dX6_enter_23 ⟨by decide, by decide⟩ ⟨rfl, rfl, (by unfold mEnter; rw [if_pos c_6, if_neg c_13, if_pos c_20])⟩
