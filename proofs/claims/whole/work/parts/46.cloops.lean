def bFo (I : gI) (c d : Nat) : Int32 := if I 4 d 11 < (if nI c ≤ nI d then I 4 c 11 + 1 else I 4 c 11) then 0 else 1
noncomputable def bGv (I : gI) (F : gF) (c d : Int32) (j : Nat) : Int32 := if I 7 j 0 = c then (if bEndedOn_r I F j d = 0 then 0 else I 7 j 8) else 0
noncomputable def bVisitOf (I : gI) (nc nv : Nat) (c i : Int32) : Int32 := if pI (vp_in c nc) = 0 then -1 else gNth (fun v => I 7 v 0 = c) i (nv - 0) 0 0
noncomputable def bGave (I : gI) (F : gF) (nc nv : Nat) (c d : Int32) : Int32 := if pI (vp_in c nc) = 0 then -1 else if 0 ≤ d then gSum (bGv I F c d) nv else -2
noncomputable def bRank (I : gI) (nc : Nat) (i : Int32) : Int32 := gFind (fun c => gSum (bFo I c) nc = i) (nc - 0) 0
theorem gSum_0 {f : Nat → Int32} {j : Nat} {y : Int32} (hy : y = gSum f j) (h : f j = 0) : y = gSum f (j + 1) := by
  show y = gSum f j + f j
  rw [h, hy, Int32.add_zero]
theorem gSum_v {f : Nat → Int32} {j : Nat} {y v : Int32} (hy : y = gSum f j) (h : f j = v) : y + v = gSum f (j + 1) := by
  show y + v = gSum f j + f j
  rw [h, hy]
set_option maxHeartbeats 4000000 in
set_option maxRecDepth 100000 in
theorem c_X5_countAhead (D : va_G) (E : gEc) (ad : gAd) (I : gI) (F : gF) (lc ln : Nat) (nc nv nw : Nat) (hC : CI I F lc ln nc nv nw) (c : Int32) (k : Nat) (hk : c = nI k) (kk : k < nc) : gCon D E yX5_countAhead cX5_countAhead 7 (some .int) 2 0 0 [.ref (ad 0 0), .int c] ad (cX E ad I F lc ln) (gPd (some (.int (gSum (bFo I k) nc))) ad (cX E ad I F lc ln)) := by
  refine gCon.of (by decide) (Nat.le_of_ble_eq_true rfl) ?_
  intro l A Rn h
  have hC0 := hC
  obtain ⟨kn, k12, klc, kf2, kv, k500, kln, kf3, kw, kw12, kq, kb, kc⟩ := hC
  have hbv := hC0.hbv
  show Rn 0 [(0, .ref (ad 0 0)), (1, .int c)] [] ad (cX E ad I F lc ln) 0 0
  refine r_aload_n h.ok dX5_countAhead_0 0 rfl ?_
  refine r_iload_n h.ok dX5_countAhead_1 1 rfl ?_
  refine r_callV h.ok [.int c] [] dX5_countAhead_2 (c_X5_cowAt_s D E ad I F lc ln nc nv nw hC0 c k hk kk) wml_X5_60 wim_X5_cowAt wse_X5_cowAt win_X5 wco_X5_cowAt yok_X5_cowAt (xo_0 _) rfl rfl ⟨by decide, by decide, by simp [gRm], by simp [gRm]⟩ (Nat.le_of_ble_eq_true rfl) rfl ?_
  show Rn 5 [(0, .ref (ad 0 0)), (1, .int c)] [.ref (ad 4 k)] ad (cX E ad I F lc ln) 0 0
  refine r_astore_n (lv' := [(2, .ref (ad 4 k)), (0, .ref (ad 0 0)), (1, .int c)]) h.ok dX5_countAhead_5 (by decide) rfl ?_
  refine r_aload_n h.ok dX5_countAhead_6 0 rfl ?_
  refine r_ifnonnull h.ok 13 dX5_countAhead_7 (by decide) ?_
  refine r_iconst (v := 0) h.ok dX5_countAhead_13 (by decide) ?_
  refine r_istore_n (lv' := [(3, .int 0), (2, .ref (ad 4 k)), (0, .ref (ad 0 0)), (1, .int c)]) h.ok dX5_countAhead_14 (by decide) rfl ?_
  refine r_iconst (v := 0) h.ok dX5_countAhead_15 (by decide) ?_
  refine r_istore (lv' := [(4, .int 0), (3, .int 0), (2, .ref (ad 4 k)), (0, .ref (ad 0 0)), (1, .int c)]) h.ok dX5_countAhead_16 (by decide) rfl ?_
  have lp18 : ∀ (n : Nat) (j : Nat) (x y : Int32), (j ≤ nc) → (nc + 1 ≤ j + n) → (x = nI j) → (y = gSum (bFo I k) j) → Rn 18 [(4, .int x), (3, .int y), (2, .ref (ad 4 k)), (0, .ref (ad 0 0)), (1, .int c)] [] ad (cX E ad I F lc ln) 0 0 := by
    intro n
    induction n with
    | zero => intro j  x y  hj hf hx hy; exfalso; omega
    | succ n ih18 =>
      intro j  x y  hj hf hx hy
      refine r_iload h.ok dX5_countAhead_18 0 rfl ?_
      refine r_aload_n h.ok dX5_countAhead_20 3 rfl ?_
      refine r_get (v := .int (I 0 0 5)) h.ok 5 dX5_countAhead_21 (xo_0 _) rfl inX5 (by decide) wfl_X5_50 rfl ?_
      rw [kn]
      refine r_icmp_ge h.ok 80 dX5_countAhead_24 (by decide) (fun c_24 => ?_) (fun c_24 => ?_)
      · have jw : j = nc := ge_nI hx (by omega) hj c_24
        refine r_iload_n h.ok dX5_countAhead_80 1 rfl ?_
        refine r_iret h dX5_countAhead_81 ⟨by decide, by decide⟩ ⟨by rw [hy, jw], rfl, rfl⟩
      · have jw : j < nc := lt_nI hx (by omega) hj c_24
        refine r_aload_n h.ok dX5_countAhead_27 3 rfl ?_
        refine r_iload h.ok dX5_countAhead_28 0 rfl ?_
        refine r_callV h.ok [.int x] [] dX5_countAhead_30 (c_X5_cowAt_s D E ad I F lc ln nc nv nw hC0 x j hx jw) wml_X5_60 wim_X5_cowAt wse_X5_cowAt win_X5 wco_X5_cowAt yok_X5_cowAt (xo_0 _) rfl rfl ⟨by decide, by decide, by simp [gRm], by simp [gRm]⟩ (Nat.le_of_ble_eq_true rfl) rfl ?_
        show Rn 33 [(4, .int x), (3, .int y), (2, .ref (ad 4 k)), (0, .ref (ad 0 0)), (1, .int c)] [.ref (ad 4 j)] ad (cX E ad I F lc ln) 0 0
        refine r_astore (lv' := [(5, .ref (ad 4 j)), (4, .int x), (3, .int y), (2, .ref (ad 4 k)), (0, .ref (ad 0 0)), (1, .int c)]) h.ok dX5_countAhead_33 (by decide) rfl ?_
        refine r_iload h.ok dX5_countAhead_35 1 rfl ?_
        refine r_iload_n h.ok dX5_countAhead_37 5 rfl ?_
        have K_38 : ∀ le : Int32, le = (if c ≤ x then I 4 k 11 + 1 else I 4 k 11) → Rn 54 [(5, .ref (ad 4 j)), (4, .int x), (3, .int y), (2, .ref (ad 4 k)), (0, .ref (ad 0 0)), (1, .int c)] [.int le] ad (cX E ad I F lc ln) 0 0 := by
          intro le e_le
          refine r_istore (lv' := [(6, .int le), (5, .ref (ad 4 j)), (4, .int x), (3, .int y), (2, .ref (ad 4 k)), (0, .ref (ad 0 0)), (1, .int c)]) h.ok dX5_countAhead_54 (by decide) rfl ?_
          refine r_aload h.ok dX5_countAhead_56 1 rfl ?_
          refine r_ifnull h.ok dX5_countAhead_58 ?_
          refine r_aload h.ok dX5_countAhead_61 1 rfl ?_
          refine r_get (v := .int (I 4 j 11)) h.ok 11 dX5_countAhead_63 (xo_4 (Nat.lt_of_lt_of_le jw klc) _) rfl inX1 (by decide) wfl_X5_105 rfl ?_
          refine r_iload h.ok dX5_countAhead_66 0 rfl ?_
          refine r_icmp_lt h.ok 74 dX5_countAhead_68 (by decide) (fun c_68 => ?_) (fun c_68 => ?_)
          · refine r_iinc (v := x + 1) (lv' := [(4, .int (x + 1)), (6, .int le), (5, .ref (ad 4 j)), (3, .int y), (2, .ref (ad 4 k)), (0, .ref (ad 0 0)), (1, .int c)]) h.ok dX5_countAhead_74 2 rfl rfl (by decide) rfl ?_
            refine r_goto h.ok 18 dX5_countAhead_77 (by decide) ?_
            refine r_lv (lv' := [(4, .int (x + 1)), (3, .int y), (2, .ref (ad 4 k)), (0, .ref (ad 0 0)), (1, .int c)]) h.ok [0, 3, 4, 5, 6] rfl ?_
            exact ih18 (j + 1) _ _ (by omega) (by omega) (by rw [hx]; exact nI_1 j) (gSum_0 hy (show bFo I k j = 0 by unfold bFo; rw [← hx, ← hk, ← e_le]; exact if_pos c_68))
          · refine r_iinc (v := y + 1) (lv' := [(3, .int (y + 1)), (6, .int le), (5, .ref (ad 4 j)), (4, .int x), (2, .ref (ad 4 k)), (0, .ref (ad 0 0)), (1, .int c)]) h.ok dX5_countAhead_71 3 rfl rfl (by decide) rfl ?_
            refine r_iinc (v := x + 1) (lv' := [(4, .int (x + 1)), (3, .int (y + 1)), (6, .int le), (5, .ref (ad 4 j)), (2, .ref (ad 4 k)), (0, .ref (ad 0 0)), (1, .int c)]) h.ok dX5_countAhead_74 3 rfl rfl (by decide) rfl ?_
            refine r_goto h.ok 18 dX5_countAhead_77 (by decide) ?_
            refine r_lv (lv' := [(4, .int (x + 1)), (3, .int (y + 1)), (2, .ref (ad 4 k)), (0, .ref (ad 0 0)), (1, .int c)]) h.ok [0, 1, 4, 5, 6] rfl ?_
            exact ih18 (j + 1) _ _ (by omega) (by omega) (by rw [hx]; exact nI_1 j) (gSum_v hy (show bFo I k j = 1 by unfold bFo; rw [← hx, ← hk, ← e_le]; exact if_neg c_68))
        refine r_icmp_ge h.ok 48 dX5_countAhead_38 (by decide) (fun c_38 => ?_) (fun c_38 => ?_)
        · refine r_aload_n h.ok dX5_countAhead_48 3 rfl ?_
          refine r_get (v := .int (I 4 k 11)) h.ok 11 dX5_countAhead_49 (xo_4 (Nat.lt_of_lt_of_le kk klc) _) rfl inX1 (by decide) wfl_X5_105 rfl ?_
          refine r_iconst (v := 1) h.ok dX5_countAhead_52 (by decide) ?_
          refine r_iadd h.ok dX5_countAhead_53 ?_
          exact K_38 _ (by simp [c_38])
        · refine r_aload_n h.ok dX5_countAhead_41 3 rfl ?_
          refine r_get (v := .int (I 4 k 11)) h.ok 11 dX5_countAhead_42 (xo_4 (Nat.lt_of_lt_of_le kk klc) _) rfl inX1 (by decide) wfl_X5_105 rfl ?_
          refine r_goto h.ok 54 dX5_countAhead_45 (by decide) ?_
          exact K_38 _ (by simp [c_38])
  exact lp18 (nc + 1) 0 0 0 (Nat.zero_le _) (by omega) rfl rfl
set_option maxHeartbeats 4000000 in
set_option maxRecDepth 100000 in
theorem c_X5_rank (D : va_G) (E : gEc) (ad : gAd) (I : gI) (F : gF) (lc ln : Nat) (nc nv nw : Nat) (hC : CI I F lc ln nc nv nw) (i : Int32) : gCon D E yX5_rank cX5_rank 3 (some .int) 3 0 0 [.ref (ad 0 0), .int i] ad (cX E ad I F lc ln) (gPd (some (.int (bRank I nc i))) ad (cX E ad I F lc ln)) := by
  refine gCon.of (by decide) (Nat.le_of_ble_eq_true rfl) ?_
  intro l A Rn h
  have hC0 := hC
  obtain ⟨kn, k12, klc, kf2, kv, k500, kln, kf3, kw, kw12, kq, kb, kc⟩ := hC
  have hbv := hC0.hbv
  show Rn 0 [(0, .ref (ad 0 0)), (1, .int i)] [] ad (cX E ad I F lc ln) 0 0
  refine r_iconst (v := 0) h.ok dX5_rank_0 (by decide) ?_
  refine r_istore_n (lv' := [(2, .int 0), (0, .ref (ad 0 0)), (1, .int i)]) h.ok dX5_rank_1 (by decide) rfl ?_
  have lp2 : ∀ (n : Nat) (j : Nat) (x : Int32), (j ≤ nc) → (nc + 1 ≤ j + n) → (x = nI j) → (bRank I nc i = gFind (fun c => gSum (bFo I c) nc = i) (nc - j) j) → Rn 2 [(2, .int x), (0, .ref (ad 0 0)), (1, .int i)] [] ad (cX E ad I F lc ln) 0 0 := by
    intro n
    induction n with
    | zero => intro j  x  hj hf hx hs; exfalso; omega
    | succ n ih2 =>
      intro j  x  hj hf hx hs
      refine r_iload_n h.ok dX5_rank_2 0 rfl ?_
      refine r_aload_n h.ok dX5_rank_3 1 rfl ?_
      refine r_get (v := .int (I 0 0 5)) h.ok 5 dX5_rank_4 (xo_0 _) rfl inX5 (by decide) wfl_X5_50 rfl ?_
      rw [kn]
      refine r_icmp_ge h.ok 27 dX5_rank_7 (by decide) (fun c_7 => ?_) (fun c_7 => ?_)
      · have jw : j = nc := ge_nI hx (by omega) hj c_7
        refine r_bipush (v := (-9)) h.ok dX5_rank_27 (by decide) ?_
        refine r_iret h dX5_rank_29 ⟨by decide, by decide⟩ ⟨by rw [hs, gFind_end (by omega)], rfl, rfl⟩
      · have jw : j < nc := lt_nI hx (by omega) hj c_7
        refine r_aload_n h.ok dX5_rank_10 1 rfl ?_
        refine r_iload_n h.ok dX5_rank_11 0 rfl ?_
        refine r_callV h.ok [.int x] [] dX5_rank_12 (c_X5_countAhead D E ad I F lc ln nc nv nw hC0 x j hx jw) wml_X5_211 wim_X5_countAhead wse_X5_countAhead win_X5 wco_X5_countAhead yok_X5_countAhead (xo_0 _) rfl rfl ⟨by decide, by decide, by simp [gRm], by simp [gRm]⟩ (Nat.le_of_ble_eq_true rfl) rfl ?_
        show Rn 15 [(2, .int x), (0, .ref (ad 0 0)), (1, .int i)] [.int (gSum (bFo I j) nc)] ad (cX E ad I F lc ln) 0 0
        refine r_iload_n h.ok dX5_rank_15 2 rfl ?_
        refine r_icmp_ne h.ok 21 dX5_rank_16 (by decide) (fun c_16 => ?_) (fun c_16 => ?_)
        · refine r_iinc (v := x + 1) (lv' := [(2, .int (x + 1)), (0, .ref (ad 0 0)), (1, .int i)]) h.ok dX5_rank_21 0 rfl rfl (by decide) rfl ?_
          refine r_goto h.ok 2 dX5_rank_24 (by decide) ?_
          exact ih2 (j + 1) _ (by omega) (by omega) (by rw [hx]; exact nI_1 j) (by rw [hs]; exact gFind_miss jw c_16)
        · refine r_iload_n h.ok dX5_rank_19 0 rfl ?_
          refine r_iret h dX5_rank_20 ⟨by decide, by decide⟩ ⟨by rw [hs, gFind_hit (P := fun c => gSum (bFo I c) nc = i) jw c_16, hx], rfl, rfl⟩
  exact lp2 (nc + 1) 0 0 (Nat.zero_le _) (by omega) rfl rfl
set_option maxHeartbeats 4000000 in
set_option maxRecDepth 100000 in
theorem c_X5_visitOf (D : va_G) (E : gEc) (ad : gAd) (I : gI) (F : gF) (lc ln : Nat) (nc nv nw : Nat) (hC : CI I F lc ln nc nv nw) (c i : Int32) : gCon D E yX5_visitOf cX5_visitOf 6 (some .int) 2 0 0 [.ref (ad 0 0), .int c, .int i] ad (cX E ad I F lc ln) (gPd (some (.int (bVisitOf I nc nv c i))) ad (cX E ad I F lc ln)) := by
  refine gCon.of (by decide) (Nat.le_of_ble_eq_true rfl) ?_
  intro l A Rn h
  have hC0 := hC
  obtain ⟨kn, k12, klc, kf2, kv, k500, kln, kf3, kw, kw12, kq, kb, kc⟩ := hC
  have hbv := hC0.hbv
  show Rn 0 [(0, .ref (ad 0 0)), (1, .int c), (2, .int i)] [] ad (cX E ad I F lc ln) 0 0
  refine r_aload_n h.ok dX5_visitOf_0 0 rfl ?_
  refine r_iload_n h.ok dX5_visitOf_1 1 rfl ?_
  by_cases c_2 : pI (vp_in c nc) = 0
  · refine r_callV h.ok [.int c] [] dX5_visitOf_2 (c_X5_cowAt_n D E ad I F lc ln nc nv nw hC0 c (pI_0.mp c_2)) wml_X5_60 wim_X5_cowAt wse_X5_cowAt win_X5 wco_X5_cowAt yok_X5_cowAt (xo_0 _) rfl rfl ⟨by decide, by decide, by simp [gRm], by simp [gRm]⟩ (Nat.le_of_ble_eq_true rfl) rfl ?_
    show Rn 5 [(0, .ref (ad 0 0)), (1, .int c), (2, .int i)] [.null] ad (cX E ad I F lc ln) 0 0
    refine r_ifnonnullN h.ok dX5_visitOf_5 ?_
    refine r_iconst (v := (-1)) h.ok dX5_visitOf_8 (by decide) ?_
    refine r_iret h dX5_visitOf_9 ⟨by decide, by decide⟩ ⟨(by unfold bVisitOf; rw [if_pos c_2]), rfl, rfl⟩
  · refine r_callV h.ok [.int c] [] dX5_visitOf_2 (c_X5_cowAt_s D E ad I F lc ln nc nv nw hC0 c c.toNatClampNeg (vp_eq (pI_n0.mp c_2)) (vp_lt (pI_n0.mp c_2))) wml_X5_60 wim_X5_cowAt wse_X5_cowAt win_X5 wco_X5_cowAt yok_X5_cowAt (xo_0 _) rfl rfl ⟨by decide, by decide, by simp [gRm], by simp [gRm]⟩ (Nat.le_of_ble_eq_true rfl) rfl ?_
    show Rn 5 [(0, .ref (ad 0 0)), (1, .int c), (2, .int i)] [.ref (ad 4 c.toNatClampNeg)] ad (cX E ad I F lc ln) 0 0
    refine r_ifnonnull h.ok 10 dX5_visitOf_5 (by decide) ?_
    refine r_iconst (v := 0) h.ok dX5_visitOf_10 (by decide) ?_
    refine r_istore_n (lv' := [(3, .int 0), (0, .ref (ad 0 0)), (1, .int c), (2, .int i)]) h.ok dX5_visitOf_11 (by decide) rfl ?_
    refine r_iconst (v := 0) h.ok dX5_visitOf_12 (by decide) ?_
    refine r_istore (lv' := [(4, .int 0), (3, .int 0), (0, .ref (ad 0 0)), (1, .int c), (2, .int i)]) h.ok dX5_visitOf_13 (by decide) rfl ?_
    have lp15 : ∀ (n : Nat) (j : Nat) (x y : Int32), (j ≤ nv) → (nv + 1 ≤ j + n) → (x = nI j) → (gNth (fun v => I 7 v 0 = c) i (nv - 0) 0 0 = gNth (fun v => I 7 v 0 = c) i (nv - j) j y) → Rn 15 [(4, .int x), (3, .int y), (0, .ref (ad 0 0)), (1, .int c), (2, .int i)] [] ad (cX E ad I F lc ln) 0 0 := by
      intro n
      induction n with
      | zero => intro j  x y  hj hf hx hs; exfalso; omega
      | succ n ih15 =>
        intro j  x y  hj hf hx hs
        refine r_iload h.ok dX5_visitOf_15 0 rfl ?_
        refine r_aload_n h.ok dX5_visitOf_17 2 rfl ?_
        refine r_get (v := .int (I 0 0 6)) h.ok 6 dX5_visitOf_18 (xo_0 _) rfl inX5 (by decide) wfl_X5_129 rfl ?_
        rw [kv]
        refine r_icmp_ge h.ok 63 dX5_visitOf_21 (by decide) (fun c_21 => ?_) (fun c_21 => ?_)
        · have jw : j = nv := ge_nI hx (by omega) hj c_21
          refine r_bipush (v := (-9)) h.ok dX5_visitOf_63 (by decide) ?_
          refine r_iret h dX5_visitOf_65 ⟨by decide, by decide⟩ ⟨(by unfold bVisitOf; rw [if_neg c_2]; rw [hs, gNth_end (by omega)]), rfl, rfl⟩
        · have jw : j < nv := lt_nI hx (by omega) hj c_21
          refine r_aload_n h.ok dX5_visitOf_24 2 rfl ?_
          refine r_iload h.ok dX5_visitOf_25 0 rfl ?_
          refine r_callV h.ok [.int x] [] dX5_visitOf_27 (c_X5_visitAt_s D E ad I F lc ln nc nv nw hC0 x j hx jw) wml_X5_193 wim_X5_visitAt wse_X5_visitAt win_X5 wco_X5_visitAt yok_X5_visitAt (xo_0 _) rfl rfl ⟨by decide, by decide, by simp [gRm], by simp [gRm]⟩ (Nat.le_of_ble_eq_true rfl) rfl ?_
          show Rn 30 [(4, .int x), (3, .int y), (0, .ref (ad 0 0)), (1, .int c), (2, .int i)] [.ref (ad 7 j)] ad (cX E ad I F lc ln) 0 0
          refine r_astore (lv' := [(5, .ref (ad 7 j)), (4, .int x), (3, .int y), (0, .ref (ad 0 0)), (1, .int c), (2, .int i)]) h.ok dX5_visitOf_30 (by decide) rfl ?_
          refine r_aload h.ok dX5_visitOf_32 0 rfl ?_
          refine r_ifnull h.ok dX5_visitOf_34 ?_
          refine r_aload h.ok dX5_visitOf_37 0 rfl ?_
          refine r_get (v := .int (I 7 j 0)) h.ok 0 dX5_visitOf_39 (xo_7 (Nat.lt_of_lt_of_le jw kln) _) rfl inX4 (by decide) wfl_X5_159 rfl ?_
          refine r_iload_n h.ok dX5_visitOf_42 4 rfl ?_
          refine r_icmp_ne h.ok 57 dX5_visitOf_43 (by decide) (fun c_43 => ?_) (fun c_43 => ?_)
          · refine r_iinc (v := x + 1) (lv' := [(4, .int (x + 1)), (5, .ref (ad 7 j)), (3, .int y), (0, .ref (ad 0 0)), (1, .int c), (2, .int i)]) h.ok dX5_visitOf_57 1 rfl rfl (by decide) rfl ?_
            refine r_goto h.ok 15 dX5_visitOf_60 (by decide) ?_
            refine r_lv (lv' := [(4, .int (x + 1)), (3, .int y), (0, .ref (ad 0 0)), (1, .int c), (2, .int i)]) h.ok [0, 2, 3, 4, 5] rfl ?_
            exact ih15 (j + 1) _ _ (by omega) (by omega) (by rw [hx]; exact nI_1 j) (by rw [hs]; exact gNth_miss jw c_43)
          · refine r_iload_n h.ok dX5_visitOf_46 2 rfl ?_
            refine r_iload_n h.ok dX5_visitOf_47 5 rfl ?_
            refine r_icmp_ne h.ok 54 dX5_visitOf_48 (by decide) (fun c_48 => ?_) (fun c_48 => ?_)
            · refine r_iinc (v := y + 1) (lv' := [(3, .int (y + 1)), (5, .ref (ad 7 j)), (4, .int x), (0, .ref (ad 0 0)), (1, .int c), (2, .int i)]) h.ok dX5_visitOf_54 2 rfl rfl (by decide) rfl ?_
              refine r_iinc (v := x + 1) (lv' := [(4, .int (x + 1)), (3, .int (y + 1)), (5, .ref (ad 7 j)), (0, .ref (ad 0 0)), (1, .int c), (2, .int i)]) h.ok dX5_visitOf_57 2 rfl rfl (by decide) rfl ?_
              refine r_goto h.ok 15 dX5_visitOf_60 (by decide) ?_
              refine r_lv (lv' := [(4, .int (x + 1)), (3, .int (y + 1)), (0, .ref (ad 0 0)), (1, .int c), (2, .int i)]) h.ok [0, 1, 3, 4, 5] rfl ?_
              exact ih15 (j + 1) _ _ (by omega) (by omega) (by rw [hx]; exact nI_1 j) (by rw [hs]; exact gNth_next jw c_43 c_48)
            · refine r_iload h.ok dX5_visitOf_51 1 rfl ?_
              refine r_iret h dX5_visitOf_53 ⟨by decide, by decide⟩ ⟨(by unfold bVisitOf; rw [if_neg c_2]; rw [hs, gNth_hit (P := fun v => I 7 v 0 = c) jw c_43 c_48, hx]), rfl, rfl⟩
    exact lp15 (nv + 1) 0 0 0 (Nat.zero_le _) (by omega) rfl rfl
set_option maxHeartbeats 4000000 in
set_option maxRecDepth 100000 in
theorem c_X5_gave (D : va_G) (E : gEc) (ad : gAd) (I : gI) (F : gF) (lc ln : Nat) (nc nv nw : Nat) (hC : CI I F lc ln nc nv nw) (c i : Int32) : gCon D E yX5_gave cX5_gave 6 (some .int) 2 0 0 [.ref (ad 0 0), .int c, .int i] ad (cX E ad I F lc ln) (gPd (some (.int (bGave I F nc nv c i))) ad (cX E ad I F lc ln)) := by
  refine gCon.of (by decide) (Nat.le_of_ble_eq_true rfl) ?_
  intro l A Rn h
  have hC0 := hC
  obtain ⟨kn, k12, klc, kf2, kv, k500, kln, kf3, kw, kw12, kq, kb, kc⟩ := hC
  have hbv := hC0.hbv
  show Rn 0 [(0, .ref (ad 0 0)), (1, .int c), (2, .int i)] [] ad (cX E ad I F lc ln) 0 0
  refine r_aload_n h.ok dX5_gave_0 0 rfl ?_
  refine r_iload_n h.ok dX5_gave_1 1 rfl ?_
  by_cases c_2 : pI (vp_in c nc) = 0
  · refine r_callV h.ok [.int c] [] dX5_gave_2 (c_X5_cowAt_n D E ad I F lc ln nc nv nw hC0 c (pI_0.mp c_2)) wml_X5_60 wim_X5_cowAt wse_X5_cowAt win_X5 wco_X5_cowAt yok_X5_cowAt (xo_0 _) rfl rfl ⟨by decide, by decide, by simp [gRm], by simp [gRm]⟩ (Nat.le_of_ble_eq_true rfl) rfl ?_
    show Rn 5 [(0, .ref (ad 0 0)), (1, .int c), (2, .int i)] [.null] ad (cX E ad I F lc ln) 0 0
    refine r_ifnonnullN h.ok dX5_gave_5 ?_
    refine r_iconst (v := (-1)) h.ok dX5_gave_8 (by decide) ?_
    refine r_iret h dX5_gave_9 ⟨by decide, by decide⟩ ⟨(by unfold bGave; rw [if_pos c_2]), rfl, rfl⟩
  · refine r_callV h.ok [.int c] [] dX5_gave_2 (c_X5_cowAt_s D E ad I F lc ln nc nv nw hC0 c c.toNatClampNeg (vp_eq (pI_n0.mp c_2)) (vp_lt (pI_n0.mp c_2))) wml_X5_60 wim_X5_cowAt wse_X5_cowAt win_X5 wco_X5_cowAt yok_X5_cowAt (xo_0 _) rfl rfl ⟨by decide, by decide, by simp [gRm], by simp [gRm]⟩ (Nat.le_of_ble_eq_true rfl) rfl ?_
    show Rn 5 [(0, .ref (ad 0 0)), (1, .int c), (2, .int i)] [.ref (ad 4 c.toNatClampNeg)] ad (cX E ad I F lc ln) 0 0
    refine r_ifnonnull h.ok 10 dX5_gave_5 (by decide) ?_
    refine r_iload_n h.ok dX5_gave_10 2 rfl ?_
    refine r_if_ge h.ok 17 dX5_gave_11 (by decide) (fun c_11 => ?_) (fun c_11 => ?_)
    · refine r_iconst (v := 0) h.ok dX5_gave_17 (by decide) ?_
      refine r_istore_n (lv' := [(3, .int 0), (0, .ref (ad 0 0)), (1, .int c), (2, .int i)]) h.ok dX5_gave_18 (by decide) rfl ?_
      refine r_iconst (v := 0) h.ok dX5_gave_19 (by decide) ?_
      refine r_istore (lv' := [(4, .int 0), (3, .int 0), (0, .ref (ad 0 0)), (1, .int c), (2, .int i)]) h.ok dX5_gave_20 (by decide) rfl ?_
      have lp22 : ∀ (n : Nat) (j : Nat) (x y : Int32), (j ≤ nv) → (nv + 1 ≤ j + n) → (x = nI j) → (y = gSum (bGv I F c i) j) → Rn 22 [(4, .int x), (3, .int y), (0, .ref (ad 0 0)), (1, .int c), (2, .int i)] [] ad (cX E ad I F lc ln) 0 0 := by
        intro n
        induction n with
        | zero => intro j  x y  hj hf hx hy; exfalso; omega
        | succ n ih22 =>
          intro j  x y  hj hf hx hy
          refine r_iload h.ok dX5_gave_22 0 rfl ?_
          refine r_aload_n h.ok dX5_gave_24 2 rfl ?_
          refine r_get (v := .int (I 0 0 6)) h.ok 6 dX5_gave_25 (xo_0 _) rfl inX5 (by decide) wfl_X5_129 rfl ?_
          rw [kv]
          refine r_icmp_ge h.ok 76 dX5_gave_28 (by decide) (fun c_28 => ?_) (fun c_28 => ?_)
          · have jw : j = nv := ge_nI hx (by omega) hj c_28
            refine r_iload_n h.ok dX5_gave_76 1 rfl ?_
            refine r_iret h dX5_gave_77 ⟨by decide, by decide⟩ ⟨(by unfold bGave; rw [if_neg c_2, if_pos c_11]; rw [hy, jw]), rfl, rfl⟩
          · have jw : j < nv := lt_nI hx (by omega) hj c_28
            refine r_aload_n h.ok dX5_gave_31 2 rfl ?_
            refine r_iload h.ok dX5_gave_32 0 rfl ?_
            refine r_callV h.ok [.int x] [] dX5_gave_34 (c_X5_visitAt_s D E ad I F lc ln nc nv nw hC0 x j hx jw) wml_X5_193 wim_X5_visitAt wse_X5_visitAt win_X5 wco_X5_visitAt yok_X5_visitAt (xo_0 _) rfl rfl ⟨by decide, by decide, by simp [gRm], by simp [gRm]⟩ (Nat.le_of_ble_eq_true rfl) rfl ?_
            show Rn 37 [(4, .int x), (3, .int y), (0, .ref (ad 0 0)), (1, .int c), (2, .int i)] [.ref (ad 7 j)] ad (cX E ad I F lc ln) 0 0
            refine r_astore (lv' := [(5, .ref (ad 7 j)), (4, .int x), (3, .int y), (0, .ref (ad 0 0)), (1, .int c), (2, .int i)]) h.ok dX5_gave_37 (by decide) rfl ?_
            refine r_aload h.ok dX5_gave_39 0 rfl ?_
            refine r_ifnull h.ok dX5_gave_41 ?_
            refine r_aload h.ok dX5_gave_44 0 rfl ?_
            refine r_get (v := .int (I 7 j 0)) h.ok 0 dX5_gave_46 (xo_7 (Nat.lt_of_lt_of_le jw kln) _) rfl inX4 (by decide) wfl_X5_159 rfl ?_
            refine r_iload_n h.ok dX5_gave_49 4 rfl ?_
            refine r_icmp_ne h.ok 70 dX5_gave_50 (by decide) (fun c_50 => ?_) (fun c_50 => ?_)
            · refine r_iinc (v := x + 1) (lv' := [(4, .int (x + 1)), (5, .ref (ad 7 j)), (3, .int y), (0, .ref (ad 0 0)), (1, .int c), (2, .int i)]) h.ok dX5_gave_70 1 rfl rfl (by decide) rfl ?_
              refine r_goto h.ok 22 dX5_gave_73 (by decide) ?_
              refine r_lv (lv' := [(4, .int (x + 1)), (3, .int y), (0, .ref (ad 0 0)), (1, .int c), (2, .int i)]) h.ok [0, 2, 3, 4, 5] rfl ?_
              exact ih22 (j + 1) _ _ (by omega) (by omega) (by rw [hx]; exact nI_1 j) (gSum_0 hy (show bGv I F c i j = 0 by unfold bGv; rw [if_neg c_50]))
            · refine r_aload h.ok dX5_gave_53 0 rfl ?_
              refine r_iload_n h.ok dX5_gave_55 5 rfl ?_
              refine r_callV h.ok [.int i] [] dX5_gave_56 (c_X4_endedOn D E ad I F lc ln j (Nat.lt_of_lt_of_le jw kln) i) wml_X5_202 wim_X4_endedOn wse_X4_endedOn win_X4 wco_X4_endedOn yok_X4_endedOn (xo_7 (Nat.lt_of_lt_of_le jw kln) _) rfl rfl ⟨by decide, by decide, by simp [gRm], by simp [gRm]⟩ (Nat.le_of_ble_eq_true rfl) rfl ?_
              show Rn 59 [(5, .ref (ad 7 j)), (4, .int x), (3, .int y), (0, .ref (ad 0 0)), (1, .int c), (2, .int i)] [.int (bEndedOn_r I F j i)] ad (cX E ad I F lc ln) 0 0
              refine r_if_eq h.ok 70 dX5_gave_59 (by decide) (fun c_59 => ?_) (fun c_59 => ?_)
              · refine r_iinc (v := x + 1) (lv' := [(4, .int (x + 1)), (5, .ref (ad 7 j)), (3, .int y), (0, .ref (ad 0 0)), (1, .int c), (2, .int i)]) h.ok dX5_gave_70 1 rfl rfl (by decide) rfl ?_
                refine r_goto h.ok 22 dX5_gave_73 (by decide) ?_
                refine r_lv (lv' := [(4, .int (x + 1)), (3, .int y), (0, .ref (ad 0 0)), (1, .int c), (2, .int i)]) h.ok [0, 2, 3, 4, 5] rfl ?_
                exact ih22 (j + 1) _ _ (by omega) (by omega) (by rw [hx]; exact nI_1 j) (gSum_0 hy (show bGv I F c i j = 0 by unfold bGv; rw [if_pos c_50, if_pos c_59]))
              · refine r_iload_n h.ok dX5_gave_62 2 rfl ?_
                refine r_aload h.ok dX5_gave_63 0 rfl ?_
                refine r_get (v := .int (I 7 j 8)) h.ok 8 dX5_gave_65 (xo_7 (Nat.lt_of_lt_of_le jw kln) _) rfl inX4 (by decide) wfl_X5_205 rfl ?_
                refine r_iadd h.ok dX5_gave_68 ?_
                refine r_istore_n (lv' := [(3, .int (y + (I 7 j 8))), (5, .ref (ad 7 j)), (4, .int x), (0, .ref (ad 0 0)), (1, .int c), (2, .int i)]) h.ok dX5_gave_69 (by decide) rfl ?_
                refine r_iinc (v := x + 1) (lv' := [(4, .int (x + 1)), (3, .int (y + (I 7 j 8))), (5, .ref (ad 7 j)), (0, .ref (ad 0 0)), (1, .int c), (2, .int i)]) h.ok dX5_gave_70 2 rfl rfl (by decide) rfl ?_
                refine r_goto h.ok 22 dX5_gave_73 (by decide) ?_
                refine r_lv (lv' := [(4, .int (x + 1)), (3, .int (y + (I 7 j 8))), (0, .ref (ad 0 0)), (1, .int c), (2, .int i)]) h.ok [0, 1, 3, 4, 5] rfl ?_
                exact ih22 (j + 1) _ _ (by omega) (by omega) (by rw [hx]; exact nI_1 j) (gSum_v hy (show bGv I F c i j = _ by unfold bGv; rw [if_pos c_50, if_neg c_59]))
      exact lp22 (nv + 1) 0 0 0 (Nat.zero_le _) (by omega) rfl rfl
    · refine r_bipush (v := (-2)) h.ok dX5_gave_14 (by decide) ?_
      refine r_iret h dX5_gave_16 ⟨by decide, by decide⟩ ⟨(by unfold bGave; rw [if_neg c_2, if_neg c_11]), rfl, rfl⟩
