def gSum (f : Nat → Int32) : Nat → Int32
  | 0 => 0
  | n + 1 => gSum f n + f n
def gMax (f : Nat → Int32) : Nat → Int32
  | 0 => 0
  | n + 1 => if f n ≤ gMax f n then gMax f n else f n
noncomputable def gNth (P : Nat → Prop) (i : Int32) : Nat → Nat → Int32 → Int32
  | 0, _, _ => -9
  | n + 1, v, s => @ite Int32 (P v) (Classical.propDecidable _) (if s = i then nI v else gNth P i n (v + 1) (s + 1)) (gNth P i n (v + 1) s)
theorem gNth_hit {P : Nat → Prop} {i s : Int32} {w j : Nat} (h : j < w) (hp : P j) (hs : s = i) : gNth P i (w - j) j s = nI j := by
  obtain ⟨n, hn⟩ : ∃ n, w - j = n + 1 := ⟨w - j - 1, by omega⟩
  rw [hn]
  exact (if_pos hp).trans (if_pos hs)
theorem gNth_next {P : Nat → Prop} {i s : Int32} {w j : Nat} (h : j < w) (hp : P j) (hs : ¬ s = i) : gNth P i (w - j) j s = gNth P i (w - (j + 1)) (j + 1) (s + 1) := by
  obtain ⟨n, hn⟩ : ∃ n, w - j = n + 1 := ⟨w - j - 1, by omega⟩
  rw [hn, show w - (j + 1) = n by omega]
  exact (if_pos hp).trans (if_neg hs)
theorem gNth_miss {P : Nat → Prop} {i s : Int32} {w j : Nat} (h : j < w) (hp : ¬ P j) : gNth P i (w - j) j s = gNth P i (w - (j + 1)) (j + 1) s := by
  obtain ⟨n, hn⟩ : ∃ n, w - j = n + 1 := ⟨w - j - 1, by omega⟩
  rw [hn, show w - (j + 1) = n by omega]
  exact if_neg hp
theorem gNth_end {P : Nat → Prop} {i s : Int32} {w j : Nat} (h : w ≤ j) : gNth P i (w - j) j s = -9 := by
  rw [show w - j = 0 by omega]
  rfl
def mAl (I : gI) (j : Nat) : Int32 := if I 12 22 j = 0 then 0 else 1
def mRf (I : gI) (j : Nat) : Int32 := if I 12 18 j = 0 then 1 else 0
def mGv (I : gI) (c d : Int32) (j : Nat) : Int32 := if I 12 19 j = c then (if I 12 24 j = -9 then 0 else if I 12 24 j / 1440 = d then I 12 25 j else 0) else 0
def mWt (I : gI) (j : Nat) : Int32 := if I 12 23 j = -9 then 0 else I 12 23 j - I 12 20 j
def mFo (I : gI) (c d : Nat) : Int32 := if I 12 15 c < I 12 15 d then 1 else if I 12 15 d = I 12 15 c then (if nI c ≤ nI d then 0 else 1) else 0
noncomputable def mTotal (I : gI) (nv : Nat) (a : Int32) : Int32 := if a = 0 then I 11 0 36 else if a = 1 then I 11 0 38 else if a = 2 then I 11 0 39 else if a = 3 then I 11 0 40 else if a = 4 then I 11 0 41 else if a = 5 then I 11 0 42 else if a = 6 then I 11 0 1 else if a = 7 then I 11 0 3 else if a = 8 then I 11 0 17 else if a = 9 then I 11 0 29 else if a = 10 then gSum (mAl I) nv else if a = 11 then (if I 11 0 2 = 0 then 0 else 1) else if a = 12 then gSum (mRf I) nv else -2
noncomputable def mVisitOf (I : gI) (nv : Nat) (c i : Int32) : Int32 := if pI (mNo I c) = 0 then gNth (fun v => I 12 19 v = c) i (nv - 0) 0 0 else -1
noncomputable def mGave (I : gI) (nv : Nat) (c d : Int32) : Int32 := if pI (mNo I c) = 0 then (if 0 ≤ d then gSum (mGv I c d) nv else -2) else -1
def mLongest (I : gI) (nv : Nat) : Int32 := gMax (mWt I) nv
noncomputable def mRank (I : gI) (nc : Nat) (i : Int32) : Int32 := gFind (fun c => gSum (mFo I c) nc = i) (nc - 0) 0
set_option maxHeartbeats 4000000 in
set_option maxRecDepth 100000 in
theorem c_X6_total (D : va_G) (E : gEc) (ad : gAd) (I : gI) (F : gF) (lc ln : Nat) (a : Int32) (ht : I 11 0 0 = 0) (nv : Nat) (hv : I 11 0 17 = nI nv) (v500 : nv ≤ 500) : gCon D E yX6_total cX6_total 4 (some .int) 0 0 0 [.ref (ad 11 0), .int a] ad (cX E ad I F lc ln) (gPd (some (.int (mTotal I nv a))) ad (cX E ad I F lc ln)) := by
  refine gCon.of (by decide) (Nat.le_of_ble_eq_true rfl) ?_
  intro l A Rn h
  show Rn 0 [(0, .ref (ad 11 0)), (1, .int a)] [] ad (cX E ad I F lc ln) 0 0
  refine r_aload_n h.ok dX6_total_0 0 rfl ?_
  refine r_iconst (v := 0) h.ok dX6_total_1 (by decide) ?_
  refine r_put (ty := tyX6) h.ok 0 dX6_total_2 (xo_11 _) rfl inX6 tyX6_ok nmX6 (by decide) wfl_X6_97 rfl rfl rfl (by simp) (cX_thr ht) ?_
  refine r_iconst (v := 0) h.ok dX6_total_5 (by decide) ?_
  refine r_istore_n (lv' := [(2, .int 0), (0, .ref (ad 11 0)), (1, .int a)]) h.ok dX6_total_6 (by decide) rfl ?_
  refine r_iload_n h.ok dX6_total_7 2 rfl ?_
  by_cases s_0 : a = 0
  · refine r_tableIn (off := 68) h.ok 76 dX6_total_8 (by rw [s_0]; decide) (by rw [s_0]; decide) (by rw [s_0]; rfl) (by decide) ?_
    refine r_aload_n h.ok dX6_total_76 1 rfl ?_
    refine r_get (v := .int (I 11 0 36)) h.ok 36 dX6_total_77 (xo_11 _) rfl inX6 (by decide) wfl_X6_133 rfl ?_
    refine r_iret h dX6_total_80 ⟨by decide, by decide⟩ ⟨(by unfold mTotal; simp only [if_pos s_0]), rfl, rfl⟩
  by_cases s_1 : a = 1
  · refine r_tableIn (off := 73) h.ok 81 dX6_total_8 (by rw [s_1]; decide) (by rw [s_1]; decide) (by rw [s_1]; rfl) (by decide) ?_
    refine r_aload_n h.ok dX6_total_81 1 rfl ?_
    refine r_get (v := .int (I 11 0 38)) h.ok 38 dX6_total_82 (xo_11 _) rfl inX6 (by decide) wfl_X6_136 rfl ?_
    refine r_iret h dX6_total_85 ⟨by decide, by decide⟩ ⟨(by unfold mTotal; simp only [if_neg s_0, if_pos s_1]), rfl, rfl⟩
  by_cases s_2 : a = 2
  · refine r_tableIn (off := 78) h.ok 86 dX6_total_8 (by rw [s_2]; decide) (by rw [s_2]; decide) (by rw [s_2]; rfl) (by decide) ?_
    refine r_aload_n h.ok dX6_total_86 1 rfl ?_
    refine r_get (v := .int (I 11 0 39)) h.ok 39 dX6_total_87 (xo_11 _) rfl inX6 (by decide) wfl_X6_139 rfl ?_
    refine r_iret h dX6_total_90 ⟨by decide, by decide⟩ ⟨(by unfold mTotal; simp only [if_neg s_0, if_neg s_1, if_pos s_2]), rfl, rfl⟩
  by_cases s_3 : a = 3
  · refine r_tableIn (off := 83) h.ok 91 dX6_total_8 (by rw [s_3]; decide) (by rw [s_3]; decide) (by rw [s_3]; rfl) (by decide) ?_
    refine r_aload_n h.ok dX6_total_91 1 rfl ?_
    refine r_get (v := .int (I 11 0 40)) h.ok 40 dX6_total_92 (xo_11 _) rfl inX6 (by decide) wfl_X6_199 rfl ?_
    refine r_iret h dX6_total_95 ⟨by decide, by decide⟩ ⟨(by unfold mTotal; simp only [if_neg s_0, if_neg s_1, if_neg s_2, if_pos s_3]), rfl, rfl⟩
  by_cases s_4 : a = 4
  · refine r_tableIn (off := 88) h.ok 96 dX6_total_8 (by rw [s_4]; decide) (by rw [s_4]; decide) (by rw [s_4]; rfl) (by decide) ?_
    refine r_aload_n h.ok dX6_total_96 1 rfl ?_
    refine r_get (v := .int (I 11 0 41)) h.ok 41 dX6_total_97 (xo_11 _) rfl inX6 (by decide) wfl_X6_148 rfl ?_
    refine r_iret h dX6_total_100 ⟨by decide, by decide⟩ ⟨(by unfold mTotal; simp only [if_neg s_0, if_neg s_1, if_neg s_2, if_neg s_3, if_pos s_4]), rfl, rfl⟩
  by_cases s_5 : a = 5
  · refine r_tableIn (off := 93) h.ok 101 dX6_total_8 (by rw [s_5]; decide) (by rw [s_5]; decide) (by rw [s_5]; rfl) (by decide) ?_
    refine r_aload_n h.ok dX6_total_101 1 rfl ?_
    refine r_get (v := .int (I 11 0 42)) h.ok 42 dX6_total_102 (xo_11 _) rfl inX6 (by decide) wfl_X6_145 rfl ?_
    refine r_iret h dX6_total_105 ⟨by decide, by decide⟩ ⟨(by unfold mTotal; simp only [if_neg s_0, if_neg s_1, if_neg s_2, if_neg s_3, if_neg s_4, if_pos s_5]), rfl, rfl⟩
  by_cases s_6 : a = 6
  · refine r_tableIn (off := 98) h.ok 106 dX6_total_8 (by rw [s_6]; decide) (by rw [s_6]; decide) (by rw [s_6]; rfl) (by decide) ?_
    refine r_aload_n h.ok dX6_total_106 1 rfl ?_
    refine r_get (v := .int (I 11 0 1)) h.ok 1 dX6_total_107 (xo_11 _) rfl inX6 (by decide) wfl_X6_107 rfl ?_
    refine r_iret h dX6_total_110 ⟨by decide, by decide⟩ ⟨(by unfold mTotal; simp only [if_neg s_0, if_neg s_1, if_neg s_2, if_neg s_3, if_neg s_4, if_neg s_5, if_pos s_6]), rfl, rfl⟩
  by_cases s_7 : a = 7
  · refine r_tableIn (off := 103) h.ok 111 dX6_total_8 (by rw [s_7]; decide) (by rw [s_7]; decide) (by rw [s_7]; rfl) (by decide) ?_
    refine r_aload_n h.ok dX6_total_111 1 rfl ?_
    refine r_get (v := .int (I 11 0 3)) h.ok 3 dX6_total_112 (xo_11 _) rfl inX6 (by decide) wfl_X6_100 rfl ?_
    refine r_iret h dX6_total_115 ⟨by decide, by decide⟩ ⟨(by unfold mTotal; simp only [if_neg s_0, if_neg s_1, if_neg s_2, if_neg s_3, if_neg s_4, if_neg s_5, if_neg s_6, if_pos s_7]), rfl, rfl⟩
  by_cases s_8 : a = 8
  · refine r_tableIn (off := 108) h.ok 116 dX6_total_8 (by rw [s_8]; decide) (by rw [s_8]; decide) (by rw [s_8]; rfl) (by decide) ?_
    refine r_aload_n h.ok dX6_total_116 1 rfl ?_
    refine r_get (v := .int (I 11 0 17)) h.ok 17 dX6_total_117 (xo_11 _) rfl inX6 (by decide) wfl_X6_184 rfl ?_
    refine r_iret h dX6_total_120 ⟨by decide, by decide⟩ ⟨(by unfold mTotal; simp only [if_neg s_0, if_neg s_1, if_neg s_2, if_neg s_3, if_neg s_4, if_neg s_5, if_neg s_6, if_neg s_7, if_pos s_8]), rfl, rfl⟩
  by_cases s_9 : a = 9
  · refine r_tableIn (off := 113) h.ok 121 dX6_total_8 (by rw [s_9]; decide) (by rw [s_9]; decide) (by rw [s_9]; rfl) (by decide) ?_
    refine r_aload_n h.ok dX6_total_121 1 rfl ?_
    refine r_get (v := .int (I 11 0 29)) h.ok 29 dX6_total_122 (xo_11 _) rfl inX6 (by decide) wfl_X6_110 rfl ?_
    refine r_iret h dX6_total_125 ⟨by decide, by decide⟩ ⟨(by unfold mTotal; simp only [if_neg s_0, if_neg s_1, if_neg s_2, if_neg s_3, if_neg s_4, if_neg s_5, if_neg s_6, if_neg s_7, if_neg s_8, if_pos s_9]), rfl, rfl⟩
  by_cases s_10 : a = 10
  · refine r_tableIn (off := 118) h.ok 126 dX6_total_8 (by rw [s_10]; decide) (by rw [s_10]; decide) (by rw [s_10]; rfl) (by decide) ?_
    refine r_iconst (v := 0) h.ok dX6_total_126 (by decide) ?_
    refine r_istore_n (lv' := [(3, .int 0), (2, .int 0), (0, .ref (ad 11 0)), (1, .int a)]) h.ok dX6_total_127 (by decide) rfl ?_
    have lp128 : ∀ (n : Nat) (j : Nat) (x y : Int32), (j ≤ nv) → (nv + 1 ≤ j + n) → (x = nI j) → (y = gSum (mAl I) j) → Rn 128 [(3, .int x), (2, .int y), (0, .ref (ad 11 0)), (1, .int a)] [] ad (cX E ad I F lc ln) 0 0 := by
      intro n
      induction n with
      | zero => intro j  x y  hj hf hx hy; exfalso; omega
      | succ n ih128 =>
        intro j  x y  hj hf hx hy
        refine r_iload_n h.ok dX6_total_128 0 rfl ?_
        refine r_aload_n h.ok dX6_total_129 2 rfl ?_
        refine r_get (v := .int (I 11 0 17)) h.ok 17 dX6_total_130 (xo_11 _) rfl inX6 (by decide) wfl_X6_184 rfl ?_
        rw [hv]
        refine r_icmp_ge h.ok 159 dX6_total_133 (by decide) (fun c_133 => ?_) (fun c_133 => ?_)
        · have jw : j = nv := ge_nI hx (by omega) hj c_133
          refine r_iload_n h.ok dX6_total_159 1 rfl ?_
          refine r_iret h dX6_total_160 ⟨by decide, by decide⟩ ⟨(by unfold mTotal; simp only [if_neg s_0, if_neg s_1, if_neg s_2, if_neg s_3, if_neg s_4, if_neg s_5, if_neg s_6, if_neg s_7, if_neg s_8, if_neg s_9, if_pos s_10]; rw [hy, jw]), rfl, rfl⟩
        · have jw : j < nv := lt_nI hx (by omega) hj c_133
          refine r_iload_n h.ok dX6_total_136 1 rfl ?_
          refine r_aload_n h.ok dX6_total_137 2 rfl ?_
          refine r_get h.ok 22 dX6_total_138 (xo_11 _) rfl inX6 (by decide) wfl_X6_65 rfl ?_
          refine r_iload_n h.ok dX6_total_141 0 rfl ?_
          refine x_zald (v := I 12 22 j) h.ok j dX6_total_142 rfl hx (by omega) (by decide) rfl ?_
          have K_143 : ∀ t : Int32, t = (mAl I j) → Rn 151 [(3, .int x), (2, .int y), (0, .ref (ad 11 0)), (1, .int a)] [.int t, .int y] ad (cX E ad I F lc ln) 0 0 := by
            intro t e_t
            refine r_iadd h.ok dX6_total_151 ?_
            refine r_istore_n (lv' := [(2, .int (y + t)), (3, .int x), (0, .ref (ad 11 0)), (1, .int a)]) h.ok dX6_total_152 (by decide) rfl ?_
            refine r_iinc (v := x + 1) (lv' := [(3, .int (x + 1)), (2, .int (y + t)), (0, .ref (ad 11 0)), (1, .int a)]) h.ok dX6_total_153 1 rfl rfl (by decide) rfl ?_
            refine r_goto h.ok 128 dX6_total_156 (by decide) ?_
            exact ih128 (j + 1) _ _ (by omega) (by omega) (by rw [hx]; exact nI_1 j) (by rw [hy, e_t]; rfl)
          refine r_if_eq h.ok 150 dX6_total_143 (by decide) (fun c_143 => ?_) (fun c_143 => ?_)
          · refine r_iconst (v := 0) h.ok dX6_total_150 (by decide) ?_
            exact K_143 _ (by simp [mAl, c_143])
          · refine r_iconst (v := 1) h.ok dX6_total_146 (by decide) ?_
            refine r_goto h.ok 151 dX6_total_147 (by decide) ?_
            exact K_143 _ (by simp [mAl, c_143])
    exact lp128 (nv + 1) 0 0 0 (Nat.zero_le _) (by omega) rfl rfl
  by_cases s_11 : a = 11
  · refine r_tableIn (off := 153) h.ok 161 dX6_total_8 (by rw [s_11]; decide) (by rw [s_11]; decide) (by rw [s_11]; rfl) (by decide) ?_
    refine r_aload_n h.ok dX6_total_161 1 rfl ?_
    refine r_get (v := .int (I 11 0 2)) h.ok 2 dX6_total_162 (xo_11 _) rfl inX6 (by decide) wfl_X6_7 rfl ?_
    refine r_if_eq h.ok 172 dX6_total_165 (by decide) (fun c_165 => ?_) (fun c_165 => ?_)
    · refine r_iconst (v := 0) h.ok dX6_total_172 (by decide) ?_
      refine r_iret h dX6_total_173 ⟨by decide, by decide⟩ ⟨(by unfold mTotal; simp only [if_neg s_0, if_neg s_1, if_neg s_2, if_neg s_3, if_neg s_4, if_neg s_5, if_neg s_6, if_neg s_7, if_neg s_8, if_neg s_9, if_neg s_10, if_pos s_11, if_pos c_165]), rfl, rfl⟩
    · refine r_iconst (v := 1) h.ok dX6_total_168 (by decide) ?_
      refine r_goto h.ok 173 dX6_total_169 (by decide) ?_
      refine r_iret h dX6_total_173 ⟨by decide, by decide⟩ ⟨(by unfold mTotal; simp only [if_neg s_0, if_neg s_1, if_neg s_2, if_neg s_3, if_neg s_4, if_neg s_5, if_neg s_6, if_neg s_7, if_neg s_8, if_neg s_9, if_neg s_10, if_pos s_11, if_neg c_165]), rfl, rfl⟩
  by_cases s_12 : a = 12
  · refine r_tableIn (off := 166) h.ok 174 dX6_total_8 (by rw [s_12]; decide) (by rw [s_12]; decide) (by rw [s_12]; rfl) (by decide) ?_
    refine r_iconst (v := 0) h.ok dX6_total_174 (by decide) ?_
    refine r_istore_n (lv' := [(3, .int 0), (2, .int 0), (0, .ref (ad 11 0)), (1, .int a)]) h.ok dX6_total_175 (by decide) rfl ?_
    have lp176 : ∀ (n : Nat) (j : Nat) (x y : Int32), (j ≤ nv) → (nv + 1 ≤ j + n) → (x = nI j) → (y = gSum (mRf I) j) → Rn 176 [(3, .int x), (2, .int y), (0, .ref (ad 11 0)), (1, .int a)] [] ad (cX E ad I F lc ln) 0 0 := by
      intro n
      induction n with
      | zero => intro j  x y  hj hf hx hy; exfalso; omega
      | succ n ih176 =>
        intro j  x y  hj hf hx hy
        refine r_iload_n h.ok dX6_total_176 0 rfl ?_
        refine r_aload_n h.ok dX6_total_177 2 rfl ?_
        refine r_get (v := .int (I 11 0 17)) h.ok 17 dX6_total_178 (xo_11 _) rfl inX6 (by decide) wfl_X6_184 rfl ?_
        rw [hv]
        refine r_icmp_ge h.ok 207 dX6_total_181 (by decide) (fun c_181 => ?_) (fun c_181 => ?_)
        · have jw : j = nv := ge_nI hx (by omega) hj c_181
          refine r_iload_n h.ok dX6_total_207 1 rfl ?_
          refine r_iret h dX6_total_208 ⟨by decide, by decide⟩ ⟨(by unfold mTotal; simp only [if_neg s_0, if_neg s_1, if_neg s_2, if_neg s_3, if_neg s_4, if_neg s_5, if_neg s_6, if_neg s_7, if_neg s_8, if_neg s_9, if_neg s_10, if_neg s_11, if_pos s_12]; rw [hy, jw]), rfl, rfl⟩
        · have jw : j < nv := lt_nI hx (by omega) hj c_181
          refine r_iload_n h.ok dX6_total_184 1 rfl ?_
          refine r_aload_n h.ok dX6_total_185 2 rfl ?_
          refine r_get h.ok 18 dX6_total_186 (xo_11 _) rfl inX6 (by decide) wfl_X6_53 rfl ?_
          refine r_iload_n h.ok dX6_total_189 0 rfl ?_
          refine x_iald (v := I 12 18 j) h.ok j dX6_total_190 rfl hx (by omega) (by decide) rfl ?_
          have K_191 : ∀ t : Int32, t = (mRf I j) → Rn 199 [(3, .int x), (2, .int y), (0, .ref (ad 11 0)), (1, .int a)] [.int t, .int y] ad (cX E ad I F lc ln) 0 0 := by
            intro t e_t
            refine r_iadd h.ok dX6_total_199 ?_
            refine r_istore_n (lv' := [(2, .int (y + t)), (3, .int x), (0, .ref (ad 11 0)), (1, .int a)]) h.ok dX6_total_200 (by decide) rfl ?_
            refine r_iinc (v := x + 1) (lv' := [(3, .int (x + 1)), (2, .int (y + t)), (0, .ref (ad 11 0)), (1, .int a)]) h.ok dX6_total_201 1 rfl rfl (by decide) rfl ?_
            refine r_goto h.ok 176 dX6_total_204 (by decide) ?_
            exact ih176 (j + 1) _ _ (by omega) (by omega) (by rw [hx]; exact nI_1 j) (by rw [hy, e_t]; rfl)
          refine r_if_ne h.ok 198 dX6_total_191 (by decide) (fun c_191 => ?_) (fun c_191 => ?_)
          · refine r_iconst (v := 0) h.ok dX6_total_198 (by decide) ?_
            exact K_191 _ (by simp [mRf, c_191])
          · refine r_iconst (v := 1) h.ok dX6_total_194 (by decide) ?_
            refine r_goto h.ok 199 dX6_total_195 (by decide) ?_
            exact K_191 _ (by simp [mRf, c_191])
    exact lp176 (nv + 1) 0 0 0 (Nat.zero_le _) (by omega) rfl rfl
  refine r_tableOut h.ok 209 dX6_total_8 (gOut12 s_0 s_1 s_2 s_3 s_4 s_5 s_6 s_7 s_8 s_9 s_10 s_11 s_12) (by decide) ?_
  refine r_bipush (v := (-2)) h.ok dX6_total_209 (by decide) ?_
  refine r_iret h dX6_total_211 ⟨by decide, by decide⟩ ⟨(by unfold mTotal; simp only [if_neg s_0, if_neg s_1, if_neg s_2, if_neg s_3, if_neg s_4, if_neg s_5, if_neg s_6, if_neg s_7, if_neg s_8, if_neg s_9, if_neg s_10, if_neg s_11, if_neg s_12]), rfl, rfl⟩
set_option maxHeartbeats 4000000 in
set_option maxRecDepth 100000 in
theorem c_X6_visitOf (D : va_G) (E : gEc) (ad : gAd) (I : gI) (F : gF) (lc ln : Nat) (c i : Int32) (ht : I 11 0 0 = 0) (nc : Nat) (hn : I 11 0 3 = nI nc) (h12 : nc ≤ 12) (nv : Nat) (hv : I 11 0 17 = nI nv) (v500 : nv ≤ 500) : gCon D E yX6_visitOf cX6_visitOf 5 (some .int) 2 0 0 [.ref (ad 11 0), .int c, .int i] ad (cX E ad I F lc ln) (gPd (some (.int (mVisitOf I nv c i))) ad (cX E ad I F lc ln)) := by
  refine gCon.of (by decide) (Nat.le_of_ble_eq_true rfl) ?_
  intro l A Rn h
  show Rn 0 [(0, .ref (ad 11 0)), (1, .int c), (2, .int i)] [] ad (cX E ad I F lc ln) 0 0
  refine r_aload_n h.ok dX6_visitOf_0 0 rfl ?_
  refine r_iconst (v := 0) h.ok dX6_visitOf_1 (by decide) ?_
  refine r_put (ty := tyX6) h.ok 0 dX6_visitOf_2 (xo_11 _) rfl inX6 tyX6_ok nmX6 (by decide) wfl_X6_97 rfl rfl rfl (by simp) (cX_thr ht) ?_
  refine r_aload_n h.ok dX6_visitOf_5 0 rfl ?_
  refine r_iload_n h.ok dX6_visitOf_6 1 rfl ?_
  refine r_callV h.ok [.int c] [] dX6_visitOf_7 (c_X6_noCow D E ad I F lc ln c) wml_X6_159 wim_X6_noCow wse_X6_noCow win_X6 wco_X6_noCow yok_X6_noCow (xo_11 _) rfl rfl ⟨by decide, by decide, by simp [gRm], by simp [gRm]⟩ (Nat.le_of_ble_eq_true rfl) rfl ?_
  show Rn 10 [(0, .ref (ad 11 0)), (1, .int c), (2, .int i)] [.int (pI (mNo I c))] ad (cX E ad I F lc ln) 0 0
  refine r_if_eq h.ok 15 dX6_visitOf_10 (by decide) (fun c_10 => ?_) (fun c_10 => ?_)
  · refine r_iconst (v := 0) h.ok dX6_visitOf_15 (by decide) ?_
    refine r_istore_n (lv' := [(3, .int 0), (0, .ref (ad 11 0)), (1, .int c), (2, .int i)]) h.ok dX6_visitOf_16 (by decide) rfl ?_
    refine r_iconst (v := 0) h.ok dX6_visitOf_17 (by decide) ?_
    refine r_istore (lv' := [(4, .int 0), (3, .int 0), (0, .ref (ad 11 0)), (1, .int c), (2, .int i)]) h.ok dX6_visitOf_18 (by decide) rfl ?_
    have lp20 : ∀ (n : Nat) (j : Nat) (x y : Int32), (j ≤ nv) → (nv + 1 ≤ j + n) → (x = nI j) → (gNth (fun v => I 12 19 v = c) i (nv - 0) 0 0 = gNth (fun v => I 12 19 v = c) i (nv - j) j y) → Rn 20 [(4, .int x), (3, .int y), (0, .ref (ad 11 0)), (1, .int c), (2, .int i)] [] ad (cX E ad I F lc ln) 0 0 := by
      intro n
      induction n with
      | zero => intro j  x y  hj hf hx hs; exfalso; omega
      | succ n ih20 =>
        intro j  x y  hj hf hx hs
        refine r_iload h.ok dX6_visitOf_20 0 rfl ?_
        refine r_aload_n h.ok dX6_visitOf_22 2 rfl ?_
        refine r_get (v := .int (I 11 0 17)) h.ok 17 dX6_visitOf_23 (xo_11 _) rfl inX6 (by decide) wfl_X6_184 rfl ?_
        rw [hv]
        refine r_icmp_ge h.ok 57 dX6_visitOf_26 (by decide) (fun c_26 => ?_) (fun c_26 => ?_)
        · have jw : j = nv := ge_nI hx (by omega) hj c_26
          refine r_bipush (v := (-9)) h.ok dX6_visitOf_57 (by decide) ?_
          refine r_iret h dX6_visitOf_59 ⟨by decide, by decide⟩ ⟨(by unfold mVisitOf; rw [if_pos c_10]; rw [hs, gNth_end (by omega)]), rfl, rfl⟩
        · have jw : j < nv := lt_nI hx (by omega) hj c_26
          refine r_aload_n h.ok dX6_visitOf_29 2 rfl ?_
          refine r_get h.ok 19 dX6_visitOf_30 (xo_11 _) rfl inX6 (by decide) wfl_X6_56 rfl ?_
          refine r_iload h.ok dX6_visitOf_33 0 rfl ?_
          refine x_iald (v := I 12 19 j) h.ok j dX6_visitOf_35 rfl hx (by omega) (by decide) rfl ?_
          refine r_iload_n h.ok dX6_visitOf_36 3 rfl ?_
          refine r_icmp_ne h.ok 51 dX6_visitOf_37 (by decide) (fun c_37 => ?_) (fun c_37 => ?_)
          · refine r_iinc (v := x + 1) (lv' := [(4, .int (x + 1)), (3, .int y), (0, .ref (ad 11 0)), (1, .int c), (2, .int i)]) h.ok dX6_visitOf_51 0 rfl rfl (by decide) rfl ?_
            refine r_goto h.ok 20 dX6_visitOf_54 (by decide) ?_
            exact ih20 (j + 1) _ _ (by omega) (by omega) (by rw [hx]; exact nI_1 j) (by rw [hs]; exact gNth_miss jw c_37)
          · refine r_iload_n h.ok dX6_visitOf_40 1 rfl ?_
            refine r_iload_n h.ok dX6_visitOf_41 4 rfl ?_
            refine r_icmp_ne h.ok 48 dX6_visitOf_42 (by decide) (fun c_42 => ?_) (fun c_42 => ?_)
            · refine r_iinc (v := y + 1) (lv' := [(3, .int (y + 1)), (4, .int x), (0, .ref (ad 11 0)), (1, .int c), (2, .int i)]) h.ok dX6_visitOf_48 1 rfl rfl (by decide) rfl ?_
              refine r_iinc (v := x + 1) (lv' := [(4, .int (x + 1)), (3, .int (y + 1)), (0, .ref (ad 11 0)), (1, .int c), (2, .int i)]) h.ok dX6_visitOf_51 1 rfl rfl (by decide) rfl ?_
              refine r_goto h.ok 20 dX6_visitOf_54 (by decide) ?_
              exact ih20 (j + 1) _ _ (by omega) (by omega) (by rw [hx]; exact nI_1 j) (by rw [hs]; exact gNth_next jw c_37 c_42)
            · refine r_iload h.ok dX6_visitOf_45 0 rfl ?_
              refine r_iret h dX6_visitOf_47 ⟨by decide, by decide⟩ ⟨(by unfold mVisitOf; rw [if_pos c_10]; rw [hs, gNth_hit jw c_37 c_42, hx]), rfl, rfl⟩
    exact lp20 (nv + 1) 0 0 0 (Nat.zero_le _) (by omega) rfl rfl
  · refine r_iconst (v := (-1)) h.ok dX6_visitOf_13 (by decide) ?_
    refine r_iret h dX6_visitOf_14 ⟨by decide, by decide⟩ ⟨(by unfold mVisitOf; rw [if_neg c_10]), rfl, rfl⟩
set_option maxHeartbeats 4000000 in
set_option maxRecDepth 100000 in
theorem c_X6_gave (D : va_G) (E : gEc) (ad : gAd) (I : gI) (F : gF) (lc ln : Nat) (c i : Int32) (ht : I 11 0 0 = 0) (nc : Nat) (hn : I 11 0 3 = nI nc) (h12 : nc ≤ 12) (nv : Nat) (hv : I 11 0 17 = nI nv) (v500 : nv ≤ 500) : gCon D E yX6_gave cX6_gave 5 (some .int) 2 0 0 [.ref (ad 11 0), .int c, .int i] ad (cX E ad I F lc ln) (gPd (some (.int (mGave I nv c i))) ad (cX E ad I F lc ln)) := by
  refine gCon.of (by decide) (Nat.le_of_ble_eq_true rfl) ?_
  intro l A Rn h
  show Rn 0 [(0, .ref (ad 11 0)), (1, .int c), (2, .int i)] [] ad (cX E ad I F lc ln) 0 0
  refine r_aload_n h.ok dX6_gave_0 0 rfl ?_
  refine r_iconst (v := 0) h.ok dX6_gave_1 (by decide) ?_
  refine r_put (ty := tyX6) h.ok 0 dX6_gave_2 (xo_11 _) rfl inX6 tyX6_ok nmX6 (by decide) wfl_X6_97 rfl rfl rfl (by simp) (cX_thr ht) ?_
  refine r_aload_n h.ok dX6_gave_5 0 rfl ?_
  refine r_iload_n h.ok dX6_gave_6 1 rfl ?_
  refine r_callV h.ok [.int c] [] dX6_gave_7 (c_X6_noCow D E ad I F lc ln c) wml_X6_159 wim_X6_noCow wse_X6_noCow win_X6 wco_X6_noCow yok_X6_noCow (xo_11 _) rfl rfl ⟨by decide, by decide, by simp [gRm], by simp [gRm]⟩ (Nat.le_of_ble_eq_true rfl) rfl ?_
  show Rn 10 [(0, .ref (ad 11 0)), (1, .int c), (2, .int i)] [.int (pI (mNo I c))] ad (cX E ad I F lc ln) 0 0
  refine r_if_eq h.ok 15 dX6_gave_10 (by decide) (fun c_10 => ?_) (fun c_10 => ?_)
  · refine r_iload_n h.ok dX6_gave_15 2 rfl ?_
    refine r_if_ge h.ok 22 dX6_gave_16 (by decide) (fun c_16 => ?_) (fun c_16 => ?_)
    · refine r_iconst (v := 0) h.ok dX6_gave_22 (by decide) ?_
      refine r_istore_n (lv' := [(3, .int 0), (0, .ref (ad 11 0)), (1, .int c), (2, .int i)]) h.ok dX6_gave_23 (by decide) rfl ?_
      refine r_iconst (v := 0) h.ok dX6_gave_24 (by decide) ?_
      refine r_istore (lv' := [(4, .int 0), (3, .int 0), (0, .ref (ad 11 0)), (1, .int c), (2, .int i)]) h.ok dX6_gave_25 (by decide) rfl ?_
      have lp27 : ∀ (n : Nat) (j : Nat) (x y : Int32), (j ≤ nv) → (nv + 1 ≤ j + n) → (x = nI j) → (y = gSum (mGv I c i) j) → Rn 27 [(4, .int x), (3, .int y), (0, .ref (ad 11 0)), (1, .int c), (2, .int i)] [] ad (cX E ad I F lc ln) 0 0 := by
        intro n
        induction n with
        | zero => intro j  x y  hj hf hx hy; exfalso; omega
        | succ n ih27 =>
          intro j  x y  hj hf hx hy
          refine r_iload h.ok dX6_gave_27 0 rfl ?_
          refine r_aload_n h.ok dX6_gave_29 2 rfl ?_
          refine r_get (v := .int (I 11 0 17)) h.ok 17 dX6_gave_30 (xo_11 _) rfl inX6 (by decide) wfl_X6_184 rfl ?_
          rw [hv]
          refine r_icmp_ge h.ok 94 dX6_gave_33 (by decide) (fun c_33 => ?_) (fun c_33 => ?_)
          · have jw : j = nv := ge_nI hx (by omega) hj c_33
            refine r_iload_n h.ok dX6_gave_94 1 rfl ?_
            refine r_iret h dX6_gave_95 ⟨by decide, by decide⟩ ⟨(by unfold mGave; simp only [if_pos c_10, if_pos c_16]; rw [hy, jw]), rfl, rfl⟩
          · have jw : j < nv := lt_nI hx (by omega) hj c_33
            refine r_iload_n h.ok dX6_gave_36 1 rfl ?_
            refine r_aload_n h.ok dX6_gave_37 2 rfl ?_
            refine r_get h.ok 19 dX6_gave_38 (xo_11 _) rfl inX6 (by decide) wfl_X6_56 rfl ?_
            refine r_iload h.ok dX6_gave_41 0 rfl ?_
            refine x_iald (v := I 12 19 j) h.ok j dX6_gave_43 rfl hx (by omega) (by decide) rfl ?_
            refine r_iload_n h.ok dX6_gave_44 3 rfl ?_
            have K_45 : ∀ t : Int32, t = (mGv I c i j) → Rn 86 [(4, .int x), (3, .int y), (0, .ref (ad 11 0)), (1, .int c), (2, .int i)] [.int t, .int y] ad (cX E ad I F lc ln) 0 0 := by
              intro t e_t
              refine r_iadd h.ok dX6_gave_86 ?_
              refine r_istore_n (lv' := [(3, .int (y + t)), (4, .int x), (0, .ref (ad 11 0)), (1, .int c), (2, .int i)]) h.ok dX6_gave_87 (by decide) rfl ?_
              refine r_iinc (v := x + 1) (lv' := [(4, .int (x + 1)), (3, .int (y + t)), (0, .ref (ad 11 0)), (1, .int c), (2, .int i)]) h.ok dX6_gave_88 1 rfl rfl (by decide) rfl ?_
              refine r_goto h.ok 27 dX6_gave_91 (by decide) ?_
              exact ih27 (j + 1) _ _ (by omega) (by omega) (by rw [hx]; exact nI_1 j) (by rw [hy, e_t]; rfl)
            refine r_icmp_ne h.ok 85 dX6_gave_45 (by decide) (fun c_45 => ?_) (fun c_45 => ?_)
            · refine r_iconst (v := 0) h.ok dX6_gave_85 (by decide) ?_
              exact K_45 _ (by simp [mGv, c_45])
            · refine r_aload_n h.ok dX6_gave_48 2 rfl ?_
              refine r_get h.ok 24 dX6_gave_49 (xo_11 _) rfl inX6 (by decide) wfl_X6_72 rfl ?_
              refine r_iload h.ok dX6_gave_52 0 rfl ?_
              refine x_iald (v := I 12 24 j) h.ok j dX6_gave_54 rfl hx (by omega) (by decide) rfl ?_
              refine r_bipush (v := (-9)) h.ok dX6_gave_55 (by decide) ?_
              refine r_icmp_eq h.ok 85 dX6_gave_57 (by decide) (fun c_57 => ?_) (fun c_57 => ?_)
              · refine r_iconst (v := 0) h.ok dX6_gave_85 (by decide) ?_
                exact K_45 _ (by simp [mGv, c_45, c_57])
              · refine r_aload_n h.ok dX6_gave_60 2 rfl ?_
                refine r_get h.ok 24 dX6_gave_61 (xo_11 _) rfl inX6 (by decide) wfl_X6_72 rfl ?_
                refine r_iload h.ok dX6_gave_64 0 rfl ?_
                refine x_iald (v := I 12 24 j) h.ok j dX6_gave_66 rfl hx (by omega) (by decide) rfl ?_
                refine r_sipush (v := 1440) h.ok dX6_gave_67 (by decide) ?_
                refine r_idiv h.ok dX6_gave_70 (by decide) ?_
                refine r_iload_n h.ok dX6_gave_71 4 rfl ?_
                refine r_icmp_ne h.ok 85 dX6_gave_72 (by decide) (fun c_72 => ?_) (fun c_72 => ?_)
                · refine r_iconst (v := 0) h.ok dX6_gave_85 (by decide) ?_
                  exact K_45 _ (by simp [mGv, c_45, c_57, c_72])
                · refine r_aload_n h.ok dX6_gave_75 2 rfl ?_
                  refine r_get h.ok 25 dX6_gave_76 (xo_11 _) rfl inX6 (by decide) wfl_X6_75 rfl ?_
                  refine r_iload h.ok dX6_gave_79 0 rfl ?_
                  refine x_iald (v := I 12 25 j) h.ok j dX6_gave_81 rfl hx (by omega) (by decide) rfl ?_
                  refine r_goto h.ok 86 dX6_gave_82 (by decide) ?_
                  exact K_45 _ (by simp [mGv, c_45, c_57, c_72])
      exact lp27 (nv + 1) 0 0 0 (Nat.zero_le _) (by omega) rfl rfl
    · refine r_bipush (v := (-2)) h.ok dX6_gave_19 (by decide) ?_
      refine r_iret h dX6_gave_21 ⟨by decide, by decide⟩ ⟨(by unfold mGave; simp only [if_pos c_10, if_neg c_16]), rfl, rfl⟩
  · refine r_iconst (v := (-1)) h.ok dX6_gave_13 (by decide) ?_
    refine r_iret h dX6_gave_14 ⟨by decide, by decide⟩ ⟨(by unfold mGave; simp only [if_neg c_10]), rfl, rfl⟩
set_option maxHeartbeats 4000000 in
set_option maxRecDepth 100000 in
theorem c_X6_longest (D : va_G) (E : gEc) (ad : gAd) (I : gI) (F : gF) (lc ln : Nat) (ht : I 11 0 0 = 0) (nv : Nat) (hv : I 11 0 17 = nI nv) (v500 : nv ≤ 500) : gCon D E yX6_longest cX6_longest 4 (some .int) 0 0 0 [.ref (ad 11 0)] ad (cX E ad I F lc ln) (gPd (some (.int (mLongest I nv))) ad (cX E ad I F lc ln)) := by
  refine gCon.of (by decide) (Nat.le_of_ble_eq_true rfl) ?_
  intro l A Rn h
  show Rn 0 [(0, .ref (ad 11 0))] [] ad (cX E ad I F lc ln) 0 0
  refine r_aload_n h.ok dX6_longest_0 0 rfl ?_
  refine r_iconst (v := 0) h.ok dX6_longest_1 (by decide) ?_
  refine r_put (ty := tyX6) h.ok 0 dX6_longest_2 (xo_11 _) rfl inX6 tyX6_ok nmX6 (by decide) wfl_X6_97 rfl rfl rfl (by simp) (cX_thr ht) ?_
  refine r_iconst (v := 0) h.ok dX6_longest_5 (by decide) ?_
  refine r_istore_n (lv' := [(1, .int 0), (0, .ref (ad 11 0))]) h.ok dX6_longest_6 (by decide) rfl ?_
  refine r_iconst (v := 0) h.ok dX6_longest_7 (by decide) ?_
  refine r_istore_n (lv' := [(2, .int 0), (1, .int 0), (0, .ref (ad 11 0))]) h.ok dX6_longest_8 (by decide) rfl ?_
  have lp9 : ∀ (n : Nat) (j : Nat) (x y : Int32), (j ≤ nv) → (nv + 1 ≤ j + n) → (x = nI j) → (y = gMax (mWt I) j) → Rn 9 [(2, .int x), (1, .int y), (0, .ref (ad 11 0))] [] ad (cX E ad I F lc ln) 0 0 := by
    intro n
    induction n with
    | zero => intro j  x y  hj hf hx hy; exfalso; omega
    | succ n ih9 =>
      intro j  x y  hj hf hx hy
      refine r_iload_n h.ok dX6_longest_9 0 rfl ?_
      refine r_aload_n h.ok dX6_longest_10 2 rfl ?_
      refine r_get (v := .int (I 11 0 17)) h.ok 17 dX6_longest_11 (xo_11 _) rfl inX6 (by decide) wfl_X6_184 rfl ?_
      rw [hv]
      refine r_icmp_ge h.ok 63 dX6_longest_14 (by decide) (fun c_14 => ?_) (fun c_14 => ?_)
      · have jw : j = nv := ge_nI hx (by omega) hj c_14
        refine r_iload_n h.ok dX6_longest_63 1 rfl ?_
        refine r_iret h dX6_longest_64 ⟨by decide, by decide⟩ ⟨(by rw [hy, jw]; rfl), rfl, rfl⟩
      · have jw : j < nv := lt_nI hx (by omega) hj c_14
        refine r_aload_n h.ok dX6_longest_17 2 rfl ?_
        refine r_get h.ok 23 dX6_longest_18 (xo_11 _) rfl inX6 (by decide) wfl_X6_69 rfl ?_
        refine r_iload_n h.ok dX6_longest_21 0 rfl ?_
        refine x_iald (v := I 12 23 j) h.ok j dX6_longest_22 rfl hx (by omega) (by decide) rfl ?_
        refine r_bipush (v := (-9)) h.ok dX6_longest_23 (by decide) ?_
        have K_25 : ∀ t : Int32, t = (mWt I j) → Rn 45 [(2, .int x), (1, .int y), (0, .ref (ad 11 0))] [.int t] ad (cX E ad I F lc ln) 0 0 := by
          intro t e_t
          refine r_istore_n (lv' := [(3, .int t), (2, .int x), (1, .int y), (0, .ref (ad 11 0))]) h.ok dX6_longest_45 (by decide) rfl ?_
          refine r_iload_n h.ok dX6_longest_46 0 rfl ?_
          refine r_iload_n h.ok dX6_longest_47 2 rfl ?_
          have K_48 : ∀ u : Int32, u = (if t ≤ y then y else t) → Rn 56 [(3, .int t), (2, .int x), (1, .int y), (0, .ref (ad 11 0))] [.int u] ad (cX E ad I F lc ln) 0 0 := by
            intro u e_u
            refine r_istore_n (lv' := [(1, .int u), (3, .int t), (2, .int x), (0, .ref (ad 11 0))]) h.ok dX6_longest_56 (by decide) rfl ?_
            refine r_iinc (v := x + 1) (lv' := [(2, .int (x + 1)), (1, .int u), (3, .int t), (0, .ref (ad 11 0))]) h.ok dX6_longest_57 2 rfl rfl (by decide) rfl ?_
            refine r_goto h.ok 9 dX6_longest_60 (by decide) ?_
            refine r_lv (lv' := [(2, .int (x + 1)), (1, .int u), (0, .ref (ad 11 0))]) h.ok [0, 1, 3] rfl ?_
            exact ih9 (j + 1) _ _ (by omega) (by omega) (by rw [hx]; exact nI_1 j) (by rw [e_u, e_t, hy]; rfl)
          refine r_icmp_le h.ok 55 dX6_longest_48 (by decide) (fun c_48 => ?_) (fun c_48 => ?_)
          · refine r_iload_n h.ok dX6_longest_55 2 rfl ?_
            exact K_48 _ (by simp [c_48])
          · refine r_iload_n h.ok dX6_longest_51 0 rfl ?_
            refine r_goto h.ok 56 dX6_longest_52 (by decide) ?_
            exact K_48 _ (by simp [c_48])
        refine r_icmp_ne h.ok 32 dX6_longest_25 (by decide) (fun c_25 => ?_) (fun c_25 => ?_)
        · refine r_aload_n h.ok dX6_longest_32 2 rfl ?_
          refine r_get h.ok 23 dX6_longest_33 (xo_11 _) rfl inX6 (by decide) wfl_X6_69 rfl ?_
          refine r_iload_n h.ok dX6_longest_36 0 rfl ?_
          refine x_iald (v := I 12 23 j) h.ok j dX6_longest_37 rfl hx (by omega) (by decide) rfl ?_
          refine r_aload_n h.ok dX6_longest_38 2 rfl ?_
          refine r_get h.ok 20 dX6_longest_39 (xo_11 _) rfl inX6 (by decide) wfl_X6_59 rfl ?_
          refine r_iload_n h.ok dX6_longest_42 0 rfl ?_
          refine x_iald (v := I 12 20 j) h.ok j dX6_longest_43 rfl hx (by omega) (by decide) rfl ?_
          refine r_isub h.ok dX6_longest_44 ?_
          exact K_25 _ (by simp [mWt, c_25])
        · refine r_iconst (v := 0) h.ok dX6_longest_28 (by decide) ?_
          refine r_goto h.ok 45 dX6_longest_29 (by decide) ?_
          exact K_25 _ (by simp [mWt, c_25])
  exact lp9 (nv + 1) 0 0 0 (Nat.zero_le _) (by omega) rfl rfl
set_option maxHeartbeats 4000000 in
set_option maxRecDepth 100000 in
theorem c_X6_rank (D : va_G) (E : gEc) (ad : gAd) (I : gI) (F : gF) (lc ln : Nat) (i : Int32) (ht : I 11 0 0 = 0) (nc : Nat) (hn : I 11 0 3 = nI nc) (h12 : nc ≤ 12) : gCon D E yX6_rank cX6_rank 5 (some .int) 0 0 0 [.ref (ad 11 0), .int i] ad (cX E ad I F lc ln) (gPd (some (.int (mRank I nc i))) ad (cX E ad I F lc ln)) := by
  refine gCon.of (by decide) (Nat.le_of_ble_eq_true rfl) ?_
  intro l A Rn h
  show Rn 0 [(0, .ref (ad 11 0)), (1, .int i)] [] ad (cX E ad I F lc ln) 0 0
  refine r_aload_n h.ok dX6_rank_0 0 rfl ?_
  refine r_iconst (v := 0) h.ok dX6_rank_1 (by decide) ?_
  refine r_put (ty := tyX6) h.ok 0 dX6_rank_2 (xo_11 _) rfl inX6 tyX6_ok nmX6 (by decide) wfl_X6_97 rfl rfl rfl (by simp) (cX_thr ht) ?_
  refine r_iconst (v := 0) h.ok dX6_rank_5 (by decide) ?_
  refine r_istore_n (lv' := [(2, .int 0), (0, .ref (ad 11 0)), (1, .int i)]) h.ok dX6_rank_6 (by decide) rfl ?_
  have lp7 : ∀ (n : Nat) (c : Nat) (x2 : Int32), (c ≤ nc) → (nc + 1 ≤ c + n) → (x2 = nI c) → (mRank I nc i = gFind (fun c => gSum (mFo I c) nc = i) (nc - c) c) → Rn 7 [(2, .int x2), (0, .ref (ad 11 0)), (1, .int i)] [] ad (cX E ad I F lc ln) 0 0 := by
    intro n
    induction n with
    | zero => intro c  x2  hc hfc hx2 hs; exfalso; omega
    | succ n ih7 =>
      intro c  x2  hc hfc hx2 hs
      refine r_iload_n h.ok dX6_rank_7 0 rfl ?_
      refine r_aload_n h.ok dX6_rank_8 1 rfl ?_
      refine r_get (v := .int (I 11 0 3)) h.ok 3 dX6_rank_9 (xo_11 _) rfl inX6 (by decide) wfl_X6_100 rfl ?_
      rw [hn]
      refine r_icmp_ge h.ok 94 dX6_rank_12 (by decide) (fun c_12 => ?_) (fun c_12 => ?_)
      · have cw : c = nc := ge_nI hx2 (by omega) hc c_12
        refine r_bipush (v := (-9)) h.ok dX6_rank_94 (by decide) ?_
        refine r_iret h dX6_rank_96 ⟨by decide, by decide⟩ ⟨(by rw [hs, gFind_end (by omega)]), rfl, rfl⟩
      · have cw : c < nc := lt_nI hx2 (by omega) hc c_12
        refine r_iconst (v := 0) h.ok dX6_rank_15 (by decide) ?_
        refine r_istore_n (lv' := [(3, .int 0), (2, .int x2), (0, .ref (ad 11 0)), (1, .int i)]) h.ok dX6_rank_16 (by decide) rfl ?_
        refine r_iconst (v := 0) h.ok dX6_rank_17 (by decide) ?_
        refine r_istore (lv' := [(4, .int 0), (3, .int 0), (2, .int x2), (0, .ref (ad 11 0)), (1, .int i)]) h.ok dX6_rank_18 (by decide) rfl ?_
        have lp20 : ∀ (n : Nat) (j : Nat) (x y : Int32), (j ≤ nc) → (nc + 1 ≤ j + n) → (x = nI j) → (y = gSum (mFo I c) j) → Rn 20 [(4, .int x), (3, .int y), (2, .int x2), (0, .ref (ad 11 0)), (1, .int i)] [] ad (cX E ad I F lc ln) 0 0 := by
          intro n
          induction n with
          | zero => intro j  x y  hj hf hx hy; exfalso; omega
          | succ n ih20 =>
            intro j  x y  hj hf hx hy
            refine r_iload h.ok dX6_rank_20 0 rfl ?_
            refine r_aload_n h.ok dX6_rank_22 3 rfl ?_
            refine r_get (v := .int (I 11 0 3)) h.ok 3 dX6_rank_23 (xo_11 _) rfl inX6 (by decide) wfl_X6_100 rfl ?_
            rw [hn]
            refine r_icmp_ge h.ok 81 dX6_rank_26 (by decide) (fun c_26 => ?_) (fun c_26 => ?_)
            · have jw : j = nc := ge_nI hx (by omega) hj c_26
              refine r_iload_n h.ok dX6_rank_81 1 rfl ?_
              refine r_iload_n h.ok dX6_rank_82 4 rfl ?_
              refine r_icmp_ne h.ok 88 dX6_rank_83 (by decide) (fun c_83 => ?_) (fun c_83 => ?_)
              · refine r_iinc (v := x2 + 1) (lv' := [(2, .int (x2 + 1)), (4, .int x), (3, .int y), (0, .ref (ad 11 0)), (1, .int i)]) h.ok dX6_rank_88 2 rfl rfl (by decide) rfl ?_
                refine r_goto h.ok 7 dX6_rank_91 (by decide) ?_
                refine r_lv (lv' := [(2, .int (x2 + 1)), (0, .ref (ad 11 0)), (1, .int i)]) h.ok [0, 3, 4] rfl ?_
                exact ih7 (c + 1) _ (by omega) (by omega) (by rw [hx2]; exact nI_1 c) (by rw [hs]; exact gFind_miss cw (show ¬ gSum (mFo I c) nc = i by rw [← jw, ← hy]; exact c_83))
              · refine r_iload_n h.ok dX6_rank_86 2 rfl ?_
                refine r_iret h dX6_rank_87 ⟨by decide, by decide⟩ ⟨(by rw [hs, gFind_hit cw (show gSum (mFo I c) nc = i by rw [← jw, ← hy]; exact c_83), hx2]), rfl, rfl⟩
            · have jw : j < nc := lt_nI hx (by omega) hj c_26
              refine r_iload_n h.ok dX6_rank_29 1 rfl ?_
              refine r_aload_n h.ok dX6_rank_30 3 rfl ?_
              refine r_get h.ok 15 dX6_rank_31 (xo_11 _) rfl inX6 (by decide) wfl_X6_47 rfl ?_
              refine r_iload h.ok dX6_rank_34 0 rfl ?_
              refine x_iald (v := I 12 15 j) h.ok j dX6_rank_36 rfl hx (by omega) (by decide) rfl ?_
              refine r_aload_n h.ok dX6_rank_37 3 rfl ?_
              refine r_get h.ok 15 dX6_rank_38 (xo_11 _) rfl inX6 (by decide) wfl_X6_47 rfl ?_
              refine r_iload_n h.ok dX6_rank_41 2 rfl ?_
              refine x_iald (v := I 12 15 c) h.ok c dX6_rank_42 rfl hx2 (by omega) (by decide) rfl ?_
              have K_43 : ∀ t : Int32, t = (mFo I c j) → Rn 73 [(4, .int x), (3, .int y), (2, .int x2), (0, .ref (ad 11 0)), (1, .int i)] [.int t, .int y] ad (cX E ad I F lc ln) 0 0 := by
                intro t e_t
                refine r_iadd h.ok dX6_rank_73 ?_
                refine r_istore_n (lv' := [(3, .int (y + t)), (4, .int x), (2, .int x2), (0, .ref (ad 11 0)), (1, .int i)]) h.ok dX6_rank_74 (by decide) rfl ?_
                refine r_iinc (v := x + 1) (lv' := [(4, .int (x + 1)), (3, .int (y + t)), (2, .int x2), (0, .ref (ad 11 0)), (1, .int i)]) h.ok dX6_rank_75 1 rfl rfl (by decide) rfl ?_
                refine r_goto h.ok 20 dX6_rank_78 (by decide) ?_
                exact ih20 (j + 1) _ _ (by omega) (by omega) (by rw [hx]; exact nI_1 j) (by rw [hy, e_t]; rfl)
              refine r_icmp_gt h.ok 68 dX6_rank_43 (by decide) (fun c_43 => ?_) (fun c_43 => ?_)
              · refine r_iconst (v := 1) h.ok dX6_rank_68 (by decide) ?_
                refine r_goto h.ok 73 dX6_rank_69 (by decide) ?_
                exact K_43 _ (by unfold mFo; rw [if_pos c_43])
              · refine r_aload_n h.ok dX6_rank_46 3 rfl ?_
                refine r_get h.ok 15 dX6_rank_47 (xo_11 _) rfl inX6 (by decide) wfl_X6_47 rfl ?_
                refine r_iload h.ok dX6_rank_50 0 rfl ?_
                refine x_iald (v := I 12 15 j) h.ok j dX6_rank_52 rfl hx (by omega) (by decide) rfl ?_
                refine r_aload_n h.ok dX6_rank_53 3 rfl ?_
                refine r_get h.ok 15 dX6_rank_54 (xo_11 _) rfl inX6 (by decide) wfl_X6_47 rfl ?_
                refine r_iload_n h.ok dX6_rank_57 2 rfl ?_
                refine x_iald (v := I 12 15 c) h.ok c dX6_rank_58 rfl hx2 (by omega) (by decide) rfl ?_
                refine r_icmp_ne h.ok 72 dX6_rank_59 (by decide) (fun c_59 => ?_) (fun c_59 => ?_)
                · refine r_iconst (v := 0) h.ok dX6_rank_72 (by decide) ?_
                  exact K_43 _ (by unfold mFo; rw [if_neg c_43, if_neg c_59])
                · refine r_iload h.ok dX6_rank_62 0 rfl ?_
                  refine r_iload_n h.ok dX6_rank_64 2 rfl ?_
                  refine r_icmp_ge h.ok 72 dX6_rank_65 (by decide) (fun c_65 => ?_) (fun c_65 => ?_)
                  · refine r_iconst (v := 0) h.ok dX6_rank_72 (by decide) ?_
                    exact K_43 _ (by unfold mFo; rw [if_neg c_43, if_pos c_59, if_pos (show nI c ≤ nI j by rw [← hx, ← hx2]; exact c_65)])
                  · refine r_iconst (v := 1) h.ok dX6_rank_68 (by decide) ?_
                    refine r_goto h.ok 73 dX6_rank_69 (by decide) ?_
                    exact K_43 _ (by unfold mFo; rw [if_neg c_43, if_pos c_59, if_neg (show ¬ nI c ≤ nI j by rw [← hx, ← hx2]; exact c_65)])
        exact lp20 (nc + 1) 0 0 0 (Nat.zero_le _) (by omega) rfl rfl
  exact lp7 (nc + 1) 0 0 (Nat.zero_le _) (by omega) rfl rfl
