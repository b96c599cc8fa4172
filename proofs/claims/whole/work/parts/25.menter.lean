noncomputable def gBack (P : Nat → Prop) (f : Nat → Int32) : Nat → Nat → Int32 → Nat × Int32
  | 0, n, s => (n, s)
  | k + 1, n, s => if 5 ≤ n then (n, s) else @ite (Nat × Int32) (P k) (Classical.propDecidable _) (gBack P f k (n + 1) (s + f k)) (gBack P f k n s)
theorem gBack_end {P : Nat → Prop} {f : Nat → Int32} {k m : Nat} {s : Int32} (h : k = 0 ∨ 5 ≤ m) : gBack P f k m s = (m, s) := by
  cases k with
  | zero => rfl
  | succ k => exact if_pos (h.resolve_left (by omega))
theorem gBack_hit {P : Nat → Prop} {f : Nat → Int32} {k m : Nat} {s : Int32} (hk : 0 < k) (h : ¬ 5 ≤ m) (hp : P (k - 1)) : gBack P f k m s = gBack P f (k - 1) (m + 1) (s + f (k - 1)) := by
  obtain ⟨k, rfl⟩ : ∃ q, k = q + 1 := ⟨k - 1, by omega⟩
  exact (if_neg h).trans (if_pos hp)
theorem gBack_miss {P : Nat → Prop} {f : Nat → Int32} {k m : Nat} {s : Int32} (hk : 0 < k) (h : ¬ 5 ≤ m) (hp : ¬ P (k - 1)) : gBack P f k m s = gBack P f (k - 1) m s := by
  obtain ⟨k, rfl⟩ : ∃ q, k = q + 1 := ⟨k - 1, by omega⟩
  exact (if_neg h).trans (if_neg hp)
noncomputable def mLast (I : gI) (nv : Nat) (c : Int32) : Nat × Int32 := gBack (fun v => I 12 19 v = c) (fun v => I 12 21 v) nv 0 0
def mAlarm (I : gI) (nv : Nat) (c a : Int32) : Prop := ¬ nI (mLast I nv c).1 < 3 ∧ ¬ 10 * a * nI (mLast I nv c).1 ≤ 12 * (mLast I nv c).2
theorem sub1 (x : Int32) : x - 1 = x + (-1) := by rw [Int32.sub_eq_add_neg]
theorem m1_neg {x : Int32} {k : Nat} (hx : x = nI k + (-1)) (hk : k < 2 ^ 31) (h : x < 0) : k = 0 := by
  cases k with
  | zero => rfl
  | succ k => rw [hx, pk_m1] at h; exact absurd h (nI_pos (by omega))
theorem m1_pos {x : Int32} {k : Nat} (hx : x = nI k + (-1)) (h : ¬ x < 0) : 0 < k ∧ x = nI (k - 1) := by
  cases k with
  | zero => exact absurd (by rw [hx]; decide) h
  | succ k => exact ⟨by omega, by rw [hx, pk_m1]; rfl⟩
noncomputable def gSt (P : Nat → Prop) : Nat → Option Nat
  | 0 => none
  | n + 1 => match gSt P n with
    | some a => some a
    | none => @ite (Option Nat) (P n) (Classical.propDecidable _) (some n) none
theorem gSt_keep {P : Nat → Prop} {j a : Nat} (h : gSt P j = some a) : gSt P (j + 1) = some a := by simp [gSt, h]
theorem gSt_hit {P : Nat → Prop} {j : Nat} (h : gSt P j = none) (hp : P j) : gSt P (j + 1) = some j := by simp [gSt, h, hp]
theorem gSt_miss {P : Nat → Prop} {j : Nat} (h : gSt P j = none) (hp : ¬ P j) : gSt P (j + 1) = none := by simp [gSt, h, hp]
theorem gSt_lt {P : Nat → Prop} : ∀ {j a : Nat}, gSt P j = some a → a < j ∧ P a
  | 0, a, h => by cases h
  | j + 1, a, h => by
    cases hq : gSt P j with
    | some b =>
      rw [gSt_keep hq] at h
      cases h
      have := gSt_lt hq
      exact ⟨by omega, this.2⟩
    | none =>
      by_cases hp : P j
      · rw [gSt_hit hq hp] at h
        cases h
        exact ⟨by omega, hp⟩
      · rw [gSt_miss hq hp] at h
        cases h
theorem gSt_getD {P : Nat → Prop} {w : Nat} (h : 0 < w) : (gSt P w).getD 0 < w := by
  cases hq : gSt P w with
  | none => exact h
  | some a => exact (gSt_lt hq).1
def gFl (o : Option Nat) : Int32 := if o = none then 0 else 1
theorem gFl_0 {o : Option Nat} (h : gFl o = 0) : o = none := by
  unfold gFl at h
  split at h
  · assumption
  · exact absurd h (by decide)
theorem gFl_1 {o : Option Nat} (h : ¬ gFl o = 0) : ∃ a, o = some a := by
  cases o with
  | none => exact absurd rfl h
  | some a => exact ⟨a, rfl⟩
def mShy (I : gI) (j : Nat) : Prop := I 12 4 (I 12 19 (I 12 30 j).toNatClampNeg).toNatClampNeg = 1 ∧ ¬ I 11 0 1 - I 12 20 (I 12 30 j).toNatClampNeg < 30
noncomputable def mCh (I : gI) (nw : Nat) : Nat := (gSt (mShy I) nw).getD 0
def gShift (r : Nat → Int32) (a w : Nat) : Nat → Int32 := fun j => if a ≤ j ∧ j < w then r (j + 1) else r j
theorem gShift_0 (r : Nat → Int32) (a : Nat) : gShift r a a = r := by
  funext j
  unfold gShift
  rw [if_neg (by omega)]
theorem gShift_step {J : gI} {r : Nat → Int32} {a j : Nat} (ha : a ≤ j) : gs (gr J 12 30 (gShift r a j)) 12 30 j (r (j + 1)) = gr J 12 30 (gShift r a (j + 1)) := by
  funext k i s
  by_cases h : k = 12 ∧ i = 30
  · obtain ⟨rfl, rfl⟩ := h
    simp only [gr, upd, and_self, if_true]
    unfold gShift
    by_cases hs : s = j
    · subst hs
      rw [if_pos rfl, if_pos (by omega)]
    · rw [if_neg hs]
      by_cases h1 : a ≤ s ∧ s < j
      · rw [if_pos h1, if_pos (by omega)]
      · rw [if_neg h1, if_neg (by omega)]
  · simp [gr, h]
theorem gr_self {J : gI} {k i : Nat} {r : Nat → Int32} (h : J k i = r) : gr J k i r = J := by
  funext k' i'
  unfold gr
  by_cases hq : k' = k ∧ i' = i
  · obtain ⟨rfl, rfl⟩ := hq
    rw [if_pos ⟨rfl, rfl⟩, h]
  · rw [if_neg hq]
theorem nI_m1 {n : Nat} (h : 0 < n) : nI n - 1 = nI (n - 1) := by
  obtain ⟨m, rfl⟩ : ∃ q, n = q + 1 := ⟨n - 1, by omega⟩
  exact nI_pred m
noncomputable def mEnterB (I : gI) (F : gF) (nw : Nat) : gI := gr (gs (mBegin_I I F (I 12 30 (mCh I nw)) (I 12 19 (I 12 30 (mCh I nw)).toNatClampNeg)) 11 0 29 (nI nw - 1)) 12 30 (gShift (I 12 30) (mCh I nw) (nw - 1))
noncomputable def mEnter (I : gI) (F : gF) (nw : Nat) : gI := if I 11 0 31 = -9 then (if I 11 0 2 = 0 then I else (if I 11 0 29 = 0 then I else mEnterB I F nw)) else I
def nwE (I : gI) (nw : Nat) : Nat := if I 11 0 31 = -9 then (if I 11 0 2 = 0 then nw else (if I 11 0 29 = 0 then nw else nw - 1)) else nw
/-- what the reference needs of itself to run -/
def MI (I : gI) (nc nv nw : Nat) : Prop := I 11 0 0 = 0 ∧ I 11 0 3 = nI nc ∧ nc ≤ 12 ∧ I 11 0 17 = nI nv ∧ nv ≤ 500 ∧ I 11 0 29 = nI nw ∧ nw ≤ 12 ∧ (∀ v : Nat, v < nv → vp_in (I 12 19 v) nc) ∧ (∀ j : Nat, j < nw → vp_in (I 12 30 j) nv) ∧ (I 11 0 31 = -9 ∨ vp_in (I 11 0 31) nv) ∧ (∀ j : Nat, j < nc → ¬ I 12 5 j = 0)
theorem MI_finish {I : gI} {F : gF} {nc nv nw : Nat} {m v c : Int32} (h : MI I nc nv nw) : MI (mFinish_I I F m v c) nc nv nw := by
  obtain ⟨ht, hn, h12, hv, v500, hw, w12, hvc, hq, hb, hr⟩ := h
  refine ⟨?_, ?_, h12, ?_, v500, ?_, w12, ?_, ?_, ?_, ?_⟩ <;> simp [mFinish_I, gr, upd] <;> assumption
theorem MI_enter {I : gI} {F : gF} {nc nv nw : Nat} (h : MI I nc nv nw) : MI (mEnter I F nw) nc nv (nwE I nw) := by
  have h0 := h
  obtain ⟨ht, hn, h12, hv, v500, hw, w12, hvc, hq, hb, hr⟩ := h
  unfold mEnter nwE
  by_cases c1 : I 11 0 31 = -9
  · rw [if_pos c1, if_pos c1]
    by_cases c2 : I 11 0 2 = 0
    · rw [if_pos c2, if_pos c2]; exact h0
    · rw [if_neg c2, if_neg c2]
      by_cases c3 : I 11 0 29 = 0
      · rw [if_pos c3, if_pos c3]; exact h0
      · rw [if_neg c3, if_neg c3]
        have hnw : 0 < nw := by
          rcases Nat.eq_zero_or_pos nw with q | q
          · rw [q] at hw; exact absurd hw c3
          · exact q
        have ha : mCh I nw < nw := gSt_getD hnw
        obtain ⟨b0, b3, b17, b29, b31⟩ := mBegin_11 (I := I) (F := F) (v := I 12 30 (mCh I nw)) (c := I 12 19 (I 12 30 (mCh I nw)).toNatClampNeg)
        obtain ⟨b19, b30, b5⟩ := mBegin_12 (I := I) (F := F) (v := I 12 30 (mCh I nw)) (c := I 12 19 (I 12 30 (mCh I nw)).toNatClampNeg)
        unfold mEnterB
        generalize mBegin_I I F (I 12 30 (mCh I nw)) (I 12 19 (I 12 30 (mCh I nw)).toNatClampNeg) = B at *
        refine ⟨?_, ?_, h12, ?_, v500, ?_, by omega, ?_, ?_, ?_, ?_⟩
        · simp [gr, upd, b0, ht]
        · simp [gr, upd, b3, hn]
        · simp [gr, upd, b17, hv]
        · simp [gr, upd]; exact nI_m1 hnw
        · intro v hvl; simp [gr, b19]; exact hvc v hvl
        · intro j hj; simp [gr]; unfold gShift
          split
          · exact hq _ (by omega)
          · exact hq _ (by omega)
        · right; simp [gr, upd, b31]; exact hq _ ha
        · intro j hj; simp [gr, b5]; exact hr j hj
  · rw [if_neg c1, if_neg c1]; exact h0
set_option maxHeartbeats 4000000 in
set_option maxRecDepth 100000 in
theorem c_X6_isAlarm (D : va_G) (E : gEc) (ad : gAd) (I : gI) (F : gF) (lc ln : Nat) (c a : Int32) (nv : Nat) (hv : I 11 0 17 = nI nv) (v500 : nv ≤ 500) : gCon D E yX6_isAlarm cX6_isAlarm 6 (some .boolean) 0 0 0 [.ref (ad 11 0), .int c, .int a] ad (cX E ad I F lc ln) (gPd (some (.int (pI (mAlarm I nv c a)))) ad (cX E ad I F lc ln)) := by
  refine gCon.of (by decide) (Nat.le_of_ble_eq_true rfl) ?_
  intro l A Rn h
  show Rn 0 [(0, .ref (ad 11 0)), (1, .int c), (2, .int a)] [] ad (cX E ad I F lc ln) 0 0
  refine r_iconst (v := 0) h.ok dX6_isAlarm_0 (by decide) ?_
  refine r_istore_n (lv' := [(3, .int 0), (0, .ref (ad 11 0)), (1, .int c), (2, .int a)]) h.ok dX6_isAlarm_1 (by decide) rfl ?_
  refine r_iconst (v := 0) h.ok dX6_isAlarm_2 (by decide) ?_
  refine r_istore (lv' := [(4, .int 0), (3, .int 0), (0, .ref (ad 11 0)), (1, .int c), (2, .int a)]) h.ok dX6_isAlarm_3 (by decide) rfl ?_
  refine r_aload_n h.ok dX6_isAlarm_5 2 rfl ?_
  refine r_get (v := .int (I 11 0 17)) h.ok 17 dX6_isAlarm_6 (xo_11 _) rfl inX6 (by decide) wfl_X6_184 rfl ?_
  refine r_iconst (v := 1) h.ok dX6_isAlarm_9 (by decide) ?_
  refine r_isub h.ok dX6_isAlarm_10 ?_
  refine r_istore (lv' := [(5, .int ((I 11 0 17) - 1)), (4, .int 0), (3, .int 0), (0, .ref (ad 11 0)), (1, .int c), (2, .int a)]) h.ok dX6_isAlarm_11 (by decide) rfl ?_
  have lp13 : ∀ (n : Nat) (k m : Nat) (x5 x3 x4 : Int32), (k ≤ nv) → (k + 1 ≤ n) → (m ≤ 5) → (x5 = nI k + (-1)) → (x3 = nI m) → (mLast I nv c = gBack (fun v => I 12 19 v = c) (fun v => I 12 21 v) k m x4) → Rn 13 [(5, .int x5), (3, .int x3), (4, .int x4), (0, .ref (ad 11 0)), (1, .int c), (2, .int a)] [] ad (cX E ad I F lc ln) 0 0 := by
    intro n
    induction n with
    | zero => intro k m  x5 x3 x4  hkv hf hm5 hx5 hx3 hs; exfalso; omega
    | succ n ih13 =>
      intro k m  x5 x3 x4  hkv hf hm5 hx5 hx3 hs
      refine r_iload h.ok dX6_isAlarm_13 0 rfl ?_
      refine r_if_lt h.ok 55 dX6_isAlarm_15 (by decide) (fun c_15 => ?_) (fun c_15 => ?_)
      · have hq2 := hs.trans (gBack_end (Or.inl (m1_neg hx5 (by omega) c_15)))
        refine r_iload_n h.ok dX6_isAlarm_55 1 rfl ?_
        refine r_iconst (v := 3) h.ok dX6_isAlarm_56 (by decide) ?_
        refine r_icmp_lt h.ok 78 dX6_isAlarm_57 (by decide) (fun c_57 => ?_) (fun c_57 => ?_)
        · refine r_iconst (v := 0) h.ok dX6_isAlarm_78 (by decide) ?_
          refine r_zret h dX6_isAlarm_79 ⟨by decide, by decide⟩ (by simp) ⟨(by rw [pI_f (show ¬ mAlarm I nv c a by unfold mAlarm; rw [hq2, ← hx3]; exact fun q => q.1 c_57)]), rfl, rfl⟩
        · refine r_bipush (v := 10) h.ok dX6_isAlarm_60 (by decide) ?_
          refine r_iload_n h.ok dX6_isAlarm_62 5 rfl ?_
          refine r_imul h.ok dX6_isAlarm_63 ?_
          refine r_iload_n h.ok dX6_isAlarm_64 1 rfl ?_
          refine r_imul h.ok dX6_isAlarm_65 ?_
          refine r_bipush (v := 12) h.ok dX6_isAlarm_66 (by decide) ?_
          refine r_iload h.ok dX6_isAlarm_68 2 rfl ?_
          refine r_imul h.ok dX6_isAlarm_70 ?_
          refine r_icmp_le h.ok 78 dX6_isAlarm_71 (by decide) (fun c_71 => ?_) (fun c_71 => ?_)
          · refine r_iconst (v := 0) h.ok dX6_isAlarm_78 (by decide) ?_
            refine r_zret h dX6_isAlarm_79 ⟨by decide, by decide⟩ (by simp) ⟨(by rw [pI_f (show ¬ mAlarm I nv c a by unfold mAlarm; rw [hq2, ← hx3]; exact fun q => q.2 c_71)]), rfl, rfl⟩
          · refine r_iconst (v := 1) h.ok dX6_isAlarm_74 (by decide) ?_
            refine r_goto h.ok 79 dX6_isAlarm_75 (by decide) ?_
            refine r_zret h dX6_isAlarm_79 ⟨by decide, by decide⟩ (by simp) ⟨(by rw [pI_t (show mAlarm I nv c a by unfold mAlarm; rw [hq2, ← hx3]; exact ⟨c_57, c_71⟩)]), rfl, rfl⟩
      · have kp := m1_pos hx5 c_15
        refine r_iload_n h.ok dX6_isAlarm_18 1 rfl ?_
        refine r_iconst (v := 5) h.ok dX6_isAlarm_19 (by decide) ?_
        refine r_icmp_ge h.ok 55 dX6_isAlarm_20 (by decide) (fun c_20 => ?_) (fun c_20 => ?_)
        · have hq2 := hs.trans (gBack_end (Or.inr (show 5 ≤ m by rw [hx3, show (5 : Int32) = nI 5 by decide, nI_leI (by decide) (by omega)] at c_20; exact c_20)))
          refine r_iload_n h.ok dX6_isAlarm_55 1 rfl ?_
          refine r_iconst (v := 3) h.ok dX6_isAlarm_56 (by decide) ?_
          refine r_icmp_lt h.ok 78 dX6_isAlarm_57 (by decide) (fun c_57 => ?_) (fun c_57 => ?_)
          · refine r_iconst (v := 0) h.ok dX6_isAlarm_78 (by decide) ?_
            refine r_zret h dX6_isAlarm_79 ⟨by decide, by decide⟩ (by simp) ⟨(by rw [pI_f (show ¬ mAlarm I nv c a by unfold mAlarm; rw [hq2, ← hx3]; exact fun q => q.1 c_57)]), rfl, rfl⟩
          · refine r_bipush (v := 10) h.ok dX6_isAlarm_60 (by decide) ?_
            refine r_iload_n h.ok dX6_isAlarm_62 5 rfl ?_
            refine r_imul h.ok dX6_isAlarm_63 ?_
            refine r_iload_n h.ok dX6_isAlarm_64 1 rfl ?_
            refine r_imul h.ok dX6_isAlarm_65 ?_
            refine r_bipush (v := 12) h.ok dX6_isAlarm_66 (by decide) ?_
            refine r_iload h.ok dX6_isAlarm_68 2 rfl ?_
            refine r_imul h.ok dX6_isAlarm_70 ?_
            refine r_icmp_le h.ok 78 dX6_isAlarm_71 (by decide) (fun c_71 => ?_) (fun c_71 => ?_)
            · refine r_iconst (v := 0) h.ok dX6_isAlarm_78 (by decide) ?_
              refine r_zret h dX6_isAlarm_79 ⟨by decide, by decide⟩ (by simp) ⟨(by rw [pI_f (show ¬ mAlarm I nv c a by unfold mAlarm; rw [hq2, ← hx3]; exact fun q => q.2 c_71)]), rfl, rfl⟩
            · refine r_iconst (v := 1) h.ok dX6_isAlarm_74 (by decide) ?_
              refine r_goto h.ok 79 dX6_isAlarm_75 (by decide) ?_
              refine r_zret h dX6_isAlarm_79 ⟨by decide, by decide⟩ (by simp) ⟨(by rw [pI_t (show mAlarm I nv c a by unfold mAlarm; rw [hq2, ← hx3]; exact ⟨c_57, c_71⟩)]), rfl, rfl⟩
        · have m5 : ¬ 5 ≤ m := fun q => c_20 (by rw [hx3]; exact nI_le q (by omega))
          refine r_aload_n h.ok dX6_isAlarm_23 3 rfl ?_
          refine r_get h.ok 19 dX6_isAlarm_24 (xo_11 _) rfl inX6 (by decide) wfl_X6_56 rfl ?_
          refine r_iload h.ok dX6_isAlarm_27 0 rfl ?_
          refine x_iald (v := I 12 19 (k - 1)) h.ok (k - 1) dX6_isAlarm_29 rfl kp.2 (by omega) (by decide) rfl ?_
          refine r_iload_n h.ok dX6_isAlarm_30 4 rfl ?_
          refine r_icmp_ne h.ok 49 dX6_isAlarm_31 (by decide) (fun c_31 => ?_) (fun c_31 => ?_)
          · refine r_iinc (v := x5 + (-1)) (lv' := [(5, .int (x5 + (-1))), (3, .int x3), (4, .int x4), (0, .ref (ad 11 0)), (1, .int c), (2, .int a)]) h.ok dX6_isAlarm_49 0 rfl rfl (by decide) rfl ?_
            refine r_goto h.ok 13 dX6_isAlarm_52 (by decide) ?_
            exact ih13 (k - 1) m _ _ _ (by omega) (by omega) hm5 (by rw [kp.2]) hx3 (by rw [hs]; exact gBack_miss kp.1 m5 c_31)
          · refine r_iload h.ok dX6_isAlarm_34 2 rfl ?_
            refine r_aload_n h.ok dX6_isAlarm_36 3 rfl ?_
            refine r_get h.ok 21 dX6_isAlarm_37 (xo_11 _) rfl inX6 (by decide) wfl_X6_62 rfl ?_
            refine r_iload h.ok dX6_isAlarm_40 0 rfl ?_
            refine x_iald (v := I 12 21 (k - 1)) h.ok (k - 1) dX6_isAlarm_42 rfl kp.2 (by omega) (by decide) rfl ?_
            refine r_iadd h.ok dX6_isAlarm_43 ?_
            refine r_istore (lv' := [(4, .int (x4 + (I 12 21 (k - 1)))), (5, .int x5), (3, .int x3), (0, .ref (ad 11 0)), (1, .int c), (2, .int a)]) h.ok dX6_isAlarm_44 (by decide) rfl ?_
            refine r_iinc (v := x3 + 1) (lv' := [(3, .int (x3 + 1)), (4, .int (x4 + (I 12 21 (k - 1)))), (5, .int x5), (0, .ref (ad 11 0)), (1, .int c), (2, .int a)]) h.ok dX6_isAlarm_46 2 rfl rfl (by decide) rfl ?_
            refine r_iinc (v := x5 + (-1)) (lv' := [(5, .int (x5 + (-1))), (3, .int (x3 + 1)), (4, .int (x4 + (I 12 21 (k - 1)))), (0, .ref (ad 11 0)), (1, .int c), (2, .int a)]) h.ok dX6_isAlarm_49 2 rfl rfl (by decide) rfl ?_
            refine r_goto h.ok 13 dX6_isAlarm_52 (by decide) ?_
            exact ih13 (k - 1) (m + 1) _ _ _ (by omega) (by omega) (by omega) (by rw [kp.2]) (by rw [hx3]; exact nI_1 m) (by rw [hs]; exact gBack_hit kp.1 m5 c_31)
  refine r_lv (lv' := [(5, .int ((I 11 0 17) - 1)), (3, .int 0), (4, .int 0), (0, .ref (ad 11 0)), (1, .int c), (2, .int a)]) h.ok [0, 2, 1, 3, 4, 5] rfl ?_
  exact lp13 (nv + 1) nv 0 _ _ _ (Nat.le_refl _) (Nat.le_refl _) (by decide) (by rw [hv]; exact sub1 _) rfl rfl
