theorem bFinish_4 {C : gI} {F : gF} {v i : Nat} {kd mk : Int32} : (bFinish C F v i kd mk) 4 i 9 = C 2 0 1 - mk ∧ (bFinish C F v i kd mk) 4 i 11 = C 4 i 11 + mk ∧ (bFinish C F v i kd mk) 4 i 13 = C 0 0 7 / 1440 ∧ (bFinish C F v i kd mk) 4 i 12 = bFedOn_r C F i (C 0 0 7 / 1440) + bFeed_r C F i mk (C 0 0 7 / 1440) := by
  unfold bFinish bFin2 bFin3 bFeed_I bFeed_r bFedOn_r
  refine ⟨?_, ?_, ?_, ?_⟩ <;> simp [gr, upd, bPut_k, bFin1]
theorem bFinish_4s {C : gI} {F : gF} {v i j s : Nat} {kd mk : Int32} (h : j ≠ i ∨ (s ≠ 9 ∧ s ≠ 11 ∧ s ≠ 12 ∧ s ≠ 13)) : (bFinish C F v i kd mk) 4 j s = C 4 j s := by
  unfold bFinish bFin2 bFin3 bFeed_I
  by_cases e : j = i
  · subst e
    obtain ⟨h1, h2, h3, h4⟩ := h.resolve_left (fun z => z rfl)
    simp [gr, upd, bPut_k, bFin1, h1, h2, h3, h4]
  · simp [gr, e, bPut_k, bFin1]
theorem bFinish_7 {C : gI} {F : gF} {v i : Nat} {kd mk : Int32} : (bFinish C F v i kd mk) 7 v 5 = kd ∧ (bFinish C F v i kd mk) 7 v 7 = C 0 0 7 ∧ (bFinish C F v i kd mk) 7 v 8 = mk ∧ (bFinish C F v i kd mk) 7 v 9 = bPut_r C F mk (bHeld_r C F i (C 0 0 7)) ∧ (bFinish C F v i kd mk) 7 v 11 = bFeed_r C F i mk (C 0 0 7 / 1440) := by
  unfold bFinish bFin2 bFin3 bFeed_I bFeed_r bFedOn_r bPut_r bHeld_r
  refine ⟨?_, ?_, ?_, ?_, ?_⟩ <;> simp [gr, upd, bPut_k, bFin1]
theorem bFinish_7w {C : gI} {F : gF} {v i w : Nat} {kd mk : Int32} (h : w ≠ v) : (bFinish C F v i kd mk) 7 w = C 7 w := by
  funext s
  unfold bFinish bFin2 bFin3 bFeed_I
  simp [gr, h, bPut_k, bFin1]
theorem bFinish_00 {C : gI} {F : gF} {v i : Nat} {kd mk : Int32} : (bFinish C F v i kd mk) 0 0 9 = C 0 0 9 + mk ∧ (bFinish C F v i kd mk) 0 0 10 = C 0 0 10 + bFeed_r C F i mk (C 0 0 7 / 1440) := by
  unfold bFinish bFin2 bFin3 bFeed_I bFeed_r bFedOn_r
  refine ⟨?_, ?_⟩ <;> simp [gr, upd, bPut_k, bFin1]
theorem bFinish_3 {C : gI} {F : gF} {v i : Nat} {kd mk : Int32} : (bFinish C F v i kd mk) 3 = (bPut_I C F mk (bHeld_r C F i (C 0 0 7))) 3 := by
  have e : ∀ (J : gI) (b : Int32), J 3 = C 3 → (bPut_I J F mk b) 3 = (bPut_I C F mk b) 3 := by
    intro J b h
    unfold bPut_I
    rw [h]
    funext x
    split
    · split <;> simp [gr, h]
    · simp [gr, h]
  have e2 : bHeld_r (bFin1 C v kd mk) F i (C 0 0 7) = bHeld_r C F i (C 0 0 7) := by unfold bHeld_r bFin1; simp [gr]
  unfold bFinish bFin2 bFin3 bFeed_I
  rw [e2]
  have e3 := e (bFin1 C v kd mk) (bHeld_r C F i (C 0 0 7)) (by funext x; simp [bFin1, gr])
  funext x
  simp [gr]
  rw [e3]
theorem mFin_11 {M : gI} {F : gF} {m v c : Int32} {s : Nat} (h : s ≠ 31 ∧ s ≠ 36 ∧ s ≠ 38 ∧ s ≠ 39 ∧ s ≠ 41 ∧ s ≠ 42) : (mFinish_I M F m v c) 11 0 s = M 11 0 s := by
  obtain ⟨h1, h2, h3, h4, h5, h6⟩ := h
  unfold mFinish_I
  simp [gr, upd, h1, h2, h3, h4, h5, h6]
theorem mFin_12 {M : gI} {F : gF} {m v c : Int32} {s : Nat} (h : s ≠ 9 ∧ s ≠ 13 ∧ s ≠ 14 ∧ s ≠ 15 ∧ s ≠ 24 ∧ s ≠ 25 ∧ s ≠ 26 ∧ s ≠ 28) : (mFinish_I M F m v c) 12 s = M 12 s := by
  obtain ⟨h1, h2, h3, h4, h5, h6, h7, h8⟩ := h
  unfold mFinish_I
  funext x
  simp [gr, h1, h2, h3, h4, h5, h6, h7, h8]
noncomputable def mGr (M : gI) (m c : Int32) : Int32 := if M 12 7 c.toNatClampNeg - mFed M c ≤ 10 * m then M 12 7 c.toNatClampNeg - mFed M c else 10 * m
theorem mFin_c {M : gI} {F : gF} {m v c : Int32} : (mFinish_I M F m v c) 12 9 = upd (M 12 9) c.toNatClampNeg (M 11 0 32 - m) ∧ (mFinish_I M F m v c) 12 13 = upd (M 12 13) c.toNatClampNeg (M 11 0 1 / 1440) ∧ (mFinish_I M F m v c) 12 14 = upd (M 12 14) c.toNatClampNeg (mFed M c + mGr M m c) ∧ (mFinish_I M F m v c) 12 15 = upd (M 12 15) c.toNatClampNeg (M 12 15 c.toNatClampNeg + m) := by
  unfold mFinish_I mGr
  refine ⟨?_, ?_, ?_, ?_⟩ <;> (funext x; simp [gr, upd])
theorem mFin_v {M : gI} {F : gF} {m v c : Int32} : (mFinish_I M F m v c) 12 24 = upd (M 12 24) v.toNatClampNeg (M 11 0 1) ∧ (mFinish_I M F m v c) 12 25 = upd (M 12 25) v.toNatClampNeg m ∧ (mFinish_I M F m v c) 12 26 = upd (M 12 26) v.toNatClampNeg (mWh M c m) ∧ (mFinish_I M F m v c) 12 28 = upd (M 12 28) v.toNatClampNeg (mGr M m c) := by
  unfold mFinish_I mGr
  refine ⟨?_, ?_, ?_, ?_⟩ <;> (funext x; simp [gr, upd])
theorem mFin_s {M : gI} {F : gF} {m v c : Int32} : (mFinish_I M F m v c) 11 0 31 = -9 ∧ (mFinish_I M F m v c) 11 0 36 = M 11 0 36 + (if mWh M c m = 0 then m else 0) ∧ (mFinish_I M F m v c) 11 0 38 = M 11 0 38 + (if mWh M c m = 1 then m else 0) ∧ (mFinish_I M F m v c) 11 0 39 = M 11 0 39 + (if mWh M c m = 2 then m else 0) ∧ (mFinish_I M F m v c) 11 0 41 = M 11 0 41 + m ∧ (mFinish_I M F m v c) 11 0 42 = M 11 0 42 + mGr M m c := by
  unfold mFinish_I mGr
  refine ⟨?_, ?_, ?_, ?_, ?_, ?_⟩ <;> simp [gr, upd]
