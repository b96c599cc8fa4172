/-! what the arm finds: the same three sums on both sides -/
def tA (x : Int32) : Int32 := if x ≤ 3 then x else 3
def tAh (f : Nat → Int32) : Int32 := (((2 + tA (f 0)) + tA (f 1)) + tA (f 2)) + tA (f 3)
def tDu (f : Nat → Int32) (h : Int32) : Int32 := (((0 + (if f 0 ≤ 3 then h - (3 * (h / 4)) else 0)) + (if f 1 ≤ 3 then h / 4 else 0)) + (if f 2 ≤ 3 then h / 4 else 0)) + (if f 3 ≤ 3 then h / 4 else 0)
def tLo (f : Nat → Int32) : Int32 := (((0 + (if f 0 ≤ 3 then 0 else 1)) + (if f 1 ≤ 3 then 0 else 1)) + (if f 2 ≤ 3 then 0 else 1)) + (if f 3 ≤ 3 then 0 else 1)
theorem mBeg_11 {M : gI} {F : gF} {v c : Int32} (f : Nat → Int32) (hf : f = fun s => M 12 12 (4 * c.toNatClampNeg + s)) : (mBegin_I M F v c) 11 0 31 = v ∧ (mBegin_I M F v c) 11 0 32 = mHas M c ∧ (mBegin_I M F v c) 11 0 33 = tDu f (mHas M c) ∧ (mBegin_I M F v c) 11 0 34 = tAh f ∧ (mBegin_I M F v c) 11 0 35 = (M 11 0 1 + tAh f) + (tDu f (mHas M c) + 19) / 20 := by
  subst hf
  exact ⟨rfl, rfl, rfl, rfl, rfl⟩
theorem mBeg_11s {M : gI} {F : gF} {v c : Int32} {s : Nat} (h : s ≠ 31 ∧ s ≠ 32 ∧ s ≠ 33 ∧ s ≠ 34 ∧ s ≠ 35) : (mBegin_I M F v c) 11 0 s = M 11 0 s := by
  obtain ⟨h1, h2, h3, h4, h5⟩ := h
  unfold mBegin_I
  simp [gr, upd, h1, h2, h3, h4, h5]
theorem mBeg_12s {M : gI} {F : gF} {v c : Int32} {s : Nat} (h : s ≠ 8 ∧ s ≠ 9 ∧ s ≠ 10 ∧ s ≠ 12 ∧ s ≠ 23 ∧ s ≠ 27) : (mBegin_I M F v c) 12 s = M 12 s := by
  obtain ⟨h1, h2, h3, h4, h5, h6⟩ := h
  unfold mBegin_I
  funext x
  simp [gr, h1, h2, h3, h4, h5, h6]
theorem mBeg_12 {M : gI} {F : gF} {v c : Int32} (f : Nat → Int32) (hf : f = fun s => M 12 12 (4 * c.toNatClampNeg + s)) : (mBegin_I M F v c) 12 23 = upd (M 12 23) v.toNatClampNeg (M 11 0 1) ∧ (mBegin_I M F v c) 12 27 = upd (M 12 27) v.toNatClampNeg (tLo f) ∧ (mBegin_I M F v c) 12 10 = upd (M 12 10) c.toNatClampNeg (M 11 0 1) ∧ (mBegin_I M F v c) 12 8 = upd (M 12 8) c.toNatClampNeg (M 11 0 1) ∧ (mBegin_I M F v c) 12 9 = upd (M 12 9) c.toNatClampNeg 0 ∧ (mBegin_I M F v c) 12 12 = upd (upd (upd (upd (M 12 12) (4 * c.toNatClampNeg + 0) 0) (4 * c.toNatClampNeg + 1) 0) (4 * c.toNatClampNeg + 2) 0) (4 * c.toNatClampNeg + 3) 0 := by
  subst hf
  exact ⟨rfl, rfl, rfl, rfl, rfl, rfl⟩
theorem tA_lt (x : Int32) : (if 3 < x then 3 else x) = tA x := by
  unfold tA
  by_cases h : 3 < x
  · rw [if_pos h, if_neg (by rw [Int32.lt_iff_toInt_lt] at h; rw [Int32.le_iff_toInt_le]; omega)]
  · rw [if_neg h, if_pos (by rw [Int32.lt_iff_toInt_lt] at h; rw [Int32.le_iff_toInt_le]; omega)]
theorem tQ (h : Int32) : h / 4 + (h - h / 4 * 4) = h - 3 * (h / 4) := by
  generalize h / 4 = q
  grind
theorem t19 (x : Int32) : x + 20 - 1 = x + 19 := by grind
theorem tM (m a b c d : Int32) : (((m + 2) + a) + b) + c + d = m + ((((2 + a) + b) + c) + d) := by grind
/-- what fill writes, read -/
theorem bFil_2 {J : gI} {G : gF} {v i : Nat} : (bFillB J G v i) 2 0 1 = bMilkAt_r J G i (J 0 0 7) ∧ (bFillB J G v i) 2 0 2 = tDu (J 5 i) (bMilkAt_r J G i (J 0 0 7)) ∧ (bFillB J G v i) 2 0 3 = J 0 0 7 + tAh (J 5 i) ∧ (bFillB J G v i) 2 0 4 = (J 0 0 7 + tAh (J 5 i)) + (tDu (J 5 i) (bMilkAt_r J G i (J 0 0 7)) + 19) / 20 := by
  generalize hm : bMilkAt_r J G i (J 0 0 7) = h0
  have e1 : (bFillB J G v i) 2 0 1 = h0 := by rw [← hm]; rfl
  have e2 : (bFillB J G v i) 2 0 2 = ((((0 + (if (J 5 i 0) ≤ 3 then h0 / 4 + (h0 - h0 / 4 * 4) else 0)) + (if (J 5 i 1) ≤ 3 then h0 / 4 else 0)) + (if (J 5 i 2) ≤ 3 then h0 / 4 else 0)) + (if (J 5 i 3) ≤ 3 then h0 / 4 else 0)) := by rw [← hm]; rfl
  have e3 : (bFillB J G v i) 2 0 3 = (((((J 0 0 7 + 2) + (if 3 < (J 5 i 0) then 3 else (J 5 i 0))) + (if 3 < (J 5 i 1) then 3 else (J 5 i 1))) + (if 3 < (J 5 i 2) then 3 else (J 5 i 2))) + (if 3 < (J 5 i 3) then 3 else (J 5 i 3))) := rfl
  have e4 : (bFillB J G v i) 2 0 4 = (bFillB J G v i) 2 0 3 + ((bFillB J G v i) 2 0 2 + 20 - 1) / 20 := rfl
  have e5 : (bFillB J G v i) 2 0 2 = tDu (J 5 i) h0 := by rw [e2, tQ]; rfl
  have e6 : (bFillB J G v i) 2 0 3 = J 0 0 7 + tAh (J 5 i) := by rw [e3, tA_lt, tA_lt, tA_lt, tA_lt, tM]; rfl
  exact ⟨e1, e5, e6, by rw [e4, e5, e6, t19]⟩
theorem bFil_0 {J : gI} {G : gF} {v i : Nat} : (bFillB J G v i) 0 0 13 = (if J 0 0 13 < J 0 0 7 - J 7 v 2 then J 0 0 7 - J 7 v 2 else J 0 0 13) ∧ (∀ s : Nat, s ≠ 13 → (bFillB J G v i) 0 0 s = J 0 0 s) ∧ (bFillB J G v i) 1 = J 1 ∧ (bFillB J G v i) 3 = J 3 ∧ (bFillB J G v i) 6 = J 6 := by
  refine ⟨rfl, fun s hs => ?_, ?_, ?_, ?_⟩
  · unfold bFillB bBegun_I bArm_I; simp [gr, upd, hs]
  · unfold bFillB bBegun_I bArm_I; funext x; simp [gr]
  · unfold bFillB bBegun_I bArm_I; funext x; simp [gr]
  · unfold bFillB bBegun_I bArm_I; funext x; simp [gr]
theorem bFil_4 {J : gI} {G : gF} {v i : Nat} : (bFillB J G v i) 4 i 10 = J 0 0 7 ∧ (bFillB J G v i) 4 i 8 = J 0 0 7 ∧ (bFillB J G v i) 4 i 9 = 0 ∧ (∀ j s : Nat, j ≠ i ∨ (s ≠ 8 ∧ s ≠ 9 ∧ s ≠ 10) → (bFillB J G v i) 4 j s = J 4 j s) := by
  unfold bFillB bBegun_I bArm_I
  refine ⟨?_, ?_, ?_, fun j s hs => ?_⟩
  · simp [gr, upd]
  · simp [gr, upd]
  · simp [gr, upd]
  · by_cases e : j = i
    · subst e
      obtain ⟨h1, h2, h3⟩ := hs.resolve_left (fun z => z rfl)
      simp [gr, upd, h1, h2, h3]
    · simp [gr, e]
theorem bFil_5 {J : gI} {G : gF} {v i : Nat} : (∀ s : Nat, s < 4 → (bFillB J G v i) 5 i s = 0) ∧ (∀ j : Nat, j ≠ i → (bFillB J G v i) 5 j = J 5 j) := by
  unfold bFillB bBegun_I bArm_I
  refine ⟨fun s hs => ?_, fun j hs => ?_⟩
  · have : s = 0 ∨ s = 1 ∨ s = 2 ∨ s = 3 := by omega
    rcases this with rfl | rfl | rfl | rfl <;> simp [gr, upd]
  · funext s; simp [gr, hs]
theorem bFil_7 {J : gI} {G : gF} {v i : Nat} : (bFillB J G v i) 7 v 6 = J 0 0 7 ∧ (bFillB J G v i) 7 v 10 = tLo (J 5 i) ∧ (∀ w s : Nat, w ≠ v ∨ (s ≠ 6 ∧ s ≠ 10) → (bFillB J G v i) 7 w s = J 7 w s) := by
  refine ⟨?_, ?_, fun w s hs => ?_⟩
  · unfold bFillB bBegun_I bArm_I; simp [gr, upd]
  · unfold bFillB bBegun_I bArm_I tLo; simp [gr, upd]
  · unfold bFillB bBegun_I bArm_I
    by_cases e : w = v
    · subst e
      obtain ⟨h1, h2⟩ := hs.resolve_left (fun z => z rfl)
      simp [gr, upd, h1, h2]
    · simp [gr, e]
