theorem mBegin_11 {I : gI} {F : gF} {v c : Int32} : (mBegin_I I F v c) 11 0 0 = I 11 0 0 ∧ (mBegin_I I F v c) 11 0 3 = I 11 0 3 ∧ (mBegin_I I F v c) 11 0 17 = I 11 0 17 ∧ (mBegin_I I F v c) 11 0 29 = I 11 0 29 ∧ (mBegin_I I F v c) 11 0 31 = v := by
  refine ⟨?_, ?_, ?_, ?_, ?_⟩ <;> simp [mBegin_I, gr, upd]
theorem mBegin_12 {I : gI} {F : gF} {v c : Int32} : (mBegin_I I F v c) 12 19 = I 12 19 ∧ (mBegin_I I F v c) 12 30 = I 12 30 ∧ (mBegin_I I F v c) 12 5 = I 12 5 := by
  refine ⟨?_, ?_, ?_⟩ <;> (funext s; simp [mBegin_I, gr, upd])

