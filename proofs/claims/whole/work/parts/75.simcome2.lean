theorem bPlace_none {C : gI} {F : gF} {nw : Nat} {c : Int32} (hn : nw ≤ 12) (q : bPlace C F nw c = -9) : ∀ j : Nat, j < nw → ¬ C 7 (qv F j) 0 = c := by
  intro j hj
  unfold bPlace at q
  exact gFind_none (by omega) q j (Nat.zero_le _) (by omega)
theorem bHolds_no {C : gI} {F : gF} {c : Int32} (q : bHolds_r C F c = 0) : ¬ F 1 0 = none → ¬ C 7 (bv F) 0 = c := by
  intro h z
  unfold bHolds_r at q
  rw [if_neg h, if_pos z] at q
  exact absurd q (by decide)
theorem sim_holds {C M : gI} {F : gF} {nc nv nw t : Nat} (h : Rel C M F nc nv nw t) {c : Int32} (hc : vp_in c nc) : bHolds_r C F c = 0 ↔ ¬ mBox M = c := by
  have hb := sim_box h
  rw [← hb]
  have h9 : ¬ (-9 : Int32) = c := by
    intro z
    rw [← z] at hc
    exact hc (Or.inl (by decide))
  unfold bHolds_r bBox_r
  by_cases q : F 1 0 = none
  · simp [q, h9]
  · simp only [if_neg q]
    by_cases z : C 7 (bv F) 0 = c
    · simp [z]
    · simp [z]
theorem Rel.few_come {C M : gI} {F : gF} {nc nv nw t : Nat} (h : Rel C M F nc nv nw t) (c : Int32) : vp_in c nc → bPlace C F nw c = -9 → bHolds_r C F c = 0 → nw < 12 :=
  fun h1 h2 _ => h.few h1 (bPlace_none h.1.2.2.2.2.2.2.2.2.2.1 h2)
theorem Rel.few_comeM {C M : gI} {F : gF} {nc nv nw t : Nat} (h : Rel C M F nc nv nw t) (c : Int32) : pI (mNo M c) = 0 → ¬ mBox M = c → mPlace M nw c = -9 → nw < 12 :=
  fun h1 _ h2 => h.few (Classical.byContradiction (fun z => pI_0.mp h1 ((h.no c).mpr z))) (bPlace_none h.1.2.2.2.2.2.2.2.2.2.1 ((sim_place h c).trans h2))
theorem sim_come {C M : gI} {F : gF} {nc nv nw t : Nat} (h : Rel C M F nc nv nw t) (G : gF) (c a : Int32) : bCome_r C F nc nw c a = mCome_r M nv nw c a ∧ ∃ nw' : Nat, Rel (bCome_I C F nv nc nw c a) (mCome_I M G nv nw c a) (bCome_F C F nv nc nw c a) nc (bCome_l C F nv nc nw c a) nw' t := by
  have e6 : C 0 0 6 = nI nv := h.1.2.2.2.2.1
  have e17 : M 11 0 17 = nI nv := h.2.1.2.2.2.1
  have v5 : nv ≤ 500 := h.1.2.2.2.2.2.1
  have w12 : nw ≤ 12 := h.1.2.2.2.2.2.2.2.2.2.1
  have e500 : (500 : Int32) = nI 500 := by decide
  have k1 : C 0 0 6 < 500 ↔ nv < 500 := by 
    rw [e6, e500, Int32.lt_iff_toInt_lt, nI_toInt (by omega), nI_toInt (by omega)]
    omega
  have k2 : M 11 0 17 = 500 ↔ nv = 500 := by
    rw [e17, e500]
    constructor
    · intro z
      have := congrArg Int32.toNatClampNeg z
      rw [nI_clamp (by omega), nI_clamp (by omega)] at this
      exact this
    · intro z; rw [z]
  unfold bCome_r mCome_r bCome_I mCome_I bCome_F bCome_l bCome_q
  by_cases q1 : vp_in c nc
  · have a1 := pI_n0.mpr q1
    have a2 := pI_0.mpr (fun z => (h.no c).mp z q1)
    by_cases q2 : pI (mIn a 0 1000) = 0
    · simp only [if_neg a1, if_pos a2, if_pos q2]
      exact ⟨trivial, nw, h⟩
    · by_cases q3 : bPlace C F nw c = -9
      · have a3 : mPlace M nw c = -9 := (sim_place h c).symm.trans q3
        by_cases q4 : bHolds_r C F c = 0
        · have a4 := (sim_holds h q1).mp q4
          by_cases q5 : nv < 500
          · have b1 := k1.mpr q5
            have b2 : ¬ M 11 0 17 = 500 := fun z => by have := k2.mp z; omega
            simp only [if_neg a1, if_pos a2, if_neg q2, if_pos q3, if_pos a3, if_pos q4, if_neg a4, if_pos b1, if_neg b2]
            exact ⟨e6.trans e17.symm, sim_comeB h G q1 (bPlace_none w12 q3) (bHolds_no q4) q5⟩
          · have b1 : ¬ C 0 0 6 < 500 := fun z => q5 (k1.mp z)
            have b2 : M 11 0 17 = 500 := k2.mpr (by omega)
            simp only [if_neg a1, if_pos a2, if_neg q2, if_pos q3, if_pos a3, if_pos q4, if_neg a4, if_neg b1, if_pos b2]
            exact ⟨trivial, nw, h⟩
        · have a4 : mBox M = c := Classical.byContradiction (fun z => q4 ((sim_holds h q1).mpr z))
          simp only [if_neg a1, if_pos a2, if_neg q2, if_pos q3, if_neg q4, if_pos a4]
          exact ⟨trivial, nw, h⟩
      · have a3 : ¬ mPlace M nw c = -9 := fun z => q3 ((sim_place h c).trans z)
        simp only [if_neg a1, if_pos a2, if_neg q2, if_neg q3, if_neg a3]
        by_cases a4 : mBox M = c
        · simp only [if_pos a4]; exact ⟨trivial, nw, h⟩
        · simp only [if_neg a4]; exact ⟨trivial, nw, h⟩
  · have a1 := pI_0.mpr q1
    have a2 := pI_n0.mpr ((h.no c).mpr q1)
    simp only [if_pos a1, if_neg a2]
    exact ⟨trivial, nw, h⟩
