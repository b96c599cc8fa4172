theorem pigeon : ∀ (m n : Nat) (f : Nat → Nat), (∀ j : Nat, j < n → f j < m) → (∀ j k : Nat, j < n → k < n → f j = f k → j = k) → n ≤ m
  | 0, n, f, h, _ => by
    cases n with
    | zero => exact Nat.le_refl _
    | succ n => exact absurd (h 0 (by omega)) (by omega)
  | m + 1, n, f, h, hi => by
    by_cases q : ∃ j : Nat, j < n ∧ f j = m
    · obtain ⟨j0, h0, e0⟩ := q
      have := pigeon m (n - 1) (fun j => f (shi j0 j)) (fun j hj => by
        have h1 := h _ (shi_lt (a := j0) hj)
        have h2 : f (shi j0 j) ≠ m := fun z => shi_ne (hi _ _ (shi_lt hj) h0 (z.trans e0.symm))
        show f (shi j0 j) < m
        omega) (fun j k hj hk z => shi_inj (hi _ _ (shi_lt hj) (shi_lt hk) z))
      omega
    · have := pigeon m n f (fun j hj => by
        have h1 := h j hj
        have h2 : f j ≠ m := fun z => q ⟨j, hj, z⟩
        omega) hi
      omega
theorem Rel.few {C M : gI} {F : gF} {nc nv nw t : Nat} {c : Int32} (h : Rel C M F nc nv nw t) (hc : vp_in c nc) (hn : ∀ j : Nat, j < nw → ¬ C 7 (qv F j) 0 = c) : nw < 12 := by
  obtain ⟨hC, hM, hF, hS, hRC, hU, hV, hQ, hB, hN, hG, hD, hR, hT⟩ := h
  have h12 := hC.2.1
  have hq := hC.2.2.2.2.2.2.2.2.2.2.1
  have hv := hC.2.2.2.2.2.2.2.2.2.2.2.2
  have := pigeon nc (nw + 1) (fun j => if j < nw then (C 7 (qv F j) 0).toNatClampNeg else c.toNatClampNeg) (fun j hj => by
    show (if j < nw then (C 7 (qv F j) 0).toNatClampNeg else c.toNatClampNeg) < nc
    by_cases q : j < nw
    · rw [if_pos q]; exact vp_lt (hv _ (hq j q).2)
    · rw [if_neg q]; exact vp_lt hc) (fun j k hj hk z => by
    have z : (if j < nw then (C 7 (qv F j) 0).toNatClampNeg else c.toNatClampNeg) = (if k < nw then (C 7 (qv F k) 0).toNatClampNeg else c.toNatClampNeg) := z
    by_cases q : j < nw
    · by_cases q2 : k < nw
      · rw [if_pos q, if_pos q2] at z
        exact hD.1 j k q q2 (by rw [vp_eq (hv _ (hq j q).2), vp_eq (hv _ (hq k q2).2), z])
      · rw [if_pos q, if_neg q2] at z
        exact absurd (by rw [vp_eq (hv _ (hq j q).2), z, ← vp_eq hc]) (hn j q)
    · by_cases q2 : k < nw
      · rw [if_neg q, if_pos q2] at z
        exact absurd (by rw [vp_eq (hv _ (hq k q2).2), ← z, ← vp_eq hc]) (hn k q2)
      · omega)
  omega
theorem Rel.few_b {C M : gI} {F : gF} {nc nv nw t : Nat} (h : Rel C M F nc nv nw t) (hb : ¬ F 1 0 = none) : nw < 12 := by
  have h' := h
  obtain ⟨hC, hM, hF, hS, hRC, hU, hV, hQ, hB, hN, hG, hD, hR, hT⟩ := h
  exact h'.few (hC.2.2.2.2.2.2.2.2.2.2.2.2 _ (hC.2.2.2.2.2.2.2.2.2.2.2.1 hb).2) (hD.2.2 hb)
theorem sim_pass {C M : gI} {F : gF} {nc nv nw t : Nat} (h : Rel C M F nc nv nw t) (G : gF) (a : Int32) (ht : t + 12 ≤ 100000) : bPass_r C a = mPass_r M a ∧ ∃ nw' : Nat, Rel (bPass_I C F nw a) (mPass_I M G nw a) (bPass_F C F nw a) nc nv nw' (t + 12) := by
  have e1 := h.2.2.2.1.1
  obtain ⟨g1, g2, -⟩ := h.2.2.2.2.2.2.2.2.2.2.1
  unfold bPass_r mPass_r bPass_I mPass_I bPass_F
  rw [e1]
  refine ⟨rfl, ?_⟩
  by_cases q : pI (mIn a 1 20000) = 0
  · rw [if_pos q, if_pos q, if_pos q]
    exact ⟨nw, Rel_le h (by omega)⟩
  · rw [if_neg q, if_neg q, if_neg q]
    by_cases q2 : C 0 0 7 + a ≤ 100000
    · rw [if_pos q2, if_pos q2, if_pos q2]
      obtain ⟨z1, z2⟩ := pI_n0.mp q
      rw [Int32.lt_iff_toInt_lt] at z1 z2
      have i1 : (1 : Int32).toInt = 1 := by decide
      have i2 : (20000 : Int32).toInt = 20000 := by decide
      have i3 : (100000 : Int32).toInt = 100000 := by decide
      obtain ⟨A, hA, eA⟩ := nI_ofB (x := a) (b := 20000) (by omega) (by omega) (by decide)
      obtain ⟨N, hN, eN⟩ := nI_ofB (x := C 0 0 7) (b := 100000) g1 (by omega) (by decide)
      have l1 : (C 0 0 7).toInt ≤ (C 0 0 7 + a).toInt := by rw [eN, eA, nI_add, nI_toInt (by omega), nI_toInt (by omega)]; omega
      rw [Int32.le_iff_toInt_le] at q2
      have l2 : (C 0 0 7 + a).toInt ≤ 100000 := by omega
      generalize C 0 0 7 + a = x at *
      obtain ⟨nw', h1, h2, h3⟩ := sim_passL l2 G 12 h (fun z => h.few_b z) ht l1
      exact ⟨nw', Rel_clock h1 h2 l2 h3⟩
    · rw [if_neg q2, if_neg q2, if_neg q2]
      exact ⟨nw, Rel_le h (by omega)⟩
theorem sim_cut {C M : gI} {F : gF} {nc nv nw t : Nat} (h : Rel C M F nc nv nw t) (hb : ¬ F 1 0 = none) : bMilkedBy_r C F (C 0 0 7) = mCut M ∧ 0 ≤ (mCut M).toInt ∧ (mCut M).toInt ≤ (C 2 0 1).toInt := by
  obtain ⟨b1, b2, b3, b4, b5, b6, b7, b8, b9, b10, b11, b12, b13, b14⟩ := h.busy hb
  have e1 := h.2.2.2.1.1
  obtain ⟨g1, g2, -⟩ := h.2.2.2.2.2.2.2.2.2.2.1
  have em : mMin M = C 0 0 7 - C 2 0 3 := by
    unfold mMin
    rw [b1, nI_clamp (by omega), e1, b6]
    generalize C 0 0 7 = x
    generalize M 12 23 (bv F) = y
    generalize M 11 0 34 = z
    grind
  obtain ⟨N, hN, eN⟩ := nI_ofB (x := C 0 0 7) (b := 100000) g1 (by omega) (by decide)
  obtain ⟨B, hB, eB⟩ := nI_ofB (x := C 2 0 3) (b := 200000) b11 (by omega) (by decide)
  obtain ⟨D, hD, eD⟩ := nI_ofB (x := C 2 0 2) (b := 400) b7 (by omega) (by decide)
  have z0 : (0 : Int32).toInt = 0 := by decide
  have key : ∃ Y : Nat, Y < 2 ^ 31 ∧ 20 * (if 0 < C 0 0 7 - C 2 0 3 then C 0 0 7 - C 2 0 3 else 0) = nI Y ∧ mCutM M = nI Y := by
    unfold mCutM
    rw [em]
    by_cases w : B < N
    · have e : C 0 0 7 - C 2 0 3 = nI (N - B) := by rw [eN, eB, pk_sub (by omega)]
      refine ⟨20 * (N - B), by omega, ?_, ?_⟩
      · rw [e, if_pos (by rw [Int32.lt_iff_toInt_lt, nI_toInt (by omega)]; omega), show (20 : Int32) = nI 20 by decide, pk_mul]
      · rw [e, if_neg (by rw [Int32.le_iff_toInt_le, nI_toInt (by omega)]; omega), show (20 : Int32) = nI 20 by decide, pk_mul]
    · have e : (C 0 0 7 - C 2 0 3).toInt ≤ 0 := by rw [eN, eB, pk_sub_toInt (by omega) (by omega)]; omega
      refine ⟨0, by decide, ?_, ?_⟩
      · rw [if_neg (by rw [Int32.lt_iff_toInt_lt]; omega)]; decide
      · rw [if_pos (by rw [Int32.le_iff_toInt_le]; omega)]; decide
  obtain ⟨Y, hY, y1, y2⟩ := key
  unfold bMilkedBy_r mCut
  rw [y1, y2, b4]
  rw [eD] at b8 ⊢
  rw [nI_toInt (by omega)] at b8
  by_cases w : Y < D
  · rw [if_pos ((nI_ltI hY (by omega)).mpr w), if_neg (fun z => by have := (nI_leI (by omega) hY).mp z; omega), nI_toInt hY]
    exact ⟨rfl, by omega, by omega⟩
  · rw [if_neg (fun z => w ((nI_ltI hY (by omega)).mp z)), if_pos ((nI_leI (by omega) hY).mpr (by omega)), nI_toInt (by omega)]
    exact ⟨rfl, by omega, by omega⟩
theorem sim_power {C M : gI} {F : gF} {nc nv nw t : Nat} (h : Rel C M F nc nv nw t) (G : gF) (b : Int32) (b01 : b = 0 ∨ b = 1) (ht : t + 1 ≤ 100000) : bNum_r C F (C 0 0 8) = mPower_r M ∧ ∃ nw' : Nat, Rel (bPower_I C F nw b) (mPower_I M G nw b) (bPower_F C F nw b) nc nv nw' (t + 1) := by
  have e2 := h.2.2.2.1.2.1
  refine ⟨by unfold bNum_r mPower_r; rw [e2], ?_⟩
  have h1 := Rel_on h b01
  have h' := h
  unfold bPower_I mPower_I bPower_F mPower1
  by_cases q : b = 0
  · subst q
    rw [if_pos rfl, if_pos rfl, if_pos rfl]
    have hen : ∀ X : gI, X 11 0 2 = 0 → mEnter X G nw = X := fun X hX => by unfold mEnter; rw [if_pos hX]; split <;> rfl
    by_cases hb : F 1 0 = none
    · rw [if_pos (h.m31.mpr hb), hen _ gs_self]
      unfold bFin_I bFin_F
      rw [if_pos hb, if_pos hb]
      exact ⟨nw, Rel_le h1 (by omega)⟩
    · obtain ⟨b1, b2, b3, b4, b5, b6, b7, b8, b9, b10, b11, b12, b13, b14⟩ := h.busy hb
      rw [if_neg (fun z => hb (h.m31.mp z))]
      have hfin : ∀ (X : gI) (m v c : Int32), X 11 0 2 = 0 → (mFinish_I X G m v c) 11 0 2 = 0 := fun X m v c hX => by rw [mFin_11 (by decide)]; exact hX
      rw [hen _ (hfin _ _ _ _ (by simp [gr, upd]))]
      obtain ⟨c1, c2, c3⟩ := sim_cut h hb
      have mk : bMk (gs C 0 0 8 0) F 2 = mCut M := by
        unfold bMk
        rw [if_pos rfl, ← c1]
        unfold bMilkedBy_r
        simp [gr, upd]
      have e21 : (gs C 0 0 8 0) 2 0 1 = C 2 0 1 := by simp [gr]
      have h2 := sim_finish (kd := 2) (mk := mCut M) h1 hb (by decide) mk.symm c2 (by rw [e21]; exact c3) (by omega)
      have e19 : (gs M 11 0 2 0) 12 19 (bv F) = M 12 19 (bv F) := by simp [gr]
      rw [e19] at h2
      rw [b1, nI_clamp (by omega), mFinish_F (G := F)]
      have ef : bFin_F F = gf F 1 0 none := by unfold bFin_F; rw [if_neg hb]
      rw [ef]
      exact ⟨nw, h2⟩
  · rw [if_neg q, if_neg q, if_neg q, mEnter_F (G := F)]
    exact ⟨_, Rel_le (sim_fill h1).1 (by omega)⟩
