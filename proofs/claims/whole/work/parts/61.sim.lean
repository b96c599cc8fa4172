theorem sim_place {C M : gI} {F : gF} {nc nv nw t : Nat} (h : Rel C M F nc nv nw t) (c : Int32) : bPlace C F nw c = mPlace M nw c := by
  obtain ⟨hC, hM, hF, hS, hRC, hU, hV, hQ, hB, -⟩ := h
  unfold bPlace mPlace
  refine gFind_congr (fun k _ hk => ?_)
  have hk : k < nw := by omega
  have hv := (hC.2.2.2.2.2.2.2.2.2.2.1 k hk).2
  have h5 := hC.2.2.2.2.2.1
  unfold bCowAt mAt
  rw [hQ k hk, nI_clamp (by omega), (hV _ hv).2.1]
theorem le_lt400 {x : Int32} : (if x < 400 then x else 400) = (if x ≤ 400 then x else 400) := by
  by_cases h : x < 400
  · have h2 : x ≤ 400 := by rw [Int32.lt_iff_toInt_lt] at h; rw [Int32.le_iff_toInt_le]; omega
    rw [if_pos h, if_pos h2]
  · by_cases h2 : x ≤ 400
    · have : x = 400 := Int32.toInt_inj.mp (by rw [Int32.lt_iff_toInt_lt] at h; rw [Int32.le_iff_toInt_le] at h2; omega)
      rw [if_neg h, if_pos h2, this]
    · rw [if_neg h, if_neg h2]
theorem sim_has {C M : gI} {F : gF} {i : Nat} {c : Int32} (h1 : M 11 0 1 = C 0 0 7) (hR : RC1 C M i) (hc : c.toNatClampNeg = i) : bMilkAt_r C F i (C 0 0 7) = mHas M c := by
  obtain ⟨e0, e1, e2, e3, e8, e9, -⟩ := hR
  unfold bMilkAt_r mHas
  rw [hc, h1, e9, e1, e8]
  exact le_lt400
theorem sim_right {C M : gI} {F : gF} {i : Nat} {c : Int32} (h1 : M 11 0 1 = C 0 0 7) (hR : RC1 C M i) (hc : c.toNatClampNeg = i) : bRight_r C F i (C 0 0 7) = pI (mRight M c) := by
  obtain ⟨e0, e1, e2, e3, e8, e9, e10, -⟩ := hR
  unfold bRight_r
  have hm : mRight M c ↔ (C 4 i 10 = -9 ∨ ¬ C 0 0 7 - C 4 i 10 < C 4 i 2) := by unfold mRight; rw [hc, h1, e10, e2]
  rw [pI_iff hm]
  by_cases a : C 4 i 10 = -9
  · rw [if_pos a, pI_t (Or.inl a)]
  · rw [if_neg a]
    by_cases b : C 0 0 7 - C 4 i 10 < C 4 i 2
    · rw [if_pos b, pI_f (fun q => q.elim a (fun z => z b))]
    · rw [if_neg b, pI_t (Or.inr b)]
theorem day_ne9 {x : Int32} (h0 : 0 ≤ x.toInt) : ¬ (-9 : Int32) = x / 1440 := by
  have hx : ¬ x < 0 := by rw [Int32.lt_iff_toInt_lt]; have e : (0 : Int32).toInt = 0 := by decide
                          omega
  obtain ⟨n, hn, rfl⟩ := nI_of hx
  rw [show (1440 : Int32) = nI 1440 by decide, pk_div hn (by decide) (by decide)]
  exact fun z => nI_ne9 (Nat.lt_of_le_of_lt (Nat.div_le_self _ _) hn) z.symm
theorem sim_fed {C M : gI} {F : gF} {i : Nat} {c : Int32} (h1 : M 11 0 1 = C 0 0 7) (h0 : 0 ≤ (C 0 0 7).toInt) (hR : RC1 C M i) (hc : c.toNatClampNeg = i) : bFedOn_r C F i (C 0 0 7 / 1440) = mFed M c := by
  obtain ⟨-, -, -, -, -, -, -, -, -, -, -, hf⟩ := hR
  unfold bFedOn_r mFed
  rw [hc, h1]
  rcases hf with ⟨a, b⟩ | ⟨a, b⟩
  · rw [a, b]
  · rw [a, b, if_neg (day_ne9 h0)]
    split <;> rfl
theorem mIn_06 {a : Int32} : (¬ a = 0 ∧ ¬ a = 1 ∧ ¬ a = 2 ∧ ¬ a = 3 ∧ ¬ a = 4 ∧ ¬ a = 5 ∧ ¬ a = 6) ↔ ¬ mIn a 0 6 := by
  constructor
  · rintro ⟨h0, h1, h2, h3, h4, h5, h6⟩ ⟨z1, z2⟩
    rcases gOut6 h0 h1 h2 h3 h4 h5 h6 with q | q
    · exact z1 (by rw [Int32.lt_iff_toInt_lt]; have e : (0 : Int32).toInt = 0 := by decide
                   omega)
    · exact z2 (by rw [Int32.lt_iff_toInt_lt]; have e : (6 : Int32).toInt = 6 := by decide
                   omega)
  · intro h
    refine ⟨?_, ?_, ?_, ?_, ?_, ?_, ?_⟩ <;> (rintro rfl; exact h ⟨by decide, by decide⟩)
theorem sim_about {C M : gI} {F : gF} {nc nv nw t : Nat} (h : Rel C M F nc nv nw t) (c a : Int32) : bAbout_r C F nc nw c a = mAbout_r M F nw c a := by
  have hp := sim_place h c
  unfold bAbout_r mAbout_r
  refine h.if_cow c (fun _ => rfl) (fun q => ?_)
  obtain ⟨hC, hM, hF, hS, hRC, hU, hV, hQ, hB, hN, hG, -⟩ := h
  have hR := hRC _ (vp_lt q)
  have hR0 := hR
  obtain ⟨e0, e1, e2, e3, e8, e9, e10, e7, e11, e6, -⟩ := hR
  rw [sim_has hS.1 hR0 rfl, sim_right hS.1 hR0 rfl, sim_fed hS.1 hG.1 hR0 rfl, hp, e10, e11, e6]
  unfold bNum_r
  by_cases z : mIn a 0 6
  · rw [if_neg (pI_n0.mpr z)]
    have hq : a = 0 ∨ a = 1 ∨ a = 2 ∨ a = 3 ∨ a = 4 ∨ a = 5 ∨ a = 6 := by
      refine Classical.byContradiction (fun w => ?_)
      simp only [not_or] at w
      exact mIn_06.mp w z
    rcases hq with rfl | rfl | rfl | rfl | rfl | rfl | rfl <;> simp
  · obtain ⟨h0, h1, h2, h3, h4, h5, h6⟩ := mIn_06.mpr z
    rw [if_pos (pI_0.mpr z)]
    simp only [h0, h1, h2, h3, h4, h5, h6, if_false]
theorem sim_total {C M : gI} {F : gF} {nc nv nw t : Nat} (h : Rel C M F nc nv nw t) (a : Int32) : bTotal_r C F a = mTotal M nv a := by
  obtain ⟨hC, hM, hF, ⟨s1, s2, s3, s4, s5, s6, s7, s8, s9, s10⟩, hRC, hU, hV, hQ, hB, ⟨n1, n2, n3⟩, -⟩ := h
  unfold bTotal_r mTotal bNum_r
  rw [s1, s2, s4, s6, s7, s8, s9, s10, hM.2.1, hM.2.2.2.1, hM.2.2.2.2.2.1, hC.1, hC.2.2.2.2.1, hC.2.2.2.2.2.2.2.2.1, n1, n2]
theorem sim_visitOf {C M : gI} {F : gF} {nc nv nw t : Nat} (h : Rel C M F nc nv nw t) (c i : Int32) : bVisitOf C nc nv c i = mVisitOf M nv c i := by
  unfold bVisitOf mVisitOf
  refine h.if_cow c (fun _ => rfl) (fun q => ?_)
  obtain ⟨hC, hM, hF, hS, hRC, hU, hV, -⟩ := h
  refine gNth_congr (fun k _ hk => ?_)
  rw [(hV k (by omega)).2.1]
theorem sim_gave {C M : gI} {F : gF} {nc nv nw t : Nat} (h : Rel C M F nc nv nw t) (c d : Int32) : bGave C F nc nv c d = mGave M nv c d := by
  unfold bGave mGave
  refine h.if_cow c (fun _ => rfl) (fun q => ?_)
  obtain ⟨hC, hM, hF, hS, hRC, hU, hV, -⟩ := h
  rw [gSum_congr (f := bGv C F c d) (g := mGv M c d) (fun j hj => ?_)]
  obtain ⟨e18, e19, e20, e21, e22, e23, e24, e25, -⟩ := hV j hj
  unfold bGv mGv bEndedOn_r
  rw [e19, e24, e25]
  by_cases a : C 7 j 0 = c
  · rw [if_pos a, if_pos a]
    by_cases b : C 7 j 7 = -9
    · simp [b]
    · by_cases e : C 7 j 7 / 1440 = d <;> simp [b, e]
  · rw [if_neg a, if_neg a]
theorem sim_longest {C M : gI} {F : gF} {nc nv nw t : Nat} (h : Rel C M F nc nv nw t) : C 0 0 13 = mLongest M nv := by
  obtain ⟨hC, hM, hF, hS, hRC, hU, hV, hQ, hB, ⟨n1, n2, n3⟩, -⟩ := h
  exact n3
theorem nI_ofB {x : Int32} {b : Nat} (h0 : 0 ≤ x.toInt) (h : x.toInt ≤ b) (hb : b < 2 ^ 31) : ∃ n : Nat, n ≤ b ∧ x = nI n := by
  have hx : ¬ x < 0 := by
    rw [Int32.lt_iff_toInt_lt]
    have e : (0 : Int32).toInt = 0 := by decide
    omega
  obtain ⟨n, hn, rfl⟩ := nI_of hx
  rw [nI_toInt hn] at h
  exact ⟨n, by omega, rfl⟩
theorem sim_rank {C M : gI} {F : gF} {nc nv nw t : Nat} (h : Rel C M F nc nv nw t) (ht : t ≤ 100000) (i : Int32) : bRank C nc i = mRank M nc i := by
  obtain ⟨hC, hM, hF, hS, hRC, hU, hV, hQ, hB, hN, hG, -⟩ := h
  have h12 := hC.2.1
  have key : ∀ k : Nat, k < nc → gSum (bFo C k) nc = gSum (mFo M k) nc := by
    intro k hk
    refine gSum_congr (fun d hd => ?_)
    obtain ⟨-, -, -, -, -, -, -, -, ek, -⟩ := hRC k hk
    obtain ⟨-, -, -, -, -, -, -, -, ed, -⟩ := hRC d hd
    obtain ⟨-, -, -, -, -, -, gk1, gk2⟩ := hG.2.2.2.2.2.2 k hk
    obtain ⟨-, -, -, -, -, -, gd1, gd2⟩ := hG.2.2.2.2.2.2 d hd
    obtain ⟨x, hx, ex⟩ := nI_ofB (b := 400 * t) gk1 (by omega) (by omega)
    obtain ⟨y, hy, ey⟩ := nI_ofB (b := 400 * t) gd1 (by omega) (by omega)
    unfold bFo mFo
    rw [ek, ed, ex, ey, nI_1]
    have l1 : nI x < nI y ↔ x < y := nI_ltI (by omega) (by omega)
    have l2 : nI y < nI (x + 1) ↔ y < x + 1 := nI_ltI (by omega) (by omega)
    have l3 : nI y < nI x ↔ y < x := nI_ltI (by omega) (by omega)
    have l4 : nI y = nI x ↔ y = x := nI_eq (by omega) (by omega)
    by_cases a : nI k ≤ nI d
    · rw [if_pos a, if_pos a]
      by_cases b : x < y
      · rw [if_neg (by rw [l2]; omega), if_pos (l1.mpr b)]
      · rw [if_pos (by rw [l2]; omega), if_neg (fun z => b (l1.mp z))]
        split <;> rfl
    · rw [if_neg a, if_neg a]
      by_cases b : x < y
      · rw [if_neg (by rw [l3]; omega), if_pos (l1.mpr b)]
      · rw [if_neg (fun z => b (l1.mp z))]
        by_cases c : y = x
        · rw [if_pos (l4.mpr c), if_neg (by rw [l3]; omega)]
        · rw [if_neg (fun z => c (l4.mp z)), if_pos (by rw [l3]; omega)]
  unfold bRank mRank
  refine gFind_congr (fun k _ hk => ?_)
  rw [key k (by omega)]
