theorem rdL_congr {M M' : gI} {i : Nat} (h19 : M' 12 19 = M 12 19) (h21 : M' 12 21 = M 12 21) : ∀ n : Nat, rdL M' i n = rdL M i n
  | 0 => rfl
  | n + 1 => by
    unfold rdL
    rw [h19, h21, rdL_congr h19 h21 n]
theorem Rel_small {C M C' M' : gI} {F : gF} {nc nv nw t : Nat} (h : Rel C M F nc nv nw t) (c0 : C' 0 = C 0) (c1 : C' 1 = C 1) (c2 : C' 2 = C 2) (c6 : C' 6 = C 6) (c7 : C' 7 = C 7) (c4 : ∀ i s : Nat, s ≠ 7 → C' 4 i s = C 4 i s) (m11 : ∀ s : Nat, s ≠ 36 → s ≠ 37 → s ≠ 40 → M' 11 0 s = M 11 0 s) (m12 : ∀ s : Nat, s ≠ 11 → s ≠ 12 → M' 12 s = M 12 s)
    (hS' : RS C' M') (hRC' : RC C' M' nc) (hU' : RU M' nc) (hG' : RG C' nc t) (hT' : RT C' nc) : Rel C' M' F nc nv nw t := by
  obtain ⟨hC, hM, hF, hS, hRC, hU, hV, hQ, hB, hN, hG, hD, hR, hT⟩ := h
  refine ⟨?_, ?_, hF, hS', hRC', hU', ?_, ?_, ?_, ?_, hG', ?_, ?_, hT'⟩
  · unfold CI at hC ⊢
    rw [c0, c1, c7]
    exact hC
  · unfold MI at hM ⊢
    rw [m11 0 (by decide) (by decide) (by decide), m11 3 (by decide) (by decide) (by decide), m11 17 (by decide) (by decide) (by decide), m11 29 (by decide) (by decide) (by decide), m11 31 (by decide) (by decide) (by decide), m12 19 (by decide) (by decide), m12 30 (by decide) (by decide), m12 5 (by decide) (by decide)]
    exact hM
  · intro v hv
    have := hV v hv
    unfold RV1 at this ⊢
    rw [c7, m12 18 (by decide) (by decide), m12 19 (by decide) (by decide), m12 20 (by decide) (by decide), m12 21 (by decide) (by decide), m12 22 (by decide) (by decide), m12 23 (by decide) (by decide), m12 24 (by decide) (by decide), m12 25 (by decide) (by decide), m12 26 (by decide) (by decide), m12 27 (by decide) (by decide), m12 28 (by decide) (by decide), m12 4 (by decide) (by decide)]
    exact this
  · intro j hj
    rw [m12 30 (by decide) (by decide)]
    exact hQ j hj
  · unfold RB at hB ⊢
    rw [c0, c2, c7, m11 31 (by decide) (by decide) (by decide), m11 32 (by decide) (by decide) (by decide), m11 33 (by decide) (by decide) (by decide), m11 34 (by decide) (by decide) (by decide), m11 35 (by decide) (by decide) (by decide), m12 23 (by decide) (by decide)]
    exact hB
  · have e1 : mAl M' = mAl M := by funext j; unfold mAl; rw [m12 22 (by decide) (by decide)]
    have e2 : mRf M' = mRf M := by funext j; unfold mRf; rw [m12 18 (by decide) (by decide)]
    have e3 : mWt M' = mWt M := by funext j; unfold mWt; rw [m12 23 (by decide) (by decide), m12 20 (by decide) (by decide)]
    unfold RN at hN ⊢
    rw [c0, e1, e2, e3]
    exact hN
  · unfold RD at hD ⊢
    rw [c0, c7]
    exact hD
  · intro i hi
    have := hR i hi
    unfold RR1 at this ⊢
    rw [c6, c4 i 6 (by decide), rdL_congr (m12 19 (by decide) (by decide)) (m12 21 (by decide) (by decide))]
    exact this
theorem sim_withhold {C M : gI} {F : gF} {nc nv nw t : Nat} (h : Rel C M F nc nv nw t) (c a : Int32) : bWithhold_r C F nc c a = mWithhold_r M F c a ∧ Rel (bWithhold_I C F nc c a) (mWithhold_I M F c a) F nc nv nw t := by
  have h0 := h
  unfold bWithhold_r mWithhold_r bWithhold_I mWithhold_I
  by_cases q : vp_in c nc
  · rw [if_neg (pI_n0.mpr q), if_pos (pI_0.mpr (fun z => (h.no c).mp z q)), if_neg (pI_n0.mpr q), if_pos (pI_0.mpr (fun z => (h.no c).mp z q))]
    obtain ⟨hC, hM, hF, hS, hRC, hU, hV, hQ, hB, hN, hG, hD, hR, hT⟩ := h
    have hi := vp_lt q
    generalize c.toNatClampNeg = i at *
    by_cases z : pI (mIn a 0 200000) = 0
    · rw [if_pos z, if_pos z, if_pos z, if_pos z]; exact ⟨rfl, h0⟩
    · rw [if_neg z, if_neg z, if_neg z, if_neg z]
      refine ⟨(hRC i hi).2.2.2.2.2.2.2.1.symm, ?_⟩
      refine Rel_small h0 (by funext x; simp [gr]) (by funext x; simp [gr]) (by funext x; simp [gr]) (by funext x; simp [gr]) (by funext x; simp [gr]) ?_ (fun s _ _ _ => by simp [gr]) (fun s h1 h2 => by funext j; simp [gr, h1]) ?_ ?_ ?_ ?_ (fun j hj s hs => by simpa [gr] using hT j hj s hs)
      · intro j s hs
        by_cases e : j = i
        · subst e; simp [gr, upd, hs]
        · simp [gr, e]
      · unfold RS at hS ⊢; simpa [gr] using hS
      · intro j hj
        have := hRC j hj
        unfold RC1 at this ⊢
        by_cases e : j = i
        · subst e
          obtain ⟨a1, a2, a3, a4, a5, a6, a7, a8, a9, a10, a11, a12⟩ := this
          simp [gr, upd]
          exact ⟨a1, a2, a3, a4, a5, a6, a7, a9, a10, a11, a12⟩
        · simpa [gr, upd, e] using this
      · intro j h1 h2
        have := hU j h1 h2
        have e : ¬ j = i := by omega
        simpa [gr, upd, e] using this
      · unfold RG at hG ⊢
        refine ⟨by simpa [gr] using hG.1, by simpa [gr] using hG.2.1, by simpa [gr] using hG.2.2.1, by simpa [gr] using hG.2.2.2.1, by simpa [gr] using hG.2.2.2.2.1, by simpa [gr] using hG.2.2.2.2.2.1, fun j hj => ?_⟩
        have := hG.2.2.2.2.2.2 j hj
        by_cases e : j = i
        · subst e; simpa [gr, upd] using this
        · simpa [gr, e] using this
  · rw [if_pos (pI_0.mpr q), if_neg (pI_n0.mpr ((h.no c).mpr q)), if_pos (pI_0.mpr q), if_neg (pI_n0.mpr ((h.no c).mpr q))]
    exact ⟨rfl, h0⟩
theorem sim_trouble {C M : gI} {F : gF} {nc nv nw t : Nat} (h : Rel C M F nc nv nw t) (c a b : Int32) : bTrouble_r C F nc c a b = mTrouble_r M F c a b ∧ Rel (bTrouble_I C F nc c a b) (mTrouble_I M F c a b) F nc nv nw t := by
  have h0 := h
  unfold bTrouble_r mTrouble_r bTrouble_I mTrouble_I
  by_cases q : vp_in c nc
  · rw [if_neg (pI_n0.mpr q), if_pos (pI_0.mpr (fun z => (h.no c).mp z q)), if_neg (pI_n0.mpr q), if_pos (pI_0.mpr (fun z => (h.no c).mp z q))]
    obtain ⟨hC, hM, hF, hS, hRC, hU, hV, hQ, hB, hN, hG, hD, hR, hT⟩ := h
    have hi := vp_lt q
    by_cases z : pI (mIn a 0 3) = 0
    · rw [if_pos z, if_pos z, if_pos z, if_pos z]; exact ⟨rfl, h0⟩
    · rw [if_neg z, if_neg z, if_neg z, if_neg z]
      by_cases z2 : pI (mIn b 0 9) = 0
      · rw [if_pos z2, if_pos z2, if_pos z2, if_pos z2]; exact ⟨rfl, h0⟩
      · rw [if_neg z2, if_neg z2, if_neg z2, if_neg z2]
        have b0 : 0 ≤ b.toInt := by
          have := (pI_n0.mp z2).1
          rw [Int32.lt_iff_toInt_lt] at this
          have i0 : (0 : Int32).toInt = 0 := by decide
          omega
        have h12 := hC.2.1
        have ht4 := vp_lt (mIn_4 (pI_n0.mp z))
        rw [(vp_teat (vp_mono q h12) (pI_n0.mp z)).2]
        generalize c.toNatClampNeg = i at *
        generalize a.toNatClampNeg = s0 at *
        refine ⟨((hRC i hi).2.2.2.2.2.2.2.2.2.2.1 s0 ht4).symm, ?_⟩
        refine Rel_small h0 (by funext x; simp [gr]) (by funext x; simp [gr]) (by funext x; simp [gr]) (by funext x; simp [gr]) (by funext x; simp [gr]) (fun j s _ => by simp [gr]) (fun s _ _ _ => by simp [gr]) (fun s h1 h2 => by funext j; simp [gr, h2]) ?_ ?_ ?_ ?_ ?_
        · unfold RS at hS ⊢; simpa [gr] using hS
        · intro j hj
          have := hRC j hj
          obtain ⟨a1, a2, a3, a4, a5, a6, a7, a8, a9, a10, a11, a12⟩ := this
          refine ⟨by simpa [gr] using a1, by simpa [gr] using a2, by simpa [gr] using a3, by simpa [gr] using a4, by simpa [gr] using a5, by simpa [gr] using a6, by simpa [gr] using a7, by simpa [gr] using a8, by simpa [gr] using a9, by simpa [gr] using a10, fun s hs => ?_, by simpa [gr] using a12⟩
          by_cases e : j = i ∧ s = s0
          · obtain ⟨rfl, rfl⟩ := e
            simp [gr, upd]
          · have e2 : ¬ 4 * j + s = 4 * i + s0 := by omega
            have e3 := a11 s hs
            by_cases e4 : j = i
            · subst e4
              have e5 : ¬ s = s0 := fun z => e ⟨rfl, z⟩
              simpa [gr, upd, e5] using e3
            · simpa [gr, upd, e2, e4] using e3
        · intro j h1 h2
          obtain ⟨a1, a2, a3, a4, a5⟩ := hU j h1 h2
          refine ⟨by simpa [gr] using a1, by simpa [gr] using a2, by simpa [gr] using a3, by simpa [gr] using a4, fun s hs => ?_⟩
          have e2 : ¬ 4 * j + s = 4 * i + s0 := by omega
          simpa [gr, upd, e2] using a5 s hs
        · unfold RG at hG ⊢; simpa [gr] using hG
        · intro j hj s hs
          have e3 := hT j hj s hs
          by_cases e4 : j = i
          · subst e4
            by_cases e5 : s = s0
            · subst e5
              simp [gr, upd]
              exact b0
            · simpa [gr, upd, e5] using e3
          · simpa [gr, upd, e4] using e3
  · rw [if_pos (pI_0.mpr q), if_neg (pI_n0.mpr ((h.no c).mpr q)), if_pos (pI_0.mpr q), if_neg (pI_n0.mpr ((h.no c).mpr q))]
    exact ⟨rfl, h0⟩
theorem sim_room2 {C M : gI} {F : gF} {nc nv nw t : Nat} (h : Rel C M F nc nv nw t) (a : Int32) : Rel (bRoom_I C F a) (mRoom_I M F a) F nc nv nw t := by
  have h0 := h
  obtain ⟨hC, hM, hF, hS, hRC, hU, hV, hQ, hB, hN, hG, hD, hR, hT⟩ := h
  unfold bRoom_I mRoom_I
  rw [hS.2.2.2.1]
  by_cases z : pI (mIn a 1 100000) = 0
  · rw [if_pos z, if_pos z]; exact h0
  · rw [if_neg z, if_neg z]
    by_cases q : C 3 0 1 ≤ a
    · rw [if_pos q, if_pos q]
      obtain ⟨z1, z2⟩ := pI_n0.mp z
      rw [Int32.lt_iff_toInt_lt] at z1 z2
      have i1 : (1 : Int32).toInt = 1 := by decide
      have i2 : (100000 : Int32).toInt = 100000 := by decide
      refine Rel_small h0 (by funext x; simp [gr]) (by funext x; simp [gr]) (by funext x; simp [gr]) (by funext x; simp [gr]) (by funext x; simp [gr]) (fun j s _ => by simp [gr]) (fun s _ h37 _ => by simp [gr, upd, h37]) (fun s _ _ => by funext j; simp [gr]) ?_ ?_ ?_ ?_ (fun j hj s hs => by simpa [gr] using hT j hj s hs)
      · obtain ⟨s1, s2, s3, s4, s5, s6, s7, s8, s9, s10⟩ := hS
        refine ⟨by simpa [gr, upd] using s1, by simpa [gr, upd] using s2, by simpa [gr, upd] using s3, by simpa [gr, upd] using s4, by simp [gr, upd], by simpa [gr, upd] using s6, by simpa [gr, upd] using s7, by simpa [gr, upd] using s8, by simpa [gr, upd] using s9, by simpa [gr, upd] using s10⟩
      · intro j hj
        have := hRC j hj
        unfold RC1 at this ⊢
        simpa [gr] using this
      · intro j h1 h2
        have := hU j h1 h2
        simpa [gr] using this
      · obtain ⟨g1, g2, g3, g4, g5, g6, g7⟩ := hG
        rw [Int32.le_iff_toInt_le] at q
        refine ⟨by simpa [gr] using g1, by simpa [gr] using g2, by simp [gr, upd]; omega, by simp [gr, upd]; omega, by simpa [gr, upd] using g5, by simp [gr, upd]; exact q, fun j hj => ?_⟩
        have := g7 j hj
        simpa [gr] using this
    · rw [if_neg q, if_neg q]; exact h0
theorem sim_pick {C M : gI} {F : gF} {nc nv nw t : Nat} (h : Rel C M F nc nv nw t) (a : Int32) : bPick_r C F a = mPick_r M F a ∧ Rel (bPick_I C F a) (mPick_I M F a) F nc nv nw t := by
  have h0 := h
  obtain ⟨hC, hM, hF, hS, hRC, hU, hV, hQ, hB, hN, hG, hD, hR, hT⟩ := h
  unfold bPick_r mPick_r bPick_I mPick_I
  by_cases z : pI (mIn a 1 100000) = 0
  · rw [if_pos z, if_pos z, if_pos z, if_pos z]; exact ⟨rfl, h0⟩
  · rw [if_neg z, if_neg z, if_neg z, if_neg z]
    obtain ⟨s1, s2, s3, s4, s5, s6, s7, s8, s9, s10⟩ := hS
    obtain ⟨g1, g2, g3, g4, g5, g6, g7⟩ := hG
    obtain ⟨z1, z2⟩ := pI_n0.mp z
    have key : ∃ x : Int32, 0 ≤ (C 3 0 1 - x).toInt ∧ (C 3 0 1 - x).toInt ≤ (C 3 0 1).toInt ∧ (if C 3 0 1 < a then C 3 0 1 else a) = x ∧ (if M 11 0 36 ≤ a then M 11 0 36 else a) = x ∧ (if M 11 0 36 ≤ a then gs (gs M 11 0 36 (M 11 0 36 - M 11 0 36)) 11 0 40 (M 11 0 40 + M 11 0 36) else gs (gs M 11 0 36 (M 11 0 36 - a)) 11 0 40 (M 11 0 40 + a)) = gs (gs M 11 0 36 (M 11 0 36 - x)) 11 0 40 (M 11 0 40 + x) := by
      rw [s4]
      rw [Int32.lt_iff_toInt_lt] at z1 z2
      have i1 : (1 : Int32).toInt = 1 := by decide
      have i2 : (100000 : Int32).toInt = 100000 := by decide
      obtain ⟨T, hT, eT⟩ := nI_ofB (x := C 3 0 1) (b := 100000) g5 (by omega) (by decide)
      obtain ⟨A, hA, eA⟩ := nI_ofB (x := a) (b := 100000) (by omega) (by omega) (by decide)
      rw [eT, eA]
      have l1 : nI T < nI A ↔ T < A := nI_ltI (by omega) (by omega)
      have l2 : nI T ≤ nI A ↔ T ≤ A := nI_leI (by omega) (by omega)
      by_cases w : T ≤ A
      · refine ⟨nI T, ?_, ?_, ?_, ?_, ?_⟩
        · rw [pk_sub (Nat.le_refl _), nI_toInt (by omega)]; omega
        · rw [pk_sub (Nat.le_refl _), nI_toInt (by omega), nI_toInt (by omega)]; omega
        · by_cases y : T < A
          · rw [if_pos (l1.mpr y)]
          · rw [if_neg (fun u => y (l1.mp u)), show A = T by omega]
        · rw [if_pos (l2.mpr w)]
        · rw [if_pos (l2.mpr w)]
      · refine ⟨nI A, ?_, ?_, ?_, ?_, ?_⟩
        · rw [pk_sub (by omega), nI_toInt (by omega)]; omega
        · rw [pk_sub (by omega), nI_toInt (by omega), nI_toInt (by omega)]; omega
        · rw [if_neg (fun u => w (by have := l1.mp u; omega))]
        · rw [if_neg (fun u => w (l2.mp u))]
        · rw [if_neg (fun u => w (l2.mp u))]
    obtain ⟨x, x1, x2, x3, x4, x5⟩ := key
    unfold bTake_r bTake_I
    rw [x3, x4, x5]
    refine ⟨rfl, ?_⟩
    refine Rel_small h0 (by funext x; simp [gr]) (by funext x; simp [gr]) (by funext x; simp [gr]) (by funext x; simp [gr]) (by funext x; simp [gr]) (fun j s _ => by simp [gr]) (fun s h36 _ h40 => by simp [gr, upd, h36, h40]) (fun s _ _ => by funext j; simp [gr]) ?_ ?_ ?_ ?_ (fun j hj s hs => by simpa [gr] using hT j hj s hs)
    · refine ⟨by simpa [gr, upd] using s1, by simpa [gr, upd] using s2, by simpa [gr, upd] using s3, by simp [gr, upd, s4], by simpa [gr, upd] using s5, by simpa [gr, upd] using s6, by simpa [gr, upd] using s7, by simp [gr, upd, s8], by simpa [gr, upd] using s9, by simpa [gr, upd] using s10⟩
    · intro j hj
      have := hRC j hj
      unfold RC1 at this ⊢
      simpa [gr] using this
    · intro j h1 h2
      have := hU j h1 h2
      simpa [gr] using this
    · refine ⟨by simpa [gr] using g1, by simpa [gr] using g2, by simpa [gr, upd] using g3, by simpa [gr, upd] using g4, by simp [gr, upd, -Int32.toInt_sub]; exact x1, by simp [gr, upd, -Int32.toInt_sub]; omega, fun j hj => ?_⟩
      have := g7 j hj
      simpa [gr] using this
