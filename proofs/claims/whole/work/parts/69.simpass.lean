/-! the clock, the power, pass -/
theorem Rel_clock {C M : gI} {F : gF} {nc nv nw t : Nat} {x : Int32} (h : Rel C M F nc nv nw t) (x1 : (C 0 0 7).toInt ≤ x.toInt) (x2 : x.toInt ≤ 100000) (x3 : ¬ F 1 0 = none → x.toInt ≤ (C 2 0 4).toInt) : Rel (gs C 0 0 7 x) (gs M 11 0 1 x) F nc nv nw t := by
  obtain ⟨hC, hM, hF, hS, hRC, hU, hV, hQ, hB, hN, hG, hD, hR, hT⟩ := h
  have e7 : (gs C 0 0 7 x) 0 0 7 = x := gs_self
  have e0 : ∀ s : Nat, s ≠ 7 → (gs C 0 0 7 x) 0 0 s = C 0 0 s := fun s hs => gs_s hs
  have ek : ∀ k : Nat, k ≠ 0 → (gs C 0 0 7 x) k = C k := fun k hk => by funext a; simp [gr, hk]
  have f1 : (gs M 11 0 1 x) 11 0 1 = x := gs_self
  have f11 : ∀ s : Nat, s ≠ 1 → (gs M 11 0 1 x) 11 0 s = M 11 0 s := fun s hs => gs_s hs
  have f12 : (gs M 11 0 1 x) 12 = M 12 := by funext a; simp [gr]
  have hCn := CI_g0 (x := x) hC (show 7 ≠ 5 ∧ 7 ≠ 6 by decide)
  have hMn := MI_gs (x := x) hM (show 1 ≠ 0 ∧ 1 ≠ 3 ∧ 1 ≠ 17 ∧ 1 ≠ 29 ∧ 1 ≠ 31 by decide)
  generalize gs C 0 0 7 x = C' at *
  generalize gs M 11 0 1 x = M' at *
  refine ⟨hCn, hMn, hF, ?_, ?_, ?_, ?_, ?_, ?_, ?_, ?_, ?_, ?_, ?_⟩
  · unfold RS at hS ⊢
    rw [f1, e7, f11 2 (by decide), e0 8 (by decide), f11 36 (by decide), f11 37 (by decide), f11 38 (by decide), f11 39 (by decide), f11 40 (by decide), f11 41 (by decide), f11 42 (by decide), e0 9 (by decide), e0 10 (by decide), ek 3 (by decide)]
    exact ⟨rfl, hS.2⟩
  · unfold RC RC1 at hRC ⊢
    rw [f12, ek 4 (by decide), ek 5 (by decide)]
    exact hRC
  · unfold RU at hU ⊢
    rw [f12]
    exact hU
  · unfold RV RV1 at hV ⊢
    rw [f12, ek 7 (by decide)]
    exact hV
  · unfold RQ at hQ ⊢
    rw [f12]
    exact hQ
  · unfold RB at hB ⊢
    rw [f11 31 (by decide), f11 32 (by decide), f11 33 (by decide), f11 34 (by decide), f11 35 (by decide), ek 2 (by decide), e7, ek 7 (by decide), f12]
    refine hB.imp id (fun q => ?_)
    obtain ⟨q0, q1, q2, q3, q4, q5, q6, q7, q8, q9, q10, q11⟩ := q
    exact ⟨q0, q1, q2, q3, q4, q5, q6, q7, q8, q9, x3 q0, q11⟩
  · unfold RN at hN ⊢
    have a1 : mAl M' = mAl M := by funext j; unfold mAl; rw [f12]
    have a2 : mRf M' = mRf M := by funext j; unfold mRf; rw [f12]
    have a3 : mWt M' = mWt M := by funext j; unfold mWt; rw [f12]
    rw [a1, a2, a3, e0 11 (by decide), e0 12 (by decide), e0 13 (by decide)]
    exact hN
  · unfold RG at hG ⊢
    obtain ⟨g1, g2, g3, g4, g5, g6, g7⟩ := hG
    rw [e7, ek 3 (by decide), ek 4 (by decide)]
    refine ⟨by omega, x2, g3, g4, g5, g6, fun j hj => ?_⟩
    obtain ⟨y1, y2, y3, y4, y5, y6, y7, y8⟩ := g7 j hj
    exact ⟨y1, y2, y3, y4, y5, by omega, y7, y8⟩
  · unfold RD at hD ⊢
    rw [ek 7 (by decide), e7]
    refine ⟨hD.1, fun j hj => ?_, hD.2.2⟩
    obtain ⟨y1, y2, y3, y4⟩ := hD.2.1 j hj
    exact ⟨y1, y2, y3, by omega⟩
  · intro j hj
    have := hR j hj
    unfold RR1 at this ⊢
    rw [ek 4 (by decide), ek 6 (by decide), rdL_congr (by rw [f12]) (by rw [f12])]
    exact this
  · unfold RT at hT ⊢
    rw [ek 5 (by decide)]
    exact hT
theorem Rel_on {C M : gI} {F : gF} {nc nv nw t : Nat} {x : Int32} (h : Rel C M F nc nv nw t) (hx : x = 0 ∨ x = 1) : Rel (gs C 0 0 8 x) (gs M 11 0 2 x) F nc nv nw t := by
  obtain ⟨hC, hM, hF, hS, hRC, hU, hV, hQ, hB, hN, hG, hD, hR, hT⟩ := h
  have e7 : (gs C 0 0 8 x) 0 0 8 = x := gs_self
  have e0 : ∀ s : Nat, s ≠ 8 → (gs C 0 0 8 x) 0 0 s = C 0 0 s := fun s hs => gs_s hs
  have ek : ∀ k : Nat, k ≠ 0 → (gs C 0 0 8 x) k = C k := fun k hk => by funext a; simp [gr, hk]
  have f1 : (gs M 11 0 2 x) 11 0 2 = x := gs_self
  have f11 : ∀ s : Nat, s ≠ 2 → (gs M 11 0 2 x) 11 0 s = M 11 0 s := fun s hs => gs_s hs
  have f12 : (gs M 11 0 2 x) 12 = M 12 := by funext a; simp [gr]
  have hCn := CI_g0 (x := x) hC (show 8 ≠ 5 ∧ 8 ≠ 6 by decide)
  have hMn := MI_gs (x := x) hM (show 2 ≠ 0 ∧ 2 ≠ 3 ∧ 2 ≠ 17 ∧ 2 ≠ 29 ∧ 2 ≠ 31 by decide)
  generalize gs C 0 0 8 x = C' at *
  generalize gs M 11 0 2 x = M' at *
  refine ⟨hCn, hMn, hF, ?_, ?_, ?_, ?_, ?_, ?_, ?_, ?_, ?_, ?_, ?_⟩
  · unfold RS at hS ⊢
    rw [f1, e7, f11 1 (by decide), e0 7 (by decide), f11 36 (by decide), f11 37 (by decide), f11 38 (by decide), f11 39 (by decide), f11 40 (by decide), f11 41 (by decide), f11 42 (by decide), e0 9 (by decide), e0 10 (by decide), ek 3 (by decide)]
    exact ⟨hS.1, rfl, hx, hS.2.2.2⟩
  · unfold RC RC1 at hRC ⊢
    rw [f12, ek 4 (by decide), ek 5 (by decide)]
    exact hRC
  · unfold RU at hU ⊢
    rw [f12]
    exact hU
  · unfold RV RV1 at hV ⊢
    rw [f12, ek 7 (by decide)]
    exact hV
  · unfold RQ at hQ ⊢
    rw [f12]
    exact hQ
  · unfold RB at hB ⊢
    rw [f11 31 (by decide), f11 32 (by decide), f11 33 (by decide), f11 34 (by decide), f11 35 (by decide), ek 2 (by decide), e0 7 (by decide), ek 7 (by decide), f12]
    exact hB
  · unfold RN at hN ⊢
    have a1 : mAl M' = mAl M := by funext j; unfold mAl; rw [f12]
    have a2 : mRf M' = mRf M := by funext j; unfold mRf; rw [f12]
    have a3 : mWt M' = mWt M := by funext j; unfold mWt; rw [f12]
    rw [a1, a2, a3, e0 11 (by decide), e0 12 (by decide), e0 13 (by decide)]
    exact hN
  · unfold RG at hG ⊢
    rw [e0 7 (by decide), ek 3 (by decide), ek 4 (by decide)]
    exact hG
  · unfold RD at hD ⊢
    rw [ek 7 (by decide), e0 7 (by decide)]
    exact hD
  · intro j hj
    have := hR j hj
    unfold RR1 at this ⊢
    rw [ek 4 (by decide), ek 6 (by decide), rdL_congr (by rw [f12]) (by rw [f12])]
    exact this
  · unfold RT at hT ⊢
    rw [ek 5 (by decide)]
    exact hT
theorem mEnter_F {M : gI} {F G : gF} {nw : Nat} : mEnter M F nw = mEnter M G nw := rfl
theorem mFinish_F {M : gI} {F G : gF} {m v c : Int32} : mFinish_I M F m v c = mFinish_I M G m v c := rfl
theorem Rel_le {C M : gI} {F : gF} {nc nv nw t t' : Nat} (h : Rel C M F nc nv nw t) (ht : t ≤ t') : Rel C M F nc nv nw t' := by
  obtain ⟨hC, hM, hF, hS, hRC, hU, hV, hQ, hB, hN, hG, hD, hR, hT⟩ := h
  refine ⟨hC, hM, hF, hS, hRC, hU, hV, hQ, hB, hN, ?_, hD, hR, hT⟩
  obtain ⟨g1, g2, g3, g4, g5, g6, g7⟩ := hG
  refine ⟨g1, g2, g3, g4, g5, g6, fun j hj => ?_⟩
  obtain ⟨y1, y2, y3, y4, y5, y6, y7, y8⟩ := g7 j hj
  exact ⟨y1, y2, y3, y4, y5, y6, y7, by omega⟩
theorem Rel.busy {C M : gI} {F : gF} {nc nv nw t : Nat} (h : Rel C M F nc nv nw t) (hb : ¬ F 1 0 = none) : M 11 0 31 = nI (bv F) ∧ bv F < nv ∧ nv ≤ 500 ∧ M 11 0 33 = C 2 0 2 ∧ M 11 0 35 = C 2 0 4 ∧ C 2 0 3 = M 12 23 (bv F) + M 11 0 34 ∧ 0 ≤ (C 2 0 2).toInt ∧ (C 2 0 2).toInt ≤ (C 2 0 1).toInt ∧ (C 2 0 1).toInt ≤ 400 ∧ (C 0 0 7).toInt ≤ (C 2 0 4).toInt ∧ 0 ≤ (C 2 0 3).toInt ∧ (C 2 0 3).toInt ≤ 200000 ∧ C 7 (bv F) 5 = 1 ∧ M 12 18 (bv F) = 1 := by
  obtain ⟨hC, hM, hF, hS, hRC, hU, hV, hQ, hB, -⟩ := h
  obtain ⟨-, b1, b2, b3, b4, b5, b6, b7, b8, b9, b10, b11, b12, b13, b14⟩ := hB.resolve_left (fun z => hb z.1)
  have hv := (hC.2.2.2.2.2.2.2.2.2.2.2.1 hb).2
  exact ⟨b1, hv, hC.2.2.2.2.2.1, b3, b4, b5, b8, b9, b7, b10, b12, b13, b14, by rw [(hV _ hv).1, b14]⟩
/-- one milking ends at its minute -/
theorem sim_passF {C M : gI} {F G : gF} {nc nv nw t : Nat} (h : Rel C M F nc nv nw t) (hb : ¬ F 1 0 = none) (hx : (C 2 0 4).toInt ≤ 100000) (ht : t ≤ 100000) : Rel (bPasF C F) (mPassF M G) (bFin_F F) nc nv nw (t + 1) := by
  obtain ⟨b1, b2, b3, b4, b5, b6, b7, b8, b9, b10, b11, b12, b13, b14⟩ := h.busy hb
  have h1 := Rel_clock (x := C 2 0 4) h b10 hx (fun _ => Int.le_refl _)
  have mk : bMk (gs C 0 0 7 (C 2 0 4)) F 1 = C 2 0 2 := by unfold bMk; rw [if_neg (by decide)]; simp [gr]
  have e21 : (gs C 0 0 7 (C 2 0 4)) 2 0 1 = C 2 0 1 := by simp [gr]
  have h2 := sim_finish (kd := 1) (mk := C 2 0 2) h1 hb (by decide) mk.symm b7 (by rw [e21]; exact b8) ht
  have e18 : gs (gs M 11 0 1 (C 2 0 4)) 12 18 (bv F) 1 = gs M 11 0 1 (C 2 0 4) := gs_same (by simp [gr]; exact b14)
  have e19 : (gs M 11 0 1 (C 2 0 4)) 12 19 (bv F) = M 12 19 (bv F) := by simp [gr]
  rw [e18, e19] at h2
  unfold bPasF mPassF bFin_F
  rw [if_neg hb, b1, b4, b5, nI_clamp (by omega), mFinish_F (G := F)]
  exact h2
theorem busy_iff {C : gI} {F : gF} : bBusy_r C F = 0 ↔ F 1 0 = none := by
  unfold bBusy_r
  by_cases h : F 1 0 = none
  · rw [if_pos h]; exact ⟨fun _ => h, fun _ => rfl⟩
  · rw [if_neg h]; exact ⟨fun z => absurd z (by decide), fun z => absurd z h⟩
theorem Rel.m31 {C M : gI} {F : gF} {nc nv nw t : Nat} (h : Rel C M F nc nv nw t) : M 11 0 31 = -9 ↔ F 1 0 = none := by
  by_cases hb : F 1 0 = none
  · obtain ⟨hC, hM, hF, hS, hRC, hU, hV, hQ, hB, -⟩ := h
    rcases hB with ⟨-, q⟩ | ⟨q, -⟩
    · exact ⟨fun _ => hb, fun _ => q⟩
    · exact absurd hb q
  · obtain ⟨b1, b2, b3, -⟩ := h.busy hb
    exact ⟨fun z => absurd (b1 ▸ z) (nI_ne9 (by omega)), fun z => absurd z hb⟩
theorem fill_busy {C : gI} {F : gF} {nw : Nat} (h0 : F 1 0 = none) (h : ¬ bFill_F C F nw 1 0 = none) : 0 < nw ∧ nwB C F nw = nw - 1 := by
  unfold bFill_F at h
  unfold nwB
  by_cases a : C 0 0 8 = 0
  · rw [if_pos a] at h; exact absurd h0 h
  · rw [if_neg a] at h ⊢
    by_cases b : bBusy_r C F = 0
    · rw [if_pos b] at h ⊢
      by_cases c : nw = 0
      · rw [if_pos c] at h; exact absurd h0 h
      · exact ⟨by omega, rfl⟩
    · exact absurd (busy_iff.mpr h0) b
theorem fill_clock {C : gI} {F : gF} {nw : Nat} : (bFill_I C F nw) 0 0 7 = C 0 0 7 := by
  unfold bFill_I
  by_cases a : C 0 0 8 = 0
  · rw [if_pos a]
  · rw [if_neg a]
    by_cases b : bBusy_r C F = 0
    · rw [if_pos b]
      by_cases c : nw = 0
      · rw [if_pos c]
      · rw [if_neg c, bFil_0.2.1 7 (by decide)]; simp [gr]
    · rw [if_neg b]
theorem passF_clock {C : gI} {F : gF} (hb : ¬ F 1 0 = none) : (bPasF C F) 0 0 7 = C 2 0 4 := by
  unfold bPasF bFin_I
  rw [if_neg hb, bFinish_0 (by decide)]
  exact gs_self
theorem sim_passL {to : Int32} (hto : to.toInt ≤ 100000) {nc nv : Nat} (G : gF) : ∀ (n : Nat) {C M : gI} {F : gF} {nw t : Nat}, Rel C M F nc nv nw t → (¬ F 1 0 = none → nw < n) → t + n ≤ 100000 → (C 0 0 7).toInt ≤ to.toInt → ∃ nw' : Nat, Rel (bPassL to n C F nw).1 (mPassL G to (n + 1) M nw) (bPassL to n C F nw).2 nc nv nw' (t + n) ∧ ((bPassL to n C F nw).1 0 0 7).toInt ≤ to.toInt ∧ (¬ (bPassL to n C F nw).2 1 0 = none → to.toInt ≤ ((bPassL to n C F nw).1 2 0 4).toInt)
  | n, C, M, F, nw, t, h, hn, ht, hc => by
    by_cases hb : F 1 0 = none
    · rw [bPassL_out (Or.inr (Or.inl (busy_iff.mpr hb))), mPassL_out (Or.inl (h.m31.mpr hb))]
      exact ⟨nw, Rel_le h (by omega), hc, fun z => absurd hb z⟩
    · obtain ⟨b1, b2, b3, b4, b5, b6, b7, b8, b9, b10, b11, b12, b13, b14⟩ := h.busy hb
      by_cases q : to < C 2 0 4
      · rw [bPassL_out (Or.inr (Or.inr q)), mPassL_out (Or.inr (by rw [b5]; exact q))]
        refine ⟨nw, Rel_le h (by omega), hc, fun _ => ?_⟩
        rw [Int32.lt_iff_toInt_lt] at q
        exact Int.le_of_lt q
      · have q' := q
        rw [Int32.lt_iff_toInt_lt] at q'
        have h1 := sim_passF (G := G) h hb (by omega) (by omega)
        obtain ⟨h2, e2⟩ := sim_fill h1
        have hn0 := hn hb
        obtain ⟨m, rfl⟩ : ∃ m, n = m + 1 := ⟨n - 1, by omega⟩
        have ef : bFin_F F 1 0 = none := by unfold bFin_F; rw [if_neg hb, gf_self]
        rw [bPassL_step (fun z => hb (busy_iff.mp z)) q (by omega)]
        have em : mPassL G to (m + 1 + 1) M nw = mPassL G to (m + 1) (mEnter (mPassF M G) G nw) (nwE (mPassF M G) nw) := by
          show (if M 11 0 31 = -9 then M else if to < M 11 0 35 then M else _) = _
          rw [if_neg (fun z => hb (h.m31.mp z)), if_neg (by rw [b5]; exact q)]
        rw [em, e2, mEnter_F (G := bFin_F F)]
        obtain ⟨nw', h3, h4, h5⟩ := sim_passL hto G m h2 (fun z => by have := fill_busy ef z; omega) (by omega) (by rw [fill_clock, passF_clock hb]; omega)
        exact ⟨nw', Rel_le h3 (by omega), h4, h5⟩
