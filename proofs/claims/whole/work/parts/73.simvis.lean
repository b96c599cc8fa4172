set_option maxHeartbeats 2000000 in
/-- one visit more, on both sides -/
theorem Rel_visit {C M C' M' : gI} {F F' : gF} {nc nv nw nw' t i : Nat} {c a al kd : Int32} (h : Rel C M F nc nv nw t) (hi : i < nc) (hc : c = nI i) (h500 : nv < 500)
    (hCI : CI C' F' nc (nv + 1) nc (nv + 1) nw') (hMI : MI M' nc (nv + 1) nw') (hFW : FW F' nc (nv + 1)) (f1 : F' 1 0 = F 1 0)
    (c0 : ∀ s : Nat, s ≠ 6 ∧ s ≠ 11 ∧ s ≠ 12 → C' 0 0 s = C 0 0 s) (c11 : C' 0 0 11 = C 0 0 11 + (if al = 0 then 0 else 1)) (c12 : C' 0 0 12 = C 0 0 12 + (if kd = 0 then 1 else 0))
    (c2 : C' 2 = C 2) (c3 : C' 3 = C 3) (c5 : C' 5 = C 5) (c4 : ∀ j s : Nat, j ≠ i ∨ s ≠ 6 → C' 4 j s = C 4 j s) (c46 : C' 4 i 6 = C 4 i 6 + 1)
    (c6 : C' 6 i = upd (C 6 i) ((rdL M i nv).length % 5) a) (c6j : ∀ j : Nat, j ≠ i → C' 6 j = C 6 j)
    (c7 : ∀ w : Nat, w ≠ nv → C' 7 w = C 7 w) (c7n : ∀ s : Nat, C' 7 nv s = if s = 5 then kd else visRow c (if C 4 i 0 = 1 then 1 else 0) (C 0 0 7) a al s)
    (m11 : ∀ s : Nat, s ≠ 17 ∧ s ≠ 29 → M' 11 0 s = M 11 0 s) (m12 : ∀ s : Nat, s < 16 ∨ s = 29 → M' 12 s = M 12 s) (m16 : M' 12 16 = upd (M 12 16) i (M 12 16 i + 1))
    (mv : ∀ s w : Nat, 18 ≤ s ∧ s ≤ 28 → w ≠ nv → M' 12 s w = M 12 s w)
    (mn18 : M' 12 18 nv = kd) (mn19 : M' 12 19 nv = c) (mn20 : M' 12 20 nv = M 11 0 1) (mn21 : M' 12 21 nv = a) (mn22 : M' 12 22 nv = al) (mn23 : ∀ s : Nat, 23 ≤ s ∧ s ≤ 28 → M' 12 s nv = -9)
    (hRQ : RQ M' F' nw') (hRD : RD C' F' nw') : Rel C' M' F' nc (nv + 1) nw' t := by
  obtain ⟨hC, hM, hF, hS, hRC, hU, hV, hQ, hB, hN, hG, hD, hR, hT⟩ := h
  have h12 := hC.2.1
  refine ⟨hCI, hMI, hFW, ?_, ?_, ?_, ?_, hRQ, ?_, ?_, ?_, hRD, ?_, ?_⟩
  · unfold RS at hS ⊢
    rw [m11 1 (by decide), m11 2 (by decide), m11 36 (by decide), m11 37 (by decide), m11 38 (by decide), m11 39 (by decide), m11 40 (by decide), m11 41 (by decide), m11 42 (by decide), c0 7 (by decide), c0 8 (by decide), c0 9 (by decide), c0 10 (by decide), c3]
    exact hS
  · intro j hj
    have := hRC j hj
    obtain ⟨r1, r2, r3, r4, r5, r6, r7, r8, r9, r10, r11, r12⟩ := this
    have n4 : ∀ s : Nat, s ≠ 6 → C' 4 j s = C 4 j s := fun s hs => c4 j s (Or.inr hs)
    unfold RC1
    rw [m12 4 (by decide), m12 5 (by decide), m12 6 (by decide), m12 7 (by decide), m12 8 (by decide), m12 9 (by decide), m12 10 (by decide), m12 11 (by decide), m12 15 (by decide), m12 12 (by decide), m12 13 (by decide), m12 14 (by decide), n4 0 (by decide), n4 1 (by decide), n4 2 (by decide), n4 3 (by decide), n4 8 (by decide), n4 9 (by decide), n4 10 (by decide), n4 7 (by decide), n4 11 (by decide), n4 12 (by decide), n4 13 (by decide), c5]
    refine ⟨r1, r2, r3, r4, r5, r6, r7, r8, r9, ?_, r11, r12⟩
    by_cases e : j = i
    · subst e; rw [m16, upd_self, c46, r10]
    · rw [m16, upd_ne e, c4 j 6 (Or.inl e)]; exact r10
  · intro j h1 h2
    have := hU j h1 h2
    rw [m12 9 (by decide), m12 11 (by decide), m12 15 (by decide), m12 12 (by decide), m16, upd_ne (by omega)]
    exact this
  · intro w hw
    by_cases e : w = nv
    · subst e
      unfold RV1
      simp only [c7n]
      have e4 : M' 12 4 (M' 12 19 w).toNatClampNeg = C 4 i 0 := by rw [mn19, m12 4 (by decide), hc, nI_clamp (by omega)]; exact (hRC i hi).1
      rw [e4, mn18, mn19, mn20, mn21, mn22, mn23 23 (by decide), mn23 24 (by decide), mn23 25 (by decide), mn23 26 (by decide), mn23 27 (by decide), mn23 28 (by decide), hS.1]
      exact ⟨rfl, rfl, rfl, rfl, rfl, rfl, rfl, rfl, rfl, rfl, rfl, rfl⟩
    · have := hV w (by omega)
      unfold RV1 at this ⊢
      rw [c7 w e, mv 18 w (by decide) e, mv 19 w (by decide) e, mv 20 w (by decide) e, mv 21 w (by decide) e, mv 22 w (by decide) e, mv 23 w (by decide) e, mv 24 w (by decide) e, mv 25 w (by decide) e, mv 26 w (by decide) e, mv 27 w (by decide) e, mv 28 w (by decide) e, m12 4 (by decide)]
      exact this
  · have ebv : bv F' = bv F := by unfold bv; rw [f1]
    unfold RB at hB ⊢
    rw [f1, ebv, m11 31 (by decide), m11 32 (by decide), m11 33 (by decide), m11 34 (by decide), m11 35 (by decide), c2, c0 7 (by decide)]
    refine hB.imp id (fun q => ?_)
    have hv := (hC.2.2.2.2.2.2.2.2.2.2.2.1 q.1).2
    rw [c7 (bv F) (by omega), mv 23 (bv F) (by decide) (by omega)]
    exact q
  · obtain ⟨n1, n2, n3⟩ := hN
    refine ⟨?_, ?_, ?_⟩
    · show _ = gSum (mAl M') nv + mAl M' nv
      rw [c11, n1]
      have e1 : gSum (mAl M') nv = gSum (mAl M) nv := gSum_congr (fun j hj => by unfold mAl; rw [mv 22 j (by decide) (by omega)])
      have e2 : mAl M' nv = if al = 0 then 0 else 1 := by unfold mAl; rw [mn22]
      rw [e1, e2]
    · show _ = gSum (mRf M') nv + mRf M' nv
      rw [c12, n2]
      have e1 : gSum (mRf M') nv = gSum (mRf M) nv := gSum_congr (fun j hj => by unfold mRf; rw [mv 18 j (by decide) (by omega)])
      have e2 : mRf M' nv = if kd = 0 then 1 else 0 := by unfold mRf; rw [mn18]
      rw [e1, e2]
    · show _ = if mWt M' nv ≤ gMax (mWt M') nv then gMax (mWt M') nv else mWt M' nv
      rw [c0 13 (by decide), n3]
      have e1 : gMax (mWt M') nv = gMax (mWt M) nv := gMax_congr (fun j hj => by unfold mWt; rw [mv 23 j (by decide) (by omega), mv 20 j (by decide) (by omega)])
      have e2 : mWt M' nv = 0 := by unfold mWt; rw [mn23 23 (by decide), if_pos rfl]
      have e3 := gMax_0 (f := mWt M) nv
      have e4 : (0 : Int32).toInt = 0 := by decide
      rw [e1, e2, if_pos (by rw [Int32.le_iff_toInt_le]; omega)]
  · obtain ⟨g1, g2, g3, g4, g5, g6, g7⟩ := hG
    unfold RG
    rw [c0 7 (by decide), c3]
    refine ⟨g1, g2, g3, g4, g5, g6, fun j hj => ?_⟩
    have n4 : ∀ s : Nat, s ≠ 6 → C' 4 j s = C 4 j s := fun s hs => c4 j s (Or.inr hs)
    rw [n4 1 (by decide), n4 9 (by decide), n4 8 (by decide), n4 11 (by decide)]
    exact g7 j hj
  · intro j hj
    have hcong : rdL M' j nv = rdL M j nv := rdL_congr2 nv (fun v hv => ⟨mv 19 v (by decide) (by omega), mv 21 v (by decide) (by omega)⟩)
    by_cases e : j = i
    · subst e
      obtain ⟨r1, r2, r3⟩ := hR j hj
      have e1 : rdL M' j (nv + 1) = a :: rdL M j nv := by
        show (if M' 12 19 nv = nI j then M' 12 21 nv :: rdL M' j nv else rdL M' j nv) = _
        rw [if_pos (by rw [mn19, hc]), mn21, hcong]
      unfold RR1
      rw [e1, c46, r1, c6]
      generalize rdL M j nv = L at *
      have el : (a :: L).length = L.length + 1 := rfl
      rw [el]
      refine ⟨nI_1 _, fun k hk hk2 => ?_, fun s hs hs2 => ?_⟩
      · cases k with
        | zero => exact upd_self
        | succ k =>
          have e2 : L.length + 1 - 1 - (k + 1) = L.length - 1 - k := by omega
          rw [e2, upd_ne (by omega)]
          exact r2 k (by omega) (by omega)
      · rw [upd_ne (by omega)]
        exact r3 s hs (by omega)
    · have e1 : rdL M' j (nv + 1) = rdL M j nv := by
        show (if M' 12 19 nv = nI j then M' 12 21 nv :: rdL M' j nv else rdL M' j nv) = _
        rw [if_neg (by rw [mn19, hc]; intro z; exact e ((nI_eq (by omega) (by omega)).mp z).symm), hcong]
      have := hR j hj
      unfold RR1 at this ⊢
      rw [e1, c4 j 6 (Or.inl e), c6j j e]
      exact this
  · unfold RT at hT ⊢
    rw [c5]
    exact hT
