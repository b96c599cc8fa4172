theorem gFind_none {P : Nat → Prop} : ∀ {n j : Nat}, n + j < 2 ^ 31 → gFind P n j = -9 → ∀ k : Nat, j ≤ k → k < j + n → ¬ P k
  | 0, j, _, _, k, h1, h2 => absurd h1 (by omega)
  | n + 1, j, hl, h, k, h1, h2 => by
    have h : @ite Int32 (P j) (Classical.propDecidable _) (nI j) (gFind P n (j + 1)) = -9 := h
    by_cases q : P j
    · rw [if_pos q] at h
      exact absurd h (nI_ne9 (by omega))
    · rw [if_neg q] at h
      by_cases e : k = j
      · rw [e]; exact q
      · exact gFind_none (by omega) h k (by omega) (by omega)
theorem CI_g7 {I : gI} {F : gF} {lc ln nc nv nw v s : Nat} {x : Int32} (h : CI I F lc ln nc nv nw) (hs : s ≠ 0) : CI (gs I 7 v s x) F lc ln nc nv nw := by
  obtain ⟨kn, k12, klc, kf2, kv, k500, kln, kf3, kw, kw12, kq, kb, kc⟩ := h
  refine ⟨by simpa [gr] using kn, k12, klc, kf2, by simpa [gr] using kv, k500, kln, kf3, by simpa [gr] using kw, kw12, kq, kb, fun w hw => ?_⟩
  rw [gs_s (Ne.symm hs)]
  exact kc w hw
theorem MI_come1 {I : gI} {nc nv nw : Nat} {c a : Int32} (hM : MI I nc nv nw) (c10 : pI (mNo I c) = 0) (c58 : ¬ I 11 0 17 = 500) : MI (mCome1 I nv c a) nc (nv + 1) nw := by
  obtain ⟨ht, hn, h12, hv, v500, hw, w12, hvc, hq, hb, hr⟩ := hM
  obtain ⟨hvi, hvl⟩ := vp_vis hv v500 c58
  have hcn := mNo_in hn h12 (pI_0.mp c10)
  have ev : (I 11 0 17).toNatClampNeg = nv := by rw [hv, nI_clamp (by omega)]
  unfold mCome1
  refine ⟨?_, ?_, h12, ?_, by omega, ?_, by omega, ?_, ?_, ?_, ?_⟩
  · simp [gr, upd, ht]
  · simp [gr, upd, hn]
  · simp [gr, upd, hv, nI_1]
  · simp [gr, upd, hw]
  · intro v hvv
    simp [gr, upd, ev]
    by_cases q : v = nv
    · simp [q, hcn]
    · simp [q]; exact hvc v (by omega)
  · intro j hj
    simp [gr]
    exact vp_mono (hq j hj) (by omega)
  · simp [gr, upd]; exact hb.imp id (fun q => vp_mono q (by omega))
  · intro j hj; simp [gr]; exact hr j hj
theorem FW_v {F : gF} {lc nv : Nat} (h : FW F lc nv) : FW (gf F 3 nv (some nv)) lc (nv + 1) := by
  refine ⟨fun j v hv => ?_, fun k j v hk hv => ?_⟩
  · rw [gf_k (by decide)] at hv; exact h.1 j v hv
  · unfold gf at hv
    by_cases e : k = 3 ∧ j = nv
    · rw [if_pos e] at hv; cases hv; omega
    · rw [if_neg e] at hv
      have := h.2 k j v hk hv
      omega
theorem FW_q {F : gF} {lc ln nw v : Nat} (h : FW F lc ln) (hv : v < ln) : FW (gf F 0 nw (some v)) lc ln := by
  refine ⟨fun j x hx => ?_, fun k j x hk hx => ?_⟩
  · rw [gf_k (by decide)] at hx; exact h.1 j x hx
  · unfold gf at hx
    by_cases e : k = 0 ∧ j = nw
    · rw [if_pos e] at hx; cases hx; exact hv
    · rw [if_neg e] at hx; exact h.2 k j x hk hx
/-- the class's state when the visit is written, read -/
theorem come_X {C : gI} {nv i k : Nat} {r : Nat → Int32} {y z a al : Int32} (X : gI) (hX : X = bAl (gs (gs (gs (gr (bCome0 C nv) 7 nv r) 0 0 6 y) 6 i k a) 4 i 6 z) al) : (∀ s : Nat, s ≠ 6 ∧ s ≠ 11 → X 0 0 s = C 0 0 s) ∧ X 0 0 11 = C 0 0 11 + (if al = 0 then 0 else 1) ∧ (∀ q : Nat, q ≠ 0 ∧ q ≠ 4 ∧ q ≠ 6 ∧ q ≠ 7 → X q = C q) ∧ (∀ j s : Nat, j ≠ i ∨ s ≠ 6 → X 4 j s = C 4 j s) ∧ X 4 i 6 = z ∧ X 6 i = upd (C 6 i) k a ∧ (∀ j : Nat, j ≠ i → X 6 j = C 6 j) ∧ (∀ w : Nat, w ≠ nv → X 7 w = C 7 w) ∧ X 7 nv = r := by
  have key : ∀ Y : gI, Y = gs (gs (gs (gr (bCome0 C nv) 7 nv r) 0 0 6 y) 6 i k a) 4 i 6 z → (∀ s : Nat, s ≠ 6 → Y 0 0 s = C 0 0 s) ∧ (∀ q : Nat, q ≠ 0 ∧ q ≠ 4 ∧ q ≠ 6 ∧ q ≠ 7 → Y q = C q) ∧ (∀ j s : Nat, j ≠ i ∨ s ≠ 6 → Y 4 j s = C 4 j s) ∧ Y 4 i 6 = z ∧ Y 6 i = upd (C 6 i) k a ∧ (∀ j : Nat, j ≠ i → Y 6 j = C 6 j) ∧ (∀ w : Nat, w ≠ nv → Y 7 w = C 7 w) ∧ Y 7 nv = r := by
    rintro Y rfl
    refine ⟨fun s hs => ?_, fun q hq => ?_, fun j s hs => ?_, ?_, ?_, fun j hj => ?_, fun w hw => ?_, ?_⟩
    · simp [gr, upd, hs, bCome0]
    · obtain ⟨h0, h4, h6, h7⟩ := hq
      funext x; simp [gr, bCome0, h0, h4, h6, h7]
    · by_cases e : j = i
      · subst e
        have e6 : s ≠ 6 := hs.resolve_left (fun w => w rfl)
        simp [gr, upd, bCome0, e6]
      · simp [gr, bCome0, e]
    · simp [gr, upd]
    · funext x; simp [gr, bCome0]
    · funext x; simp [gr, bCome0, hj]
    · funext x; simp [gr, bCome0, hw]
    · funext x; simp [gr]
  obtain ⟨k1, k2, k3, k4, k5, k6, k7, k8⟩ := key _ rfl
  generalize gs (gs (gs (gr (bCome0 C nv) 7 nv r) 0 0 6 y) 6 i k a) 4 i 6 z = Y at *
  subst hX
  unfold bAl
  by_cases e : al = 0
  · rw [if_pos e, if_pos e]
    exact ⟨fun s hs => k1 s hs.1, by rw [k1 11 (by decide), Int32.add_zero], k2, k3, k4, k5, k6, k7, k8⟩
  · rw [if_neg e, if_neg e]
    refine ⟨fun s hs => by rw [gs_s hs.2]; exact k1 s hs.1, by rw [gs_self, k1 11 (by decide)], fun q hq => ?_, fun j s hs => by rw [gs_k (by decide)]; exact k3 j s hs, by rw [gs_k (by decide)]; exact k4, ?_, fun j hj => ?_, fun w hw => ?_, ?_⟩
    · rw [← k2 q hq]; funext x; simp [gr, hq]
    · rw [← k5]; funext x; simp [gr]
    · rw [← k6 j hj]; funext x; simp [gr]
    · rw [← k7 w hw]; funext x; simp [gr]
    · rw [← k8]; funext x; simp [gr]
/-- the reference's, read -/
theorem come_M {M : gI} {nv i : Nat} {c a : Int32} (hv : M 11 0 17 = nI nv) (h5 : nv < 500) (hc : c.toNatClampNeg = i) : (∀ s : Nat, s ≠ 17 → (mCome1 M nv c a) 11 0 s = M 11 0 s) ∧ (∀ s : Nat, s < 16 ∨ 29 ≤ s → (mCome1 M nv c a) 12 s = M 12 s) ∧ (mCome1 M nv c a) 12 16 = upd (M 12 16) i (M 12 16 i + 1) ∧ (∀ s w : Nat, 18 ≤ s ∧ s ≤ 28 → w ≠ nv → (mCome1 M nv c a) 12 s w = M 12 s w) ∧ (mCome1 M nv c a) 12 18 nv = (if pI (mRight M c) = 0 then 0 else 1) ∧ (mCome1 M nv c a) 12 19 nv = c ∧ (mCome1 M nv c a) 12 20 nv = M 11 0 1 ∧ (mCome1 M nv c a) 12 21 nv = a ∧ (mCome1 M nv c a) 12 22 nv = pI (mAlarm M nv c a) ∧ (∀ s : Nat, 23 ≤ s ∧ s ≤ 28 → (mCome1 M nv c a) 12 s nv = -9) := by
  have ev : (M 11 0 17).toNatClampNeg = nv := by rw [hv, nI_clamp (by omega)]
  unfold mCome1
  rw [ev, hc]
  refine ⟨fun s hs => ?_, fun s hs => ?_, ?_, fun s w hs hw => ?_, ?_, ?_, ?_, ?_, ?_, fun s hs => ?_⟩
  · simp [gr, upd, hs]
  · funext x
    have e : s ≠ 16 ∧ s ≠ 18 ∧ s ≠ 19 ∧ s ≠ 20 ∧ s ≠ 21 ∧ s ≠ 22 ∧ s ≠ 23 ∧ s ≠ 24 ∧ s ≠ 25 ∧ s ≠ 26 ∧ s ≠ 27 ∧ s ≠ 28 := by omega
    simp [gr, e]
  · funext x; simp [gr]
  · rw [gs_i (by omega), gs_k (by decide)]
    iterate 11 rw [gs_s hw]
  · simp [gr, upd]
  · simp [gr, upd]
  · simp [gr, upd]
  · simp [gr, upd]
  · simp [gr, upd]
  · have : s = 23 ∨ s = 24 ∨ s = 25 ∨ s = 26 ∨ s = 27 ∨ s = 28 := by omega
    rcases this with rfl | rfl | rfl | rfl | rfl | rfl <;> simp [gr, upd]
theorem come2_12 {M : gI} {nv : Nat} {c a : Int32} : ∀ s : Nat, s ≠ 30 → (mCome2 M nv c a) 12 s = (mCome1 M nv c a) 12 s := fun s hs => by unfold mCome2; funext u; simp [gr, hs]
theorem come2_11 {M : gI} {nv : Nat} {c a : Int32} : ∀ s : Nat, s ≠ 29 → (mCome2 M nv c a) 11 0 s = (mCome1 M nv c a) 11 0 s := fun s hs => by unfold mCome2; simp [gr, upd, hs]
theorem come2_30 {M : gI} {nc nv nw : Nat} {c a : Int32} (hM : MI M nc nv nw) (h5 : nv < 500) (y2 : ∀ s : Nat, s < 16 ∨ 29 ≤ s → (mCome1 M nv c a) 12 s = M 12 s) : (mCome2 M nv c a) 12 30 = upd (M 12 30) nw (nI nv) := by
  have h12 := hM.2.2.2.2.2.2.1
  unfold mCome2
  have e29 : (M 11 0 29).toNatClampNeg = nw := by rw [hM.2.2.2.2.2.1, nI_clamp (by omega)]
  rw [e29, hM.2.2.2.1]
  generalize nI nv = z
  rw [← y2 30 (by decide)]
  funext u
  simp [gr]
set_option maxHeartbeats 2000000 in
theorem come_R {C M X M1 : gI} {F F3 : gF} {nc nv nw t i : Nat} {c a al kd : Int32} (h' : Rel C M F nc nv nw t) (hi : i < nc) (hci : c = nI i) (h5 : nv < 500) (hCa : CI X F3 nc (nv + 1) nc (nv + 1) nw) (hF3 : FW F3 nc (nv + 1)) (f10 : F3 1 0 = F 1 0) (qv3 : ∀ j : Nat, qv F3 j = qv F j)
    (x1 : ∀ s : Nat, s ≠ 6 ∧ s ≠ 11 → X 0 0 s = C 0 0 s) (x2 : X 0 0 11 = C 0 0 11 + (if al = 0 then 0 else 1)) (x3 : ∀ q : Nat, q ≠ 0 ∧ q ≠ 4 ∧ q ≠ 6 ∧ q ≠ 7 → X q = C q) (x4 : ∀ j s : Nat, j ≠ i ∨ s ≠ 6 → X 4 j s = C 4 j s) (x5 : X 4 i 6 = C 4 i 6 + 1) (x6 : X 6 i = upd (C 6 i) ((rdL M i nv).length % 5) a) (x7 : ∀ j : Nat, j ≠ i → X 6 j = C 6 j) (x8 : ∀ w : Nat, w ≠ nv → X 7 w = C 7 w) (x9 : X 7 nv = visRow c (if C 4 i 0 = 1 then 1 else 0) (C 0 0 7) a al)
    (y1 : ∀ s : Nat, s ≠ 17 → M1 11 0 s = M 11 0 s) (y2 : ∀ s : Nat, s < 16 ∨ 29 ≤ s → M1 12 s = M 12 s) (y3 : M1 12 16 = upd (M 12 16) i (M 12 16 i + 1)) (y4 : ∀ s w : Nat, 18 ≤ s ∧ s ≤ 28 → w ≠ nv → M1 12 s w = M 12 s w) (y5 : M1 12 18 nv = kd) (y6 : M1 12 19 nv = c) (y7 : M1 12 20 nv = M 11 0 1) (y8 : M1 12 21 nv = a) (y9 : M1 12 22 nv = al) (y10 : ∀ s : Nat, 23 ≤ s ∧ s ≤ 28 → M1 12 s nv = -9)
    (hkd : kd = 0) (hM1 : MI M1 nc (nv + 1) nw) : Rel (gs (gs X 7 nv 5 0) 0 0 12 (X 0 0 12 + 1)) M1 F3 nc (nv + 1) nw t := by
  have h'' := h'
  obtain ⟨hC, hM, hF, hS, hRC, hU, hV, hQ, hB, hN, hG, hD, hR, hT⟩ := h'
  have bv3 : bv F3 = bv F := by unfold bv; rw [f10]
  have hqn : ∀ j : Nat, j < nw → qv F j ≠ nv := fun j hj => by have := (hC.2.2.2.2.2.2.2.2.2.2.1 j hj).2; omega
  have hbn : ¬ F 1 0 = none → bv F ≠ nv := fun z => by have := (hC.2.2.2.2.2.2.2.2.2.2.2.1 z).2; omega
  refine Rel_visit (i := i) (c := c) (a := a) (al := al) (kd := 0) h'' hi hci h5 (CI_g0 (CI_g7 hCa (by decide)) (by decide)) hM1 hF3 f10 ?_ ?_ ?_ ?_ ?_ ?_ ?_ ?_ ?_ ?_ ?_ ?_ ?_ ?_ ?_ ?_ (y5.trans hkd) y6 y7 y8 y9 y10 ?_ ?_
  · intro s hs; rw [gs_s hs.2.2, gs_k (by decide)]; exact x1 s ⟨hs.1, hs.2.1⟩
  · rw [gs_s (by decide), gs_k (by decide)]; exact x2
  · rw [gs_self, x1 12 (by decide), if_pos rfl]
  · rw [← x3 2 (by decide)]; funext u; simp [gr]
  · rw [← x3 3 (by decide)]; funext u; simp [gr]
  · rw [← x3 5 (by decide)]; funext u; simp [gr]
  · intro j s hs; rw [gs_k (by decide), gs_k (by decide)]; exact x4 j s hs
  · rw [gs_k (by decide), gs_k (by decide)]; exact x5
  · rw [← x6]; funext u; simp [gr]
  · intro j hj; rw [← x7 j hj]; funext u; simp [gr]
  · intro w hw; rw [← x8 w hw]; funext u; simp [gr, hw]
  · intro s
    rw [gs_k (by decide)]
    by_cases e : s = 5
    · rw [if_pos e, e]; exact gs_self
    · rw [if_neg e, gs_s e, x9]
  · intro s hs; exact y1 s hs.1
  · intro s hs; exact y2 s (by omega)
  · exact y3
  · exact y4
  · intro j hj; rw [y2 30 (by decide), qv3]; exact hQ j hj
  · unfold RD at hD ⊢
    have e7 : ∀ w s : Nat, w ≠ nv → (gs (gs X 7 nv 5 0) 0 0 12 (X 0 0 12 + 1)) 7 w s = C 7 w s := fun w s hw => by rw [gs_k (by decide), gs_i hw, x8 w hw]
    have e0 : (gs (gs X 7 nv 5 0) 0 0 12 (X 0 0 12 + 1)) 0 0 7 = C 0 0 7 := by rw [gs_s (by decide), gs_k (by decide)]; exact x1 7 (by decide)
    rw [f10, bv3, e0]
    refine ⟨fun j k hj hk => by rw [qv3, qv3, e7 _ 0 (hqn j hj), e7 _ 0 (hqn k hk)]; exact hD.1 j k hj hk, fun j hj => by rw [qv3, e7 _ 6 (hqn j hj), e7 _ 5 (hqn j hj), e7 _ 2 (hqn j hj)]; exact hD.2.1 j hj, fun z j hj => by rw [qv3, e7 _ 0 (hqn j hj), e7 _ 0 (hbn z)]; exact hD.2.2 z j hj⟩
set_option maxHeartbeats 2000000 in
theorem come_A {C M X M1 : gI} {F F3 : gF} {nc nv nw t i : Nat} {c a al kd : Int32} (h' : Rel C M F nc nv nw t) (hi : i < nc) (hci : c = nI i) (h5 : nv < 500) (hCa : CI X F3 nc (nv + 1) nc (nv + 1) nw) (hF3 : FW F3 nc (nv + 1)) (f10 : F3 1 0 = F 1 0) (qv3 : ∀ j : Nat, qv F3 j = qv F j)
    (x1 : ∀ s : Nat, s ≠ 6 ∧ s ≠ 11 → X 0 0 s = C 0 0 s) (x2 : X 0 0 11 = C 0 0 11 + (if al = 0 then 0 else 1)) (x3 : ∀ q : Nat, q ≠ 0 ∧ q ≠ 4 ∧ q ≠ 6 ∧ q ≠ 7 → X q = C q) (x4 : ∀ j s : Nat, j ≠ i ∨ s ≠ 6 → X 4 j s = C 4 j s) (x5 : X 4 i 6 = C 4 i 6 + 1) (x6 : X 6 i = upd (C 6 i) ((rdL M i nv).length % 5) a) (x7 : ∀ j : Nat, j ≠ i → X 6 j = C 6 j) (x8 : ∀ w : Nat, w ≠ nv → X 7 w = C 7 w) (x9 : X 7 nv = visRow c (if C 4 i 0 = 1 then 1 else 0) (C 0 0 7) a al)
    (y1 : ∀ s : Nat, s ≠ 17 → M1 11 0 s = M 11 0 s) (y2 : ∀ s : Nat, s < 16 ∨ 29 ≤ s → M1 12 s = M 12 s) (y3 : M1 12 16 = upd (M 12 16) i (M 12 16 i + 1)) (y4 : ∀ s w : Nat, 18 ≤ s ∧ s ≤ 28 → w ≠ nv → M1 12 s w = M 12 s w) (y5 : M1 12 18 nv = kd) (y6 : M1 12 19 nv = c) (y7 : M1 12 20 nv = M 11 0 1) (y8 : M1 12 21 nv = a) (y9 : M1 12 22 nv = al) (y10 : ∀ s : Nat, 23 ≤ s ∧ s ≤ 28 → M1 12 s nv = -9)
    {M2 : gI} (hkd : kd = 1) (w12 : ∀ s : Nat, s ≠ 30 → M2 12 s = M1 12 s) (w11 : ∀ s : Nat, s ≠ 29 → M2 11 0 s = M1 11 0 s) (w30 : M2 12 30 = upd (M 12 30) nw (nI nv)) (hadd : CI (gs X 1 0 1 (X 1 0 1 + 1)) (gf F3 0 nw (some nv)) nc (nv + 1) nc (nv + 1) (nw + 1)) (hM2 : MI M2 nc (nv + 1) (nw + 1)) (hq : ∀ j : Nat, j < nw → ¬ C 7 (qv F j) 0 = c) (hbx : ¬ F 1 0 = none → ¬ C 7 (bv F) 0 = c) : Rel (gs X 1 0 1 (X 1 0 1 + 1)) M2 (gf F3 0 nw (some nv)) nc (nv + 1) (nw + 1) t := by
  have h'' := h'
  obtain ⟨hC, hM, hF, hS, hRC, hU, hV, hQ, hB, hN, hG, hD, hR, hT⟩ := h'
  have bv3 : bv F3 = bv F := by unfold bv; rw [f10]
  have hqn : ∀ j : Nat, j < nw → qv F j ≠ nv := fun j hj => by have := (hC.2.2.2.2.2.2.2.2.2.2.1 j hj).2; omega
  have hbn : ¬ F 1 0 = none → bv F ≠ nv := fun z => by have := (hC.2.2.2.2.2.2.2.2.2.2.2.1 z).2; omega
  have qv0 : ∀ j : Nat, j ≠ nw → qv (gf F3 0 nw (some nv)) j = qv F j := fun j hj => by rw [← qv3 j]; unfold qv; rw [gf_i hj]
  have qvn : qv (gf F3 0 nw (some nv)) nw = nv := by unfold qv; rw [gf_self]; rfl
  have f0 : gf F3 0 nw (some nv) 1 0 = F 1 0 := by rw [gf_k (by decide)]; exact f10
  have bv0 : bv (gf F3 0 nw (some nv)) = bv F := by unfold bv; rw [f0]
  refine Rel_visit (i := i) (c := c) (a := a) (al := al) (kd := 1) h'' hi hci h5 hadd hM2 (FW_q hF3 (Nat.lt_succ_self nv)) f0 ?_ ?_ ?_ ?_ ?_ ?_ ?_ ?_ ?_ ?_ ?_ ?_ ?_ ?_ ?_ ?_ (by rw [w12 18 (by decide)]; exact y5.trans hkd) (by rw [w12 19 (by decide)]; exact y6) (by rw [w12 20 (by decide)]; exact y7) (by rw [w12 21 (by decide)]; exact y8) (by rw [w12 22 (by decide)]; exact y9) (fun s hs => by rw [w12 s (by omega)]; exact y10 s hs) ?_ ?_
  · intro s hs; rw [gs_k (by decide)]; exact x1 s ⟨hs.1, hs.2.1⟩
  · rw [gs_k (by decide)]; exact x2
  · rw [gs_k (by decide), x1 12 (by decide), if_neg (by decide), Int32.add_zero]
  · rw [← x3 2 (by decide)]; funext u; simp [gr]
  · rw [← x3 3 (by decide)]; funext u; simp [gr]
  · rw [← x3 5 (by decide)]; funext u; simp [gr]
  · intro j s hs; rw [gs_k (by decide)]; exact x4 j s hs
  · rw [gs_k (by decide)]; exact x5
  · rw [← x6]; funext u; simp [gr]
  · intro j hj; rw [← x7 j hj]; funext u; simp [gr]
  · intro w hw; rw [← x8 w hw]; funext u; simp [gr]
  · intro s
    rw [gs_k (by decide), x9]
    by_cases e : s = 5
    · rw [if_pos e, e]; rfl
    · rw [if_neg e]
  · intro s hs; rw [w11 s hs.2]; exact y1 s hs.1
  · intro s hs; rw [w12 s (by omega)]; exact y2 s (by omega)
  · rw [w12 16 (by decide)]; exact y3
  · intro s w hs hw; rw [w12 s (by omega)]; exact y4 s w hs hw
  · intro j hj
    rw [w30]
    by_cases e : j = nw
    · subst e; rw [upd_self, qvn]
    · rw [upd_ne e, qv0 j e]; exact hQ j (by omega)
  · obtain ⟨g1, g2, -⟩ := hG
    have e7 : ∀ w s : Nat, w ≠ nv → (gs X 1 0 1 (X 1 0 1 + 1)) 7 w s = C 7 w s := fun w s hw => by rw [gs_k (by decide), x8 w hw]
    have e7n : ∀ s : Nat, (gs X 1 0 1 (X 1 0 1 + 1)) 7 nv s = visRow c (if C 4 i 0 = 1 then 1 else 0) (C 0 0 7) a al s := fun s => by rw [gs_k (by decide), x9]
    have e0 : (gs X 1 0 1 (X 1 0 1 + 1)) 0 0 7 = C 0 0 7 := by rw [gs_k (by decide)]; exact x1 7 (by decide)
    generalize gs X 1 0 1 (X 1 0 1 + 1) = X' at *
    have ec : X' 7 nv 0 = c := by rw [e7n]; rfl
    have hc0 : ∀ j : Nat, j < nw → ¬ X' 7 (qv F j) 0 = c := fun j hj => by rw [e7 _ 0 (hqn j hj)]; exact hq j hj
    refine ⟨fun j k hj hk z => ?_, fun j hj => ?_, fun z j hj z2 => ?_⟩
    · by_cases ej : j = nw
      · by_cases ek : k = nw
        · omega
        · rw [ej, qvn, qv0 k ek, ec] at z
          exact absurd z.symm (hc0 k (by omega))
      · by_cases ek : k = nw
        · rw [ek, qvn, qv0 j ej, ec] at z
          exact absurd z (hc0 j (by omega))
        · rw [qv0 j ej, qv0 k ek, e7 _ 0 (hqn j (by omega)), e7 _ 0 (hqn k (by omega))] at z
          exact hD.1 j k (by omega) (by omega) z
    · by_cases ej : j = nw
      · rw [ej, qvn, e7n, e7n, e7n, e0]
        exact ⟨rfl, rfl, g1, Int.le_refl _⟩
      · rw [qv0 j ej, e7 _ 6 (hqn j (by omega)), e7 _ 5 (hqn j (by omega)), e7 _ 2 (hqn j (by omega)), e0]
        exact hD.2.1 j (by omega)
    · rw [f0] at z
      rw [bv0, e7 _ 0 (hbn z)] at z2
      by_cases ej : j = nw
      · rw [ej, qvn, ec] at z2
        exact hbx z z2.symm
      · rw [qv0 j ej, e7 _ 0 (hqn j (by omega))] at z2
        exact hD.2.2 z j (by omega) z2
theorem come_A2 {C M X M1 : gI} {F F3 : gF} {nc nv nw t i : Nat} {c a al kd : Int32} (h' : Rel C M F nc nv nw t) (hi : i < nc) (hci : c = nI i) (h5 : nv < 500) (hCa : CI X F3 nc (nv + 1) nc (nv + 1) nw) (hF3 : FW F3 nc (nv + 1)) (f10 : F3 1 0 = F 1 0) (qv3 : ∀ j : Nat, qv F3 j = qv F j)
    (x1 : ∀ s : Nat, s ≠ 6 ∧ s ≠ 11 → X 0 0 s = C 0 0 s) (x2 : X 0 0 11 = C 0 0 11 + (if al = 0 then 0 else 1)) (x3 : ∀ q : Nat, q ≠ 0 ∧ q ≠ 4 ∧ q ≠ 6 ∧ q ≠ 7 → X q = C q) (x4 : ∀ j s : Nat, j ≠ i ∨ s ≠ 6 → X 4 j s = C 4 j s) (x5 : X 4 i 6 = C 4 i 6 + 1) (x6 : X 6 i = upd (C 6 i) ((rdL M i nv).length % 5) a) (x7 : ∀ j : Nat, j ≠ i → X 6 j = C 6 j) (x8 : ∀ w : Nat, w ≠ nv → X 7 w = C 7 w) (x9 : X 7 nv = visRow c (if C 4 i 0 = 1 then 1 else 0) (C 0 0 7) a al)
    (y1 : ∀ s : Nat, s ≠ 17 → M1 11 0 s = M 11 0 s) (y2 : ∀ s : Nat, s < 16 ∨ 29 ≤ s → M1 12 s = M 12 s) (y3 : M1 12 16 = upd (M 12 16) i (M 12 16 i + 1)) (y4 : ∀ s w : Nat, 18 ≤ s ∧ s ≤ 28 → w ≠ nv → M1 12 s w = M 12 s w) (y5 : M1 12 18 nv = kd) (y6 : M1 12 19 nv = c) (y7 : M1 12 20 nv = M 11 0 1) (y8 : M1 12 21 nv = a) (y9 : M1 12 22 nv = al) (y10 : ∀ s : Nat, 23 ≤ s ∧ s ≤ 28 → M1 12 s nv = -9)
    {M2 : gI} {G : gF} (hkd : kd = 1) (w12 : ∀ s : Nat, s ≠ 30 → M2 12 s = M1 12 s) (w11 : ∀ s : Nat, s ≠ 29 → M2 11 0 s = M1 11 0 s) (w30 : M2 12 30 = upd (M 12 30) nw (nI nv)) (hadd : CI (bComeA X) (gf F3 0 (X 1 0 1).toNatClampNeg (some nv)) nc (nv + 1) nc (nv + 1) (nw + 1)) (hM2 : MI M2 nc (nv + 1) (nw + 1)) (hq : ∀ j : Nat, j < nw → ¬ C 7 (qv F j) 0 = c) (hbx : ¬ F 1 0 = none → ¬ C 7 (bv F) 0 = c) (ew : (X 1 0 1).toNatClampNeg = nw) : ∃ nw' : Nat, Rel (bFill_I (bComeA X) (gf F3 0 (X 1 0 1).toNatClampNeg (some nv)) (nw + 1)) (mEnter M2 G (nw + 1)) (bFill_F (bComeA X) (gf F3 0 (X 1 0 1).toNatClampNeg (some nv)) (nw + 1)) nc (nv + 1) nw' t := by
  rw [ew] at hadd ⊢
  have hRel : Rel (bComeA X) M2 (gf F3 0 nw (some nv)) nc (nv + 1) (nw + 1) t := by
    unfold bComeA at hadd ⊢
    exact come_A h' hi hci h5 hCa hF3 f10 qv3 x1 x2 x3 x4 x5 x6 x7 x8 x9 y1 y2 y3 y4 y5 y6 y7 y8 y9 y10 hkd w12 w11 w30 hadd hM2 hq hbx
  rw [mEnter_F (G := gf F3 0 nw (some nv))]
  exact ⟨_, (sim_fill hRel).1⟩
set_option maxHeartbeats 2000000 in
theorem sim_comeB {C M : gI} {F : gF} {nc nv nw t : Nat} (h : Rel C M F nc nv nw t) (G : gF) {c a : Int32} (hcv : vp_in c nc) (hq : ∀ j : Nat, j < nw → ¬ C 7 (qv F j) 0 = c) (hbx : ¬ F 1 0 = none → ¬ C 7 (bv F) 0 = c) (h5 : nv < 500) : ∃ nw' : Nat, Rel (bCome2_I (bCome0 C nv) F nv c.toNatClampNeg nw (C 0 0 6) c a) (if (if pI (mRight M c) = 0 then (0 : Int32) else 1) = 1 then mEnter (mCome2 M nv c a) G (nw + 1) else mCome1 M nv c a) (bCome2_F (bCome0 C nv) F nv c.toNatClampNeg nw (C 0 0 6) c a) nc (nv + 1) nw' t := by
  have hnw := h.few hcv hq
  have h' := h
  obtain ⟨hC, hM, hF, hS, hRC, hU, hV, hQ, hB, hN, hG, hD, hR, hT⟩ := h
  have hi := vp_lt hcv
  have hci := vp_eq hcv
  have h12 := hC.2.1
  have e6 : C 0 0 6 = nI nv := hC.2.2.2.2.1
  have e17 : M 11 0 17 = nI nv := hM.2.2.2.1
  have hno : pI (mNo M c) = 0 := pI_0.mpr (fun z => (h'.no c).mp z hcv)
  have h58 : ¬ M 11 0 17 = 500 := by rw [e17, show (500 : Int32) = nI 500 by decide, nI_eq (by omega) (by decide)]; omega
  have hM1 := MI_come1 (a := a) hM hno h58
  have hM2 := MI_come (a := a) hM hno h58 hnw
  generalize hid : c.toNatClampNeg = i at *
  have hRi := hRC i hi
  have hal := sim_alarm (F := F) (a := a) (hR i hi) (by omega)
  rw [← hci] at hal
  have hal0 : bAlarm_r (bCome0 C nv) F i a = pI (mAlarm M nv c a) := by
    rw [← hal]
    unfold bAlarm_r bCome0
    simp [gr]
  have hrt := sim_right (F := F) hS.1 hRi hid
  have hlen := rdL_len (M := M) (i := i) nv
  have hRi1 := (hR i hi).1
  have hCv := CI_vis (i := i) (a := a) (r := bRowOf (bCome0 C nv) F i c a) hC rfl h5 hcv rfl
  have eK : bCome1 (bCome0 C nv) F nv i (C 0 0 6) c a = gs (gs (gs (gr (bCome0 C nv) 7 nv (bRowOf (bCome0 C nv) F i c a)) 0 0 6 (C 0 0 6 + 1)) 6 i ((rdL M i nv).length % 5) a) 4 i 6 (C 4 i 6 + 1) := by
    unfold bCome1
    have e : (gs (gr (bCome0 C nv) 7 nv (bRowOf (bCome0 C nv) F i c a)) 0 0 6 (C 0 0 6 + 1)) 4 i 6 = C 4 i 6 := by simp [gr, bCome0]
    rw [bKeep_eq (n := (rdL M i nv).length) (by rw [e]; exact hRi1) (by omega), e]
  have hCv' : CI (bCome1 (bCome0 C nv) F nv i (C 0 0 6) c a) (bF3 F (C 0 0 6) nv) nc (nv + 1) nc (nv + 1) nw := hCv
  have erow : bRowOf (bCome0 C nv) F i c a = visRow c (if C 4 i 0 = 1 then 1 else 0) (C 0 0 7) a (pI (mAlarm M nv c a)) := by
    unfold bRowOf
    rw [hal0]
    simp [bCome0, gr]
  have eF : bF3 F (C 0 0 6) nv = gf F 3 nv (some nv) := by unfold bF3; rw [e6, nI_clamp (by omega)]
  unfold bCome2_I bCome2_F
  rw [hal0]
  rw [eF] at hCv' ⊢
  have hCa : CI (bAl (bCome1 (bCome0 C nv) F nv i (C 0 0 6) c a) (pI (mAlarm M nv c a))) (gf F 3 nv (some nv)) nc (nv + 1) nc (nv + 1) nw := by
    unfold bAl
    split
    · exact hCv'
    · exact CI_g0 hCv' (by decide)
  rw [eK, erow] at hCa ⊢
  obtain ⟨x1, x2, x3, x4, x5, x6, x7, x8, x9⟩ := come_X (C := C) (nv := nv) (i := i) (k := (rdL M i nv).length % 5) (r := visRow c (if C 4 i 0 = 1 then 1 else 0) (C 0 0 7) a (pI (mAlarm M nv c a))) (y := C 0 0 6 + 1) (z := C 4 i 6 + 1) (a := a) (al := pI (mAlarm M nv c a)) _ rfl
  generalize bAl (gs (gs (gs (gr (bCome0 C nv) 7 nv (visRow c (if C 4 i 0 = 1 then 1 else 0) (C 0 0 7) a (pI (mAlarm M nv c a)))) 0 0 6 (C 0 0 6 + 1)) 6 i ((rdL M i nv).length % 5) a) 4 i 6 (C 4 i 6 + 1)) (pI (mAlarm M nv c a)) = X at *
  obtain ⟨y1, y2, y3, y4, y5, y6, y7, y8, y9, y10⟩ := come_M (a := a) e17 h5 hid
  have hF3 := FW_v hF
  have f10 : gf F 3 nv (some nv) 1 0 = F 1 0 := gf_k (by decide)
  have qv3 : ∀ j : Nat, qv (gf F 3 nv (some nv)) j = qv F j := fun j => by unfold qv; rw [gf_k (by decide)]
  have bv3 : bv (gf F 3 nv (some nv)) = bv F := by unfold bv; rw [gf_k (by decide)]
  have hqn : ∀ j : Nat, j < nw → qv F j ≠ nv := fun j hj => by have := (hC.2.2.2.2.2.2.2.2.2.2.1 j hj).2; omega
  have hbn : ¬ F 1 0 = none → bv F ≠ nv := fun z => by have := (hC.2.2.2.2.2.2.2.2.2.2.2.1 z).2; omega
  generalize gf F 3 nv (some nv) = F3 at *
  have ert : bRight_r X F3 i (X 0 0 7) = pI (mRight M c) := by
    rw [← hrt]
    unfold bRight_r
    rw [x1 7 (by decide), x4 i 10 (Or.inr (by decide)), x4 i 2 (Or.inr (by decide))]
  unfold bD2_I bD2_F
  rw [ert]
  by_cases q : pI (mRight M c) = 0
  · simp only [if_pos q, if_neg (show ¬ (0 : Int32) = 1 by decide)]
    rw [if_pos q] at y5
    exact ⟨nw, come_R h' hi hci h5 hCa hF3 f10 qv3 x1 x2 x3 x4 x5 x6 x7 x8 x9 y1 y2 y3 y4 y5 y6 y7 y8 y9 y10 rfl hM1⟩
  · simp only [if_neg q, if_pos (show (1 : Int32) = 1 from rfl), if_true]
    rw [if_neg q] at y5
    have ew : (X 1 0 1).toNatClampNeg = nw := by rw [x3 1 (by decide), hC.2.2.2.2.2.2.2.2.1, nI_clamp (by omega)]
    have hadd := CI_add hCa hnw (Nat.lt_succ_self nv)
    exact come_A2 h' hi hci h5 hCa hF3 f10 qv3 x1 x2 x3 x4 x5 x6 x7 x8 x9 y1 y2 y3 y4 y5 y6 y7 y8 y9 y10 rfl come2_12 come2_11 (come2_30 hM h5 y2) hadd hM2 hq hbx ew
