theorem rdL_none {M : gI} {i n : Nat} (h : ∀ v : Nat, v < n → ¬ M 12 19 v = nI i) : rdL M i n = [] := by
  induction n with
  | zero => rfl
  | succ n ih =>
    unfold rdL
    rw [if_neg (h n (by omega)), ih (fun v hv => h v (by omega))]
theorem rdL_congr2 {M M' : gI} {i : Nat} : ∀ n : Nat, (∀ v : Nat, v < n → M' 12 19 v = M 12 19 v ∧ M' 12 21 v = M 12 21 v) → rdL M' i n = rdL M i n
  | 0, _ => rfl
  | n + 1, h => by
    unfold rdL
    rw [(h n (by omega)).1, (h n (by omega)).2, rdL_congr2 n (fun v hv => h v (by omega))]
theorem FW_cow {F : gF} {nc ln : Nat} (h : FW F nc ln) : FW (gf F 2 nc (some nc)) (nc + 1) ln := by
  refine ⟨fun j v hv => ?_, fun k j v hk hv => ?_⟩
  · by_cases e : j = nc
    · subst e; rw [gf_self] at hv; cases hv; omega
    · rw [gf_i e] at hv
      have := h.1 j v hv
      omega
  · rw [gf_k hk] at hv; exact h.2 k j v hk hv
set_option maxHeartbeats 2000000 in
theorem sim_cowB {C M : gI} {F : gF} {nc nv nw t : Nat} (h : Rel C M F nc nv nw t) (a b c d : Int32) (hb : mIn b 1 30) (h12 : nc < 12) : Rel (gs (bNewCow C nc a b c d (C 0 0 7)) 0 0 5 (C 0 0 5 + 1)) (gs (gs (gs (gs (gs (gs (gs (gs M 12 4 nc a) 12 5 nc b) 12 6 nc c) 12 7 nc d) 12 8 nc (M 11 0 1)) 12 10 nc (-9)) 12 13 nc (-9)) 11 0 3 (M 11 0 3 + 1)) (gf F 2 nc (some nc)) (nc + 1) nv nw t := by
  obtain ⟨hC, hM, hF, hS, hRC, hU, hV, hQ, hB, hN, hG, hD, hR, hT⟩ := h
  have c5 : (gs (bNewCow C nc a b c d (C 0 0 7)) 0 0 5 (C 0 0 5 + 1)) 0 0 5 = C 0 0 5 + 1 := by simp [bNewCow, gr, upd]
  have c0 : ∀ s : Nat, s ≠ 5 → (gs (bNewCow C nc a b c d (C 0 0 7)) 0 0 5 (C 0 0 5 + 1)) 0 0 s = C 0 0 s := fun s hs => by simp [bNewCow, gr, upd, hs]
  have c4 : (gs (bNewCow C nc a b c d (C 0 0 7)) 0 0 5 (C 0 0 5 + 1)) 4 nc = cowRow a b c d (C 0 0 7) := by funext s; simp [bNewCow, gr]
  have c4j : ∀ j : Nat, j ≠ nc → (gs (bNewCow C nc a b c d (C 0 0 7)) 0 0 5 (C 0 0 5 + 1)) 4 j = C 4 j := fun j hj => by funext s; simp [bNewCow, gr, hj]
  have c55 : (gs (bNewCow C nc a b c d (C 0 0 7)) 0 0 5 (C 0 0 5 + 1)) 5 nc = fun _ => 0 := by funext s; simp [bNewCow, gr]
  have c5j : ∀ j : Nat, j ≠ nc → (gs (bNewCow C nc a b c d (C 0 0 7)) 0 0 5 (C 0 0 5 + 1)) 5 j = C 5 j := fun j hj => by funext s; simp [bNewCow, gr, hj]
  have c66 : (gs (bNewCow C nc a b c d (C 0 0 7)) 0 0 5 (C 0 0 5 + 1)) 6 nc = fun _ => 0 := by funext s; simp [bNewCow, gr]
  have c6j : ∀ j : Nat, j ≠ nc → (gs (bNewCow C nc a b c d (C 0 0 7)) 0 0 5 (C 0 0 5 + 1)) 6 j = C 6 j := fun j hj => by funext s; simp [bNewCow, gr, hj]
  have ck : ∀ k : Nat, k ≠ 0 ∧ k ≠ 4 ∧ k ≠ 5 ∧ k ≠ 6 → (gs (bNewCow C nc a b c d (C 0 0 7)) 0 0 5 (C 0 0 5 + 1)) k = C k := fun k hk => by funext s; simp [bNewCow, gr, hk]
  generalize gs (bNewCow C nc a b c d (C 0 0 7)) 0 0 5 (C 0 0 5 + 1) = C' at *
  have m3 : (gs (gs (gs (gs (gs (gs (gs (gs M 12 4 nc a) 12 5 nc b) 12 6 nc c) 12 7 nc d) 12 8 nc (M 11 0 1)) 12 10 nc (-9)) 12 13 nc (-9)) 11 0 3 (M 11 0 3 + 1)) 11 0 3 = M 11 0 3 + 1 := gs_self
  have m11 : ∀ s : Nat, s ≠ 3 → (gs (gs (gs (gs (gs (gs (gs (gs M 12 4 nc a) 12 5 nc b) 12 6 nc c) 12 7 nc d) 12 8 nc (M 11 0 1)) 12 10 nc (-9)) 12 13 nc (-9)) 11 0 3 (M 11 0 3 + 1)) 11 0 s = M 11 0 s := fun s hs => by simp [gr, upd, hs]
  have m12 : ∀ s : Nat, s ≠ 4 ∧ s ≠ 5 ∧ s ≠ 6 ∧ s ≠ 7 ∧ s ≠ 8 ∧ s ≠ 10 ∧ s ≠ 13 → (gs (gs (gs (gs (gs (gs (gs (gs M 12 4 nc a) 12 5 nc b) 12 6 nc c) 12 7 nc d) 12 8 nc (M 11 0 1)) 12 10 nc (-9)) 12 13 nc (-9)) 11 0 3 (M 11 0 3 + 1)) 12 s = M 12 s := fun s hs => by funext x; simp [gr, hs]
  have mj : ∀ s j : Nat, j ≠ nc → (gs (gs (gs (gs (gs (gs (gs (gs M 12 4 nc a) 12 5 nc b) 12 6 nc c) 12 7 nc d) 12 8 nc (M 11 0 1)) 12 10 nc (-9)) 12 13 nc (-9)) 11 0 3 (M 11 0 3 + 1)) 12 s j = M 12 s j := fun s j hj => by rw [gs_k (by decide), gs_s hj, gs_s hj, gs_s hj, gs_s hj, gs_s hj, gs_s hj, gs_s hj]
  have mn : (gs (gs (gs (gs (gs (gs (gs (gs M 12 4 nc a) 12 5 nc b) 12 6 nc c) 12 7 nc d) 12 8 nc (M 11 0 1)) 12 10 nc (-9)) 12 13 nc (-9)) 11 0 3 (M 11 0 3 + 1)) 12 4 nc = a ∧ (gs (gs (gs (gs (gs (gs (gs (gs M 12 4 nc a) 12 5 nc b) 12 6 nc c) 12 7 nc d) 12 8 nc (M 11 0 1)) 12 10 nc (-9)) 12 13 nc (-9)) 11 0 3 (M 11 0 3 + 1)) 12 5 nc = b ∧ (gs (gs (gs (gs (gs (gs (gs (gs M 12 4 nc a) 12 5 nc b) 12 6 nc c) 12 7 nc d) 12 8 nc (M 11 0 1)) 12 10 nc (-9)) 12 13 nc (-9)) 11 0 3 (M 11 0 3 + 1)) 12 6 nc = c ∧ (gs (gs (gs (gs (gs (gs (gs (gs M 12 4 nc a) 12 5 nc b) 12 6 nc c) 12 7 nc d) 12 8 nc (M 11 0 1)) 12 10 nc (-9)) 12 13 nc (-9)) 11 0 3 (M 11 0 3 + 1)) 12 7 nc = d ∧ (gs (gs (gs (gs (gs (gs (gs (gs M 12 4 nc a) 12 5 nc b) 12 6 nc c) 12 7 nc d) 12 8 nc (M 11 0 1)) 12 10 nc (-9)) 12 13 nc (-9)) 11 0 3 (M 11 0 3 + 1)) 12 8 nc = M 11 0 1 ∧ (gs (gs (gs (gs (gs (gs (gs (gs M 12 4 nc a) 12 5 nc b) 12 6 nc c) 12 7 nc d) 12 8 nc (M 11 0 1)) 12 10 nc (-9)) 12 13 nc (-9)) 11 0 3 (M 11 0 3 + 1)) 12 10 nc = -9 ∧ (gs (gs (gs (gs (gs (gs (gs (gs M 12 4 nc a) 12 5 nc b) 12 6 nc c) 12 7 nc d) 12 8 nc (M 11 0 1)) 12 10 nc (-9)) 12 13 nc (-9)) 11 0 3 (M 11 0 3 + 1)) 12 13 nc = -9 := by
    refine ⟨?_, ?_, ?_, ?_, ?_, ?_, ?_⟩ <;> simp [gr, upd]
  generalize gs (gs (gs (gs (gs (gs (gs (gs M 12 4 nc a) 12 5 nc b) 12 6 nc c) 12 7 nc d) 12 8 nc (M 11 0 1)) 12 10 nc (-9)) 12 13 nc (-9)) 11 0 3 (M 11 0 3 + 1) = M' at *
  obtain ⟨mn4, mn5, mn6, mn7, mn8, mn10, mn13⟩ := mn
  have qv' : ∀ j : Nat, qv (gf F 2 nc (some nc)) j = qv F j := fun j => by unfold qv; rw [gf_k (by decide)]
  have bv' : bv (gf F 2 nc (some nc)) = bv F := by unfold bv; rw [gf_k (by decide)]
  have f10 : gf F 2 nc (some nc) 1 0 = F 1 0 := gf_k (by decide)
  have hF' := FW_cow hF
  have f0j : ∀ j : Nat, gf F 2 nc (some nc) 0 j = F 0 j := fun j => gf_k (by decide)
  have f3j : ∀ j : Nat, gf F 2 nc (some nc) 3 j = F 3 j := fun j => gf_k (by decide)
  have f2j : ∀ j : Nat, j < nc + 1 → gf F 2 nc (some nc) 2 j = some j := fun j hj => by
    by_cases e : j = nc
    · subst e; exact gf_self
    · rw [gf_i e]; exact hC.2.2.2.1 j (by omega)
  generalize gf F 2 nc (some nc) = F' at *
  obtain ⟨u9, u11, u15, u16, u12⟩ := hU nc (Nat.le_refl _) (by omega)
  obtain ⟨z1, z2⟩ := hb
  rw [Int32.lt_iff_toInt_lt] at z1 z2
  have i1 : (1 : Int32).toInt = 1 := by decide
  have i2 : (30 : Int32).toInt = 30 := by decide
  have hvm : ∀ v : Nat, v < nv → (M 12 19 v).toNatClampNeg ≠ nc := fun v hv => by have := vp_lt (hM.2.2.2.2.2.2.2.1 v hv); omega
  refine ⟨?_, ?_, hF', ?_, ?_, ?_, ?_, ?_, ?_, ?_, ?_, ?_, ?_, ?_⟩
  · obtain ⟨kn, k12, klc, kf2, kv, k500, kln, kf3, kw, kw12, kq, kb, kc⟩ := hC
    refine ⟨by rw [c5, kn, nI_1], by omega, Nat.le_refl _, f2j, by rw [c0 6 (by decide)]; exact kv, k500, kln, fun j hj => by rw [f3j]; exact kf3 j hj, by rw [ck 1 (by decide)]; exact kw, kw12, fun j hj => by rw [f0j, qv']; exact kq j hj, fun z => by rw [f10] at z ⊢; rw [bv']; exact kb z, fun v hv => by rw [ck 7 (by decide)]; exact vp_mono (kc v hv) (by omega)⟩
  · obtain ⟨ht, hn, h12', hv, v500, hw, w12, hvc, hq, hb, hr⟩ := hM
    refine ⟨by rw [m11 0 (by decide)]; exact ht, by rw [m3, hn, nI_1], by omega, by rw [m11 17 (by decide)]; exact hv, v500, by rw [m11 29 (by decide)]; exact hw, w12, fun v h => by rw [m12 19 (by decide)]; exact vp_mono (hvc v h) (by omega), fun j hj => by rw [m12 30 (by decide)]; exact hq j hj, by rw [m11 31 (by decide)]; exact hb, fun j hj => ?_⟩
    by_cases e : j = nc
    · subst e; rw [mn5]
      intro z
      rw [z] at z1
      exact z1 (by decide)
    · rw [mj 5 j e]; exact hr j (by omega)
  · unfold RS at hS ⊢
    rw [m11 1 (by decide), m11 2 (by decide), m11 36 (by decide), m11 37 (by decide), m11 38 (by decide), m11 39 (by decide), m11 40 (by decide), m11 41 (by decide), m11 42 (by decide), c0 7 (by decide), c0 8 (by decide), c0 9 (by decide), c0 10 (by decide), ck 3 (by decide)]
    exact hS
  · intro j hj
    by_cases e : j = nc
    · subst e
      refine ⟨?_, ?_, ?_, ?_, ?_, ?_, ?_, ?_, ?_, ?_, ?_, ?_⟩
      · rw [mn4, c4]; rfl
      · rw [mn5, c4]; rfl
      · rw [mn6, c4]; rfl
      · rw [mn7, c4]; rfl
      · rw [mn8, c4, hS.1]; rfl
      · rw [m12 9 (by decide), c4, u9]; rfl
      · rw [mn10, c4]; rfl
      · rw [m12 11 (by decide), c4, u11]; rfl
      · rw [m12 15 (by decide), c4, u15]; rfl
      · rw [m12 16 (by decide), c4, u16]; rfl
      · intro s hs; rw [m12 12 (by decide), c55, u12 s hs]
      · right; rw [mn13, c4]; exact ⟨rfl, rfl⟩
    · have := hRC j (by omega)
      unfold RC1 at this ⊢
      rw [c4j j e, c5j j e, m12 12 (by decide), mj 4 j e, mj 5 j e, mj 6 j e, mj 7 j e, mj 8 j e, mj 9 j e, mj 10 j e, mj 11 j e, mj 15 j e, mj 16 j e, mj 13 j e, mj 14 j e]
      exact this
  · intro j h1 h2
    have := hU j (by omega) h2
    rw [m12 9 (by decide), m12 11 (by decide), m12 15 (by decide), m12 16 (by decide), m12 12 (by decide)]
    exact this
  · intro v hv
    have := hV v hv
    unfold RV1 at this ⊢
    rw [ck 7 (by decide), m12 18 (by decide), m12 19 (by decide), m12 20 (by decide), m12 21 (by decide), m12 22 (by decide), m12 23 (by decide), m12 24 (by decide), m12 25 (by decide), m12 26 (by decide), m12 27 (by decide), m12 28 (by decide), mj 4 _ (hvm v hv)]
    exact this
  · intro j hj
    rw [m12 30 (by decide), qv']; exact hQ j hj
  · unfold RB at hB ⊢
    rw [f10, bv', m11 31 (by decide), m11 32 (by decide), m11 33 (by decide), m11 34 (by decide), m11 35 (by decide), ck 2 (by decide), c0 7 (by decide), ck 7 (by decide), m12 23 (by decide)]
    exact hB
  · unfold RN at hN ⊢
    have a1 : mAl M' = mAl M := by funext j; unfold mAl; rw [m12 22 (by decide)]
    have a2 : mRf M' = mRf M := by funext j; unfold mRf; rw [m12 18 (by decide)]
    have a3 : mWt M' = mWt M := by funext j; unfold mWt; rw [m12 23 (by decide), m12 20 (by decide)]
    rw [a1, a2, a3, c0 11 (by decide), c0 12 (by decide), c0 13 (by decide)]
    exact hN
  · obtain ⟨g1, g2, g3, g4, g5, g6, g7⟩ := hG
    unfold RG
    rw [c0 7 (by decide), ck 3 (by decide)]
    refine ⟨g1, g2, g3, g4, g5, g6, fun j hj => ?_⟩
    by_cases e : j = nc
    · subst e
      rw [c4]
      refine ⟨?_, ?_, ?_, ?_, ?_, ?_, ?_, ?_⟩
      · show 1 ≤ b.toInt; omega
      · show b.toInt ≤ 30; omega
      · show 0 ≤ (0 : Int32).toInt; decide
      · show (0 : Int32).toInt ≤ 400; decide
      · exact g1
      · exact Int.le_refl _
      · show 0 ≤ (0 : Int32).toInt; decide
      · show (0 : Int32).toInt ≤ 400 * t
        have : (0 : Int32).toInt = 0 := by decide
        omega
    · rw [c4j j e]; exact g7 j (by omega)
  · unfold RD at hD ⊢
    rw [ck 7 (by decide), c0 7 (by decide), f10, bv']
    refine ⟨fun j k => by rw [qv', qv']; exact hD.1 j k, fun j => by rw [qv']; exact hD.2.1 j, fun z j => by rw [qv']; exact hD.2.2 z j⟩
  · intro j hj
    unfold RR1
    rw [rdL_congr (m12 19 (by decide)) (m12 21 (by decide))]
    by_cases e : j = nc
    · subst e
      have : rdL M j nv = [] := rdL_none (fun v hv z => by
        have := hvm v hv
        rw [z, nI_clamp (by omega)] at this
        exact this rfl)
      rw [this, c4, c66]
      exact ⟨rfl, fun j _ h => absurd h (by simp), fun _ _ _ => rfl⟩
    · rw [c4j j e, c6j j e]
      exact hR j (by omega)
  · intro j hj s hs
    by_cases e : j = nc
    · subst e; rw [c55]; show 0 ≤ (0 : Int32).toInt; decide
    · rw [c5j j e]; exact hT j (by omega) s hs
theorem sim_cow {C M : gI} {F : gF} {nc nv nw t : Nat} (h : Rel C M F nc nv nw t) (G : gF) (a b c d : Int32) : bCow_r C a b c d = mCow_r M G a b c d ∧ Rel (bCow_I C nc a b c d) (mCow_I M G a b c d) (bCow_F C F nc a b c d) (bCow_l C nc a b c d) nv nw t := by
  have e5 : C 0 0 5 = nI nc := h.1.1
  have e3 : M 11 0 3 = nI nc := h.2.1.2.1
  have h12 : nc ≤ 12 := h.1.2.1
  unfold bCow_r mCow_r bCow_I mCow_I bCow_F bCow_l bCow_q
  by_cases qa : pI (mIn a 0 2) = 0
  · simp only [if_pos qa]; exact ⟨trivial, h⟩
  · simp only [if_neg qa]
    by_cases qb : pI (mIn b 1 30) = 0
    · simp only [if_pos qb]; exact ⟨trivial, h⟩
    · simp only [if_neg qb]
      by_cases qc : pI (mIn c 0 1440) = 0
      · simp only [if_pos qc]; exact ⟨trivial, h⟩
      · simp only [if_neg qc]
        by_cases qd : pI (mIn d 0 5000) = 0
        · simp only [if_pos qd]; exact ⟨trivial, h⟩
        · simp only [if_neg qd]
          by_cases q : nc < 12
          · have q1 : C 0 0 5 < 12 := by rw [e5]; exact nI_lt q (by decide)
            have q2 : ¬ M 11 0 3 = 12 := by rw [e3]; intro z; have := (nI_eq (a := nc) (b := 12) (by omega) (by decide)).mp z; omega
            simp only [if_pos q1, if_neg q2]
            refine ⟨by rw [e5, e3], ?_⟩
            have := sim_cowB h a b c d (pI_n0.mp qb) q
            have ec : (nI nc).toNatClampNeg = nc := nI_clamp (by omega)
            rw [e3]
            rw [e3] at this
            rw [ec, e5, ec]
            rw [e5] at this
            exact this
          · have q0 : nc = 12 := by omega
            have q1 : ¬ C 0 0 5 < 12 := by rw [e5, q0]; decide
            have q2 : M 11 0 3 = 12 := by rw [e3, q0]; rfl
            simp only [if_neg q1, if_pos q2]
            exact ⟨trivial, h⟩
