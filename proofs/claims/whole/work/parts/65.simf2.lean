theorem upd_self {f : Nat → Int32} {k : Nat} {x : Int32} : upd f k x k = x := by simp [upd]
theorem upd_ne {f : Nat → Int32} {k j : Nat} {x : Int32} (h : j ≠ k) : upd f k x j = f j := by simp [upd, h]
/-- where the milk goes: both say the same -/
theorem sim_where {C M : gI} {F : gF} {i : Nat} {c mk : Int32} (hS : RS C M) (hR : RC1 C M i) (hc : c.toNatClampNeg = i) (r1 : 1 ≤ (C 3 0 0).toInt) (r2 : (C 3 0 0).toInt ≤ 100000) (k1 : 0 ≤ (C 3 0 1).toInt) (k2 : (C 3 0 1).toInt ≤ (C 3 0 0).toInt) (m1 : 0 ≤ mk.toInt) (m2 : mk.toInt ≤ 400) : bPut_r C F mk (bHeld_r C F i (C 0 0 7)) = mWh M c mk ∧ (bPut_I C F mk (bHeld_r C F i (C 0 0 7))) 3 0 0 = C 3 0 0 ∧ (bPut_I C F mk (bHeld_r C F i (C 0 0 7))) 3 0 1 = C 3 0 1 + (if mWh M c mk = 0 then mk else 0) ∧ (bPut_I C F mk (bHeld_r C F i (C 0 0 7))) 3 0 2 = C 3 0 2 + (if mWh M c mk = 1 then mk else 0) ∧ (bPut_I C F mk (bHeld_r C F i (C 0 0 7))) 3 0 3 = C 3 0 3 + (if mWh M c mk = 2 then mk else 0) ∧ (bPut_I C F mk (bHeld_r C F i (C 0 0 7))) 3 0 4 = C 3 0 4 ∧ 0 ≤ (C 3 0 1 + (if mWh M c mk = 0 then mk else 0)).toInt ∧ (C 3 0 1 + (if mWh M c mk = 0 then mk else 0)).toInt ≤ (C 3 0 0).toInt := by
  obtain ⟨s1, s2, s3, s4, s5, s6, s7, s8, s9, s10⟩ := hS
  obtain ⟨e0, e1, e2, e3, e8, e9, e10, e7, -⟩ := hR
  have hroom : C 3 0 0 - C 3 0 1 < mk ↔ C 3 0 0 < C 3 0 1 + mk := by
    obtain ⟨R, hR, eR⟩ := nI_ofB (x := C 3 0 0) (b := 100000) (by omega) (by omega) (by decide)
    obtain ⟨T, hT, eT⟩ := nI_ofB (x := C 3 0 1) (b := 100000) k1 (by omega) (by decide)
    obtain ⟨K, hK, eK⟩ := nI_ofB (x := mk) (b := 400) m1 (by omega) (by decide)
    rw [eR, eT] at k2
    rw [nI_toInt (by omega), nI_toInt (by omega)] at k2
    rw [eR, eT, eK, pk_sub (by omega), nI_add, nI_ltI (by omega) (by omega), nI_ltI (by omega) (by omega)]
    omega
  have hadd : ¬ C 3 0 0 < C 3 0 1 + mk → 0 ≤ (C 3 0 1 + mk).toInt ∧ (C 3 0 1 + mk).toInt ≤ (C 3 0 0).toInt := by
    intro z
    rw [Int32.lt_iff_toInt_lt] at z
    obtain ⟨T, hT, eT⟩ := nI_ofB (x := C 3 0 1) (b := 100000) k1 (by omega) (by decide)
    obtain ⟨K, hK, eK⟩ := nI_ofB (x := mk) (b := 400) m1 (by omega) (by decide)
    rw [eT, eK, nI_add, nI_toInt (by omega)] at z ⊢
    omega
  have z0 : (C 3 0 1 + 0) = C 3 0 1 := Int32.add_zero _
  unfold bPut_r bPut_I bHeld_r mWh
  rw [hc, e0, e7, s1, s4, s5]
  by_cases a : C 4 i 0 = 2
  · simp [a, gr, upd, k1, k2]
  · by_cases b : C 4 i 7 ≤ C 0 0 7
    · by_cases d : C 3 0 0 < C 3 0 1 + mk
      · simp [a, b, d, hroom, gr, upd, k1, k2]
      · obtain ⟨q1, q2⟩ := hadd d
        simp [a, b, d, hroom, gr, upd, -Int32.toInt_add, q1, q2]
    · simp [a, b, gr, upd, k1, k2]
theorem sim_grams {C M : gI} {F : gF} {i : Nat} {c mk : Int32} (h1 : M 11 0 1 = C 0 0 7) (h0 : 0 ≤ (C 0 0 7).toInt) (hR : RC1 C M i) (hc : c.toNatClampNeg = i) : bFeed_r C F i mk (C 0 0 7 / 1440) = mGr M mk c := by
  have hf := sim_fed (F := F) h1 h0 hR hc
  obtain ⟨e0, e1, e2, e3, -⟩ := hR
  unfold bFeed_r mGr
  rw [hf, hc, e3]
  generalize C 4 i 3 - mFed M c = x
  generalize 10 * mk = y
  by_cases a : x < y
  · rw [if_pos a, if_pos (by rw [Int32.lt_iff_toInt_lt] at a; rw [Int32.le_iff_toInt_le]; omega)]
  · rw [if_neg a]
    by_cases b : x ≤ y
    · rw [if_pos b]
      exact Int32.toInt_inj.mp (by rw [Int32.lt_iff_toInt_lt] at a; rw [Int32.le_iff_toInt_le] at b; omega)
    · rw [if_neg b]
theorem FW_none {F : gF} {lc ln : Nat} (h : FW F lc ln) : FW (gf F 1 0 none) lc ln := by
  refine ⟨fun j v hv => ?_, fun k j v hk hv => ?_⟩
  · rw [gf_k (by decide)] at hv; exact h.1 j v hv
  · by_cases e : k = 1 ∧ j = 0
    · obtain ⟨rfl, rfl⟩ := e
      rw [gf_self] at hv
      cases hv
    · unfold gf at hv
      rw [if_neg e] at hv
      exact h.2 k j v hk hv
theorem qv_gf {F : gF} {j : Nat} {o : Option Nat} : qv (gf F 1 0 o) j = qv F j := by
  unfold qv
  rw [gf_k (by decide)]
set_option maxHeartbeats 2000000 in
/-- a milking ends on both sides -/
theorem sim_finish {C M : gI} {F : gF} {nc nv nw t : Nat} {kd mk : Int32} (h : Rel C M F nc nv nw t) (hb : ¬ F 1 0 = none) (hkd : ¬ kd = 0) (hmk : mk = bMk C F kd) (m1 : 0 ≤ mk.toInt) (m2 : mk.toInt ≤ (C 2 0 1).toInt) (ht : t ≤ 100000) : Rel (bFin_I C F kd) (mFinish_I (gs M 12 18 (bv F) kd) F mk (nI (bv F)) (M 12 19 (bv F))) (gf F 1 0 none) nc nv nw (t + 1) := by
  have hCn := CI_fin (kd := kd) h.1
  have e5 : bFin_I C F kd = bFinish C F (bv F) (C 7 (bv F) 0).toNatClampNeg kd mk := by unfold bFin_I; rw [if_neg hb, hmk]
  have e6 : bFin_F F = gf F 1 0 none := by unfold bFin_F; rw [if_neg hb]
  rw [e6] at hCn
  obtain ⟨hC, hM, hF, hS, hRC, hU, hV, hQ, hB, hN, hG, hD, hR, hT⟩ := h
  obtain ⟨-, b1, b2, b3, b4, b5, b6, b7, b8, b9, b10, b11, -, -, b12⟩ := hB.resolve_left (fun z => hb z.1)
  have hv : bv F < nv := (hC.2.2.2.2.2.2.2.2.2.2.2.1 hb).2
  have hvc := hC.2.2.2.2.2.2.2.2.2.2.2.2 _ hv
  have h500 := hC.2.2.2.2.2.1
  have hVv := hV _ hv
  have ecow : M 12 19 (bv F) = C 7 (bv F) 0 := hVv.2.1
  have eqn : ∀ j : Nat, j < nw → qv F j ≠ bv F := fun j hj z => hD.2.2 hb j hj (by rw [z])
  rw [e5] at hCn ⊢
  rw [ecow]
  generalize hcd : C 7 (bv F) 0 = c at *
  generalize hvd : bv F = v at *
  have hi := vp_lt hvc
  generalize hid : c.toNatClampNeg = i at *
  have hRi := hRC i hi
  obtain ⟨g1, g2, g3, g4, g5, g6, g7⟩ := hG
  have hgi := g7 i hi
  obtain ⟨w1, w2, w3, w4, w5, w6, w7, w8⟩ := sim_where (F := F) (mk := mk) hS hRi hid g3 g4 g5 g6 m1 (by omega)
  have hgr := sim_grams (F := F) (mk := mk) hS.1 g1 hRi hid
  have hfd := sim_fed (F := F) hS.1 g1 hRi hid
  -- the reference's first step changes no word that is read
  have q11 : ∀ s : Nat, (gs M 12 18 v kd) 11 0 s = M 11 0 s := fun s => by simp [gr]
  have q12 : ∀ s : Nat, s ≠ 18 → (gs M 12 18 v kd) 12 s = M 12 s := fun s hs => by funext x; simp [gr, hs]
  have q18 : (gs M 12 18 v kd) 12 18 = upd (M 12 18) v kd := by funext x; simp [gr]
  have qfd : mFed (gs M 12 18 v kd) c = mFed M c := by unfold mFed; rw [q11, q12 13 (by decide), q12 14 (by decide)]
  have qwh : mWh (gs M 12 18 v kd) c mk = mWh M c mk := by unfold mWh; rw [q11, q11, q11, q12 4 (by decide), q12 11 (by decide)]
  have qgr : mGr (gs M 12 18 v kd) mk c = mGr M mk c := by unfold mGr; rw [qfd, q12 7 (by decide)]
  have hMI : MI (mFinish_I (gs M 12 18 v kd) F mk (nI v) c) nc nv nw := MI_finish (MI_g12 hM (by decide))
  generalize hM1 : gs M 12 18 v kd = M1 at *
  have a11 : ∀ s : Nat, s ≠ 31 ∧ s ≠ 36 ∧ s ≠ 38 ∧ s ≠ 39 ∧ s ≠ 41 ∧ s ≠ 42 → (mFinish_I M1 F mk (nI v) c) 11 0 s = M 11 0 s := fun s hs => by rw [mFin_11 hs, q11]
  have a12 : ∀ s : Nat, s ≠ 18 → s ≠ 9 ∧ s ≠ 13 ∧ s ≠ 14 ∧ s ≠ 15 ∧ s ≠ 24 ∧ s ≠ 25 ∧ s ≠ 26 ∧ s ≠ 28 → (mFinish_I M1 F mk (nI v) c) 12 s = M 12 s := fun s h1 hs => by rw [mFin_12 hs, q12 s h1]
  have a18 : (mFinish_I M1 F mk (nI v) c) 12 18 = upd (M 12 18) v kd := by rw [mFin_12 (by decide), q18]
  obtain ⟨c9, c13, c14, c15⟩ := mFin_c (M := M1) (F := F) (m := mk) (v := nI v) (c := c)
  obtain ⟨v24, v25, v26, v28⟩ := mFin_v (M := M1) (F := F) (m := mk) (v := nI v) (c := c)
  obtain ⟨t31, t36, t38, t39, t41, t42⟩ := mFin_s (M := M1) (F := F) (m := mk) (v := nI v) (c := c)
  rw [hid, q11, q12 9 (by decide)] at c9
  rw [hid, q11, q12 13 (by decide)] at c13
  rw [hid, qfd, qgr, q12 14 (by decide)] at c14
  rw [hid, q12 15 (by decide)] at c15
  rw [nI_clamp (by omega), q11, q12 24 (by decide)] at v24
  rw [nI_clamp (by omega), q12 25 (by decide)] at v25
  rw [nI_clamp (by omega), qwh, q12 26 (by decide)] at v26
  rw [nI_clamp (by omega), qgr, q12 28 (by decide)] at v28
  rw [qwh, q11] at t36 t38 t39
  rw [q11] at t41
  rw [qgr, q11] at t42
  generalize mFinish_I M1 F mk (nI v) c = M2 at *
  obtain ⟨f4a, f4b, f4c, f4d⟩ := bFinish_4 (C := C) (F := F) (v := v) (i := i) (kd := kd) (mk := mk)
  have f4s : ∀ j s : Nat, j ≠ i ∨ (s ≠ 9 ∧ s ≠ 11 ∧ s ≠ 12 ∧ s ≠ 13) → (bFinish C F v i kd mk) 4 j s = C 4 j s := fun j s hs => bFinish_4s hs
  obtain ⟨f7a, f7b, f7c, f7d, f7e⟩ := bFinish_7 (C := C) (F := F) (v := v) (i := i) (kd := kd) (mk := mk)
  have f7w : ∀ w : Nat, w ≠ v → (bFinish C F v i kd mk) 7 w = C 7 w := fun w hw => bFinish_7w hw
  have f7s : ∀ w s : Nat, s ≠ 5 ∧ s ≠ 7 ∧ s ≠ 8 ∧ s ≠ 9 ∧ s ≠ 11 → (bFinish C F v i kd mk) 7 w s = C 7 w s := fun w s hs => bFinish_70 hs
  obtain ⟨f0a, f0b⟩ := bFinish_00 (C := C) (F := F) (v := v) (i := i) (kd := kd) (mk := mk)
  have f0 : ∀ s : Nat, s ≠ 9 ∧ s ≠ 10 → (bFinish C F v i kd mk) 0 0 s = C 0 0 s := fun s hs => bFinish_0 hs
  have f3 := bFinish_3 (C := C) (F := F) (v := v) (i := i) (kd := kd) (mk := mk)
  have fk : ∀ k : Nat, k ≠ 0 ∧ k ≠ 3 ∧ k ≠ 4 ∧ k ≠ 7 → (bFinish C F v i kd mk) k = C k := fun k hk => bFinish_k hk
  rw [hgr] at f7e f0b f4d
  rw [hfd] at f4d
  rw [w1] at f7d
  generalize bFinish C F v i kd mk = C2 at *
  obtain ⟨s1, s2, s3, s4, s5, s6, s7, s8, s9, s10⟩ := hS
  refine ⟨hCn, hMI, FW_none hF, ?_, ?_, ?_, ?_, ?_, ?_, ?_, ?_, ?_, ?_, fun j hj s hs => by rw [fk 5 (by decide)]; exact hT j hj s hs⟩
  · refine ⟨?_, ?_, ?_, ?_, ?_, ?_, ?_, ?_, ?_, ?_⟩
    · rw [a11 1 (by decide), f0 7 (by decide)]; exact s1
    · rw [a11 2 (by decide), f0 8 (by decide)]; exact s2
    · rw [f0 8 (by decide)]; exact s3
    · rw [t36, f3, w3, s4]
    · rw [a11 37 (by decide), f3, w2]; exact s5
    · rw [t38, f3, w4, s6]
    · rw [t39, f3, w5, s7]
    · rw [a11 40 (by decide), f3, w6]; exact s8
    · rw [t41, f0a, s9]
    · rw [t42, f0b, s10]
  · intro j hj
    obtain ⟨r1, r2, r3, r4, r5, r6, r7, r8, r9, r10, r11, r12⟩ := hRC j hj
    have n4 : ∀ s : Nat, s ≠ 9 ∧ s ≠ 11 ∧ s ≠ 12 ∧ s ≠ 13 → C2 4 j s = C 4 j s := fun s hs => f4s j s (Or.inr hs)
    refine ⟨?_, ?_, ?_, ?_, ?_, ?_, ?_, ?_, ?_, ?_, ?_, ?_⟩
    · rw [a12 4 (by decide) (by decide), n4 0 (by decide)]; exact r1
    · rw [a12 5 (by decide) (by decide), n4 1 (by decide)]; exact r2
    · rw [a12 6 (by decide) (by decide), n4 2 (by decide)]; exact r3
    · rw [a12 7 (by decide) (by decide), n4 3 (by decide)]; exact r4
    · rw [a12 8 (by decide) (by decide), n4 8 (by decide)]; exact r5
    · by_cases e : j = i
      · subst e; rw [c9, upd_self, f4a, b2]
      · rw [c9, upd_ne e, f4s j 9 (Or.inl e)]; exact r6
    · rw [a12 10 (by decide) (by decide), n4 10 (by decide)]; exact r7
    · rw [a12 11 (by decide) (by decide), n4 7 (by decide)]; exact r8
    · by_cases e : j = i
      · subst e; rw [c15, upd_self, f4b, r9]
      · rw [c15, upd_ne e, f4s j 11 (Or.inl e)]; exact r9
    · rw [a12 16 (by decide) (by decide), n4 6 (by decide)]; exact r10
    · intro s hs
      rw [a12 12 (by decide) (by decide), fk 5 (by decide)]; exact r11 s hs
    · by_cases e : j = i
      · subst e
        left
        rw [c13, upd_self, f4c, c14, upd_self, f4d, s1]
        exact ⟨rfl, rfl⟩
      · rw [c13, upd_ne e, c14, upd_ne e, f4s j 13 (Or.inl e), f4s j 12 (Or.inl e)]; exact r12
  · intro j h1 h2
    have e : j ≠ i := by omega
    obtain ⟨u1, u2, u3, u4, u5⟩ := hU j h1 h2
    refine ⟨by rw [c9, upd_ne e]; exact u1, by rw [a12 11 (by decide) (by decide)]; exact u2, by rw [c15, upd_ne e]; exact u3, by rw [a12 16 (by decide) (by decide)]; exact u4, fun s hs => by rw [a12 12 (by decide) (by decide)]; exact u5 s hs⟩
  · intro w hw
    obtain ⟨r1, r2, r3, r4, r5, r6, r7, r8, r9, r10, r11, r12⟩ := hV w hw
    have m19 := a12 19 (by decide) (by decide)
    have n7 : ∀ s : Nat, s ≠ 5 ∧ s ≠ 7 ∧ s ≠ 8 ∧ s ≠ 9 ∧ s ≠ 11 → C2 7 w s = C 7 w s := fun s hs => f7s w s hs
    refine ⟨?_, by rw [m19, n7 0 (by decide)]; exact r2, by rw [a12 20 (by decide) (by decide), n7 2 (by decide)]; exact r3, by rw [a12 21 (by decide) (by decide), n7 3 (by decide)]; exact r4, by rw [a12 22 (by decide) (by decide), n7 4 (by decide)]; exact r5, by rw [a12 23 (by decide) (by decide), n7 6 (by decide)]; exact r6, ?_, ?_, ?_, by rw [a12 27 (by decide) (by decide), n7 10 (by decide)]; exact r10, ?_, by rw [m19, a12 4 (by decide) (by decide), n7 1 (by decide)]; exact r12⟩
    · by_cases e : w = v
      · subst e; rw [a18, upd_self, f7a]
      · rw [a18, upd_ne e, f7w w e]; exact r1
    · by_cases e : w = v
      · subst e; rw [v24, upd_self, f7b, s1]
      · rw [v24, upd_ne e, f7w w e]; exact r7
    · by_cases e : w = v
      · subst e; rw [v25, upd_self, f7c]
      · rw [v25, upd_ne e, f7w w e]; exact r8
    · by_cases e : w = v
      · subst e; rw [v26, upd_self, f7d]
      · rw [v26, upd_ne e, f7w w e]; exact r9
    · by_cases e : w = v
      · subst e; rw [v28, upd_self, f7e]
      · rw [v28, upd_ne e, f7w w e]; exact r11
  · intro j hj
    rw [a12 30 (by decide) (by decide), qv_gf]; exact hQ j hj
  · exact Or.inl ⟨gf_self, t31⟩
  · obtain ⟨n1, n2, n3⟩ := hN
    refine ⟨?_, ?_, ?_⟩
    · rw [f0 11 (by decide), n1]
      exact gSum_congr (fun j hj => by unfold mAl; rw [a12 22 (by decide) (by decide)])
    · rw [f0 12 (by decide), n2]
      refine gSum_congr (fun j hj => ?_)
      unfold mRf
      by_cases e : j = v
      · subst e
        rw [a18, upd_self, if_neg hkd, hVv.1, b12]
        rfl
      · rw [a18, upd_ne e]
    · rw [f0 13 (by decide), n3]
      have : mWt M2 = mWt M := by funext j; unfold mWt; rw [a12 23 (by decide) (by decide), a12 20 (by decide) (by decide)]
      rw [this]
  · refine ⟨by rw [f0 7 (by decide)]; exact g1, by rw [f0 7 (by decide)]; exact g2, by rw [f3, w2]; exact g3, by rw [f3, w2]; exact g4, by rw [f3, w3]; exact w7, by rw [f3, w3, w2]; exact w8, fun j hj => ?_⟩
    obtain ⟨x1, x2, x3, x4, x5, x6, x7, x8⟩ := g7 j hj
    rw [f0 7 (by decide), f4s j 1 (Or.inr (by decide)), f4s j 8 (Or.inr (by decide))]
    by_cases e : j = i
    · subst e
      obtain ⟨A, hA, eA⟩ := nI_ofB (x := C 2 0 1) (b := 400) b6 (by omega) (by decide)
      obtain ⟨B, hB2, eB⟩ := nI_ofB (x := mk) (b := 400) m1 (by omega) (by decide)
      rw [f4a, f4b]
      have y1 : (C 2 0 1 - mk).toInt = (C 2 0 1).toInt - mk.toInt := by rw [eA, eB, pk_sub_toInt (by omega) (by omega), nI_toInt (by omega), nI_toInt (by omega)]
      refine ⟨x1, x2, by rw [y1]; omega, by rw [y1]; omega, x5, x6, ?_⟩
      obtain ⟨D, hD2, eD⟩ := nI_ofB (x := C 4 j 11) (b := 400 * t) x7 (by omega) (by omega)
      rw [eD, eB, nI_add, nI_toInt (by omega)]
      rw [eD] at x8
      rw [nI_toInt (by omega)] at x8
      rw [eB, nI_toInt (by omega)] at m2
      omega
    · rw [f4s j 9 (Or.inl e), f4s j 11 (Or.inl e)]
      exact ⟨x1, x2, x3, x4, x5, x6, x7, by omega⟩
  · refine ⟨fun j k hj hk => ?_, fun j hj => ?_, fun z => absurd gf_self z⟩
    · rw [qv_gf, qv_gf, f7s _ 0 (by decide), f7s _ 0 (by decide)]; exact hD.1 j k hj hk
    · have := hD.2.1 j hj
      rw [qv_gf, f7w _ (eqn j hj), f0 7 (by decide)]
      exact this
  · intro j hj
    have := hR j hj
    unfold RR1 at this ⊢
    rw [fk 6 (by decide), f4s j 6 (Or.inr (by decide)), rdL_congr (a12 19 (by decide) (by decide)) (a12 21 (by decide) (by decide))]
    exact this
