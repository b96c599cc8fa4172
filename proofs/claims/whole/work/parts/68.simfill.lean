def shi (a j : Nat) : Nat := if a ≤ j then j + 1 else j
theorem shi_lt {a j nw : Nat} (h : j < nw - 1) : shi a j < nw := by unfold shi; split <;> omega
theorem shi_ne {a j : Nat} : shi a j ≠ a := by unfold shi; split <;> omega
theorem shi_inj {a j k : Nat} (h : shi a j = shi a k) : j = k := by unfold shi at h; split at h <;> split at h <;> omega
theorem qv_sh {F : gF} {a w j : Nat} {o : Option Nat} (h : j < w) : qv (gf (gSh F a w) 1 0 o) j = qv F (shi a j) := by
  rw [qv_gf]
  unfold qv gSh shi
  by_cases e : a ≤ j
  · rw [if_pos ⟨rfl, e, h⟩, if_pos e]
  · rw [if_neg (fun z => e z.2.1), if_neg e]
theorem gShift_sh {r : Nat → Int32} {a w j : Nat} (h : j < w) : gShift r a w j = r (shi a j) := by
  unfold gShift shi
  by_cases e : a ≤ j
  · rw [if_pos ⟨e, h⟩, if_pos e]
  · rw [if_neg (fun z => e z.1), if_neg e]
theorem FW_sh {F : gF} {lc ln a w v : Nat} (h : FW F lc ln) (hv : v < ln) : FW (gf (gSh F a w) 1 0 (some v)) lc ln := by
  refine ⟨fun j x hx => ?_, fun k j x hk hx => ?_⟩
  · rw [gf_k (by decide)] at hx
    unfold gSh at hx
    rw [if_neg (fun z => absurd z.1 (by decide))] at hx
    exact h.1 j x hx
  · by_cases e : k = 1 ∧ j = 0
    · obtain ⟨rfl, rfl⟩ := e
      rw [gf_self] at hx
      cases hx
      exact hv
    · unfold gf at hx
      rw [if_neg e] at hx
      unfold gSh at hx
      by_cases q : k = 0 ∧ a ≤ j ∧ j < w
      · rw [if_pos q] at hx
        exact h.2 0 _ x (by decide) hx
      · rw [if_neg q] at hx
        exact h.2 k j x hk hx
theorem bv_gf {F : gF} {v : Nat} : bv (gf F 1 0 (some v)) = v := by unfold bv; rw [gf_self]; rfl
theorem tz {f : Nat → Int32} {i j s : Nat} (hs : s < 4) : upd (upd (upd (upd f (4 * i + 0) 0) (4 * i + 1) 0) (4 * i + 2) 0) (4 * i + 3) 0 (4 * j + s) = if j = i then 0 else f (4 * j + s) := by
  by_cases e : j = i
  · subst e
    rw [if_pos rfl]
    have : s = 0 ∨ s = 1 ∨ s = 2 ∨ s = 3 := by omega
    rcases this with rfl | rfl | rfl | rfl <;> simp [upd]
  · rw [if_neg e, upd_ne (by omega), upd_ne (by omega), upd_ne (by omega), upd_ne (by omega)]
set_option maxHeartbeats 2000000 in
theorem sim_fillB {C M : gI} {F : gF} {nc nv nw t : Nat} (h : Rel C M F nc nv nw t) (hp : ¬ C 0 0 8 = 0) (hb : F 1 0 = none) (h0 : 0 < nw) : Rel (bFill_I C F nw) (mEnter M F nw) (bFill_F C F nw) nc nv (nw - 1) t := by
  have hch := sim_ch h
  have hCn := CI_fill h.1
  have hMn := MI_enter (F := F) h.2.1
  have hbu : bBusy_r C F = 0 := by unfold bBusy_r; rw [if_pos hb]
  have enw : nwB C F nw = nw - 1 := by unfold nwB; rw [if_neg hp, if_pos hbu]
  obtain ⟨hC, hM, hF, hS, hRC, hU, hV, hQ, hB, hN, hG, hD, hR, hT⟩ := h
  have m31 : M 11 0 31 = -9 := by
    rcases hB with ⟨-, q⟩ | ⟨q, -⟩
    · exact q
    · exact absurd hb q
  have m2 : ¬ M 11 0 2 = 0 := by rw [hS.2.1]; exact hp
  have m29 : ¬ M 11 0 29 = 0 := by rw [hM.2.2.2.2.2.1]; exact nI_ne0 h0 (by have := hM.2.2.2.2.2.2.1; omega)
  have enw2 : nwE M nw = nw - 1 := by unfold nwE; rw [if_pos m31, if_neg m2, if_neg m29]
  rw [enw] at hCn
  rw [enw2] at hMn
  have eI : bFill_I C F nw = bFillB (gs C 1 0 1 (C 1 0 1 - 1)) (gSh F (bCh C F nw (C 0 0 7)) (nw - 1)) (qv F (bCh C F nw (C 0 0 7))) (C 7 (qv F (bCh C F nw (C 0 0 7))) 0).toNatClampNeg := by unfold bFill_I; rw [if_neg hp, if_pos hbu, if_neg (by omega)]
  have eF : bFill_F C F nw = gf (gSh F (bCh C F nw (C 0 0 7)) (nw - 1)) 1 0 (some (qv F (bCh C F nw (C 0 0 7)))) := by unfold bFill_F; rw [if_neg hp, if_pos hbu, if_neg (by omega)]
  have eM : mEnter M F nw = mEnterB M F nw := by unfold mEnter; rw [if_pos m31, if_neg m2, if_neg m29]
  rw [eI, eF] at hCn
  rw [eM] at hMn
  rw [eI, eF, eM]
  have ha : bCh C F nw (C 0 0 7) < nw := gSt_getD h0
  unfold mEnterB at hMn ⊢
  rw [← hch] at hMn ⊢
  generalize bCh C F nw (C 0 0 7) = a at *
  have hva := (hC.2.2.2.2.2.2.2.2.2.2.1 a ha).2
  have hvc := hC.2.2.2.2.2.2.2.2.2.2.2.2 _ hva
  have h500 := hC.2.2.2.2.2.1
  have hVa := hV _ hva
  rw [hQ a ha, nI_clamp (by omega), hVa.2.1] at hMn ⊢
  obtain ⟨d6, d5, d2a, d2b⟩ := hD.2.1 a ha
  have hvn : ∀ j : Nat, j < nw → j ≠ a → ¬ C 7 (qv F j) 0 = C 7 (qv F a) 0 := fun j hj hn z => hn (hD.1 j a hj ha z)
  have hvq : ∀ j : Nat, j < nw → j ≠ a → qv F j ≠ qv F a := fun j hj hn z => hvn j hj hn (by rw [z])
  generalize hvd : qv F a = v at *
  generalize hcd : C 7 v 0 = c at *
  have hi := vp_lt hvc
  generalize hid : c.toNatClampNeg = i at *
  have hRi := hRC i hi
  obtain ⟨g1, g2, g3, g4, g5, g6, g7⟩ := hG
  obtain ⟨x1, x2, x3, x4, x5, x6, x7, x8⟩ := g7 i hi
  have hTi := hT i hi
  have hhas := sim_has (F := F) hS.1 hRi hid
  obtain ⟨H, hH, eH⟩ := has_b (F := F) x1 x2 x3 x4 x5 x6 g2
  have hJ : bMilkAt_r (gs C 1 0 1 (C 1 0 1 - 1)) (gSh F a (nw - 1)) i (C 0 0 7) = nI H := by rw [← eH]; unfold bMilkAt_r; simp [gr]
  rw [eH] at hhas
  -- the class
  have j0 : ∀ k : Nat, k ≠ 1 → (gs C 1 0 1 (C 1 0 1 - 1)) k = C k := fun k hk => by funext x; simp [gr, hk]
  have hqv : ∀ j : Nat, j < nw - 1 → qv (gf (gSh F a (nw - 1)) 1 0 (some v)) j = qv F (shi a j) := fun j hj => qv_sh hj
  have hFn : FW (gf (gSh F a (nw - 1)) 1 0 (some v)) nc nv := FW_sh hF hva
  generalize gs C 1 0 1 (C 1 0 1 - 1) = J at *
  generalize gSh F a (nw - 1) = G at *
  obtain ⟨p1, p2, p3, p4⟩ := bFil_2 (J := J) (G := G) (v := v) (i := i)
  obtain ⟨p5, p6, p7, p8, p9⟩ := bFil_0 (J := J) (G := G) (v := v) (i := i)
  obtain ⟨p10, p11, p12, p13⟩ := bFil_4 (J := J) (G := G) (v := v) (i := i)
  obtain ⟨p14, p15⟩ := bFil_5 (J := J) (G := G) (v := v) (i := i)
  obtain ⟨p16, p17, p18⟩ := bFil_7 (J := J) (G := G) (v := v) (i := i)
  rw [j0 0 (by decide)] at p1 p2 p3 p4 p5 p10 p11 p16
  rw [hJ] at p1 p2 p4
  rw [j0 5 (by decide)] at p2 p3 p4 p15 p17
  rw [j0 7 (by decide)] at p5 p18
  rw [j0 0 (by decide)] at p6
  rw [j0 3 (by decide)] at p8
  rw [j0 6 (by decide)] at p9
  rw [j0 4 (by decide)] at p13
  generalize bFillB J G v i = C2 at *
  -- the reference
  have hf : ∀ s : Nat, s < 4 → (fun s => M 12 12 (4 * c.toNatClampNeg + s)) s = C 5 i s := fun s hs => by
    show M 12 12 (4 * c.toNatClampNeg + s) = C 5 i s
    rw [hid]; exact hRi.2.2.2.2.2.2.2.2.2.2.1 s hs
  obtain ⟨q1, q2, q3, q4, q5⟩ := mBeg_11 (M := M) (F := F) (v := nI v) (c := c) _ rfl
  obtain ⟨u1, u2, u3, u4, u5, u6⟩ := mBeg_12 (M := M) (F := F) (v := nI v) (c := c) _ rfl
  have eDu : ∀ y : Int32, tDu (fun s => M 12 12 (4 * c.toNatClampNeg + s)) y = tDu (C 5 i) y := fun y => by unfold tDu; rw [hf 0 (by decide), hf 1 (by decide), hf 2 (by decide), hf 3 (by decide)]
  have eAh : tAh (fun s => M 12 12 (4 * c.toNatClampNeg + s)) = tAh (C 5 i) := by unfold tAh; rw [hf 0 (by decide), hf 1 (by decide), hf 2 (by decide), hf 3 (by decide)]
  have eLo : tLo (fun s => M 12 12 (4 * c.toNatClampNeg + s)) = tLo (C 5 i) := by unfold tLo; rw [hf 0 (by decide), hf 1 (by decide), hf 2 (by decide), hf 3 (by decide)]
  rw [← hhas] at q2
  rw [← hhas, eDu] at q3
  rw [eAh] at q4
  rw [← hhas, eAh, eDu, hS.1] at q5
  rw [nI_clamp (by omega), hS.1] at u1
  rw [nI_clamp (by omega), eLo] at u2
  rw [hid, hS.1] at u3 u4
  rw [hid] at u5 u6
  have k11 : ∀ s : Nat, s ≠ 29 → (gr (gs (mBegin_I M F (nI v) c) 11 0 29 (nI nw - 1)) 12 30 (gShift (M 12 30) a (nw - 1))) 11 0 s = (mBegin_I M F (nI v) c) 11 0 s := fun s hs => by simp [gr, upd, hs]
  have k12 : ∀ s : Nat, s ≠ 30 → (gr (gs (mBegin_I M F (nI v) c) 11 0 29 (nI nw - 1)) 12 30 (gShift (M 12 30) a (nw - 1))) 12 s = (mBegin_I M F (nI v) c) 12 s := fun s hs => by funext x; simp [gr, hs]
  have k30 : (gr (gs (mBegin_I M F (nI v) c) 11 0 29 (nI nw - 1)) 12 30 (gShift (M 12 30) a (nw - 1))) 12 30 = gShift (M 12 30) a (nw - 1) := by funext x; simp [gr]
  have l11 : ∀ s : Nat, s ≠ 29 → s ≠ 31 ∧ s ≠ 32 ∧ s ≠ 33 ∧ s ≠ 34 ∧ s ≠ 35 → (gr (gs (mBegin_I M F (nI v) c) 11 0 29 (nI nw - 1)) 12 30 (gShift (M 12 30) a (nw - 1))) 11 0 s = M 11 0 s := fun s h1 h2 => by rw [k11 s h1, mBeg_11s h2]
  have l12 : ∀ s : Nat, s ≠ 30 → s ≠ 8 ∧ s ≠ 9 ∧ s ≠ 10 ∧ s ≠ 12 ∧ s ≠ 23 ∧ s ≠ 27 → (gr (gs (mBegin_I M F (nI v) c) 11 0 29 (nI nw - 1)) 12 30 (gShift (M 12 30) a (nw - 1))) 12 s = M 12 s := fun s h1 h2 => by rw [k12 s h1, mBeg_12s h2]
  rw [← k11 31 (by decide)] at q1
  rw [← k11 32 (by decide)] at q2
  rw [← k11 33 (by decide)] at q3
  rw [← k11 34 (by decide)] at q4
  rw [← k11 35 (by decide)] at q5
  rw [← k12 23 (by decide)] at u1
  rw [← k12 27 (by decide)] at u2
  rw [← k12 10 (by decide)] at u3
  rw [← k12 8 (by decide)] at u4
  rw [← k12 9 (by decide)] at u5
  rw [← k12 12 (by decide)] at u6
  clear k11 k12
  generalize gr (gs (mBegin_I M F (nI v) c) 11 0 29 (nI nw - 1)) 12 30 (gShift (M 12 30) a (nw - 1)) = M2 at *
  obtain ⟨s1, s2, s3, s4, s5, s6, s7, s8, s9, s10⟩ := hS
  have ebv : bv (gf G 1 0 (some v)) = v := bv_gf
  have hnn : ¬ gf G 1 0 (some v) 1 0 = none := by rw [gf_self]; intro z; cases z
  refine ⟨hCn, hMn, hFn, ?_, ?_, ?_, ?_, ?_, ?_, ?_, ?_, ?_, ?_, ?_⟩
  · refine ⟨?_, ?_, ?_, ?_, ?_, ?_, ?_, ?_, ?_, ?_⟩
    · rw [l11 1 (by decide) (by decide), p6 7 (by decide)]; exact s1
    · rw [l11 2 (by decide) (by decide), p6 8 (by decide)]; exact s2
    · rw [p6 8 (by decide)]; exact s3
    · rw [l11 36 (by decide) (by decide), p8]; exact s4
    · rw [l11 37 (by decide) (by decide), p8]; exact s5
    · rw [l11 38 (by decide) (by decide), p8]; exact s6
    · rw [l11 39 (by decide) (by decide), p8]; exact s7
    · rw [l11 40 (by decide) (by decide), p8]; exact s8
    · rw [l11 41 (by decide) (by decide), p6 9 (by decide)]; exact s9
    · rw [l11 42 (by decide) (by decide), p6 10 (by decide)]; exact s10
  · intro j hj
    obtain ⟨r1, r2, r3, r4, r5, r6, r7, r8, r9, r10, r11, r12⟩ := hRC j hj
    have n4 : ∀ s : Nat, s ≠ 8 ∧ s ≠ 9 ∧ s ≠ 10 → C2 4 j s = C 4 j s := fun s hs => p13 j s (Or.inr hs)
    refine ⟨?_, ?_, ?_, ?_, ?_, ?_, ?_, ?_, ?_, ?_, ?_, ?_⟩
    · rw [l12 4 (by decide) (by decide), n4 0 (by decide)]; exact r1
    · rw [l12 5 (by decide) (by decide), n4 1 (by decide)]; exact r2
    · rw [l12 6 (by decide) (by decide), n4 2 (by decide)]; exact r3
    · rw [l12 7 (by decide) (by decide), n4 3 (by decide)]; exact r4
    · by_cases e : j = i
      · subst e; rw [u4, upd_self, p11]
      · rw [u4, upd_ne e, p13 j 8 (Or.inl e)]; exact r5
    · by_cases e : j = i
      · subst e; rw [u5, upd_self, p12]
      · rw [u5, upd_ne e, p13 j 9 (Or.inl e)]; exact r6
    · by_cases e : j = i
      · subst e; rw [u3, upd_self, p10]
      · rw [u3, upd_ne e, p13 j 10 (Or.inl e)]; exact r7
    · rw [l12 11 (by decide) (by decide), n4 7 (by decide)]; exact r8
    · rw [l12 15 (by decide) (by decide), n4 11 (by decide)]; exact r9
    · rw [l12 16 (by decide) (by decide), n4 6 (by decide)]; exact r10
    · intro s hs
      rw [u6, tz hs]
      by_cases e : j = i
      · subst e; rw [if_pos rfl, p14 s hs]
      · rw [if_neg e, p15 j e]; exact r11 s hs
    · rw [l12 13 (by decide) (by decide), l12 14 (by decide) (by decide), n4 13 (by decide), n4 12 (by decide)]; exact r12
  · intro j h1 h2
    have e : j ≠ i := by omega
    obtain ⟨y1, y2, y3, y4, y5⟩ := hU j h1 h2
    refine ⟨by rw [u5, upd_ne e]; exact y1, by rw [l12 11 (by decide) (by decide)]; exact y2, by rw [l12 15 (by decide) (by decide)]; exact y3, by rw [l12 16 (by decide) (by decide)]; exact y4, fun s hs => by rw [u6, tz hs, if_neg e]; exact y5 s hs⟩
  · intro w hw
    obtain ⟨r1, r2, r3, r4, r5, r6, r7, r8, r9, r10, r11, r12⟩ := hV w hw
    have m19 := l12 19 (by decide) (by decide)
    have n7 : ∀ s : Nat, s ≠ 6 ∧ s ≠ 10 → C2 7 w s = C 7 w s := fun s hs => p18 w s (Or.inr hs)
    refine ⟨by rw [l12 18 (by decide) (by decide), n7 5 (by decide)]; exact r1, by rw [m19, n7 0 (by decide)]; exact r2, by rw [l12 20 (by decide) (by decide), n7 2 (by decide)]; exact r3, by rw [l12 21 (by decide) (by decide), n7 3 (by decide)]; exact r4, by rw [l12 22 (by decide) (by decide), n7 4 (by decide)]; exact r5, ?_, by rw [l12 24 (by decide) (by decide), n7 7 (by decide)]; exact r7, by rw [l12 25 (by decide) (by decide), n7 8 (by decide)]; exact r8, by rw [l12 26 (by decide) (by decide), n7 9 (by decide)]; exact r9, ?_, by rw [l12 28 (by decide) (by decide), n7 11 (by decide)]; exact r11, by rw [m19, l12 4 (by decide) (by decide), n7 1 (by decide)]; exact r12⟩
    · by_cases e : w = v
      · subst e; rw [u1, upd_self, p16]
      · rw [u1, upd_ne e, p18 w 6 (Or.inl e)]; exact r6
    · by_cases e : w = v
      · subst e; rw [u2, upd_self, p17]
      · rw [u2, upd_ne e, p18 w 10 (Or.inl e)]; exact r10
  · intro j hj
    rw [k30, gShift_sh hj, hqv j hj]
    exact hQ _ (shi_lt hj)
  · obtain ⟨D, hD1, hD2⟩ := du_b (C 5 i) hH
    obtain ⟨z1, z2⟩ := end_b (f := C 5 i) (x := C 0 0 7) hTi hH g1 g2
    obtain ⟨z3, z4⟩ := beg_b (f := C 5 i) (x := C 0 0 7) hTi g1 g2
    refine Or.inr ⟨hnn, ?_, ?_, ?_, ?_, ?_, ?_, ?_, ?_, ?_, ?_, ?_, ?_, ?_, ?_⟩
    · rw [q1, ebv]
    · rw [q2, p1]
    · rw [q3, p2]
    · rw [q5, p4]
    · rw [ebv, p3, q4, u1, upd_self]
    · rw [p1, nI_toInt (by omega)]; omega
    · rw [p1, nI_toInt (by omega)]; omega
    · rw [p2, hD2, nI_toInt (by omega)]; omega
    · rw [p2, hD2, p1, nI_toInt (by omega), nI_toInt (by omega)]; omega
    · rw [p6 7 (by decide), p4]; exact z1
    · rw [p4]; exact z2
    · rw [p3]; exact z3
    · rw [p3]; exact z4
    · rw [ebv, p18 v 5 (Or.inr (by decide))]; exact d5
  · obtain ⟨n1, n2, n3⟩ := hN
    refine ⟨?_, ?_, ?_⟩
    · rw [p6 11 (by decide), n1]
      exact gSum_congr (fun j hj => by unfold mAl; rw [l12 22 (by decide) (by decide)])
    · rw [p6 12 (by decide), n2]
      exact gSum_congr (fun j hj => by unfold mRf; rw [l12 18 (by decide) (by decide)])
    · rw [p5, n3]
      obtain ⟨N, hN2, eN⟩ := nI_ofB (x := C 0 0 7) (b := 100000) g1 (by omega) (by decide)
      obtain ⟨A, hA2, eA⟩ := nI_ofB (x := C 7 v 2) (b := 100000) d2a (by omega) (by decide)
      rw [eN, eA, nI_toInt (by omega), nI_toInt (by omega)] at d2b
      have e1 : C 0 0 7 - C 7 v 2 = nI (N - A) := by rw [eN, eA, pk_sub (by omega)]
      refine (gMax_upd (v := v) ?_ ?_ ?_ ?_ nv hva).symm
      · unfold mWt
        rw [hVa.2.2.2.2.2.1, d6, if_pos rfl]
      · unfold mWt
        rw [u1, upd_self, l12 20 (by decide) (by decide), hVa.2.2.1, if_neg (by rw [eN]; exact nI_ne9 (by omega))]
      · intro j hj
        unfold mWt
        rw [u1, upd_ne hj, l12 20 (by decide) (by decide)]
      · rw [e1, nI_toInt (by omega)]; omega
  · refine ⟨by rw [p6 7 (by decide)]; exact g1, by rw [p6 7 (by decide)]; exact g2, by rw [p8]; exact g3, by rw [p8]; exact g4, by rw [p8]; exact g5, by rw [p8]; exact g6, fun j hj => ?_⟩
    obtain ⟨x1, x2, x3, x4, x5, x6, x7, x8⟩ := g7 j hj
    rw [p6 7 (by decide), p13 j 1 (Or.inr (by decide)), p13 j 11 (Or.inr (by decide))]
    by_cases e : j = i
    · subst e
      rw [p11, p12]
      exact ⟨x1, x2, by decide, by decide, g1, Int.le_refl _, x7, x8⟩
    · rw [p13 j 8 (Or.inl e), p13 j 9 (Or.inl e)]
      exact ⟨x1, x2, x3, x4, x5, x6, x7, x8⟩
  · refine ⟨fun j k hj hk z => ?_, fun j hj => ?_, fun _ j hj z => ?_⟩
    · rw [hqv j hj, hqv k hk, p18 _ 0 (Or.inr (by decide)), p18 _ 0 (Or.inr (by decide))] at z
      exact shi_inj (hD.1 _ _ (shi_lt hj) (shi_lt hk) z)
    · have := hD.2.1 _ (shi_lt (a := a) hj)
      have e : qv F (shi a j) ≠ v := hvq _ (shi_lt hj) shi_ne
      rw [hqv j hj, p18 _ 6 (Or.inl e), p18 _ 5 (Or.inl e), p18 _ 2 (Or.inl e), p6 7 (by decide)]
      exact this
    · rw [hqv j hj, ebv, p18 _ 0 (Or.inr (by decide)), p18 _ 0 (Or.inr (by decide)), hcd] at z
      exact hvn _ (shi_lt hj) shi_ne z
  · intro j hj
    have := hR j hj
    unfold RR1 at this ⊢
    rw [p9, p13 j 6 (Or.inr (by decide)), rdL_congr (l12 19 (by decide) (by decide)) (l12 21 (by decide) (by decide))]
    exact this
  · intro j hj s hs
    by_cases e : j = i
    · subst e; rw [p14 s hs]; decide
    · rw [p15 j e]; exact hT j hj s hs
/-- the next one enters, where one may: both sides -/
theorem sim_fill {C M : gI} {F : gF} {nc nv nw t : Nat} (h : Rel C M F nc nv nw t) : Rel (bFill_I C F nw) (mEnter M F nw) (bFill_F C F nw) nc nv (nwB C F nw) t ∧ nwE M nw = nwB C F nw := by
  have h' := h
  obtain ⟨hC, hM, hF, hS, hRC, hU, hV, hQ, hB, -⟩ := h
  have h12 := hM.2.2.2.2.2.2.1
  by_cases hp : C 0 0 8 = 0
  · have m2 : M 11 0 2 = 0 := by rw [hS.2.1]; exact hp
    have e1 : mEnter M F nw = M := by unfold mEnter; rw [if_pos m2]; split <;> rfl
    have e2 : nwE M nw = nw := by unfold nwE; rw [if_pos m2]; split <;> rfl
    unfold bFill_I bFill_F nwB
    rw [if_pos hp, if_pos hp, if_pos hp, e1, e2]
    exact ⟨h', rfl⟩
  · have m2 : ¬ M 11 0 2 = 0 := by rw [hS.2.1]; exact hp
    by_cases hb : F 1 0 = none
    · have hbu : bBusy_r C F = 0 := by unfold bBusy_r; rw [if_pos hb]
      have m31 : M 11 0 31 = -9 := by
        rcases hB with ⟨-, q⟩ | ⟨q, -⟩
        · exact q
        · exact absurd hb q
      have enw : nwB C F nw = nw - 1 := by unfold nwB; rw [if_neg hp, if_pos hbu]
      rw [enw]
      by_cases h0 : nw = 0
      · subst h0
        have m29 : M 11 0 29 = 0 := hM.2.2.2.2.2.1
        unfold bFill_I bFill_F mEnter nwE
        rw [if_neg hp, if_pos hbu, if_pos rfl, if_neg hp, if_pos hbu, if_pos rfl, if_pos m31, if_neg m2, if_pos m29, if_pos m31, if_neg m2, if_pos m29]
        exact ⟨h', rfl⟩
      · refine ⟨sim_fillB h' hp hb (by omega), ?_⟩
        unfold nwE
        rw [if_pos m31, if_neg m2, if_neg (by rw [hM.2.2.2.2.2.1]; exact nI_ne0 (by omega) (by omega))]
    · have hbu : ¬ bBusy_r C F = 0 := by unfold bBusy_r; rw [if_neg hb]; decide
      have m31 : ¬ M 11 0 31 = -9 := by
        rcases hB with ⟨q, -⟩ | ⟨-, q, -⟩
        · exact absurd q hb
        · rw [q]; have := (hC.2.2.2.2.2.2.2.2.2.2.2.1 hb).2; have := hC.2.2.2.2.2.1; exact nI_ne9 (by omega)
      unfold bFill_I bFill_F mEnter nwE nwB
      rw [if_neg hp, if_neg hbu, if_neg hp, if_neg hbu, if_neg hp, if_neg hbu, if_neg m31, if_neg m31]
      exact ⟨h', rfl⟩
