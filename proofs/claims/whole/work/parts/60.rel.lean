/-! THE RELATION: the class's cells (kinds 0-7, read in C) beside the reference's (kinds 11-12, read in M) -/
def RS (C M : gI) : Prop := M 11 0 1 = C 0 0 7 ∧ M 11 0 2 = C 0 0 8 ∧ (C 0 0 8 = 0 ∨ C 0 0 8 = 1) ∧ M 11 0 36 = C 3 0 1 ∧ M 11 0 37 = C 3 0 0 ∧ M 11 0 38 = C 3 0 2 ∧ M 11 0 39 = C 3 0 3 ∧ M 11 0 40 = C 3 0 4 ∧ M 11 0 41 = C 0 0 9 ∧ M 11 0 42 = C 0 0 10
def RC1 (C M : gI) (i : Nat) : Prop := M 12 4 i = C 4 i 0 ∧ M 12 5 i = C 4 i 1 ∧ M 12 6 i = C 4 i 2 ∧ M 12 7 i = C 4 i 3 ∧ M 12 8 i = C 4 i 8 ∧ M 12 9 i = C 4 i 9 ∧ M 12 10 i = C 4 i 10 ∧ M 12 11 i = C 4 i 7 ∧ M 12 15 i = C 4 i 11 ∧ M 12 16 i = C 4 i 6 ∧ (∀ t : Nat, t < 4 → M 12 12 (4 * i + t) = C 5 i t) ∧ ((M 12 13 i = C 4 i 13 ∧ M 12 14 i = C 4 i 12) ∨ (M 12 13 i = -9 ∧ C 4 i 12 = 0))
def RC (C M : gI) (nc : Nat) : Prop := ∀ i : Nat, i < nc → RC1 C M i
/-- cows that aren't there yet -/
def RU (M : gI) (nc : Nat) : Prop := ∀ i : Nat, nc ≤ i → i < 12 → M 12 9 i = 0 ∧ M 12 11 i = 0 ∧ M 12 15 i = 0 ∧ M 12 16 i = 0 ∧ ∀ t : Nat, t < 4 → M 12 12 (4 * i + t) = 0
def RV1 (C M : gI) (v : Nat) : Prop := M 12 18 v = C 7 v 5 ∧ M 12 19 v = C 7 v 0 ∧ M 12 20 v = C 7 v 2 ∧ M 12 21 v = C 7 v 3 ∧ M 12 22 v = C 7 v 4 ∧ M 12 23 v = C 7 v 6 ∧ M 12 24 v = C 7 v 7 ∧ M 12 25 v = C 7 v 8 ∧ M 12 26 v = C 7 v 9 ∧ M 12 27 v = C 7 v 10 ∧ M 12 28 v = C 7 v 11 ∧ C 7 v 1 = (if M 12 4 (M 12 19 v).toNatClampNeg = 1 then 1 else 0)
def RV (C M : gI) (nv : Nat) : Prop := ∀ v : Nat, v < nv → RV1 C M v
def RQ (M : gI) (F : gF) (nw : Nat) : Prop := ∀ j : Nat, j < nw → M 12 30 j = nI (qv F j)
/-- the box -/
def RB (C M : gI) (F : gF) : Prop := (F 1 0 = none ∧ M 11 0 31 = -9) ∨ (¬ F 1 0 = none ∧ M 11 0 31 = nI (bv F) ∧ M 11 0 32 = C 2 0 1 ∧ M 11 0 33 = C 2 0 2 ∧ M 11 0 35 = C 2 0 4 ∧ C 2 0 3 = M 12 23 (bv F) + M 11 0 34 ∧ 0 ≤ (C 2 0 1).toInt ∧ (C 2 0 1).toInt ≤ 400 ∧ 0 ≤ (C 2 0 2).toInt ∧ (C 2 0 2).toInt ≤ (C 2 0 1).toInt ∧ (C 0 0 7).toInt ≤ (C 2 0 4).toInt ∧ (C 2 0 4).toInt ≤ 200000 ∧ 0 ≤ (C 2 0 3).toInt ∧ (C 2 0 3).toInt ≤ 200000 ∧ C 7 (bv F) 5 = 1)
def RN (C M : gI) (nv : Nat) : Prop := C 0 0 11 = gSum (mAl M) nv ∧ C 0 0 12 = gSum (mRf M) nv ∧ C 0 0 13 = gMax (mWt M) nv
/-- bounds -/
def RG (C : gI) (nc t : Nat) : Prop := 0 ≤ (C 0 0 7).toInt ∧ (C 0 0 7).toInt ≤ 100000 ∧ 1 ≤ (C 3 0 0).toInt ∧ (C 3 0 0).toInt ≤ 100000 ∧ 0 ≤ (C 3 0 1).toInt ∧ (C 3 0 1).toInt ≤ (C 3 0 0).toInt ∧ ∀ i : Nat, i < nc → 1 ≤ (C 4 i 1).toInt ∧ (C 4 i 1).toInt ≤ 30 ∧ 0 ≤ (C 4 i 9).toInt ∧ (C 4 i 9).toInt ≤ 400 ∧ 0 ≤ (C 4 i 8).toInt ∧ (C 4 i 8).toInt ≤ (C 0 0 7).toInt ∧ 0 ≤ (C 4 i 11).toInt ∧ (C 4 i 11).toInt ≤ 400 * t
/-- no cow waits twice, none that waits is in the box; what waits has not begun, what is in the box has not ended -/
def RD (C : gI) (F : gF) (nw : Nat) : Prop := (∀ j k : Nat, j < nw → k < nw → C 7 (qv F j) 0 = C 7 (qv F k) 0 → j = k) ∧ (∀ j : Nat, j < nw → C 7 (qv F j) 6 = -9 ∧ C 7 (qv F j) 5 = 1 ∧ 0 ≤ (C 7 (qv F j) 2).toInt ∧ (C 7 (qv F j) 2).toInt ≤ (C 0 0 7).toInt) ∧ (¬ F 1 0 = none → ∀ j : Nat, j < nw → ¬ C 7 (qv F j) 0 = C 7 (bv F) 0)
/-- the readings of cow i among the first visits, the newest first -/
noncomputable def rdL (M : gI) (i : Nat) : Nat → List Int32
  | 0 => []
  | v + 1 => if M 12 19 v = nI i then M 12 21 v :: rdL M i v else rdL M i v
def RR1 (C M : gI) (nv i : Nat) : Prop := C 4 i 6 = nI (rdL M i nv).length ∧ (∀ j : Nat, j < 5 → j < (rdL M i nv).length → C 6 i (((rdL M i nv).length - 1 - j) % 5) = (rdL M i nv).getD j 0) ∧ ∀ s : Nat, s < 5 → (rdL M i nv).length ≤ s → C 6 i s = 0
def RR (C M : gI) (nc nv : Nat) : Prop := ∀ i : Nat, i < nc → RR1 C M nv i
/-- no trouble is below 0 -/
def RT (C : gI) (nc : Nat) : Prop := ∀ i : Nat, i < nc → ∀ s : Nat, s < 4 → 0 ≤ (C 5 i s).toInt
def Rel (C M : gI) (F : gF) (nc nv nw t : Nat) : Prop := CI C F nc nv nc nv nw ∧ MI M nc nv nw ∧ FW F nc nv ∧ RS C M ∧ RC C M nc ∧ RU M nc ∧ RV C M nv ∧ RQ M F nw ∧ RB C M F ∧ RN C M nv ∧ RG C nc t ∧ RD C F nw ∧ RR C M nc nv ∧ RT C nc
theorem nI_ne9 {n : Nat} (h : n < 2 ^ 31) : ¬ nI n = -9 := by
  intro z
  have e : (-9 : Int32).toInt = -9 := by decide
  have q := congrArg Int32.toInt z
  rw [nI_toInt h, e] at q
  omega
theorem gSum_congr {f g : Nat → Int32} : ∀ {n : Nat}, (∀ j : Nat, j < n → f j = g j) → gSum f n = gSum g n
  | 0, _ => rfl
  | n + 1, h => by
    show gSum f n + f n = gSum g n + g n
    rw [gSum_congr (fun j hj => h j (by omega)), h n (by omega)]
theorem gFind_congr {P Q : Nat → Prop} : ∀ {n j : Nat}, (∀ k : Nat, j ≤ k → k < j + n → (P k ↔ Q k)) → gFind P n j = gFind Q n j
  | 0, _, _ => rfl
  | n + 1, j, h => by
    have hj := h j (Nat.le_refl _) (by omega)
    have ih : gFind P n (j + 1) = gFind Q n (j + 1) := gFind_congr (fun k h1 h2 => h k (by omega) (by omega))
    by_cases q : P j
    · exact (if_pos q).trans (if_pos (hj.mp q)).symm
    · exact (if_neg q).trans (ih.trans (if_neg (fun z => q (hj.mpr z))).symm)
theorem gNth_congr {P Q : Nat → Prop} {i : Int32} : ∀ {n j : Nat} {s : Int32}, (∀ k : Nat, j ≤ k → k < j + n → (P k ↔ Q k)) → gNth P i n j s = gNth Q i n j s
  | 0, _, _, _ => rfl
  | n + 1, j, s, h => by
    have hj := h j (Nat.le_refl _) (by omega)
    have ih : ∀ s : Int32, gNth P i n (j + 1) s = gNth Q i n (j + 1) s := fun s => gNth_congr (fun k h1 h2 => h k (by omega) (by omega))
    by_cases q : P j
    · refine (if_pos q).trans (Eq.trans ?_ (if_pos (hj.mp q)).symm)
      rw [ih]
    · exact (if_neg q).trans ((ih s).trans (if_neg (fun z => q (hj.mpr z))).symm)
theorem Rel.no {C M : gI} {F : gF} {nc nv nw t : Nat} (h : Rel C M F nc nv nw t) (c : Int32) : mNo M c ↔ ¬ vp_in c nc := by
  obtain ⟨hC, hM, -⟩ := h
  have hn := hM.2.1
  have h12 := hM.2.2.1
  exact ⟨fun q z => q (in_mIn hn (by omega) z), fun q z => q (mIn_in hn (by omega) z)⟩
theorem pI_iff {p q : Prop} (h : p ↔ q) : pI p = pI q := by
  by_cases z : p
  · rw [pI_t z, pI_t (h.mp z)]
  · rw [pI_f z, pI_f (fun w => z (h.mpr w))]
theorem pI_no {p : Prop} : pI (¬ p) = 0 ↔ ¬ pI p = 0 := by
  rw [pI_0, pI_n0, Classical.not_not]
/-- the two ways to ask for a cow -/
theorem Rel.if_cow {α : Type} {C M : gI} {F : gF} {nc nv nw t : Nat} (h : Rel C M F nc nv nw t) (c : Int32) {x y x' y' : α} (hx : ¬ vp_in c nc → x = x') (hy : vp_in c nc → y = y') : (if pI (vp_in c nc) = 0 then x else y) = (if pI (mNo M c) = 0 then y' else x') := by
  by_cases q : vp_in c nc
  · rw [if_neg (pI_n0.mpr q), if_pos (pI_0.mpr (fun z => (h.no c).mp z q))]
    exact hy q
  · rw [if_pos (pI_0.mpr q), if_neg (pI_n0.mpr ((h.no c).mpr q))]
    exact hx q
theorem sim_taken {C M : gI} {F : gF} {nc nv nw t : Nat} (h : Rel C M F nc nv nw t) (c a b : Int32) : bTaken_r C F nc c a b = mTaken_r M F c a b := by
  unfold bTaken_r mTaken_r
  refine h.if_cow c (fun _ => rfl) (fun q => ?_)
  obtain ⟨hC, hM, hF, hS, hRC, -⟩ := h
  obtain ⟨e0, e1, e2, e3, -⟩ := hRC _ (vp_lt q)
  rw [e0, e1, e2, e3]
  by_cases z : a = C 4 c.toNatClampNeg 0
  · simp [z]
  · simp [z, Ne.symm z]
theorem sim_box {C M : gI} {F : gF} {nc nv nw t : Nat} (h : Rel C M F nc nv nw t) : bBox_r C F = mBox M := by
  obtain ⟨hC, hM, hF, hS, hRC, hU, hV, hQ, hB, -⟩ := h
  unfold bBox_r mBox
  rcases hB with ⟨h1, h2⟩ | ⟨h1, h2, -⟩
  · rw [if_pos h1, if_pos h2]
  · have hb := (hC.2.2.2.2.2.2.2.2.2.2.2.1 h1).2
    have h5 := hC.2.2.2.2.2.1
    rw [if_neg h1, if_neg (by rw [h2]; exact nI_ne9 (by omega)), h2, nI_clamp (by omega)]
    exact (hV _ hb).2.1.symm
theorem sim_ends {C M : gI} {F : gF} {nc nv nw t : Nat} (h : Rel C M F nc nv nw t) : bEnds_r C F = mEnds_r M F := by
  have hbx := sim_box h
  obtain ⟨hC, hM, hF, hS, hRC, hU, hV, hQ, hB, -⟩ := h
  unfold bEnds_r mEnds_r bBusy_r
  rcases hB with ⟨h1, h2⟩ | ⟨h1, h2, -, -, h3, -⟩
  · rw [if_pos h1, if_pos h2]; rfl
  · have hb := (hC.2.2.2.2.2.2.2.2.2.2.2.1 h1).2
    have h5 := hC.2.2.2.2.2.1
    rw [if_neg h1, if_neg (by decide), if_neg (by rw [h2]; exact nI_ne9 (by omega))]
    exact h3.symm
theorem if_pI {α : Type} {p q : Prop} (h : p ↔ q) {x y x' y' : α} (hx : ¬ p → x = x') (hy : p → y = y') : (if pI p = 0 then x else y) = (if pI q = 0 then x' else y') := by
  by_cases z : p
  · rw [if_neg (pI_n0.mpr z), if_neg (pI_n0.mpr (h.mp z))]; exact hy z
  · rw [if_pos (pI_0.mpr z), if_pos (pI_0.mpr (fun w => z (h.mpr w)))]; exact hx z
theorem in_iff {w x : Int32} {n : Nat} (hw : w = nI n) (hn : n ≤ 1000) : vp_in x n ↔ mIn x 0 (w - 1) := ⟨in_mIn hw hn, mIn_in hw hn⟩
theorem sim_queue {C M : gI} {F : gF} {nc nv nw t : Nat} (h : Rel C M F nc nv nw t) (a : Int32) : bQueue_r C F nw a = mQueue_r M F a := by
  obtain ⟨hC, hM, hF, hS, hRC, hU, hV, hQ, hB, -⟩ := h
  unfold bQueue_r mQueue_r
  refine if_pI (in_iff hM.2.2.2.2.2.1 (by have := hM.2.2.2.2.2.2.1; omega)) (fun _ => rfl) (fun q => ?_)
  have hj := vp_lt q
  have hv := (hC.2.2.2.2.2.2.2.2.2.2.1 _ hj).2
  have h5 := hC.2.2.2.2.2.1
  rw [hQ _ hj, nI_clamp (by omega)]
  exact (hV _ hv).2.1.symm
theorem sim_room {C M : gI} {F : gF} {nc nv nw t : Nat} (h : Rel C M F nc nv nw t) (a : Int32) : bRoom_r C F a = mRoom_r M F a := by
  obtain ⟨hC, hM, hF, ⟨s1, s2, s3, s4, s5, -⟩, -⟩ := h
  unfold bRoom_r mRoom_r
  rw [s4, s5]
theorem sim_visit {C M : gI} {F : gF} {nc nv nw t : Nat} (h : Rel C M F nc nv nw t) (a b c : Int32) : bVisit_r C F nv a b c = mVisit_r M F a b c := by
  obtain ⟨hC, hM, hF, hS, hRC, hU, hV, hQ, hB, -⟩ := h
  unfold bVisit_r mVisit_r
  refine if_pI (in_iff hM.2.2.2.1 (by have := hM.2.2.2.2.1; omega)) (fun _ => rfl) (fun q => ?_)
  obtain ⟨e18, e19, e20, e21, e22, e23, e24, e25, e26, e27, e28, -⟩ := hV _ (vp_lt q)
  rw [e18, e19, e20, e21, e22, e23, e24, e25, e26, e27, e28]
  by_cases zb : pI (mIn b 0 3) = 0
  · rw [if_pos zb, if_pos zb]
  · rw [if_neg zb, if_neg zb]
    by_cases zc : pI (mIn c 0 10) = 0
    · rw [if_pos zc, if_pos zc]
    · rw [if_neg zc, if_neg zc]
      have hb : (3 ≤ b ↔ b = 3) := by
        have h3 := (pI_n0.mp zb).2
        rw [Int32.le_iff_toInt_le]
        rw [Int32.lt_iff_toInt_lt] at h3
        constructor
        · intro z; exact Int32.toInt_inj.mp (by omega)
        · intro z; rw [z]; exact Int.le_refl _
      unfold bOfKind_r bTell_r bNum_r
      by_cases b3 : b = 3
      · simp only [hb, b3, if_true]
        simp
      · simp only [hb, b3, if_false]
        by_cases bk : b = C 7 a.toNatClampNeg 5
        · simp [bk]
        · have bk' : ¬ C 7 a.toNatClampNeg 5 = b := fun z => bk z.symm
          simp only [bk, bk', if_false]
          by_cases b1 : b = 1
          · by_cases k2 : C 7 a.toNatClampNeg 5 = 2 <;> simp [b1, k2]
          · simp [b1]
