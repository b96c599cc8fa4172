theorem div_up {N R G : Nat} (hR : 0 < R) : (60 * N + R - 1) / R ≤ G ↔ 60 * N ≤ R * G := by
  have e : (60 * N + R - 1) / R ≤ G ↔ (60 * N + R - 1) / R < G + 1 := by omega
  rw [e, Nat.div_lt_iff_lt_mul hR, Nat.add_mul, Nat.one_mul, Nat.mul_comm G R]
  generalize R * G = P
  omega
theorem sim_until {C M : gI} {F : gF} {nc nv nw t : Nat} (h : Rel C M F nc nv nw t) (c a : Int32) : bUntil_r C F nc c a = mUntil_r M F c a := by
  have hbx := sim_box h
  unfold bUntil_r mUntil_r
  refine h.if_cow c (fun _ => rfl) (fun q => ?_)
  obtain ⟨hC, hM, hF, hS, hRC, hU, hV, hQ, hB, hN, hG, -⟩ := h
  have h12 := hC.2.1
  by_cases za : pI (mIn a 1 400) = 0
  · rw [if_pos za, if_pos za]
  · rw [if_neg za, if_neg za]
    have hc9 : ¬ (-9 : Int32) = c := fun z => by
      have := vp_eq q
      rw [← z] at this
      exact nI_ne9 (by decide) this.symm
    have hold : bHolds_r C F c = 0 ↔ ¬ mBox M = c := by
      rw [← hbx]
      unfold bHolds_r bBox_r
      by_cases f : F 1 0 = none
      · simp [f, hc9]
      · by_cases g : C 7 (bv F) 0 = c <;> simp [f, g]
    by_cases zb : mBox M = c
    · rw [if_neg (fun z => hold.mp z zb), if_pos zb]
    · rw [if_pos (hold.mpr zb), if_neg zb]
      obtain ⟨e0, e1, e2, e3, e8, e9, -⟩ := hRC _ (vp_lt q)
      obtain ⟨g1, g2, g3, g4, g5, g6, -⟩ := hG.2.2.2.2.2.2 _ (vp_lt q)
      obtain ⟨gc1, gc2, -⟩ := hG
      rw [hS.1, e1, e8, e9]
      obtain ⟨ha1, ha2⟩ := pI_n0.mp za
      unfold bMinutesTo_r bMilkAt_r
      generalize C 4 c.toNatClampNeg 1 = r at *
      generalize C 4 c.toNatClampNeg 8 = f at *
      generalize C 4 c.toNatClampNeg 9 = lf at *
      generalize C 0 0 7 = k at *
      obtain ⟨R, hR, rfl⟩ := nI_ofB (x := r) (b := 30) (by omega) (by omega) (by decide)
      obtain ⟨L, hL, rfl⟩ := nI_ofB (x := lf) (b := 400) g3 (by omega) (by decide)
      obtain ⟨T, hT, rfl⟩ := nI_ofB (x := k) (b := 100000) gc1 (by omega) (by decide)
      obtain ⟨S, hS2, rfl⟩ := nI_ofB (x := f) (b := 100000) g5 (by omega) (by decide)
      have hA : ∃ A : Nat, 1 ≤ A ∧ A ≤ 400 ∧ a = nI A := by
        rw [Int32.lt_iff_toInt_lt] at ha1 ha2
        have i1 : (1 : Int32).toInt = 1 := by decide
        have i4 : (400 : Int32).toInt = 400 := by decide
        obtain ⟨A, hA, rfl⟩ := nI_ofB (x := a) (b := 400) (by omega) (by omega) (by decide)
        rw [nI_toInt (by omega)] at ha1
        exact ⟨A, by omega, hA, rfl⟩
      obtain ⟨A, hA1, hA2, rfl⟩ := hA
      rw [nI_toInt (by omega)] at g1
      rw [nI_toInt (by omega), nI_toInt (by omega)] at g6
      have hST : S ≤ T := by omega
      have hR1 : 1 ≤ R := by omega
      rw [pk_sub hST]
      generalize hGd : T - S = G at *
      have hG1 : G ≤ 100000 := by omega
      have hRG : R * G ≤ 30 * 100000 := Nat.mul_le_mul hR hG1
      have hdv : R * G / 60 ≤ R * G := Nat.div_le_self _ _
      rw [if_neg (by rw [show (1 : Int32) = nI 1 by decide, nI_ltI (by omega) (by decide)]; omega)]
      rw [pk_mul, show (60 : Int32) = nI 60 by decide, pk_div (by omega) (by decide) (by decide), nI_add]
      have e400 : (400 : Int32) = nI 400 := by decide
      have e0 : (0 : Int32) = nI 0 := by decide
      have e1' : (1 : Int32) = nI 1 := by decide
      have hmin : (if nI (L + R * G / 60) < 400 then nI (L + R * G / 60) else 400) = nI (if L + R * G / 60 < 400 then L + R * G / 60 else 400) := by
        have z : nI (L + R * G / 60) < 400 ↔ L + R * G / 60 < 400 := by rw [e400]; exact nI_ltI (by omega) (by decide)
        by_cases w : L + R * G / 60 < 400
        · rw [if_pos (z.mpr w), if_pos w]
        · rw [if_neg (fun y => w (z.mp y)), if_neg w, e400]
      rw [hmin]
      generalize hm : (if L + R * G / 60 < 400 then L + R * G / 60 else 400) = m
      have hm4 : m ≤ 400 := by rw [← hm]; split <;> omega
      have hlt : nI m < nI A ↔ m < A := nI_ltI (by omega) (by omega)
      by_cases hAL : A ≤ L
      · have hmA : ¬ m < A := by rw [← hm]; split <;> omega
        have hn : ¬ (0 : Int32) < nI A - nI L := by
          rw [Int32.lt_iff_toInt_lt, pk_sub_toInt (by omega) (by omega)]
          have i0 : (0 : Int32).toInt = 0 := by decide
          omega
        rw [if_neg (fun z => hmA (hlt.mp z)), if_neg hn, if_pos (by rw [e0]; exact nI_le (by omega) (by omega))]
      · have hn : (0 : Int32) < nI A - nI L := by
          rw [pk_sub (by omega), e0]
          exact nI_lt (by omega) (by omega)
        rw [if_pos hn, pk_sub (by omega), pk_mul, pk_mul, nI_add, nI_add, e1', pk_sub (by omega), pk_sub (by omega), Nat.mul_comm (A - L) 60, pk_div (by omega) (by omega) (by omega)]
        generalize hN : A - L = N at *
        have hq : (60 * N + R - 1) / R ≤ 60 * N + R - 1 := Nat.div_le_self _ _
        have hle : nI ((60 * N + R - 1) / R) ≤ nI G ↔ (60 * N + R - 1) / R ≤ G := nI_leI (by omega) (by omega)
        have hmk : m < A ↔ ¬ (60 * N + R - 1) / R ≤ G := by
          rw [div_up (by omega)]
          have e6 : R * G / 60 < N ↔ R * G < N * 60 := Nat.div_lt_iff_lt_mul (by decide)
          rw [← hm]
          split <;> omega
        by_cases w : (60 * N + R - 1) / R ≤ G
        · rw [if_neg (fun z => (hmk.mp (hlt.mp z)) w), if_pos (hle.mpr w)]
        · rw [if_pos (hlt.mpr (hmk.mpr w)), if_neg (fun z => w (hle.mp z))]
