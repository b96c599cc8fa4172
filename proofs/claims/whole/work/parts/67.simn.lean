/-! numbers of fill -/
theorem nI_c0 : (0 : Int32) = nI 0 := rfl
theorem has_b {C : gI} {F : gF} {i : Nat} (r1 : 1 ≤ (C 4 i 1).toInt) (r2 : (C 4 i 1).toInt ≤ 30) (b1 : 0 ≤ (C 4 i 9).toInt) (b2 : (C 4 i 9).toInt ≤ 400) (a1 : 0 ≤ (C 4 i 8).toInt) (a2 : (C 4 i 8).toInt ≤ (C 0 0 7).toInt) (n2 : (C 0 0 7).toInt ≤ 100000) : ∃ H : Nat, H ≤ 400 ∧ bMilkAt_r C F i (C 0 0 7) = nI H := by
  obtain ⟨R, hR, eR⟩ := nI_ofB (x := C 4 i 1) (b := 30) (by omega) (by omega) (by decide)
  obtain ⟨B, hB, eB⟩ := nI_ofB (x := C 4 i 9) (b := 400) b1 (by omega) (by decide)
  obtain ⟨A, hA, eA⟩ := nI_ofB (x := C 4 i 8) (b := 100000) a1 (by omega) (by decide)
  obtain ⟨N, hN, eN⟩ := nI_ofB (x := C 0 0 7) (b := 100000) (by omega) (by omega) (by decide)
  rw [eA, eN] at a2
  rw [nI_toInt (by omega), nI_toInt (by omega)] at a2
  have hm : R * (N - A) ≤ 30 * 100000 := Nat.mul_le_mul hR (by omega)
  unfold bMilkAt_r
  rw [eR, eB, eA, eN, pk_sub (by omega), pk_mul, show (60 : Int32) = nI 60 by decide, pk_div (by omega) (by decide) (by decide), nI_add, show (400 : Int32) = nI 400 by decide]
  generalize R * (N - A) = X at *
  have hd : X / 60 ≤ 50000 := by omega
  by_cases q : B + X / 60 < 400
  · rw [if_pos ((nI_ltI (by omega) (by omega)).mpr q)]
    exact ⟨_, by omega, rfl⟩
  · rw [if_neg (fun z => q ((nI_ltI (by omega) (by omega)).mp z))]
    exact ⟨400, by omega, rfl⟩
theorem nI_if {p : Prop} [Decidable p] (a b : Nat) : (if p then nI a else nI b) = nI (if p then a else b) := by split <;> rfl
theorem du_b (f : Nat → Int32) {H : Nat} (hH : H ≤ 400) : ∃ D : Nat, D ≤ H ∧ tDu f (nI H) = nI D := by
  unfold tDu
  rw [show (4 : Int32) = nI 4 by decide, pk_div (by omega) (by decide) (by decide), show (3 : Int32) * nI (H / 4) = nI (3 * (H / 4)) from pk_mul 3 _, pk_sub (by omega), nI_c0, nI_if, nI_if, nI_if, nI_if, nI_add, nI_add, nI_add, nI_add]
  refine ⟨_, ?_, rfl⟩
  split <;> split <;> split <;> split <;> omega
theorem tA_b {x : Int32} (h : 0 ≤ x.toInt) : ∃ A : Nat, A ≤ 3 ∧ tA x = nI A := by
  unfold tA
  by_cases q : x ≤ 3
  · rw [if_pos q]
    rw [Int32.le_iff_toInt_le] at q
    have e : (3 : Int32).toInt = 3 := by decide
    exact nI_ofB h (by omega) (by decide)
  · rw [if_neg q]
    exact ⟨3, by omega, rfl⟩
theorem ah_b {f : Nat → Int32} (h : ∀ s : Nat, s < 4 → 0 ≤ (f s).toInt) : ∃ A : Nat, A ≤ 14 ∧ tAh f = nI A := by
  obtain ⟨a, ha, ea⟩ := tA_b (h 0 (by omega))
  obtain ⟨b, hb, eb⟩ := tA_b (h 1 (by omega))
  obtain ⟨c, hc, ec⟩ := tA_b (h 2 (by omega))
  obtain ⟨d, hd, ed⟩ := tA_b (h 3 (by omega))
  unfold tAh
  rw [ea, eb, ec, ed, show (2 : Int32) = nI 2 by decide, nI_add, nI_add, nI_add, nI_add]
  exact ⟨_, by omega, rfl⟩
theorem end_b {f : Nat → Int32} {x : Int32} {H : Nat} (h : ∀ s : Nat, s < 4 → 0 ≤ (f s).toInt) (hH : H ≤ 400) (x0 : 0 ≤ x.toInt) (x1 : x.toInt ≤ 100000) : x.toInt ≤ ((x + tAh f) + (tDu f (nI H) + 19) / 20).toInt ∧ ((x + tAh f) + (tDu f (nI H) + 19) / 20).toInt ≤ 200000 := by
  obtain ⟨A, hA, eA⟩ := ah_b h
  obtain ⟨D, hD, eD⟩ := du_b f hH
  obtain ⟨N, hN, eN⟩ := nI_ofB (x := x) (b := 100000) x0 (by omega) (by decide)
  rw [eA, eD, eN, show (19 : Int32) = nI 19 by decide, show (20 : Int32) = nI 20 by decide, nI_add, nI_add, pk_div (by omega) (by decide) (by decide), nI_add, nI_toInt (by omega), nI_toInt (by omega)]
  omega
theorem beg_b {f : Nat → Int32} {x : Int32} (h : ∀ s : Nat, s < 4 → 0 ≤ (f s).toInt) (x0 : 0 ≤ x.toInt) (x1 : x.toInt ≤ 100000) : 0 ≤ (x + tAh f).toInt ∧ (x + tAh f).toInt ≤ 200000 := by
  obtain ⟨A, hA, eA⟩ := ah_b h
  obtain ⟨N, hN, eN⟩ := nI_ofB (x := x) (b := 100000) x0 (by omega) (by decide)
  rw [eA, eN, nI_add, nI_toInt (by omega)]
  omega
theorem gMax_0 {f : Nat → Int32} : ∀ n : Nat, 0 ≤ (gMax f n).toInt
  | 0 => by show 0 ≤ (0 : Int32).toInt; decide
  | n + 1 => by
    have := gMax_0 (f := f) n
    show 0 ≤ (if f n ≤ gMax f n then gMax f n else f n).toInt
    split
    · exact this
    · rename_i q
      rw [Int32.le_iff_toInt_le] at q
      omega
theorem gMax_congr {f g : Nat → Int32} : ∀ {n : Nat}, (∀ j : Nat, j < n → f j = g j) → gMax f n = gMax g n
  | 0, _ => rfl
  | n + 1, h => by
    show (if f n ≤ gMax f n then gMax f n else f n) = (if g n ≤ gMax g n then gMax g n else g n)
    rw [gMax_congr (fun j hj => h j (by omega)), h n (by omega)]
theorem gMax_upd {f g : Nat → Int32} {v : Nat} {x : Int32} (f0 : f v = 0) (gv : g v = x) (gj : ∀ j : Nat, j ≠ v → g j = f j) (hx : 0 ≤ x.toInt) : ∀ n : Nat, v < n → gMax g n = if gMax f n < x then x else gMax f n
  | 0, h => absurd h (by omega)
  | n + 1, h => by
    show (if g n ≤ gMax g n then gMax g n else g n) = if (if f n ≤ gMax f n then gMax f n else f n) < x then x else (if f n ≤ gMax f n then gMax f n else f n)
    have z0 : (0 : Int32).toInt = 0 := by decide
    by_cases e : n = v
    · subst e
      have e2 : gMax g n = gMax f n := gMax_congr (fun j hj => gj j (by omega))
      have h0 := gMax_0 (f := f) n
      rw [e2, gv, f0, if_pos (show (0 : Int32) ≤ gMax f n by rw [Int32.le_iff_toInt_le]; omega)]
      by_cases q : x ≤ gMax f n
      · rw [if_pos q, if_neg (by rw [Int32.le_iff_toInt_le] at q; rw [Int32.lt_iff_toInt_lt]; omega)]
      · rw [if_neg q, if_pos (by rw [Int32.le_iff_toInt_le] at q; rw [Int32.lt_iff_toInt_lt]; omega)]
    · have ih := gMax_upd f0 gv gj hx n (by omega)
      rw [ih, gj n e]
      generalize gMax f n = m
      generalize f n = y
      simp only [Int32.le_iff_toInt_le, Int32.lt_iff_toInt_lt]
      by_cases a : m.toInt < x.toInt
      · by_cases b : y.toInt ≤ x.toInt
        · by_cases d : y.toInt ≤ m.toInt
          · simp only [a, b, d, if_true]
          · by_cases e3 : y.toInt < x.toInt
            · simp only [a, b, d, e3, if_true, if_false]
            · have : y = x := Int32.toInt_inj.mp (by omega)
              subst this
              simp only [a, d, e3, if_true, if_false, Int.le_refl]
        · simp only [a, b, if_true, if_false, show ¬ y.toInt ≤ m.toInt by omega, show ¬ y.toInt < x.toInt by omega]
      · by_cases d : y.toInt ≤ m.toInt
        · simp only [a, d, if_true, if_false]
        · simp only [a, d, if_true, if_false, show ¬ y.toInt < x.toInt by omega]
theorem gSt_congr {P Q : Nat → Prop} : ∀ {n : Nat}, (∀ j : Nat, j < n → (P j ↔ Q j)) → gSt P n = gSt Q n
  | 0, _ => rfl
  | n + 1, h => by
    have ih : gSt P n = gSt Q n := gSt_congr (fun j hj => h j (by omega))
    have hn := h n (by omega)
    cases hq : gSt P n with
    | some a => rw [gSt_keep hq, gSt_keep (ih ▸ hq)]
    | none =>
      by_cases p : P n
      · rw [gSt_hit hq p, gSt_hit (ih ▸ hq) (hn.mp p)]
      · rw [gSt_miss hq p, gSt_miss (ih ▸ hq) (fun z => p (hn.mpr z))]
theorem sim_ch {C M : gI} {F : gF} {nc nv nw t : Nat} (h : Rel C M F nc nv nw t) : bCh C F nw (C 0 0 7) = mCh M nw := by
  obtain ⟨hC, hM, hF, hS, hRC, hU, hV, hQ, -⟩ := h
  unfold bCh mCh
  refine congrArg (fun o => Option.getD o 0) (gSt_congr (fun j hj => ?_))
  have hv := (hC.2.2.2.2.2.2.2.2.2.2.1 j hj).2
  have h5 := hC.2.2.2.2.2.1
  obtain ⟨-, -, e20, -, -, -, -, -, -, -, -, e1⟩ := hV _ hv
  unfold bShy mShy
  rw [hQ j hj, nI_clamp (by omega), hS.1, e20, e1]
  by_cases q : M 12 4 (M 12 19 (qv F j)).toNatClampNeg = 1
  · simp [q]
  · simp [q]
