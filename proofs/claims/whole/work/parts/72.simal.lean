/-! the ring of the latest readings, and the alarm -/
def sumT : Nat → List Int32 → Int32 → Int32
  | 0, _, s => s
  | _ + 1, [], s => s
  | m + 1, x :: l, s => sumT m l (s + x)
theorem rdL_len {M : gI} {i : Nat} : ∀ n : Nat, (rdL M i n).length ≤ n
  | 0 => Nat.le_refl _
  | n + 1 => by
    have := rdL_len (M := M) (i := i) n
    unfold rdL
    split
    · show (rdL M i n).length + 1 ≤ n + 1; omega
    · omega
theorem gBack_rd {M : gI} {i : Nat} : ∀ (k n : Nat) (s : Int32), n ≤ 5 → gBack (fun v => M 12 19 v = nI i) (fun v => M 12 21 v) k n s = (n + min (5 - n) (rdL M i k).length, sumT (5 - n) (rdL M i k) s)
  | 0, n, s, h => by
    rw [gBack_end (Or.inl rfl)]
    show (n, s) = (n + min (5 - n) 0, sumT (5 - n) [] s)
    have : sumT (5 - n) [] s = s := by cases 5 - n <;> rfl
    rw [this, Nat.min_zero]
    rfl
  | k + 1, n, s, h => by
    by_cases q : 5 ≤ n
    · rw [gBack_end (Or.inr q)]
      have : 5 - n = 0 := by omega
      rw [this]
      have e : sumT 0 (rdL M i (k + 1)) s = s := by cases rdL M i (k + 1) <;> rfl
      rw [e, Nat.zero_min]
      rfl
    · show (if 5 ≤ n then (n, s) else @ite (Nat × Int32) (M 12 19 k = nI i) (Classical.propDecidable _) (gBack (fun v => M 12 19 v = nI i) (fun v => M 12 21 v) k (n + 1) (s + M 12 21 k)) (gBack (fun v => M 12 19 v = nI i) (fun v => M 12 21 v) k n s)) = _
      rw [if_neg q]
      by_cases p : M 12 19 k = nI i
      · have e : rdL M i (k + 1) = M 12 21 k :: rdL M i k := if_pos p
        rw [if_pos p, gBack_rd k (n + 1) _ (by omega), e]
        obtain ⟨m, hm⟩ : ∃ m, 5 - n = m + 1 := ⟨4 - n, by omega⟩
        have hm2 : 5 - (n + 1) = m := by omega
        rw [hm, hm2]
        have e2 : n + 1 + min m (rdL M i k).length = n + min (m + 1) (M 12 21 k :: rdL M i k).length := by
          show _ = n + min (m + 1) ((rdL M i k).length + 1)
          omega
        rw [e2]
        rfl
      · have e : rdL M i (k + 1) = rdL M i k := if_neg p
        rw [if_neg p, gBack_rd k n s h, e]
theorem r5 (n r : Nat) (h : n % 5 = r) : ∃ q : Nat, n = 5 * q + r := ⟨n / 5, by omega⟩
theorem ring_sum {C : gI} {i : Nat} {L : List Int32} (h1 : ∀ j : Nat, j < 5 → j < L.length → C 6 i ((L.length - 1 - j) % 5) = L.getD j 0) (h2 : ∀ s : Nat, s < 5 → L.length ≤ s → C 6 i s = 0) : ((((0 + (C 6 i 0)) + (C 6 i 1)) + (C 6 i 2)) + (C 6 i 3)) + (C 6 i 4) = sumT 5 L 0 := by
  match L with
  | [] =>
    rw [h2 0 (by omega) (by simp), h2 1 (by omega) (by simp), h2 2 (by omega) (by simp), h2 3 (by omega) (by simp), h2 4 (by omega) (by simp)]
    decide
  | [a] =>
    have a0 : C 6 i 0 = a := h1 0 (by omega) (by simp)
    rw [a0, h2 1 (by omega) (by simp), h2 2 (by omega) (by simp), h2 3 (by omega) (by simp), h2 4 (by omega) (by simp)]
    show _ = 0 + a
    grind
  | [a, b] =>
    have a0 : C 6 i 1 = a := h1 0 (by omega) (by simp)
    have a1 : C 6 i 0 = b := h1 1 (by omega) (by simp)
    rw [a0, a1, h2 2 (by omega) (by simp), h2 3 (by omega) (by simp), h2 4 (by omega) (by simp)]
    show _ = 0 + a + b
    grind
  | [a, b, c] =>
    have a0 : C 6 i 2 = a := h1 0 (by omega) (by simp)
    have a1 : C 6 i 1 = b := h1 1 (by omega) (by simp)
    have a2 : C 6 i 0 = c := h1 2 (by omega) (by simp)
    rw [a0, a1, a2, h2 3 (by omega) (by simp), h2 4 (by omega) (by simp)]
    show _ = 0 + a + b + c
    grind
  | [a, b, c, d] =>
    have a0 : C 6 i 3 = a := h1 0 (by omega) (by simp)
    have a1 : C 6 i 2 = b := h1 1 (by omega) (by simp)
    have a2 : C 6 i 1 = c := h1 2 (by omega) (by simp)
    have a3 : C 6 i 0 = d := h1 3 (by omega) (by simp)
    rw [a0, a1, a2, a3, h2 4 (by omega) (by simp)]
    show _ = 0 + a + b + c + d
    grind
  | a :: b :: c :: d :: e :: R =>
    have el : (a :: b :: c :: d :: e :: R).length = R.length + 5 := rfl
    have a0 : C 6 i ((R.length + 4) % 5) = a := h1 0 (by omega) (by omega)
    have a1 : C 6 i ((R.length + 3) % 5) = b := h1 1 (by omega) (by omega)
    have a2 : C 6 i ((R.length + 2) % 5) = c := h1 2 (by omega) (by omega)
    have a3 : C 6 i ((R.length + 1) % 5) = d := h1 3 (by omega) (by omega)
    have a4 : C 6 i ((R.length) % 5) = e := h1 4 (by omega) (by omega)
    show _ = 0 + a + b + c + d + e
    generalize R.length = n at a0 a1 a2 a3 a4
    have : n % 5 = 0 ∨ n % 5 = 1 ∨ n % 5 = 2 ∨ n % 5 = 3 ∨ n % 5 = 4 := by omega
    rcases this with q | q | q | q | q
    · rw [show (n + 4) % 5 = 4 by omega] at a0
      rw [show (n + 3) % 5 = 3 by omega] at a1
      rw [show (n + 2) % 5 = 2 by omega] at a2
      rw [show (n + 1) % 5 = 1 by omega] at a3
      rw [q] at a4
      rw [a0, a1, a2, a3, a4]; grind
    · rw [show (n + 4) % 5 = 0 by omega] at a0
      rw [show (n + 3) % 5 = 4 by omega] at a1
      rw [show (n + 2) % 5 = 3 by omega] at a2
      rw [show (n + 1) % 5 = 2 by omega] at a3
      rw [q] at a4
      rw [a0, a1, a2, a3, a4]; grind
    · rw [show (n + 4) % 5 = 1 by omega] at a0
      rw [show (n + 3) % 5 = 0 by omega] at a1
      rw [show (n + 2) % 5 = 4 by omega] at a2
      rw [show (n + 1) % 5 = 3 by omega] at a3
      rw [q] at a4
      rw [a0, a1, a2, a3, a4]; grind
    · rw [show (n + 4) % 5 = 2 by omega] at a0
      rw [show (n + 3) % 5 = 1 by omega] at a1
      rw [show (n + 2) % 5 = 0 by omega] at a2
      rw [show (n + 1) % 5 = 4 by omega] at a3
      rw [q] at a4
      rw [a0, a1, a2, a3, a4]; grind
    · rw [show (n + 4) % 5 = 3 by omega] at a0
      rw [show (n + 3) % 5 = 2 by omega] at a1
      rw [show (n + 2) % 5 = 1 by omega] at a2
      rw [show (n + 1) % 5 = 0 by omega] at a3
      rw [q] at a4
      rw [a0, a1, a2, a3, a4]; grind
theorem sim_alarm {C M : gI} {F : gF} {nv i : Nat} {a : Int32} (hR : RR1 C M nv i) (h5 : nv ≤ 500) : bAlarm_r C F i a = pI (mAlarm M nv (nI i) a) := by
  obtain ⟨r1, r2, r3⟩ := hR
  have hl := rdL_len (M := M) (i := i) nv
  have hs := ring_sum r2 r3
  have hb : mLast M nv (nI i) = (0 + min (5 - 0) (rdL M i nv).length, sumT (5 - 0) (rdL M i nv) 0) := gBack_rd nv 0 0 (by omega)
  have e1 : (mLast M nv (nI i)).1 = min 5 (rdL M i nv).length := by rw [hb]; show 0 + min 5 _ = _; omega
  have e2 : (mLast M nv (nI i)).2 = sumT 5 (rdL M i nv) 0 := by rw [hb]
  unfold bAlarm_r
  rw [hs, r1]
  have hm : mAlarm M nv (nI i) a ↔ (¬ nI (min 5 (rdL M i nv).length) < 3 ∧ ¬ 10 * a * nI (min 5 (rdL M i nv).length) ≤ 12 * sumT 5 (rdL M i nv) 0) := by unfold mAlarm; rw [e1, e2]
  rw [pI_iff hm]
  generalize sumT 5 (rdL M i nv) 0 = S
  generalize (rdL M i nv).length = n at *
  have ec : (if 5 < nI n then 5 else nI n) = nI (min 5 n) := by
    by_cases q : 5 < n
    · rw [if_pos (show (5 : Int32) < nI n from nI_lt (a := 5) q (by omega)), show min 5 n = 5 by omega]; rfl
    · rw [if_neg (show ¬ (5 : Int32) < nI n from nI_nlt (a := 5) (by omega) (by decide)), show min 5 n = n by omega]
  rw [ec]
  have e3 : (3 ≤ nI n) ↔ ¬ nI (min 5 n) < 3 := by
    have l1 : (3 : Int32) ≤ nI n ↔ 3 ≤ n := nI_leI (a := 3) (by decide) (by omega)
    have l2 : nI (min 5 n) < (3 : Int32) ↔ min 5 n < 3 := nI_ltI (b := 3) (by omega) (by decide)
    rw [l1, l2]
    omega
  by_cases q : 3 ≤ nI n
  · rw [if_pos q]
    by_cases p : 10 * a * nI (min 5 n) ≤ 12 * S
    · rw [if_pos p, pI_f (fun z => z.2 p)]
    · rw [if_neg p, pI_t ⟨e3.mp q, p⟩]
  · rw [if_neg q, pI_f (fun z => q (e3.mpr z.1))]
theorem bKeep_eq {I : gI} {F : gF} {i n : Nat} {m : Int32} (h : I 4 i 6 = nI n) (hn : n < 2 ^ 30) : bKeep_I I F i m = gs (gs I 6 i (n % 5) m) 4 i 6 (I 4 i 6 + 1) := by
  unfold bKeep_I
  have e : I 4 i 6 - I 4 i 6 / 5 * 5 = nI (n % 5) := by rw [h]; exact pk_rem (d := 5) (by omega) (by decide) (by decide)
  have hm : n % 5 < 5 := Nat.mod_lt _ (by decide)
  rw [e, if_neg (nI_pos (by omega)), if_neg (show ¬ (5 : Int32) ≤ nI (n % 5) from nI_ge (b := 5) hm (by decide)), nI_clamp (by omega)]
