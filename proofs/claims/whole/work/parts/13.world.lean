abbrev gI : Type := Nat → Nat → Nat → Int32
abbrev gF : Type := Nat → Nat → Option Nat
def gr (I : gI) (k i : Nat) (r : Nat → Int32) : gI := fun k' i' => if k' = k ∧ i' = i then r else I k' i'
abbrev gs (I : gI) (k i s : Nat) (v : Int32) : gI := gr I k i (upd (I k i) s v)
def gf (F : gF) (k i : Nat) (v : Option Nat) : gF := fun k' i' => if k' = k ∧ i' = i then v else F k' i'
/-- the content of a named cell: kinds 0 box, 1 line, 2 arm, 3 store, 4 cow, 5 its troubles, 6 its latest, 7 visit, 8 cows, 9 visits, 10 places, 11 the reference, 12 its arrays by their slots -/
def cXr (E : gEc) (ad : gAd) (F : gF) (lc lv : Nat) (k i : Nat) (r : Nat → Int32) : Option va_E := match k with
  | 0 => if i = 0 then some (.inr (5, [.ref (ad 8 0), .ref (ad 9 0), .ref (ad 1 0), .ref (ad 2 0), .ref (ad 3 0), .int (r 5), .int (r 6), .int (r 7), .int (r 8), .int (r 9), .int (r 10), .int (r 11), .int (r 12), .int (r 13)])) else none
  | 1 => if i = 0 then some (.inr (2, [.ref (ad 10 0), .int (r 1)])) else none
  | 2 => if i = 0 then some (.inr (0, [va_rf ((F 1 0).map (ad 7)), .int (r 1), .int (r 2), .int (r 3), .int (r 4)])) else none
  | 3 => if i = 0 then some (.inr (3, [.int (r 0), .int (r 1), .int (r 2), .int (r 3), .int (r 4)])) else none
  | 4 => if i < lc then some (.inr (1, [.int (r 0), .int (r 1), .int (r 2), .int (r 3), .ref (ad 5 i), .ref (ad 6 i), .int (r 6), .int (r 7), .int (r 8), .int (r 9), .int (r 10), .int (r 11), .int (r 12), .int (r 13)])) else none
  | 5 => if i < lc then some (.inl (E 0, 4, .inl r)) else none
  | 6 => if i < lc then some (.inl (E 0, 5, .inl r)) else none
  | 7 => if i < lv then some (.inr (4, [.int (r 0), .int (r 1), .int (r 2), .int (r 3), .int (r 4), .int (r 5), .int (r 6), .int (r 7), .int (r 8), .int (r 9), .int (r 10), .int (r 11)])) else none
  | 8 => if i = 0 then some (.inl (E 2, 12, .inr (.inr (.inr (.inr (fun j => (F 2 j).map (ad 4))))))) else none
  | 9 => if i = 0 then some (.inl (E 3, 500, .inr (.inr (.inr (.inr (fun j => (F 3 j).map (ad 7))))))) else none
  | 10 => if i = 0 then some (.inl (E 3, 12, .inr (.inr (.inr (.inr (fun j => (F 0 j).map (ad 7))))))) else none
  | 11 => if i = 0 then some (.inr (6, [.int (r 0), .int (r 1), .int (r 2), .int (r 3), .ref (ad 12 4), .ref (ad 12 5), .ref (ad 12 6), .ref (ad 12 7), .ref (ad 12 8), .ref (ad 12 9), .ref (ad 12 10), .ref (ad 12 11), .ref (ad 12 12), .ref (ad 12 13), .ref (ad 12 14), .ref (ad 12 15), .ref (ad 12 16), .int (r 17), .ref (ad 12 18), .ref (ad 12 19), .ref (ad 12 20), .ref (ad 12 21), .ref (ad 12 22), .ref (ad 12 23), .ref (ad 12 24), .ref (ad 12 25), .ref (ad 12 26), .ref (ad 12 27), .ref (ad 12 28), .int (r 29), .ref (ad 12 30), .int (r 31), .int (r 32), .int (r 33), .int (r 34), .int (r 35), .int (r 36), .int (r 37), .int (r 38), .int (r 39), .int (r 40), .int (r 41), .int (r 42)])) else none
  | 12 => match i with
    | 4 => some (.inl (E 0, 12, .inl r))
    | 5 => some (.inl (E 0, 12, .inl r))
    | 6 => some (.inl (E 0, 12, .inl r))
    | 7 => some (.inl (E 0, 12, .inl r))
    | 8 => some (.inl (E 0, 12, .inl r))
    | 9 => some (.inl (E 0, 12, .inl r))
    | 10 => some (.inl (E 0, 12, .inl r))
    | 11 => some (.inl (E 0, 12, .inl r))
    | 12 => some (.inl (E 0, 48, .inl r))
    | 13 => some (.inl (E 0, 12, .inl r))
    | 14 => some (.inl (E 0, 12, .inl r))
    | 15 => some (.inl (E 0, 12, .inl r))
    | 16 => some (.inl (E 0, 12, .inl r))
    | 18 => some (.inl (E 0, 500, .inl r))
    | 19 => some (.inl (E 0, 500, .inl r))
    | 20 => some (.inl (E 0, 500, .inl r))
    | 21 => some (.inl (E 0, 500, .inl r))
    | 22 => some (.inl (E 1, 500, .inl r))
    | 23 => some (.inl (E 0, 500, .inl r))
    | 24 => some (.inl (E 0, 500, .inl r))
    | 25 => some (.inl (E 0, 500, .inl r))
    | 26 => some (.inl (E 0, 500, .inl r))
    | 27 => some (.inl (E 0, 500, .inl r))
    | 28 => some (.inl (E 0, 500, .inl r))
    | 30 => some (.inl (E 0, 12, .inl r))
    | _ => none
  | _ => none
def cX (E : gEc) (ad : gAd) (I : gI) (F : gF) (lc lv : Nat) : gCe := fun k i => cXr E ad F lc lv k i (I k i)
section CX
variable {E : gEc} {ad : gAd} {I : gI} {F : gF} {lc lv i : Nat}
theorem xo_0 (r : Nat → Int32) : cXr E ad F lc lv 0 0 r = some (.inr (5, [.ref (ad 8 0), .ref (ad 9 0), .ref (ad 1 0), .ref (ad 2 0), .ref (ad 3 0), .int (r 5), .int (r 6), .int (r 7), .int (r 8), .int (r 9), .int (r 10), .int (r 11), .int (r 12), .int (r 13)])) := rfl
theorem xo_1 (r : Nat → Int32) : cXr E ad F lc lv 1 0 r = some (.inr (2, [.ref (ad 10 0), .int (r 1)])) := rfl
theorem xo_2 (r : Nat → Int32) : cXr E ad F lc lv 2 0 r = some (.inr (0, [va_rf ((F 1 0).map (ad 7)), .int (r 1), .int (r 2), .int (r 3), .int (r 4)])) := rfl
theorem xo_3 (r : Nat → Int32) : cXr E ad F lc lv 3 0 r = some (.inr (3, [.int (r 0), .int (r 1), .int (r 2), .int (r 3), .int (r 4)])) := rfl
theorem xo_4 (h : i < lc) (r : Nat → Int32) : cXr E ad F lc lv 4 i r = some (.inr (1, [.int (r 0), .int (r 1), .int (r 2), .int (r 3), .ref (ad 5 i), .ref (ad 6 i), .int (r 6), .int (r 7), .int (r 8), .int (r 9), .int (r 10), .int (r 11), .int (r 12), .int (r 13)])) := if_pos h
theorem xo_7 (h : i < lv) (r : Nat → Int32) : cXr E ad F lc lv 7 i r = some (.inr (4, [.int (r 0), .int (r 1), .int (r 2), .int (r 3), .int (r 4), .int (r 5), .int (r 6), .int (r 7), .int (r 8), .int (r 9), .int (r 10), .int (r 11)])) := if_pos h
theorem xo_11 (r : Nat → Int32) : cXr E ad F lc lv 11 0 r = some (.inr (6, [.int (r 0), .int (r 1), .int (r 2), .int (r 3), .ref (ad 12 4), .ref (ad 12 5), .ref (ad 12 6), .ref (ad 12 7), .ref (ad 12 8), .ref (ad 12 9), .ref (ad 12 10), .ref (ad 12 11), .ref (ad 12 12), .ref (ad 12 13), .ref (ad 12 14), .ref (ad 12 15), .ref (ad 12 16), .int (r 17), .ref (ad 12 18), .ref (ad 12 19), .ref (ad 12 20), .ref (ad 12 21), .ref (ad 12 22), .ref (ad 12 23), .ref (ad 12 24), .ref (ad 12 25), .ref (ad 12 26), .ref (ad 12 27), .ref (ad 12 28), .int (r 29), .ref (ad 12 30), .int (r 31), .int (r 32), .int (r 33), .int (r 34), .int (r 35), .int (r 36), .int (r 37), .int (r 38), .int (r 39), .int (r 40), .int (r 41), .int (r 42)])) := rfl
theorem xo_5 (h : i < lc) (r : Nat → Int32) : cXr E ad F lc lv 5 i r = some (.inl (E 0, 4, .inl r)) := if_pos h
theorem xo_6 (h : i < lc) (r : Nat → Int32) : cXr E ad F lc lv 6 i r = some (.inl (E 0, 5, .inl r)) := if_pos h
theorem xo_8 (r : Nat → Int32) : cXr E ad F lc lv 8 0 r = some (.inl (E 2, 12, .inr (.inr (.inr (.inr (fun j => (F 2 j).map (ad 4))))))) := rfl
theorem xo_9 (r : Nat → Int32) : cXr E ad F lc lv 9 0 r = some (.inl (E 3, 500, .inr (.inr (.inr (.inr (fun j => (F 3 j).map (ad 7))))))) := rfl
theorem xo_10 (r : Nat → Int32) : cXr E ad F lc lv 10 0 r = some (.inl (E 3, 12, .inr (.inr (.inr (.inr (fun j => (F 0 j).map (ad 7))))))) := rfl
theorem cX_put {k i : Nat} {e : va_E} {r' : Nat → Int32} (he : cXr E ad F lc lv k i r' = some e) : gup (cX E ad I F lc lv) k i e = cX E ad (gr I k i r') F lc lv := by
  funext k' i'
  unfold gup cX gr
  by_cases h : k' = k ∧ i' = i
  · rw [if_pos h]
    obtain ⟨rfl, rfl⟩ := h
    simp [he]
  · rw [if_neg h, if_neg h]
theorem cX_putF {k i : Nat} {e : va_E} {F' : gF} (hk : k ≤ 12) (he : cXr E ad F' lc lv k i (I k i) = some e) (ho : ∀ (k' i' : Nat) (r : Nat → Int32), ¬ (k' = k ∧ i' = i) → cXr E ad F' lc lv k' i' r = cXr E ad F lc lv k' i' r) : gup (cX E ad I F lc lv) k i e = cX E ad I F' lc lv := by
  funext k' i'
  unfold gup cX
  by_cases h : k' = k ∧ i' = i
  · rw [if_pos h]
    obtain ⟨rfl, rfl⟩ := h
    exact he.symm
  · rw [if_neg h]
    exact (ho k' i' _ h).symm
theorem gf_self {k i : Nat} {v : Option Nat} : gf F k i v k i = v := by simp [gf]
theorem gf_k {k i k' i' : Nat} {v : Option Nat} (h : k' ≠ k) : gf F k i v k' i' = F k' i' := by simp [gf, h]
theorem gf_i {k i k' i' : Nat} {v : Option Nat} (h : i' ≠ i) : gf F k i v k' i' = F k' i' := by simp [gf, h]
theorem cX_F_other {F' : gF} (h : ∀ k i : Nat, F' k i = F k i) : cX E ad I F' lc lv = cX E ad I F lc lv := by
  rw [show F' = F from funext fun k => funext fun i => h k i]
theorem cX_put2 (v : Option Nat) : gup (cX E ad I F lc lv) 2 0 (.inr (0, [va_rf (v.map (ad 7)), .int (I 2 0 1), .int (I 2 0 2), .int (I 2 0 3), .int (I 2 0 4)])) = cX E ad I (gf F 1 0 v) lc lv := by
  refine cX_putF (by decide) (by simp [cXr, gf]) ?_
  intro k' i' r h
  unfold cXr
  split <;> simp_all [gf]
theorem gf_map (k a s : Nat) (v : Option Nat) : va_up (fun j => (F k j).map (ad a)) s (v.map (ad a)) = fun j => (gf F k s v k j).map (ad a) := by
  funext j
  by_cases h : j = s
  · subst h; simp [va_up, gf]
  · simp [va_up, gf, h]
theorem cX_put10 (s : Nat) (v : Option Nat) : gup (cX E ad I F lc lv) 10 0 (.inl (E 3, 12, .inr (.inr (.inr (.inr (va_up (fun j => (F 0 j).map (ad 7)) s (v.map (ad 7)))))))) = cX E ad I (gf F 0 s v) lc lv := by
  rw [gf_map]
  refine cX_putF (by decide) (by simp [cXr]) ?_
  intro k' i' r h
  unfold cXr
  split <;> simp_all [gf]
theorem cX_put8 (s : Nat) (v : Option Nat) : gup (cX E ad I F lc lv) 8 0 (.inl (E 2, 12, .inr (.inr (.inr (.inr (va_up (fun j => (F 2 j).map (ad 4)) s (v.map (ad 4)))))))) = cX E ad I (gf F 2 s v) lc lv := by
  rw [gf_map]
  refine cX_putF (by decide) (by simp [cXr]) ?_
  intro k' i' r h
  unfold cXr
  split <;> simp_all [gf]
theorem cX_put9 (s : Nat) (v : Option Nat) : gup (cX E ad I F lc lv) 9 0 (.inl (E 3, 500, .inr (.inr (.inr (.inr (va_up (fun j => (F 3 j).map (ad 7)) s (v.map (ad 7)))))))) = cX E ad I (gf F 3 s v) lc lv := by
  rw [gf_map]
  refine cX_putF (by decide) (by simp [cXr]) ?_
  intro k' i' r h
  unfold cXr
  split <;> simp_all [gf]
theorem gs_self {k i s : Nat} {v : Int32} : gs I k i s v k i s = v := by simp [gs, gr, upd]
theorem gs_k {k i s k' i' s' : Nat} {v : Int32} (h : k' ≠ k) : gs I k i s v k' i' s' = I k' i' s' := by simp [gs, gr, h]
theorem gs_i {k i s k' i' s' : Nat} {v : Int32} (h : i' ≠ i) : gs I k i s v k' i' s' = I k' i' s' := by simp [gs, gr, h]
theorem gs_s {k i s k' i' s' : Nat} {v : Int32} (h : s' ≠ s) : gs I k i s v k' i' s' = I k' i' s' := by
  by_cases hk : k' = k ∧ i' = i
  · obtain ⟨rfl, rfl⟩ := hk
    simp [gs, gr, upd, h]
  · simp [gs, gr, hk]
theorem nI_idx {x : Int32} {j N : Nat} (hx : x = nI j) (hj : j < N) (hN : N < 2 ^ 31) : vp_in x N ∧ x.toNatClampNeg = j := by
  subst hx
  exact ⟨vp_in_nI hj hN, nI_clamp (by omega)⟩
end CX
section XR
variable {l : Launch} {R : Room} {cc : ByteArray} {nL : Nat} {own nm : String} {D : va_G} {A : Nat → Prop} {E : gEc} {Rn : gR} {pc : Nat} {lv lv' : List (Nat × Value)} {st : List Value} {ad : gAd} {I : gI} {F : gF} {lc ln k n : Nat}
/-- an int array of the world, read at a place that is known as a number -/
theorem x_iald (h : gOk l R cc nL own nm D A E Rn) {kd i N : Nat} {x v : Int32} (j : Nat) (hd : decode cc pc = .ok (.iaload, 1)) (hce : cXr E ad F lc ln kd i (I kd i) = some (.inl (E 0, N, .inl (I kd i)))) (hx : x = nI j) (hj : j < N) (hN : N < 2 ^ 31) (hv : I kd i j = v) (kk : Rn (pc + 1) lv (.int v :: st) ad (cX E ad I F lc ln) k n) : Rn pc lv (.int x :: .ref (ad kd i) :: st) ad (cX E ad I F lc ln) k n := by
  obtain ⟨h1, h2⟩ := nI_idx hx hj hN
  refine r_iald h (ce := cX E ad I F lc ln) hd hce h1 ?_
  rw [h2, hv]
  exact kk
theorem x_zald (h : gOk l R cc nL own nm D A E Rn) {kd i N : Nat} {x v : Int32} (j : Nat) (hd : decode cc pc = .ok (.baload, 1)) (hce : cXr E ad F lc ln kd i (I kd i) = some (.inl (E 1, N, .inl (I kd i)))) (hx : x = nI j) (hj : j < N) (hN : N < 2 ^ 31) (hv : I kd i j = v) (kk : Rn (pc + 1) lv (.int v :: st) ad (cX E ad I F lc ln) k n) : Rn pc lv (.int x :: .ref (ad kd i) :: st) ad (cX E ad I F lc ln) k n := by
  obtain ⟨h1, h2⟩ := nI_idx hx hj hN
  refine r_zald h (ce := cX E ad I F lc ln) hd hce h1 ?_
  rw [h2, hv]
  exact kk
theorem x_iast (h : gOk l R cc nL own nm D A E Rn) {kd i N : Nat} {x v : Int32} (j : Nat) (hd : decode cc pc = .ok (.iastore, 1)) (hce : ∀ r : Nat → Int32, cXr E ad F lc ln kd i r = some (.inl (E 0, N, .inl r))) (hx : x = nI j) (hj : j < N) (hN : N < 2 ^ 31) (kk : Rn (pc + 1) lv st ad (cX E ad (gs I kd i j v) F lc ln) k n) : Rn pc lv (.int v :: .int x :: .ref (ad kd i) :: st) ad (cX E ad I F lc ln) k n := by
  obtain ⟨h1, h2⟩ := nI_idx hx hj hN
  refine r_iast h (ce := cX E ad I F lc ln) hd (hce _) h1 (cX_put (hce _)) ?_
  rw [h2]
  exact kk
theorem x_zast (h : gOk l R cc nL own nm D A E Rn) {kd i N : Nat} {x v : Int32} (j : Nat) (hd : decode cc pc = .ok (.bastore, 1)) (hce : ∀ r : Nat → Int32, cXr E ad F lc ln kd i r = some (.inl (E 1, N, .inl r))) (hx : x = nI j) (hj : j < N) (hN : N < 2 ^ 31) (hv : v = 0 ∨ v = 1) (kk : Rn (pc + 1) lv st ad (cX E ad (gs I kd i j v) F lc ln) k n) : Rn pc lv (.int v :: .int x :: .ref (ad kd i) :: st) ad (cX E ad I F lc ln) k n := by
  obtain ⟨h1, h2⟩ := nI_idx hx hj hN
  refine r_zast h (ce := cX E ad I F lc ln) hd (hce _) h1 hv (cX_put (hce _)) ?_
  rw [h2]
  exact kk
end XR
