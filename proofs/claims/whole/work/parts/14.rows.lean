def bI (p : Prop) [Decidable p] : Int32 := if p then 1 else 0
theorem bI_t {p : Prop} [Decidable p] (h : p) : bI p = 1 := if_pos h
theorem bI_f {p : Prop} [Decidable p] (h : ¬ p) : bI p = 0 := if_neg h
theorem bI_01 (p : Prop) [Decidable p] : bI p = 0 ∨ bI p = 1 := by
  by_cases h : p
  · exact Or.inr (bI_t h)
  · exact Or.inl (bI_f h)
theorem gNz {v : Int32} (h : v = 0 ∨ v = 1) : narrow .boolean (.int v) = .int v := by rcases h with rfl | rfl <;> rfl
theorem gFz {v : Int32} (h : v = 0 ∨ v = 1) : fits .boolean (.int v) = true := by rcases h with rfl | rfl <;> decide
section RR
variable {l : Launch} {R : Room} {cc : ByteArray} {nL : Nat} {own nm : String} {D : va_G} {A : Nat → Prop} {E : gEc} {Rn : gR} {pc : Nat} {lv lv' : List (Nat × Value)} {st : List Value} {ad : gAd} {I : gI} {F : gF} {lc ln k n : Nat} {ce : gCe}
theorem r_topi {x : Int32} (kk : ∀ y : Int32, y = x → Rn pc lv (.int y :: st) ad ce k n) : Rn pc lv (.int x :: st) ad ce k n := kk x rfl
theorem x_ialp (h : gOk l R cc nL own nm D A E Rn) {kd i N : Nat} {x v : Int32} (hd : decode cc pc = .ok (.iaload, 1)) (hce : cXr E ad F lc ln kd i (I kd i) = some (.inl (E 0, N, .inl (I kd i)))) (hx : vp_in x N) (hv : I kd i x.toNatClampNeg = v) (kk : Rn (pc + 1) lv (.int v :: st) ad (cX E ad I F lc ln) k n) : Rn pc lv (.int x :: .ref (ad kd i) :: st) ad (cX E ad I F lc ln) k n := by
  refine r_iald h (ce := cX E ad I F lc ln) hd hce hx ?_
  rw [hv]
  exact kk
theorem x_zalp (h : gOk l R cc nL own nm D A E Rn) {kd i N : Nat} {x v : Int32} (hd : decode cc pc = .ok (.baload, 1)) (hce : cXr E ad F lc ln kd i (I kd i) = some (.inl (E 1, N, .inl (I kd i)))) (hx : vp_in x N) (hv : I kd i x.toNatClampNeg = v) (kk : Rn (pc + 1) lv (.int v :: st) ad (cX E ad I F lc ln) k n) : Rn pc lv (.int x :: .ref (ad kd i) :: st) ad (cX E ad I F lc ln) k n := by
  refine r_zald h (ce := cX E ad I F lc ln) hd hce hx ?_
  rw [hv]
  exact kk
theorem x_iasp (h : gOk l R cc nL own nm D A E Rn) {kd i N : Nat} {x v : Int32} (hd : decode cc pc = .ok (.iastore, 1)) (hce : ∀ r : Nat → Int32, cXr E ad F lc ln kd i r = some (.inl (E 0, N, .inl r))) (hx : vp_in x N) (kk : Rn (pc + 1) lv st ad (cX E ad (gs I kd i x.toNatClampNeg v) F lc ln) k n) : Rn pc lv (.int v :: .int x :: .ref (ad kd i) :: st) ad (cX E ad I F lc ln) k n :=
  r_iast h (ce := cX E ad I F lc ln) hd (hce _) hx (cX_put (hce _)) kk
theorem x_zasp (h : gOk l R cc nL own nm D A E Rn) {kd i N : Nat} {x v : Int32} (hd : decode cc pc = .ok (.bastore, 1)) (hce : ∀ r : Nat → Int32, cXr E ad F lc ln kd i r = some (.inl (E 1, N, .inl r))) (hx : vp_in x N) (hv : v = 0 ∨ v = 1) (kk : Rn (pc + 1) lv st ad (cX E ad (gs I kd i x.toNatClampNeg v) F lc ln) k n) : Rn pc lv (.int v :: .int x :: .ref (ad kd i) :: st) ad (cX E ad I F lc ln) k n :=
  r_zast h (ce := cX E ad I F lc ln) hd (hce _) hx hv (cX_put (hce _)) kk
theorem r_aaldv (h : gOk l R cc nL own nm D A E Rn) {kd i N t0 : Nat} {cA : ClassId} {C : String} {f : Nat → Option Nat} {x : Int32} {v : Value} (hd : decode cc pc = .ok (.aaload, 1)) (hce : ce kd i = some (.inl (cA, N, .inr (.inr (.inr (.inr f)))))) (ht : (gTys E)[t0]? = some (cA, .object C)) (hx0 : vp_in x N) (hv : va_rf (f x.toNatClampNeg) = v) (kk : Rn (pc + 1) lv (v :: st) ad ce k n) : Rn pc lv (.int x :: .ref (ad kd i) :: st) ad ce k n :=
  r_aald h hd hce ht hx0 (by rw [hv]; exact kk)
end RR
theorem gOut {x : Int32} (N : Nat) (hN : N < 2 ^ 31) (h : ∀ j : Nat, j ≤ N → ¬ x = nI j) : x.toInt < 0 ∨ (N : Int) < x.toInt := by
  by_cases h0 : x.toInt < 0
  · exact Or.inl h0
  · refine Or.inr ?_
    have hlt : ¬ x < 0 := fun q => h0 (by simpa using Int32.lt_iff_toInt_lt.mp q)
    obtain ⟨j, hj, rfl⟩ := nI_of hlt
    rw [nI_toInt hj]
    by_cases hjN : j ≤ N
    · exact absurd rfl (h j hjN)
    · omega
theorem gOut2 {x : Int32} (h0 : ¬ x = 0) (h1 : ¬ x = 1) (h2 : ¬ x = 2) : x.toInt < 0 ∨ 2 < x.toInt := by
  refine gOut 2 (by decide) (fun j hj => ?_)
  have hq : j = 0 ∨ j = 1 ∨ j = 2 := by omega
  rcases hq with rfl | rfl | rfl
  · exact h0
  · exact h1
  · exact h2
theorem gOut3 {x : Int32} (h0 : ¬ x = 0) (h1 : ¬ x = 1) (h2 : ¬ x = 2) (h3 : ¬ x = 3) : x.toInt < 0 ∨ 3 < x.toInt := by
  refine gOut 3 (by decide) (fun j hj => ?_)
  have hq : j = 0 ∨ j = 1 ∨ j = 2 ∨ j = 3 := by omega
  rcases hq with rfl | rfl | rfl | rfl
  · exact h0
  · exact h1
  · exact h2
  · exact h3
theorem gOut5 {x : Int32} (h0 : ¬ x = 0) (h1 : ¬ x = 1) (h2 : ¬ x = 2) (h3 : ¬ x = 3) (h4 : ¬ x = 4) (h5 : ¬ x = 5) : x.toInt < 0 ∨ 5 < x.toInt := by
  refine gOut 5 (by decide) (fun j hj => ?_)
  have hq : j = 0 ∨ j = 1 ∨ j = 2 ∨ j = 3 ∨ j = 4 ∨ j = 5 := by omega
  rcases hq with rfl | rfl | rfl | rfl | rfl | rfl
  · exact h0
  · exact h1
  · exact h2
  · exact h3
  · exact h4
  · exact h5
theorem gOut9 {x : Int32} (h0 : ¬ x = 0) (h1 : ¬ x = 1) (h2 : ¬ x = 2) (h3 : ¬ x = 3) (h4 : ¬ x = 4) (h5 : ¬ x = 5) (h6 : ¬ x = 6) (h7 : ¬ x = 7) (h8 : ¬ x = 8) (h9 : ¬ x = 9) : x.toInt < 0 ∨ 9 < x.toInt := by
  refine gOut 9 (by decide) (fun j hj => ?_)
  have hq : j = 0 ∨ j = 1 ∨ j = 2 ∨ j = 3 ∨ j = 4 ∨ j = 5 ∨ j = 6 ∨ j = 7 ∨ j = 8 ∨ j = 9 := by omega
  rcases hq with rfl | rfl | rfl | rfl | rfl | rfl | rfl | rfl | rfl | rfl
  · exact h0
  · exact h1
  · exact h2
  · exact h3
  · exact h4
  · exact h5
  · exact h6
  · exact h7
  · exact h8
  · exact h9
theorem gOut11 {x : Int32} (h0 : ¬ x = 0) (h1 : ¬ x = 1) (h2 : ¬ x = 2) (h3 : ¬ x = 3) (h4 : ¬ x = 4) (h5 : ¬ x = 5) (h6 : ¬ x = 6) (h7 : ¬ x = 7) (h8 : ¬ x = 8) (h9 : ¬ x = 9) (h10 : ¬ x = 10) (h11 : ¬ x = 11) : x.toInt < 0 ∨ 11 < x.toInt := by
  refine gOut 11 (by decide) (fun j hj => ?_)
  have hq : j = 0 ∨ j = 1 ∨ j = 2 ∨ j = 3 ∨ j = 4 ∨ j = 5 ∨ j = 6 ∨ j = 7 ∨ j = 8 ∨ j = 9 ∨ j = 10 ∨ j = 11 := by omega
  rcases hq with rfl | rfl | rfl | rfl | rfl | rfl | rfl | rfl | rfl | rfl | rfl | rfl
  · exact h0
  · exact h1
  · exact h2
  · exact h3
  · exact h4
  · exact h5
  · exact h6
  · exact h7
  · exact h8
  · exact h9
  · exact h10
  · exact h11
theorem gOut12 {x : Int32} (h0 : ¬ x = 0) (h1 : ¬ x = 1) (h2 : ¬ x = 2) (h3 : ¬ x = 3) (h4 : ¬ x = 4) (h5 : ¬ x = 5) (h6 : ¬ x = 6) (h7 : ¬ x = 7) (h8 : ¬ x = 8) (h9 : ¬ x = 9) (h10 : ¬ x = 10) (h11 : ¬ x = 11) (h12 : ¬ x = 12) : x.toInt < 0 ∨ 12 < x.toInt := by
  refine gOut 12 (by decide) (fun j hj => ?_)
  have hq : j = 0 ∨ j = 1 ∨ j = 2 ∨ j = 3 ∨ j = 4 ∨ j = 5 ∨ j = 6 ∨ j = 7 ∨ j = 8 ∨ j = 9 ∨ j = 10 ∨ j = 11 ∨ j = 12 := by omega
  rcases hq with rfl | rfl | rfl | rfl | rfl | rfl | rfl | rfl | rfl | rfl | rfl | rfl | rfl
  · exact h0
  · exact h1
  · exact h2
  · exact h3
  · exact h4
  · exact h5
  · exact h6
  · exact h7
  · exact h8
  · exact h9
  · exact h10
  · exact h11
  · exact h12
theorem gOut19 {x : Int32} (h0 : ¬ x = 0) (h1 : ¬ x = 1) (h2 : ¬ x = 2) (h3 : ¬ x = 3) (h4 : ¬ x = 4) (h5 : ¬ x = 5) (h6 : ¬ x = 6) (h7 : ¬ x = 7) (h8 : ¬ x = 8) (h9 : ¬ x = 9) (h10 : ¬ x = 10) (h11 : ¬ x = 11) (h12 : ¬ x = 12) (h13 : ¬ x = 13) (h14 : ¬ x = 14) (h15 : ¬ x = 15) (h16 : ¬ x = 16) (h17 : ¬ x = 17) (h18 : ¬ x = 18) (h19 : ¬ x = 19) : x.toInt < 0 ∨ 19 < x.toInt := by
  refine gOut 19 (by decide) (fun j hj => ?_)
  have hq : j = 0 ∨ j = 1 ∨ j = 2 ∨ j = 3 ∨ j = 4 ∨ j = 5 ∨ j = 6 ∨ j = 7 ∨ j = 8 ∨ j = 9 ∨ j = 10 ∨ j = 11 ∨ j = 12 ∨ j = 13 ∨ j = 14 ∨ j = 15 ∨ j = 16 ∨ j = 17 ∨ j = 18 ∨ j = 19 := by omega
  rcases hq with rfl | rfl | rfl | rfl | rfl | rfl | rfl | rfl | rfl | rfl | rfl | rfl | rfl | rfl | rfl | rfl | rfl | rfl | rfl | rfl
  · exact h0
  · exact h1
  · exact h2
  · exact h3
  · exact h4
  · exact h5
  · exact h6
  · exact h7
  · exact h8
  · exact h9
  · exact h10
  · exact h11
  · exact h12
  · exact h13
  · exact h14
  · exact h15
  · exact h16
  · exact h17
  · exact h18
  · exact h19
theorem gOut6 {x : Int32} (h0 : ¬ x = 0) (h1 : ¬ x = 1) (h2 : ¬ x = 2) (h3 : ¬ x = 3) (h4 : ¬ x = 4) (h5 : ¬ x = 5) (h6 : ¬ x = 6) : x.toInt < 0 ∨ 6 < x.toInt := by
  refine gOut 6 (by decide) (fun j hj => ?_)
  have hq : j = 0 ∨ j = 1 ∨ j = 2 ∨ j = 3 ∨ j = 4 ∨ j = 5 ∨ j = 6 := by omega
  rcases hq with rfl | rfl | rfl | rfl | rfl | rfl | rfl
  · exact h0
  · exact h1
  · exact h2
  · exact h3
  · exact h4
  · exact h5
  · exact h6
theorem gOut10 {x : Int32} (h0 : ¬ x = 0) (h1 : ¬ x = 1) (h2 : ¬ x = 2) (h3 : ¬ x = 3) (h4 : ¬ x = 4) (h5 : ¬ x = 5) (h6 : ¬ x = 6) (h7 : ¬ x = 7) (h8 : ¬ x = 8) (h9 : ¬ x = 9) (h10 : ¬ x = 10) : x.toInt < 0 ∨ 10 < x.toInt := by
  refine gOut 10 (by decide) (fun j hj => ?_)
  have hq : j = 0 ∨ j = 1 ∨ j = 2 ∨ j = 3 ∨ j = 4 ∨ j = 5 ∨ j = 6 ∨ j = 7 ∨ j = 8 ∨ j = 9 ∨ j = 10 := by omega
  rcases hq with rfl | rfl | rfl | rfl | rfl | rfl | rfl | rfl | rfl | rfl | rfl
  · exact h0
  · exact h1
  · exact h2
  · exact h3
  · exact h4
  · exact h5
  · exact h6
  · exact h7
  · exact h8
  · exact h9
  · exact h10
