theorem lo_passL {F : gF} {to : Int32} : ∀ (n : Nat) {I : gI} {nw : Nat}, Lo (mPassL F to n I nw) I
  | 0, _, _ => Lo.rf
  | n + 1, I, nw => by
    unfold mPassL
    refine Lo.ite Lo.rf (Lo.ite Lo.rf ((lo_passL n).tr (lo_enter.tr ?_)))
    unfold mPassF
    exact lo_finish.tr (Lo.gs Lo.rf (by decide))
theorem lo_pass {I : gI} {F : gF} {nw : Nat} {a : Int32} : Lo (mPass_I I F nw a) I := by
  unfold mPass_I
  exact Lo.ite Lo.rf (Lo.ite (Lo.gs (lo_passL 13) (by decide)) Lo.rf)
/-! one call of each kind: class, then reference -/
theorem st_withhold {I : gI} {F : gF} {nc nv nw t : Nat} (h : Rel I I F nc nv nw t) (c a : Int32) : bWithhold_r I F nc c a = mWithhold_r (bWithhold_I I F nc c a) F c a ∧ Rel (mWithhold_I (bWithhold_I I F nc c a) F c a) (mWithhold_I (bWithhold_I I F nc c a) F c a) F nc nv nw t := by
  obtain ⟨h1, h2⟩ := sim_withhold (Rel_one h hi_withhold) c a
  exact ⟨h1, Rel_two h2 lo_withhold⟩
theorem st_trouble {I : gI} {F : gF} {nc nv nw t : Nat} (h : Rel I I F nc nv nw t) (c a b : Int32) : bTrouble_r I F nc c a b = mTrouble_r (bTrouble_I I F nc c a b) F c a b ∧ Rel (mTrouble_I (bTrouble_I I F nc c a b) F c a b) (mTrouble_I (bTrouble_I I F nc c a b) F c a b) F nc nv nw t := by
  obtain ⟨h1, h2⟩ := sim_trouble (Rel_one h hi_trouble) c a b
  exact ⟨h1, Rel_two h2 lo_trouble⟩
theorem st_room {I : gI} {F : gF} {nc nv nw t : Nat} (h : Rel I I F nc nv nw t) (a : Int32) : bRoom_r I F a = mRoom_r (bRoom_I I F a) F a ∧ Rel (mRoom_I (bRoom_I I F a) F a) (mRoom_I (bRoom_I I F a) F a) F nc nv nw t := by
  have h0 := Rel_one h (hi_room (F := F) (a := a))
  exact ⟨sim_room h0 a, Rel_two (sim_room2 h0 a) lo_room⟩
theorem st_pick {I : gI} {F : gF} {nc nv nw t : Nat} (h : Rel I I F nc nv nw t) (a : Int32) : bPick_r I F a = mPick_r (bPick_I I F a) F a ∧ Rel (mPick_I (bPick_I I F a) F a) (mPick_I (bPick_I I F a) F a) F nc nv nw t := by
  obtain ⟨h1, h2⟩ := sim_pick (Rel_one h hi_pick) a
  exact ⟨h1, Rel_two h2 lo_pick⟩
theorem st_cow {I : gI} {F : gF} {nc nv nw t : Nat} (h : Rel I I F nc nv nw t) (G : gF) (a b c d : Int32) : bCow_r I a b c d = mCow_r (bCow_I I nc a b c d) G a b c d ∧ Rel (mCow_I (bCow_I I nc a b c d) G a b c d) (mCow_I (bCow_I I nc a b c d) G a b c d) (bCow_F I F nc a b c d) (bCow_l I nc a b c d) nv nw t := by
  obtain ⟨h1, h2⟩ := sim_cow (Rel_one h hi_cow) G a b c d
  exact ⟨h1, Rel_two h2 lo_cow⟩
theorem st_come {I : gI} {F : gF} {nc nv nw t : Nat} (h : Rel I I F nc nv nw t) (G : gF) (c a : Int32) : bCome_r I F nc nw c a = mCome_r (bCome_I I F nv nc nw c a) nv nw c a ∧ ∃ nw' : Nat, Rel (mCome_I (bCome_I I F nv nc nw c a) G nv nw c a) (mCome_I (bCome_I I F nv nc nw c a) G nv nw c a) (bCome_F I F nv nc nw c a) nc (bCome_l I F nv nc nw c a) nw' t := by
  obtain ⟨h1, nw', h2⟩ := sim_come (Rel_one h (hi_come (F := F) (ln := nv) (nc := nc) (nw := nw) (c := c) (a := a))) G c a
  exact ⟨h1, nw', Rel_two h2 lo_come⟩
theorem st_pass {I : gI} {F : gF} {nc nv nw t : Nat} (h : Rel I I F nc nv nw t) (G : gF) (a : Int32) (ht : t + 12 ≤ 100000) : bPass_r I a = mPass_r (bPass_I I F nw a) a ∧ ∃ nw' : Nat, Rel (mPass_I (bPass_I I F nw a) G nw a) (mPass_I (bPass_I I F nw a) G nw a) (bPass_F I F nw a) nc nv nw' (t + 12) := by
  obtain ⟨h1, nw', h2⟩ := sim_pass (Rel_one h (hi_pass (F := F) (nw := nw) (a := a))) G a ht
  exact ⟨h1, nw', Rel_two h2 lo_pass⟩
theorem st_power {I : gI} {F : gF} {nc nv nw t : Nat} (h : Rel I I F nc nv nw t) (G : gF) (b : Int32) (b01 : b = 0 ∨ b = 1) (ht : t + 1 ≤ 100000) : bNum_r I F (I 0 0 8) = mPower_r (bPower_I I F nw b) ∧ ∃ nw' : Nat, Rel (mPower_I (bPower_I I F nw b) G nw b) (mPower_I (bPower_I I F nw b) G nw b) (bPower_F I F nw b) nc nv nw' (t + 1) := by
  obtain ⟨h1, nw', h2⟩ := sim_power (Rel_one h (hi_power (F := F) (nw := nw) (b := b))) G b b01 ht
  exact ⟨h1, nw', Rel_two h2 lo_power⟩
theorem Rel.ht {C M : gI} {F : gF} {nc nv nw t : Nat} (h : Rel C M F nc nv nw t) : M 11 0 0 = 0 := h.2.1.1
theorem Rel.hn {C M : gI} {F : gF} {nc nv nw t : Nat} (h : Rel C M F nc nv nw t) : M 11 0 3 = nI nc := h.2.1.2.1
theorem Rel.h12 {C M : gI} {F : gF} {nc nv nw t : Nat} (h : Rel C M F nc nv nw t) : nc ≤ 12 := h.2.1.2.2.1
theorem Rel.hv {C M : gI} {F : gF} {nc nv nw t : Nat} (h : Rel C M F nc nv nw t) : M 11 0 17 = nI nv := h.2.1.2.2.2.1
theorem Rel.v500 {C M : gI} {F : gF} {nc nv nw t : Nat} (h : Rel C M F nc nv nw t) : nv ≤ 500 := h.2.1.2.2.2.2.1
theorem Rel.hw {C M : gI} {F : gF} {nc nv nw t : Nat} (h : Rel C M F nc nv nw t) : M 11 0 29 = nI nw := h.2.1.2.2.2.2.2.1
theorem Rel.w12 {C M : gI} {F : gF} {nc nv nw t : Nat} (h : Rel C M F nc nv nw t) : nw ≤ 12 := h.2.1.2.2.2.2.2.2.1
theorem Rel.hq {C M : gI} {F : gF} {nc nv nw t : Nat} (h : Rel C M F nc nv nw t) : ∀ j : Nat, j < nw → vp_in (M 12 30 j) nv := h.2.1.2.2.2.2.2.2.2.2.1
theorem Rel.hb {C M : gI} {F : gF} {nc nv nw t : Nat} (h : Rel C M F nc nv nw t) : M 11 0 31 = -9 ∨ vp_in (M 11 0 31) 500 := by
  rcases h.2.1.2.2.2.2.2.2.2.2.2.1 with z | z
  · exact Or.inl z
  · exact Or.inr (fun w => z (w.imp id (fun u => Nat.le_trans h.v500 u)))
theorem Rel.hr {C M : gI} {F : gF} {nc nv nw t : Nat} (h : Rel C M F nc nv nw t) : ∀ j : Nat, j < nc → ¬ M 12 5 j = 0 := h.2.1.2.2.2.2.2.2.2.2.2.2
/-! at the start -/
def mI0 : gI := gs (gs (gs gI0 11 0 2 1) 11 0 31 (-9)) 11 0 37 5000
theorem Rel_0 : Rel mI0 mI0 gF0 0 0 0 0 := by
  refine ⟨?_, ?_, ?_, ?_, ?_, ?_, ?_, ?_, ?_, ?_, ?_, ?_, ?_, ?_⟩
  · refine ⟨by decide, by decide, by decide, fun j hj => absurd hj (by omega), by decide, by decide, by decide, fun j hj => absurd hj (by omega), by decide, by decide, fun j hj => absurd hj (by omega), fun z => absurd rfl z, fun j hj => absurd hj (by omega)⟩
  · refine ⟨by decide, by decide, by decide, by decide, by decide, by decide, by decide, fun j hj => absurd hj (by omega), fun j hj => absurd hj (by omega), Or.inl (by decide), fun j hj => absurd hj (by omega)⟩
  · exact ⟨fun j v z => absurd z (by simp [gF0]), fun k j v _ z => absurd z (by simp [gF0])⟩
  · refine ⟨by decide, by decide, by decide, by decide, by decide, by decide, by decide, by decide, by decide, by decide⟩
  · exact fun j hj => absurd hj (by omega)
  · intro i _ hi
    have e : mI0 12 = fun _ _ => 0 := by
      have hl : ∀ {J : gI} {k j s : Nat} {v : Int32}, 12 ≠ k → (gs J k j s v) 12 = J 12 := fun z => gr_off z
      unfold mI0 gI0
      rw [hl (by decide), hl (by decide), hl (by decide), hl (by decide), hl (by decide)]
    rw [e]
    exact ⟨rfl, rfl, rfl, rfl, fun _ _ => rfl⟩
  · exact fun j hj => absurd hj (by omega)
  · exact fun j hj => absurd hj (by omega)
  · exact Or.inl ⟨rfl, by decide⟩
  · exact ⟨by decide, by decide, by decide⟩
  · exact ⟨by decide, by decide, by decide, by decide, by decide, by decide, fun j hj => absurd hj (by omega)⟩
  · exact ⟨fun j k hj => absurd hj (by omega), fun j hj => absurd hj (by omega), fun z => absurd rfl z⟩
  · exact fun j hj => absurd hj (by omega)
  · exact fun j hj => absurd hj (by omega)
