/-- every reference that is held is a cell that lives -/
def FW (F : gF) (lc ln : Nat) : Prop := (∀ j v : Nat, F 2 j = some v → v < lc) ∧ ∀ k j v : Nat, k ≠ 2 → F k j = some v → v < ln
def cowRow (a b c d m : Int32) : Nat → Int32 := fun s => if s = 0 then a else if s = 1 then b else if s = 2 then c else if s = 3 then d else if s = 8 then m else if s = 10 then -9 else 0
def bNewCow (I : gI) (i : Nat) (a b c d m : Int32) : gI := gr (gr (gr I 5 i (fun _ => 0)) 6 i (fun _ => 0)) 4 i (cowRow a b c d m)
theorem map_ad {ad ad' : gAd} {k : Nat} {o : Option Nat} (h : ∀ v : Nat, o = some v → ad' k v = ad k v) : o.map (ad' k) = o.map (ad k) := by
  cases o with
  | none => rfl
  | some v => simp [h v rfl]
theorem cX_ad {E : gEc} {ad ad' : gAd} {I : gI} {F : gF} {lc ln : Nat} (hF : FW F lc ln) (h0 : ∀ k i : Nat, (k = 4 ∨ k = 5 ∨ k = 6 → i < lc) → (k = 7 → i < ln) → ad' k i = ad k i) : cX E ad' I F lc ln = cX E ad I F lc ln := by
  have h7 : ∀ k j : Nat, k ≠ 2 → (F k j).map (ad' 7) = (F k j).map (ad 7) := fun k j hk => map_ad (fun v hv => h0 7 v (by omega) (fun _ => hF.2 k j v hk hv))
  have h4 : ∀ j : Nat, (F 2 j).map (ad' 4) = (F 2 j).map (ad 4) := fun j => map_ad (fun v hv => h0 4 v (fun _ => hF.1 j v hv) (by omega))
  have hs : ∀ k i : Nat, k ≠ 4 → k ≠ 5 → k ≠ 6 → k ≠ 7 → ad' k i = ad k i := fun k i a b c d => h0 k i (by omega) (by omega)
  funext k i
  unfold cX cXr
  split
  · simp only [hs 8 0 (by decide) (by decide) (by decide) (by decide), hs 9 0 (by decide) (by decide) (by decide) (by decide), hs 1 0 (by decide) (by decide) (by decide) (by decide), hs 2 0 (by decide) (by decide) (by decide) (by decide), hs 3 0 (by decide) (by decide) (by decide) (by decide)]
  · simp only [hs 10 0 (by decide) (by decide) (by decide) (by decide)]
  · simp only [h7 1 0 (by decide)]
  · rfl
  · by_cases hi : i < lc
    · simp only [h0 5 i (fun _ => hi) (by omega), h0 6 i (fun _ => hi) (by omega)]
    · rw [if_neg hi, if_neg hi]
  · rfl
  · rfl
  · rfl
  · simp only [h4]
  · simp only [h7 3 _ (by decide)]
  · simp only [h7 0 _ (by decide)]
  · simp only [hs 12 4 (by decide) (by decide) (by decide) (by decide), hs 12 5 (by decide) (by decide) (by decide) (by decide), hs 12 6 (by decide) (by decide) (by decide) (by decide), hs 12 7 (by decide) (by decide) (by decide) (by decide), hs 12 8 (by decide) (by decide) (by decide) (by decide), hs 12 9 (by decide) (by decide) (by decide) (by decide), hs 12 10 (by decide) (by decide) (by decide) (by decide), hs 12 11 (by decide) (by decide) (by decide) (by decide), hs 12 12 (by decide) (by decide) (by decide) (by decide), hs 12 13 (by decide) (by decide) (by decide) (by decide), hs 12 14 (by decide) (by decide) (by decide) (by decide), hs 12 15 (by decide) (by decide) (by decide) (by decide), hs 12 16 (by decide) (by decide) (by decide) (by decide), hs 12 18 (by decide) (by decide) (by decide) (by decide), hs 12 19 (by decide) (by decide) (by decide) (by decide), hs 12 20 (by decide) (by decide) (by decide) (by decide), hs 12 21 (by decide) (by decide) (by decide) (by decide), hs 12 22 (by decide) (by decide) (by decide) (by decide), hs 12 23 (by decide) (by decide) (by decide) (by decide), hs 12 24 (by decide) (by decide) (by decide) (by decide), hs 12 25 (by decide) (by decide) (by decide) (by decide), hs 12 26 (by decide) (by decide) (by decide) (by decide), hs 12 27 (by decide) (by decide) (by decide) (by decide), hs 12 28 (by decide) (by decide) (by decide) (by decide), hs 12 30 (by decide) (by decide) (by decide) (by decide)]
  · rfl
  · rfl
theorem cX_newcow {E : gEc} {ad : gAd} {I : gI} {F : gF} {i ln : Nat} {a b c d m : Int32} : gup (gup (gup (cX E ad I F i ln) 5 i (.inl (E 0, 4, .inl (fun _ => 0)))) 6 i (.inl (E 0, 5, .inl (fun _ => 0)))) 4 i (.inr (1, [.int a, .int b, .int c, .int d, .ref (ad 5 i), .ref (ad 6 i), .int 0, .int 0, .int m, .int 0, .int (-9), .int 0, .int 0, .int 0])) = cX E ad (bNewCow I i a b c d m) F (i + 1) ln := by
  funext k j
  by_cases h4 : k = 4 ∧ j = i
  · obtain ⟨rfl, rfl⟩ := h4
    rw [gup_self]
    simp [cX, cXr, bNewCow, gr, cowRow]
  · rw [gup_ne (by omega)]
    by_cases h6 : k = 6 ∧ j = i
    · obtain ⟨rfl, rfl⟩ := h6
      rw [gup_self]
      simp [cX, cXr, bNewCow, gr]
    · rw [gup_ne (by omega)]
      by_cases h5 : k = 5 ∧ j = i
      · obtain ⟨rfl, rfl⟩ := h5
        rw [gup_self]
        simp [cX, cXr, bNewCow, gr]
      · rw [gup_ne (by omega)]
        have e : bNewCow I i a b c d m k j = I k j := by simp [bNewCow, gr, h4, h5, h6]
        unfold cX
        rw [e]
        unfold cXr
        split
        all_goals first | rfl | (have q : j < i ↔ j < i + 1 := by omega); simp only [q]
set_option maxHeartbeats 4000000 in
set_option maxRecDepth 100000 in
theorem cow_tail {D : va_G} {E : gEc} {ad : gAd} {F : gF} {lc ln : Nat} {l : Launch} {A : Nat → Prop} {Rn : gR} {post : Option Value → gAd → gCe → Prop} {J : gI} {i : Nat} {a b c d cn : Int32} (h : gOkM l (gRm 2 3 23) cX5_cow 5 (some .int) yX5_cow.cls yX5_cow.name D A E 3 23 post Rn) (hil : i < lc) (icn : vp_in cn 12) (hcn : J 0 0 5 = cn) (hpost : post (some (.int (cn + 1 - 1))) ad (cX E ad (gs J 0 0 5 (cn + 1)) (gf F 2 cn.toNatClampNeg (some i)) lc ln)) : Rn 84 [(0, .ref (ad 0 0)), (1, .int a), (2, .int b), (3, .int c), (4, .int d)] [.ref (ad 4 i), .int cn, .ref (ad 8 0)] ad (cX E ad J F lc ln) 3 23 := by
  refine r_aast (t0 := 2) h.ok dX5_cow_84 (xo_8 _) rfl (xo_4 hil _) rfl icn (cX_put8 cn.toNatClampNeg (some i)) ?_
  refine r_aload_n h.ok dX5_cow_85 0 rfl ?_
  refine r_dup h.ok dX5_cow_86 rfl ?_
  refine r_get (v := .int cn) h.ok 5 dX5_cow_87 (xo_0 _) rfl inX5 (by decide) wfl_X5_50 (congrArg (fun z => some (Value.int z)) (hcn : J 0 0 5 = cn)) ?_
  refine r_iconst (v := 1) h.ok dX5_cow_90 (by decide) ?_
  refine r_iadd h.ok dX5_cow_91 ?_
  refine r_put (ty := tyX5) h.ok 5 dX5_cow_92 (xo_0 _) rfl inX5 tyX5_ok nmX5 (by decide) wfl_X5_50 rfl rfl rfl (by simp) (cX_put (r' := upd (J 0 0) 5 (cn + 1)) (xo_0 _)) ?_
  refine r_aload_n h.ok dX5_cow_95 0 rfl ?_
  refine r_get (v := .int (cn + 1)) h.ok 5 dX5_cow_96 (xo_0 _) rfl inX5 (by decide) wfl_X5_50 (congrArg (fun z => some (Value.int z)) ((by simp [gr, upd]) : (gs J 0 0 5 (cn + 1)) 0 0 5 = cn + 1)) ?_
  refine r_iconst (v := 1) h.ok dX5_cow_99 (by decide) ?_
  refine r_isub h.ok dX5_cow_100 ?_
  refine r_iret h dX5_cow_101 ⟨by decide, by decide⟩ hpost
