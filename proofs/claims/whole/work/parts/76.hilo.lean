/-! the class leaves the reference's cells, the reference leaves the class's -/
def Hi (J I : gI) : Prop := ∀ k : Nat, 11 ≤ k → J k = I k
def Lo (J I : gI) : Prop := ∀ k : Nat, k ≤ 10 → J k = I k
theorem Hi.rf {I : gI} : Hi I I := fun _ _ => rfl
theorem Lo.rf {I : gI} : Lo I I := fun _ _ => rfl
theorem Hi.tr {K J I : gI} (h1 : Hi K J) (h2 : Hi J I) : Hi K I := fun k hk => (h1 k hk).trans (h2 k hk)
theorem Lo.tr {K J I : gI} (h1 : Lo K J) (h2 : Lo J I) : Lo K I := fun k hk => (h1 k hk).trans (h2 k hk)
theorem gr_off {I : gI} {k k' i : Nat} {r : Nat → Int32} (h : k' ≠ k) : (gr I k i r) k' = I k' := by
  funext i'
  show (if k' = k ∧ i' = i then r else I k' i') = I k' i'
  exact if_neg (fun z => h z.1)
theorem Hi.gr {J I : gI} {k i : Nat} {r : Nat → Int32} (h : Hi J I) (hk : k < 11) : Hi (gr J k i r) I := fun k' hk' => (gr_off (by omega)).trans (h k' hk')
theorem Lo.gr {J I : gI} {k i : Nat} {r : Nat → Int32} (h : Lo J I) (hk : 10 < k) : Lo (gr J k i r) I := fun k' hk' => (gr_off (by omega)).trans (h k' hk')
theorem Hi.gs {J I : gI} {k i s : Nat} {v : Int32} (h : Hi J I) (hk : k < 11) : Hi (gs J k i s v) I := Hi.gr h hk
theorem Lo.gs {J I : gI} {k i s : Nat} {v : Int32} (h : Lo J I) (hk : 10 < k) : Lo (gs J k i s v) I := Lo.gr h hk
theorem Hi.ite {p : Prop} [Decidable p] {J K I : gI} (h1 : Hi J I) (h2 : Hi K I) : Hi (if p then J else K) I := by split <;> assumption
theorem Lo.ite {p : Prop} [Decidable p] {J K I : gI} (h1 : Lo J I) (h2 : Lo K I) : Lo (if p then J else K) I := by split <;> assumption
theorem Rel_congr {C M C' M' : gI} {F : gF} {nc nv nw t : Nat} (h : Rel C M F nc nv nw t) (hc : Lo C' C) (hm : Hi M' M) : Rel C' M' F nc nv nw t := by
  have c0 := hc 0 (by decide)
  have c1 := hc 1 (by decide)
  have c2 := hc 2 (by decide)
  have c3 := hc 3 (by decide)
  have c4 := hc 4 (by decide)
  have c5 := hc 5 (by decide)
  have c6 := hc 6 (by decide)
  have c7 := hc 7 (by decide)
  have m11 := hm 11 (by decide)
  have m12 := hm 12 (by decide)
  have h0 := h
  obtain ⟨hC, hM, hF, hS, hRC, hU, hV, hQ, hB, hN, hG, hD, hR, hT⟩ := h
  refine Rel_small h0 c0 c1 c2 c6 c7 (fun i s _ => by rw [c4]) (fun s _ _ _ => by rw [m11]) (fun s _ _ => by rw [m12]) ?_ ?_ ?_ ?_ ?_
  · unfold RS at hS ⊢
    rw [c0, c3, m11]
    exact hS
  · intro i hi
    have := hRC i hi
    unfold RC1 at this ⊢
    rw [c4, c5, m12]
    exact this
  · unfold RU at hU ⊢
    rw [m12]
    exact hU
  · unfold RG at hG ⊢
    rw [c0, c3, c4]
    exact hG
  · unfold RT at hT ⊢
    rw [c5]
    exact hT
theorem Rel_one {I I1 : gI} {F : gF} {nc nv nw t : Nat} (h : Rel I I F nc nv nw t) (h1 : Hi I1 I) : Rel I I1 F nc nv nw t := Rel_congr h Lo.rf h1
theorem Rel_two {I1 I2 : gI} {F : gF} {nc nv nw t : Nat} (h : Rel I1 I2 F nc nv nw t) (h2 : Lo I2 I1) : Rel I2 I2 F nc nv nw t := Rel_congr h h2 Hi.rf
/-! class -/
theorem hi_withhold {I : gI} {F : gF} {nc : Nat} {c a : Int32} : Hi (bWithhold_I I F nc c a) I := by
  unfold bWithhold_I
  exact Hi.ite Hi.rf (Hi.ite Hi.rf (Hi.gs Hi.rf (by decide)))
theorem hi_trouble {I : gI} {F : gF} {nc : Nat} {c a b : Int32} : Hi (bTrouble_I I F nc c a b) I := by
  unfold bTrouble_I
  exact Hi.ite Hi.rf (Hi.ite Hi.rf (Hi.ite Hi.rf (Hi.gs Hi.rf (by decide))))
theorem hi_room {I : gI} {F : gF} {a : Int32} : Hi (bRoom_I I F a) I := by
  unfold bRoom_I
  exact Hi.ite Hi.rf (Hi.ite (Hi.gs Hi.rf (by decide)) Hi.rf)
theorem hi_pick {I : gI} {F : gF} {a : Int32} : Hi (bPick_I I F a) I := by
  unfold bPick_I bTake_I
  exact Hi.ite Hi.rf (Hi.gs (Hi.gs Hi.rf (by decide)) (by decide))
theorem hi_cow {I : gI} {lc : Nat} {a b c d : Int32} : Hi (bCow_I I lc a b c d) I := by
  unfold bCow_I bCow_q bNewCow
  exact Hi.ite Hi.rf (Hi.ite Hi.rf (Hi.ite Hi.rf (Hi.ite Hi.rf (Hi.ite (Hi.gs (Hi.gr (Hi.gr (Hi.gr Hi.rf (by decide)) (by decide)) (by decide)) (by decide)) Hi.rf))))
theorem hi_begun {I : gI} {F : gF} {i : Nat} {m : Int32} : Hi (bBegun_I I F i m) I := by
  unfold bBegun_I
  repeat (refine Hi.gs ?_ (by decide))
  exact Hi.rf
theorem hi_arm {I : gI} {F : gF} {v i : Nat} {m h0 : Int32} : Hi (bArm_I I F v i m h0) I := by
  unfold bArm_I
  repeat (refine Hi.gs ?_ (by decide))
  exact Hi.rf
theorem hi_fillB {J : gI} {G : gF} {v i : Nat} : Hi (bFillB J G v i) J := by
  unfold bFillB
  exact hi_begun.tr (hi_arm.tr (Hi.gs Hi.rf (by decide)))
theorem hi_fill {I : gI} {F : gF} {nw : Nat} : Hi (bFill_I I F nw) I := by
  unfold bFill_I
  exact Hi.ite Hi.rf (Hi.ite (Hi.ite Hi.rf (hi_fillB.tr (Hi.gs Hi.rf (by decide)))) Hi.rf)
theorem hi_fin3 {J : gI} {v i : Nat} {mk g : Int32} : Hi (bFin3 J v i mk g) J := by
  unfold bFin3
  repeat (refine Hi.gs ?_ (by decide))
  exact Hi.rf
theorem hi_feed {I : gI} {F : gF} {i : Nat} {m d : Int32} : Hi (bFeed_I I F i m d) I := by
  unfold bFeed_I
  repeat (refine Hi.gs ?_ (by decide))
  exact Hi.rf
theorem hi_fin2 {J : gI} {F : gF} {v i : Nat} {mk wt : Int32} : Hi (bFin2 J F v i mk wt) J := by
  unfold bFin2
  exact hi_fin3.tr (hi_feed.tr (Hi.gs Hi.rf (by decide)))
theorem hi_put {I : gI} {F : gF} {m b : Int32} : Hi (bPut_I I F m b) I := by
  unfold bPut_I
  exact Hi.ite (Hi.ite (Hi.gs Hi.rf (by decide)) (Hi.gs Hi.rf (by decide))) (Hi.gs Hi.rf (by decide))
theorem hi_fin1 {J : gI} {v : Nat} {kd mk : Int32} : Hi (bFin1 J v kd mk) J := by
  unfold bFin1
  repeat (refine Hi.gs ?_ (by decide))
  exact Hi.rf
theorem hi_fin {I : gI} {F : gF} {kd : Int32} : Hi (bFin_I I F kd) I := by
  unfold bFin_I bFinish
  exact Hi.ite Hi.rf (hi_fin2.tr (hi_put.tr hi_fin1))
theorem hi_passL {to : Int32} : ∀ (n : Nat) {I : gI} {F : gF} {nw : Nat}, Hi (bPassL to n I F nw).1 I
  | 0, _, _, _ => Hi.rf
  | n + 1, I, F, nw => by
    unfold bPassL
    split
    · exact Hi.rf
    · split
      · exact Hi.rf
      · refine (hi_passL n).tr (hi_fill.tr ?_)
        unfold bPasF
        exact hi_fin.tr (Hi.gs Hi.rf (by decide))
theorem hi_pass {I : gI} {F : gF} {nw : Nat} {a : Int32} : Hi (bPass_I I F nw a) I := by
  unfold bPass_I
  exact Hi.ite Hi.rf (Hi.ite (Hi.gs (hi_passL 12) (by decide)) Hi.rf)
theorem hi_power {I : gI} {F : gF} {nw : Nat} {b : Int32} : Hi (bPower_I I F nw b) I := by
  unfold bPower_I
  exact Hi.ite (hi_fin.tr (Hi.gs Hi.rf (by decide))) (hi_fill.tr (Hi.gs Hi.rf (by decide)))
theorem hi_keep {I : gI} {F : gF} {i : Nat} {m : Int32} : Hi (bKeep_I I F i m) I := by
  unfold bKeep_I
  exact Hi.ite (Hi.gs Hi.rf (by decide)) (Hi.ite (Hi.gs Hi.rf (by decide)) (Hi.gs (Hi.gs Hi.rf (by decide)) (by decide)))
theorem hi_d2 {J : gI} {F : gF} {v i nw : Nat} : Hi (bD2_I J F v i nw) J := by
  unfold bD2_I bComeR bComeA
  exact Hi.ite (Hi.gs (Hi.gs Hi.rf (by decide)) (by decide)) (hi_fill.tr (Hi.gs Hi.rf (by decide)))
theorem hi_come1 {J : gI} {F : gF} {v i : Nat} {nn c a : Int32} : Hi (bCome1 J F v i nn c a) J := by
  unfold bCome1
  exact hi_keep.tr (Hi.gs (Hi.gr Hi.rf (by decide)) (by decide))
theorem hi_al {J : gI} {al : Int32} : Hi (bAl J al) J := by
  unfold bAl
  exact Hi.ite Hi.rf (Hi.gs Hi.rf (by decide))
theorem hi_come {I : gI} {F : gF} {ln nc nw : Nat} {c a : Int32} : Hi (bCome_I I F ln nc nw c a) I := by
  unfold bCome_I bCome_q bCome2_I bCome0
  exact Hi.ite Hi.rf (Hi.ite Hi.rf (Hi.ite (Hi.ite (Hi.ite (hi_d2.tr (hi_al.tr (hi_come1.tr (Hi.gr Hi.rf (by decide))))) Hi.rf) Hi.rf) Hi.rf))
/-! reference -/
theorem lo_cow {I : gI} {F : gF} {a b c d : Int32} : Lo (mCow_I I F a b c d) I := by
  unfold mCow_I
  refine Lo.ite Lo.rf (Lo.ite Lo.rf (Lo.ite Lo.rf (Lo.ite Lo.rf (Lo.ite Lo.rf ?_))))
  repeat (refine Lo.gs ?_ (by decide))
  exact Lo.rf
theorem lo_withhold {I : gI} {F : gF} {c a : Int32} : Lo (mWithhold_I I F c a) I := by
  unfold mWithhold_I
  exact Lo.ite (Lo.ite Lo.rf (Lo.gs Lo.rf (by decide))) Lo.rf
theorem lo_trouble {I : gI} {F : gF} {c a b : Int32} : Lo (mTrouble_I I F c a b) I := by
  unfold mTrouble_I
  exact Lo.ite (Lo.ite Lo.rf (Lo.ite Lo.rf (Lo.gs Lo.rf (by decide)))) Lo.rf
theorem lo_room {I : gI} {F : gF} {a : Int32} : Lo (mRoom_I I F a) I := by
  unfold mRoom_I
  exact Lo.ite Lo.rf (Lo.ite (Lo.gs Lo.rf (by decide)) Lo.rf)
theorem lo_pick {I : gI} {F : gF} {a : Int32} : Lo (mPick_I I F a) I := by
  unfold mPick_I
  exact Lo.ite Lo.rf (Lo.ite (Lo.gs (Lo.gs Lo.rf (by decide)) (by decide)) (Lo.gs (Lo.gs Lo.rf (by decide)) (by decide)))
theorem lo_begin {I : gI} {F : gF} {v c : Int32} : Lo (mBegin_I I F v c) I := by
  unfold mBegin_I
  repeat (refine Lo.gs ?_ (by decide))
  exact Lo.rf
theorem lo_enter {I : gI} {F : gF} {nw : Nat} : Lo (mEnter I F nw) I := by
  unfold mEnter mEnterB
  exact Lo.ite (Lo.ite Lo.rf (Lo.ite Lo.rf (Lo.gr (Lo.gs lo_begin (by decide)) (by decide)))) Lo.rf
theorem lo_finish {I : gI} {F : gF} {m v c : Int32} : Lo (mFinish_I I F m v c) I := by
  unfold mFinish_I
  repeat (refine Lo.gs ?_ (by decide))
  exact Lo.rf
theorem lo_come1 {I : gI} {nv : Nat} {c a : Int32} : Lo (mCome1 I nv c a) I := by
  unfold mCome1
  repeat (refine Lo.gs ?_ (by decide))
  exact Lo.rf
theorem lo_come {I : gI} {F : gF} {nv nw : Nat} {c a : Int32} : Lo (mCome_I I F nv nw c a) I := by
  unfold mCome_I mCome2
  exact Lo.ite (Lo.ite Lo.rf (Lo.ite Lo.rf (Lo.ite (Lo.ite Lo.rf (Lo.ite (lo_enter.tr (Lo.gs (Lo.gs lo_come1 (by decide)) (by decide))) lo_come1)) Lo.rf))) Lo.rf
theorem lo_power {I : gI} {F : gF} {nw : Nat} {b : Int32} : Lo (mPower_I I F nw b) I := by
  unfold mPower_I mPower1
  refine lo_enter.tr (Lo.ite (Lo.ite (Lo.gs Lo.rf (by decide)) (lo_finish.tr (Lo.gs (Lo.gs Lo.rf (by decide)) (by decide)))) (Lo.gs Lo.rf (by decide)))
