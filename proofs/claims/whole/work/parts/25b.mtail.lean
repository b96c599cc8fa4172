set_option maxHeartbeats 4000000 in
set_option maxRecDepth 100000 in
theorem enter_tail {D : va_G} {E : gEc} {ad : gAd} {F : gF} {lc ln : Nat} {l : Launch} {A : Nat → Prop} {Rn : gR} {post : Option Value → gAd → gCe → Prop} {B : gI} {r : Nat → Int32} {a nw : Nat} {x1 x2 x3 : Int32} (h : gOkM l (gRm 2 0 0) cX6_enter 5 none yX6_enter.cls yX6_enter.name D A E 0 0 post Rn) (nw0 : 0 < nw) (w12 : nw ≤ 12) (alt : a < nw) (hx1 : x1 = nI a) (b29 : B 11 0 29 = nI nw) (b30 : B 12 30 = r) (hpost : ∀ I2 : gI, I2 = gr (gs B 11 0 29 (nI nw - 1)) 12 30 (gShift r a (nw - 1)) → post none ad (cX E ad I2 F lc ln)) : Rn 103 [(3, .int x3), (2, .int x2), (1, .int x1), (0, .ref (ad 11 0))] [] ad (cX E ad B F lc ln) 0 0 := by
  refine r_aload_n h.ok dX6_enter_103 3 rfl ?_
  refine r_dup h.ok dX6_enter_104 rfl ?_
  refine r_get (v := .int (nI nw)) h.ok 29 dX6_enter_105 (xo_11 _) rfl inX6 (by decide) wfl_X6_110 (congrArg (fun z => some (Value.int z)) (b29 : B 11 0 29 = nI nw)) ?_
  refine r_iconst (v := 1) h.ok dX6_enter_108 (by decide) ?_
  refine r_isub h.ok dX6_enter_109 ?_
  refine r_topi (fun wm e_wm => ?_)
  refine r_put (ty := tyX6) h.ok 29 dX6_enter_110 (xo_11 _) rfl inX6 tyX6_ok nmX6 (by decide) wfl_X6_110 rfl rfl rfl (by simp) (cX_put (r' := upd (B 11 0) 29 wm) (xo_11 _)) ?_
  show Rn 113 [(3, .int x3), (2, .int x2), (1, .int x1), (0, .ref (ad 11 0))] [] ad (cX E ad (gs B 11 0 29 wm) F lc ln) 0 0
  have hJ30 : (gs B 11 0 29 wm) 12 30 = r := by simp [gr]; exact b30
  have hJ29 : (gs B 11 0 29 wm) 11 0 29 = nI (nw - 1) := by simp [gr, upd]; rw [e_wm]; exact nI_m1 nw0
  generalize hJ : gs B 11 0 29 wm = J at hJ30 hJ29 ⊢
  refine r_iload_n h.ok dX6_enter_113 2 rfl ?_
  refine r_istore_n (lv' := [(3, .int x1), (2, .int x2), (1, .int x1), (0, .ref (ad 11 0))]) h.ok dX6_enter_114 (by decide) rfl ?_
  have lp115 : ∀ (n : Nat) (j : Nat) (x : Int32), (a ≤ j) → (j ≤ nw - 1) → (nw ≤ j + n) → (x = nI j) → Rn 115 [(3, .int x), (0, .ref (ad 11 0))] [] ad (cX E ad (gr J 12 30 (gShift r a j)) F lc ln) 0 0 := by
    intro n
    induction n with
    | zero => intro j  x  ha hj hf hx; exfalso; omega
    | succ n ih115 =>
      intro j  x  ha hj hf hx
      refine r_iload_n h.ok dX6_enter_115 0 rfl ?_
      refine r_aload_n h.ok dX6_enter_116 1 rfl ?_
      refine r_get (v := .int (nI (nw - 1))) h.ok 29 dX6_enter_117 (xo_11 _) rfl inX6 (by decide) wfl_X6_110 (congrArg (fun z => some (Value.int z)) ((by simp [gr]; exact hJ29) : (gr J 12 30 (gShift r a j)) 11 0 29 = nI (nw - 1))) ?_
      refine r_icmp_ge h.ok 143 dX6_enter_120 (by decide) (fun c_120 => ?_) (fun c_120 => ?_)
      · have jw2 : j = nw - 1 := ge_nI hx (by omega) hj c_120
        refine r_vret h dX6_enter_143 ⟨by decide, by decide⟩ (hpost _ (by rw [← e_wm, hJ, jw2]))
      · have jw2 : j < nw - 1 := lt_nI hx (by omega) hj c_120
        refine r_aload_n h.ok dX6_enter_123 1 rfl ?_
        refine r_get h.ok 30 dX6_enter_124 (xo_11 _) rfl inX6 (by decide) wfl_X6_87 rfl ?_
        refine r_iload_n h.ok dX6_enter_127 0 rfl ?_
        refine r_aload_n h.ok dX6_enter_128 1 rfl ?_
        refine r_get h.ok 30 dX6_enter_129 (xo_11 _) rfl inX6 (by decide) wfl_X6_87 rfl ?_
        refine r_iload_n h.ok dX6_enter_132 0 rfl ?_
        refine r_iconst (v := 1) h.ok dX6_enter_133 (by decide) ?_
        refine r_iadd h.ok dX6_enter_134 ?_
        refine x_iald (v := r (j + 1)) h.ok (j + 1) dX6_enter_135 rfl (by rw [hx]; exact nI_1 j) (by omega) (by decide) (by simp only [gr, gShift, and_self, if_true]; rw [if_neg (by omega)]) ?_
        refine x_iast h.ok j dX6_enter_136 (fun _ => rfl) hx (by omega) (by decide) ?_
        refine r_iinc (v := x + 1) (lv' := [(3, .int (x + 1)), (0, .ref (ad 11 0))]) h.ok dX6_enter_137 0 rfl rfl (by decide) rfl ?_
        refine r_goto h.ok 115 dX6_enter_140 (by decide) ?_
        show Rn 115 [(3, .int (x + 1)), (0, .ref (ad 11 0))] [] ad (cX E ad (gs (gr J 12 30 (gShift r a j)) 12 30 j (r (j + 1))) F lc ln) 0 0
        rw [gShift_step ha]
        exact ih115 (j + 1) _ (by omega) (by omega) (by omega) (by rw [hx]; exact nI_1 j)
  refine r_lv (lv' := [(3, .int x1), (0, .ref (ad 11 0))]) h.ok [0, 3] rfl ?_
  rw [show J = gr J 12 30 (gShift r a a) from (gr_self (by rw [gShift_0]; exact hJ30)).symm]
  exact lp115 nw a _ (Nat.le_refl _) (by omega) (by omega) hx1
