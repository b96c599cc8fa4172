def visRow (c s m a b : Int32) : Nat → Int32 := fun j => if j = 0 then c else if j = 1 then s else if j = 2 then m else if j = 3 then a else if j = 4 then b else if j = 5 then 1 else -9
theorem cX_vis {E : gEc} {ad : gAd} {I : gI} {F : gF} {lc v : Nat} (r : Nat → Int32) : gup (cX E ad I F lc v) 7 v (.inr (4, [.int (r 0), .int (r 1), .int (r 2), .int (r 3), .int (r 4), .int (r 5), .int (r 6), .int (r 7), .int (r 8), .int (r 9), .int (r 10), .int (r 11)])) = cX E ad (gr I 7 v r) F lc (v + 1) := by
  funext k j
  by_cases h7 : k = 7 ∧ j = v
  · obtain ⟨rfl, rfl⟩ := h7
    rw [gup_self]
    simp [cX, cXr, gr]
  · rw [gup_ne (by omega)]
    have e : gr I 7 v r k j = I k j := by simp [gr, h7]
    unfold cX
    rw [e]
    unfold cXr
    split
    all_goals first | rfl | (have q : j < v ↔ j < v + 1 := by omega); simp only [q]
theorem bKeep_k {I : gI} {F : gF} {i : Nat} {m : Int32} {k : Nat} (h : k ≠ 4 ∧ k ≠ 6) : (bKeep_I I F i m) k = I k := by
  obtain ⟨h1, h2⟩ := h
  funext j
  unfold bKeep_I
  repeat' split
  all_goals simp [gr, h1, h2]
noncomputable def bComeR (J : gI) (v : Nat) : gI := gs (gs J 7 v 5 0) 0 0 12 (J 0 0 12 + 1)
noncomputable def bComeA (J : gI) : gI := gs J 1 0 1 (J 1 0 1 + 1)
noncomputable def bD2_I (J : gI) (F : gF) (v i nw : Nat) : gI := if bRight_r J F i (J 0 0 7) = 0 then bComeR J v else bFill_I (bComeA J) (gf F 0 (J 1 0 1).toNatClampNeg (some v)) (nw + 1)
noncomputable def bD2_F (J : gI) (F : gF) (v i nw : Nat) : gF := if bRight_r J F i (J 0 0 7) = 0 then F else bFill_F (bComeA J) (gf F 0 (J 1 0 1).toNatClampNeg (some v)) (nw + 1)
noncomputable def bAl (J : gI) (al : Int32) : gI := if al = 0 then J else gs J 0 0 11 (J 0 0 11 + 1)
theorem CI_add {J : gI} {F : gF} {lc ln nc nv nw v : Nat} (h : CI J F lc ln nc nv nw) (hw : nw < 12) (hv : v < nv) : CI (bComeA J) (gf F 0 (J 1 0 1).toNatClampNeg (some v)) lc ln nc nv (nw + 1) := by
  obtain ⟨kn, k12, klc, kf2, kv, k500, kln, kf3, kw, kw12, kq, kb, kc⟩ := h
  have ew : (J 1 0 1).toNatClampNeg = nw := by rw [kw, nI_clamp (by omega)]
  rw [ew]
  unfold bComeA
  refine ⟨by simp [gr, kn], k12, klc, ?_, by simp [gr, kv], k500, kln, ?_, by simp [gr, upd, kw, nI_1], by omega, ?_, ?_, by simpa [gr] using kc⟩
  · intro j hj; rw [gf_k (by decide)]; exact kf2 j hj
  · intro j hj; rw [gf_k (by decide)]; exact kf3 j hj
  · intro j hj
    unfold qv
    by_cases q : j = nw
    · rw [q, gf_self]; exact ⟨rfl, hv⟩
    · rw [gf_i q]
      exact kq j (by omega)
  · unfold bv
    rw [gf_k (by decide)]
    exact kb
set_option maxHeartbeats 4000000 in
set_option maxRecDepth 100000 in
theorem come_E {D : va_G} {E : gEc} {ad : gAd} {F : gF} {lc ln : Nat} {l : Launch} {A : Nat → Prop} {Rn : gR} {post : Option Value → gAd → gCe → Prop} {J : gI} {v i nc nv nw : Nat} {nn c a : Int32} (h : gOkM l (gRm 4 1 12) cX5_come 6 (some .int) yX5_come.cls yX5_come.name D A E 1 12 post Rn) (hC : CI J F lc ln nc nv nw) (hp : post (some (.int nn)) ad (cX E ad (bFill_I J F nw) (bFill_F J F nw) lc ln)) : Rn 167 [(5, .ref (ad 7 v)), (4, .int nn), (3, .ref (ad 4 i)), (0, .ref (ad 0 0)), (1, .int c), (2, .int a)] [] ad (cX E ad J F lc ln) 1 12 := by
  refine r_aload_n h.ok dX5_come_167 3 rfl ?_
  refine r_callV h.ok [] [] dX5_come_168 (c_X5_fillBox D E ad J F lc ln nc nv nw hC) wml_X5_123 wim_X5_fillBox wse_X5_fillBox win_X5 wco_X5_fillBox yok_X5_fillBox (xo_0 _) rfl rfl ⟨by decide, by decide, by decide, by decide⟩ (Nat.le_of_ble_eq_true rfl) rfl ?_
  show Rn 171 [(5, .ref (ad 7 v)), (4, .int nn), (3, .ref (ad 4 i)), (0, .ref (ad 0 0)), (1, .int c), (2, .int a)] [] ad (cX E ad (bFill_I J F nw) (bFill_F J F nw) lc ln) 1 12
  refine r_goto h.ok 190 dX5_come_171 (by decide) ?_
  refine r_iload h.ok dX5_come_190 1 rfl ?_
  refine r_iret h dX5_come_192 ⟨by decide, by decide⟩ hp
set_option maxHeartbeats 4000000 in
set_option maxRecDepth 100000 in
theorem come_D2 {D : va_G} {E : gEc} {ad : gAd} {F : gF} {lc ln : Nat} {l : Launch} {A : Nat → Prop} {Rn : gR} {post : Option Value → gAd → gCe → Prop} {J : gI} {v i nc nv nw : Nat} {nn c a : Int32} (h : gOkM l (gRm 4 1 12) cX5_come 6 (some .int) yX5_come.cls yX5_come.name D A E 1 12 post Rn) (hC : CI J F lc ln nc nv nw) (hw : nw < 12) (hvl : v < ln) (hvn : v < nv) (hil : i < lc) (hp : post (some (.int nn)) ad (cX E ad (bD2_I J F v i nw) (bD2_F J F v i nw) lc ln)) : Rn 147 [(5, .ref (ad 7 v)), (4, .int nn), (3, .ref (ad 4 i)), (0, .ref (ad 0 0)), (1, .int c), (2, .int a)] [] ad (cX E ad J F lc ln) 1 12 := by
  refine r_aload_n h.ok dX5_come_147 2 rfl ?_
  refine r_aload_n h.ok dX5_come_148 3 rfl ?_
  refine r_get (v := .int (J 0 0 7)) h.ok 7 dX5_come_149 (xo_0 _) rfl inX5 (by decide) wfl_X5_54 rfl ?_
  refine r_callV h.ok [.int (J 0 0 7)] [] dX5_come_152 (c_X1_hasRightAt D E ad J F lc ln i hil (J 0 0 7)) wml_X5_91 wim_X1_hasRightAt wse_X1_hasRightAt win_X1 wco_X1_hasRightAt yok_X1_hasRightAt (xo_4 hil _) rfl rfl ⟨by decide, by decide, by decide, by decide⟩ (Nat.le_of_ble_eq_true rfl) rfl ?_
  show Rn 155 [(5, .ref (ad 7 v)), (4, .int nn), (3, .ref (ad 4 i)), (0, .ref (ad 0 0)), (1, .int c), (2, .int a)] [.int (bRight_r J F i (J 0 0 7))] ad (cX E ad J F lc ln) 1 12
  refine r_if_eq h.ok 174 dX5_come_155 (by decide) (fun c_155 => ?_) (fun c_155 => ?_)
  · refine r_aload h.ok dX5_come_174 0 rfl ?_
    refine r_iconst (v := 0) h.ok dX5_come_176 (by decide) ?_
    refine r_put (ty := tyX4) h.ok 5 dX5_come_177 (xo_7 hvl _) rfl inX4 tyX4_ok nmX4 (by decide) wfl_X5_151 rfl rfl rfl (by simp) (cX_put (r' := upd (J 7 v) 5 0) (xo_7 hvl _)) ?_
    refine r_aload_n h.ok dX5_come_180 3 rfl ?_
    refine r_dup h.ok dX5_come_181 rfl ?_
    refine r_get (v := .int (J 0 0 12)) h.ok 12 dX5_come_182 (xo_0 _) rfl inX5 (by decide) wfl_X5_152 rfl ?_
    refine r_iconst (v := 1) h.ok dX5_come_185 (by decide) ?_
    refine r_iadd h.ok dX5_come_186 ?_
    refine r_put (ty := tyX5) h.ok 12 dX5_come_187 (xo_0 _) rfl inX5 tyX5_ok nmX5 (by decide) wfl_X5_152 rfl rfl rfl (by simp) (cX_put (r' := upd ((gs J 7 v 5 0) 0 0) 12 ((J 0 0 12) + 1)) (xo_0 _)) ?_
    refine r_iload h.ok dX5_come_190 1 rfl ?_
    refine r_iret h dX5_come_192 ⟨by decide, by decide⟩ (by unfold bD2_I bD2_F at hp; rw [if_pos c_155, if_pos c_155] at hp; exact hp)
  · refine r_aload_n h.ok dX5_come_158 3 rfl ?_
    refine r_get h.ok 2 dX5_come_159 (xo_0 _) rfl inX5 (by decide) wfl_X5_24 rfl ?_
    refine r_aload h.ok dX5_come_162 0 rfl ?_
    refine r_callV h.ok [.ref (ad 7 v)] [] dX5_come_164 (c_X2_addLast D E ad J F lc ln nc nv nw hC v hvl hw) wml_X5_147 wim_X2_addLast wse_X2_addLast win_X2 wco_X2_addLast yok_X2_addLast (xo_1 _) rfl rfl ⟨by decide, by decide, by decide, by decide⟩ (Nat.le_of_ble_eq_true rfl) rfl ?_
    show Rn 167 [(5, .ref (ad 7 v)), (4, .int nn), (3, .ref (ad 4 i)), (0, .ref (ad 0 0)), (1, .int c), (2, .int a)] [] ad (cX E ad (bComeA J) (gf F 0 (J 1 0 1).toNatClampNeg (some v)) lc ln) 1 12
    exact come_E h (CI_add hC hw hvn) (by unfold bD2_I bD2_F at hp; rw [if_neg c_155, if_neg c_155] at hp; exact hp)
set_option maxHeartbeats 4000000 in
set_option maxRecDepth 100000 in
theorem come_D {D : va_G} {E : gEc} {ad : gAd} {F : gF} {lc ln : Nat} {l : Launch} {A : Nat → Prop} {Rn : gR} {post : Option Value → gAd → gCe → Prop} {J : gI} {v i nc nv nw : Nat} {nn c a al : Int32} (h : gOkM l (gRm 4 1 12) cX5_come 6 (some .int) yX5_come.cls yX5_come.name D A E 1 12 post Rn) (hC : CI J F lc ln nc nv nw) (hw : nw < 12) (hvl : v < ln) (hvn : v < nv) (hil : i < lc) (hal : J 7 v 4 = al) (hp : post (some (.int nn)) ad (cX E ad (bD2_I (bAl J al) F v i nw) (bD2_F (bAl J al) F v i nw) lc ln)) : Rn 129 [(5, .ref (ad 7 v)), (4, .int nn), (3, .ref (ad 4 i)), (0, .ref (ad 0 0)), (1, .int c), (2, .int a)] [] ad (cX E ad J F lc ln) 1 12 := by
  refine r_aload h.ok dX5_come_129 0 rfl ?_
  refine r_get (v := .int al) h.ok 4 dX5_come_131 (xo_7 hvl _) rfl inX4 (by decide) wfl_X5_141 (congrArg (fun z => some (Value.int z)) (hal : J 7 v 4 = al)) ?_
  refine r_if_eq h.ok 147 dX5_come_134 (by decide) (fun c_134 => ?_) (fun c_134 => ?_)
  · exact come_D2 h hC hw hvl hvn hil (by unfold bAl at hp; rw [if_pos c_134] at hp; exact hp)
  · refine r_aload_n h.ok dX5_come_137 3 rfl ?_
    refine r_dup h.ok dX5_come_138 rfl ?_
    refine r_get (v := .int (J 0 0 11)) h.ok 11 dX5_come_139 (xo_0 _) rfl inX5 (by decide) wfl_X5_144 rfl ?_
    refine r_iconst (v := 1) h.ok dX5_come_142 (by decide) ?_
    refine r_iadd h.ok dX5_come_143 ?_
    refine r_put (ty := tyX5) h.ok 11 dX5_come_144 (xo_0 _) rfl inX5 tyX5_ok nmX5 (by decide) wfl_X5_144 rfl rfl rfl (by simp) (cX_put (r' := upd (J 0 0) 11 ((J 0 0 11) + 1)) (xo_0 _)) ?_
    exact come_D2 h (CI_g0 hC (by decide)) hw hvl hvn hil (by unfold bAl at hp; rw [if_neg c_134] at hp; exact hp)
set_option maxHeartbeats 4000000 in
set_option maxRecDepth 100000 in
theorem come_C {D : va_G} {E : gEc} {ad : gAd} {F : gF} {lc ln : Nat} {l : Launch} {A : Nat → Prop} {Rn : gR} {post : Option Value → gAd → gCe → Prop} {J : gI} {v i nc nv nw : Nat} {nn c a al : Int32} (h : gOkM l (gRm 4 1 12) cX5_come 6 (some .int) yX5_come.cls yX5_come.name D A E 1 12 post Rn) (inn : vp_in nn 500) (hnn : J 0 0 6 = nn) (hC : CI (bKeep_I (gs J 0 0 6 (nn + 1)) (gf F 3 nn.toNatClampNeg (some v)) i a) (gf F 3 nn.toNatClampNeg (some v)) lc ln nc nv nw) (hw : nw < 12) (hvl : v < ln) (hvn : v < nv) (hil : i < lc) (hal : J 7 v 4 = al) (hp : post (some (.int nn)) ad (cX E ad (bD2_I (bAl (bKeep_I (gs J 0 0 6 (nn + 1)) (gf F 3 nn.toNatClampNeg (some v)) i a) al) (gf F 3 nn.toNatClampNeg (some v)) v i nw) (bD2_F (bAl (bKeep_I (gs J 0 0 6 (nn + 1)) (gf F 3 nn.toNatClampNeg (some v)) i a) al) (gf F 3 nn.toNatClampNeg (some v)) v i nw) lc ln)) : Rn 103 [(4, .int nn), (3, .ref (ad 4 i)), (0, .ref (ad 0 0)), (1, .int c), (2, .int a)] [.ref (ad 7 v)] ad (cX E ad J F lc ln) 1 12 := by
  refine r_astore (lv' := [(5, .ref (ad 7 v)), (4, .int nn), (3, .ref (ad 4 i)), (0, .ref (ad 0 0)), (1, .int c), (2, .int a)]) h.ok dX5_come_103 (by decide) rfl ?_
  refine r_aload_n h.ok dX5_come_105 3 rfl ?_
  refine r_get h.ok 1 dX5_come_106 (xo_0 _) rfl inX5 (by decide) wfl_X5_17 rfl ?_
  refine r_iload h.ok dX5_come_109 1 rfl ?_
  refine r_aload h.ok dX5_come_111 0 rfl ?_
  refine r_aast (t0 := 3) h.ok dX5_come_113 (xo_9 _) rfl (xo_7 hvl _) rfl inn (cX_put9 nn.toNatClampNeg (some v)) ?_
  refine r_aload_n h.ok dX5_come_114 3 rfl ?_
  refine r_dup h.ok dX5_come_115 rfl ?_
  refine r_get (v := .int nn) h.ok 6 dX5_come_116 (xo_0 _) rfl inX5 (by decide) wfl_X5_129 (congrArg (fun z => some (Value.int z)) (hnn : J 0 0 6 = nn)) ?_
  refine r_iconst (v := 1) h.ok dX5_come_119 (by decide) ?_
  refine r_iadd h.ok dX5_come_120 ?_
  refine r_put (ty := tyX5) h.ok 6 dX5_come_121 (xo_0 _) rfl inX5 tyX5_ok nmX5 (by decide) wfl_X5_129 rfl rfl rfl (by simp) (cX_put (r' := upd (J 0 0) 6 (nn + 1)) (xo_0 _)) ?_
  refine r_aload_n h.ok dX5_come_124 2 rfl ?_
  refine r_iload_n h.ok dX5_come_125 5 rfl ?_
  refine r_callV h.ok [.int a] [] dX5_come_126 (c_X1_keepReading D E ad (gs J 0 0 6 (nn + 1)) (gf F 3 nn.toNatClampNeg (some v)) lc ln i hil a) wml_X5_138 wim_X1_keepReading wse_X1_keepReading win_X1 wco_X1_keepReading yok_X1_keepReading (xo_4 hil _) rfl rfl ⟨by decide, by decide, by decide, by decide⟩ (Nat.le_of_ble_eq_true rfl) rfl ?_
  show Rn 129 [(5, .ref (ad 7 v)), (4, .int nn), (3, .ref (ad 4 i)), (0, .ref (ad 0 0)), (1, .int c), (2, .int a)] [] ad (cX E ad (bKeep_I (gs J 0 0 6 (nn + 1)) (gf F 3 nn.toNatClampNeg (some v)) i a) (gf F 3 nn.toNatClampNeg (some v)) lc ln) 1 12
  exact come_D h hC hw hvl hvn hil (by rw [bKeep_k (by decide)]; simp [gr]; exact hal) hp
