theorem gr_gr {I : gI} {k i : Nat} {r r' : Nat → Int32} : gr (gr I k i r) k i r' = gr I k i r' := by
  funext a b
  unfold gr
  by_cases h : a = k ∧ b = i
  · rw [if_pos h, if_pos h]
  · rw [if_neg h, if_neg h, if_neg h]
theorem bAlarm_01 {I : gI} {F : gF} {i : Nat} {m : Int32} : bAlarm_r I F i m = 0 ∨ bAlarm_r I F i m = 1 := by
  unfold bAlarm_r
  repeat' split
  all_goals simp
noncomputable def bRowOf (J : gI) (F : gF) (i : Nat) (c a : Int32) : Nat → Int32 := visRow c (if J 4 i 0 = 1 then 1 else 0) (J 0 0 7) a (bAlarm_r J F i a)
noncomputable def bCome0 (I : gI) (ln : Nat) : gI := gr I 7 ln (fun _ => 0)
noncomputable def bF3 (F : gF) (nn : Int32) (v : Nat) : gF := gf F 3 nn.toNatClampNeg (some v)
noncomputable def bCome1 (J : gI) (F : gF) (v i : Nat) (nn c a : Int32) : gI := bKeep_I (gs (gr J 7 v (bRowOf J F i c a)) 0 0 6 (nn + 1)) (bF3 F nn v) i a
noncomputable def bCome2_I (J : gI) (F : gF) (v i nw : Nat) (nn c a : Int32) : gI := bD2_I (bAl (bCome1 J F v i nn c a) (bAlarm_r J F i a)) (bF3 F nn v) v i nw
noncomputable def bCome2_F (J : gI) (F : gF) (v i nw : Nat) (nn c a : Int32) : gF := bD2_F (bAl (bCome1 J F v i nn c a) (bAlarm_r J F i a)) (bF3 F nn v) v i nw
noncomputable def bCome_q {α : Type} (I : gI) (F : gF) (nc nw : Nat) (c a : Int32) (x1 x2 x3 x4 z : α) : α := if pI (vp_in c nc) = 0 then x1 else if pI (mIn a 0 1000) = 0 then x2 else if bPlace I F nw c = -9 then (if bHolds_r I F c = 0 then (if I 0 0 6 < 500 then z else x4) else x3) else x3
noncomputable def bCome_r (I : gI) (F : gF) (nc nw : Nat) (c a : Int32) : Int32 := bCome_q I F nc nw c a (-1) (-2) (-3) (-4) (I 0 0 6)
noncomputable def bCome_I (I : gI) (F : gF) (ln nc nw : Nat) (c a : Int32) : gI := bCome_q I F nc nw c a I I I I (bCome2_I (bCome0 I ln) F ln c.toNatClampNeg nw (I 0 0 6) c a)
noncomputable def bCome_F (I : gI) (F : gF) (ln nc nw : Nat) (c a : Int32) : gF := bCome_q I F nc nw c a F F F F (bCome2_F (bCome0 I ln) F ln c.toNatClampNeg nw (I 0 0 6) c a)
noncomputable def bCome_l (I : gI) (F : gF) (ln nc nw : Nat) (c a : Int32) : Nat := bCome_q I F nc nw c a ln ln ln ln (ln + 1)
theorem fresh7 {ad ad1 : gAd} {lc ln q : Nat} (h1 : ad1 = gua ad 7 ln q) : ∀ k i : Nat, (k = 4 ∨ k = 5 ∨ k = 6 → i < lc) → (k = 7 → i < ln) → ad1 k i = ad k i := fun k i a b => by
  rw [h1]
  refine gua_ne ?_
  by_cases q7 : k = 7
  · right
    have := b q7
    omega
  · exact Or.inl q7
theorem CI_vis {I : gI} {F : gF} {lc ln nc nv nw i : Nat} {c a : Int32} {r : Nat → Int32} (h : CI I F lc ln nc nv nw) (hl : ln = nv) (h5 : nv < 500) (hc : vp_in c nc) (hr : r 0 = c) : CI (bKeep_I (gs (gr (bCome0 I ln) 7 ln r) 0 0 6 (I 0 0 6 + 1)) (bF3 F (I 0 0 6) ln) i a) (bF3 F (I 0 0 6) ln) lc (ln + 1) nc (nv + 1) nw := by
  obtain ⟨kn, k12, klc, kf2, kv, k500, kln, kf3, kw, kw12, kq, kb, kc⟩ := h
  have ev : (I 0 0 6).toNatClampNeg = nv := by rw [kv, nI_clamp (by omega)]
  unfold bF3
  rw [ev]
  have e0 : bCome0 I ln 0 = I 0 := by funext x; simp [bCome0, gr]
  have e1 : bCome0 I ln 1 = I 1 := by funext x; simp [bCome0, gr]
  refine ⟨?_, k12, klc, ?_, ?_, by omega, by omega, ?_, ?_, kw12, ?_, ?_, ?_⟩
  · rw [bKeep_k (by decide)]; simp [gr, upd, e0, kn]
  · intro j hj; rw [gf_k (by decide)]; exact kf2 j hj
  · rw [bKeep_k (by decide)]; simp [gr, upd, kv, nI_1]
  · intro j hj
    by_cases q : j = nv
    · rw [q, gf_self, hl]
    · rw [gf_i q]; exact kf3 j (by omega)
  · rw [bKeep_k (by decide)]; simp [gr, e1, kw]
  · intro j hj
    have := kq j hj
    unfold qv at this ⊢
    rw [gf_k (by decide)]
    exact ⟨this.1, by omega⟩
  · intro z
    rw [gf_k (by decide)] at z
    have := kb z
    unfold bv at this ⊢
    rw [gf_k (by decide)]
    exact ⟨this.1, by omega⟩
  · intro v hv
    rw [bKeep_k (by decide)]
    by_cases q : v = ln
    · subst q; simp [gr, hr]; exact hc
    · have e : (gs (gr (bCome0 I ln) 7 ln r) 0 0 6 (I 0 0 6 + 1)) 7 v 0 = I 7 v 0 := by simp [gr, bCome0, q]
      rw [e]
      exact kc v (by omega)
set_option maxHeartbeats 4000000 in
set_option maxRecDepth 100000 in
theorem come_B {D : va_G} {E : gEc} {ad : gAd} {F : gF} {lc ln : Nat} {l : Launch} {A : Nat → Prop} {Rn : gR} {post : Option Value → gAd → gCe → Prop} {J : gI} {C0 : gCe} {v i nc nv nw : Nat} {nn c a : Int32} (h : gOkM l (gRm 4 1 12) cX5_come 6 (some .int) yX5_come.cls yX5_come.name D A E 1 12 post Rn) (hZ : cX E ad J F lc ln = gup C0 7 v (.inr (4, [.int 0, .int 0, .int 0, .int 0, .int 0, .int 0, .int 0, .int 0, .int 0, .int 0, .int 0, .int 0]))) (hO : ∀ r : Nat → Int32, gup C0 7 v (.inr (4, [.int (r 0), .int (r 1), .int (r 2), .int (r 3), .int (r 4), .int (r 5), .int (r 6), .int (r 7), .int (r 8), .int (r 9), .int (r 10), .int (r 11)])) = cX E ad (gr J 7 v r) F lc ln) (inn : vp_in nn 500) (hnn : J 0 0 6 = nn) (hC : CI (bCome1 J F v i nn c a) (bF3 F nn v) lc ln nc nv nw) (hw : nw < 12) (hvl : v < ln) (hvn : v < nv) (hil : i < lc) (hp : post (some (.int nn)) ad (cX E ad (bCome2_I J F v i nw nn c a) (bCome2_F J F v i nw nn c a) lc ln)) : Rn 75 [(4, .int nn), (3, .ref (ad 4 i)), (0, .ref (ad 0 0)), (1, .int c), (2, .int a)] [.ref (ad 7 v)] ad (cX E ad J F lc ln) 1 12 := by
  refine r_dup h.ok dX5_come_75 rfl ?_
  refine r_iload_n h.ok dX5_come_76 3 rfl ?_
  refine r_aload_n h.ok dX5_come_77 1 rfl ?_
  refine r_get (v := .int (J 4 i 0)) h.ok 0 dX5_come_78 (xo_4 hil _) rfl inX1 (by decide) wfl_X5_64 rfl ?_
  refine r_iconst (v := 1) h.ok dX5_come_81 (by decide) ?_
  have K_82 : ∀ sh : Int32, sh = (if J 4 i 0 = 1 then 1 else 0) → Rn 90 [(4, .int nn), (3, .ref (ad 4 i)), (0, .ref (ad 0 0)), (1, .int c), (2, .int a)] [.int sh, .int c, .ref (ad 7 v), .ref (ad 7 v)] ad (cX E ad J F lc ln) 1 12 := by
    intro sh e_sh
    refine r_aload_n h.ok dX5_come_90 2 rfl ?_
    refine r_get (v := .int (J 0 0 7)) h.ok 7 dX5_come_91 (xo_0 _) rfl inX5 (by decide) wfl_X5_54 rfl ?_
    refine r_iload_n h.ok dX5_come_94 4 rfl ?_
    refine r_aload_n h.ok dX5_come_95 1 rfl ?_
    refine r_iload_n h.ok dX5_come_96 4 rfl ?_
    refine r_callV h.ok [.int a] [.int a, .int (J 0 0 7), .int sh, .int c, .ref (ad 7 v), .ref (ad 7 v)] dX5_come_97 (c_X1_isAlarming D E ad J F lc ln i hil a) wml_X5_132 wim_X1_isAlarming wse_X1_isAlarming win_X1 wco_X1_isAlarming yok_X1_isAlarming (xo_4 hil _) rfl rfl ⟨by decide, by decide, by decide, by decide⟩ (Nat.le_of_ble_eq_true rfl) rfl ?_
    show Rn 100 [(4, .int nn), (3, .ref (ad 4 i)), (0, .ref (ad 0 0)), (1, .int c), (2, .int a)] [.int (bAlarm_r J F i a), .int a, .int (J 0 0 7), .int sh, .int c, .ref (ad 7 v), .ref (ad 7 v)] ad (cX E ad J F lc ln) 1 12
    show Rn 100 [(4, .int nn), (3, .ref (ad 4 i)), (0, .ref (ad 0 0)), (1, .int c), (2, .int a)] [.int (bAlarm_r J F i a), .int a, .int (J 0 0 7), .int sh, .int c, .ref (ad 7 v), .ref (ad 7 v)] ad (cX E ad J F lc ln) 1 12
    rw [hZ]
    refine r_callIX h.ok [.int c, .int sh, .int (J 0 0 7), .int a, .int (bAlarm_r J F i a)] [.ref (ad 7 v)] dX5_come_100 (c_X4_init D E ad C0 v c sh (J 0 0 7) a (bAlarm_r J F i a) (by rw [e_sh]; split <;> simp) bAlarm_01) wml_X5_135 wim_X4_init win_X4 wco_X4_init rfl yok_X4_init ⟨by decide, by decide, by decide, by decide⟩ (Nat.le_of_ble_eq_true rfl) rfl (fun v2 ad2 ce2 hp2 => ?_)
    obtain ⟨rfl, e2, e3⟩ := hp2
    rw [e2, e3]
    rw [show gup C0 7 v (.inr (4, [.int c, .int sh, .int (J 0 0 7), .int a, .int (bAlarm_r J F i a), .int 1, .int (-9), .int (-9), .int (-9), .int (-9), .int (-9), .int (-9)])) = cX E ad (gr J 7 v (visRow c sh (J 0 0 7) a (bAlarm_r J F i a))) F lc ln from hO (visRow c sh (J 0 0 7) a (bAlarm_r J F i a))]
    rw [show visRow c sh (J 0 0 7) a (bAlarm_r J F i a) = bRowOf J F i c a from by unfold bRowOf; rw [e_sh]]
    exact come_C h inn (by simp [gr]; exact hnn) hC hw hvl hvn hil (show (gr J 7 v (bRowOf J F i c a)) 7 v 4 = bAlarm_r J F i a by simp [gr, bRowOf, visRow]) hp
  refine r_icmp_ne h.ok 89 dX5_come_82 (by decide) (fun c_82 => ?_) (fun c_82 => ?_)
  · refine r_iconst (v := 0) h.ok dX5_come_89 (by decide) ?_
    exact K_82 _ (by simp [c_82])
  · refine r_iconst (v := 1) h.ok dX5_come_85 (by decide) ?_
    refine r_goto h.ok 90 dX5_come_86 (by decide) ?_
    exact K_82 _ (by simp [c_82])
set_option maxHeartbeats 4000000 in
set_option maxRecDepth 100000 in
theorem c_X5_come (D : va_G) (E : gEc) (ad : gAd) (I : gI) (F : gF) (lc ln : Nat) (nc nv nw : Nat) (hC : CI I F lc ln nc nv nw) (hF : FW F lc ln) (hln : ln = nv) (c a : Int32) (iw0 : vp_in c nc → bPlace I F nw c = -9 → bHolds_r I F c = 0 → nw < 12) : gCon D E yX5_come cX5_come 6 (some .int) 4 1 12 [.ref (ad 0 0), .int c, .int a] ad (cX E ad I F lc ln) (fun v ad' ce' => v = some (.int (bCome_r I F nc nw c a)) ∧ ad' 0 0 = ad 0 0 ∧ ad' 11 0 = ad 11 0 ∧ ce' = cX E ad' (bCome_I I F ln nc nw c a) (bCome_F I F ln nc nw c a) lc (bCome_l I F ln nc nw c a)) := by
  refine gCon.of (by decide) (Nat.le_of_ble_eq_true rfl) ?_
  intro l A Rn h
  have hC0 := hC
  obtain ⟨kn, k12, klc, kf2, kv, k500, kln, kf3, kw, kw12, kq, kb, kc⟩ := hC
  have hbv := hC0.hbv
  show Rn 0 [(0, .ref (ad 0 0)), (1, .int c), (2, .int a)] [] ad (cX E ad I F lc ln) 0 0
  refine r_aload_n h.ok dX5_come_0 0 rfl ?_
  refine r_iload_n h.ok dX5_come_1 1 rfl ?_
  by_cases c_2 : pI (vp_in c nc) = 0
  · refine r_callV h.ok [.int c] [] dX5_come_2 (c_X5_cowAt_n D E ad I F lc ln nc nv nw hC0 c (pI_0.mp c_2)) wml_X5_60 wim_X5_cowAt wse_X5_cowAt win_X5 wco_X5_cowAt yok_X5_cowAt (xo_0 _) rfl rfl ⟨by decide, by decide, by simp [gRm], by simp [gRm]⟩ (Nat.le_of_ble_eq_true rfl) rfl ?_
    show Rn 5 [(0, .ref (ad 0 0)), (1, .int c), (2, .int a)] [.null] ad (cX E ad I F lc ln) 0 0
    refine r_astore_nN (lv' := [(3, .null), (0, .ref (ad 0 0)), (1, .int c), (2, .int a)]) h.ok dX5_come_5 (by decide) rfl ?_
    refine r_aload_nN h.ok dX5_come_6 0 rfl ?_
    refine r_ifnonnullN h.ok dX5_come_7 ?_
    refine r_iconst (v := (-1)) h.ok dX5_come_10 (by decide) ?_
    refine r_iret h dX5_come_11 ⟨by decide, by decide⟩ ⟨(by unfold bCome_r bCome_q; simp only [if_pos c_2]), rfl, rfl, (by unfold bCome_I bCome_F bCome_l bCome_q; simp only [if_pos c_2])⟩
  · refine r_callV h.ok [.int c] [] dX5_come_2 (c_X5_cowAt_s D E ad I F lc ln nc nv nw hC0 c c.toNatClampNeg (vp_eq (pI_n0.mp c_2)) (vp_lt (pI_n0.mp c_2))) wml_X5_60 wim_X5_cowAt wse_X5_cowAt win_X5 wco_X5_cowAt yok_X5_cowAt (xo_0 _) rfl rfl ⟨by decide, by decide, by simp [gRm], by simp [gRm]⟩ (Nat.le_of_ble_eq_true rfl) rfl ?_
    show Rn 5 [(0, .ref (ad 0 0)), (1, .int c), (2, .int a)] [.ref (ad 4 c.toNatClampNeg)] ad (cX E ad I F lc ln) 0 0
    refine r_astore_n (lv' := [(3, .ref (ad 4 c.toNatClampNeg)), (0, .ref (ad 0 0)), (1, .int c), (2, .int a)]) h.ok dX5_come_5 (by decide) rfl ?_
    refine r_aload_n h.ok dX5_come_6 0 rfl ?_
    refine r_ifnonnull h.ok 12 dX5_come_7 (by decide) ?_
    refine r_iload_n h.ok dX5_come_12 3 rfl ?_
    refine r_iconst (v := 0) h.ok dX5_come_13 (by decide) ?_
    refine r_sipush (v := 1000) h.ok dX5_come_14 (by decide) ?_
    refine r_callS h.ok [.int a, .int 0, .int 1000] [] dX5_come_17 (c_X5_within D E ad I F lc ln a 0 1000) wml_X5_46 wst_X5_within win_X5 wco_X5_within yok_X5_within ⟨by decide, by decide, by simp [gRm], by simp [gRm]⟩ (Nat.le_of_ble_eq_true rfl) rfl ?_
    show Rn 20 [(3, .ref (ad 4 c.toNatClampNeg)), (0, .ref (ad 0 0)), (1, .int c), (2, .int a)] [.int (pI (mIn a 0 1000))] ad (cX E ad I F lc ln) 0 0
    refine r_if_ne h.ok 26 dX5_come_20 (by decide) (fun c_20 => ?_) (fun c_20 => ?_)
    · refine r_aload_n h.ok dX5_come_26 1 rfl ?_
      refine r_get h.ok 2 dX5_come_27 (xo_0 _) rfl inX5 (by decide) wfl_X5_24 rfl ?_
      refine r_iload_n h.ok dX5_come_30 2 rfl ?_
      refine r_callV h.ok [.int c] [] dX5_come_31 (c_X2_placeOf D E ad I F lc ln nc nv nw hC0 c) wml_X5_102 wim_X2_placeOf wse_X2_placeOf win_X2 wco_X2_placeOf yok_X2_placeOf (xo_1 _) rfl rfl ⟨by decide, by decide, by simp [gRm], by simp [gRm]⟩ (Nat.le_of_ble_eq_true rfl) rfl ?_
      show Rn 34 [(3, .ref (ad 4 c.toNatClampNeg)), (0, .ref (ad 0 0)), (1, .int c), (2, .int a)] [.int (bPlace I F nw c)] ad (cX E ad I F lc ln) 0 0
      refine r_bipush (v := (-9)) h.ok dX5_come_34 (by decide) ?_
      refine r_icmp_ne h.ok 50 dX5_come_36 (by decide) (fun c_36 => ?_) (fun c_36 => ?_)
      · refine r_bipush (v := (-3)) h.ok dX5_come_50 (by decide) ?_
        refine r_iret h dX5_come_52 ⟨by decide, by decide⟩ ⟨(by unfold bCome_r bCome_q; simp only [if_neg c_2, if_neg c_20, if_neg c_36]), rfl, rfl, (by unfold bCome_I bCome_F bCome_l bCome_q; simp only [if_neg c_2, if_neg c_20, if_neg c_36])⟩
      · refine r_aload_n h.ok dX5_come_39 1 rfl ?_
        refine r_get h.ok 3 dX5_come_40 (xo_0 _) rfl inX5 (by decide) wfl_X5_31 rfl ?_
        refine r_iload_n h.ok dX5_come_43 2 rfl ?_
        refine r_callV h.ok [.int c] [] dX5_come_44 (c_X0_holds D E ad I F lc ln hbv c) wml_X5_126 wim_X0_holds wse_X0_holds win_X0 wco_X0_holds yok_X0_holds (xo_2 _) rfl rfl ⟨by decide, by decide, by simp [gRm], by simp [gRm]⟩ (Nat.le_of_ble_eq_true rfl) rfl ?_
        show Rn 47 [(3, .ref (ad 4 c.toNatClampNeg)), (0, .ref (ad 0 0)), (1, .int c), (2, .int a)] [.int (bHolds_r I F c)] ad (cX E ad I F lc ln) 0 0
        refine r_if_eq h.ok 53 dX5_come_47 (by decide) (fun c_47 => ?_) (fun c_47 => ?_)
        · refine r_aload_n h.ok dX5_come_53 1 rfl ?_
          refine r_get (v := .int (I 0 0 6)) h.ok 6 dX5_come_54 (xo_0 _) rfl inX5 (by decide) wfl_X5_129 rfl ?_
          refine r_sipush (v := 500) h.ok dX5_come_57 (by decide) ?_
          refine r_icmp_lt h.ok 66 dX5_come_60 (by decide) (fun c_60 => ?_) (fun c_60 => ?_)
          · refine r_aload_n h.ok dX5_come_66 1 rfl ?_
            refine r_get (v := .int (I 0 0 6)) h.ok 6 dX5_come_67 (xo_0 _) rfl inX5 (by decide) wfl_X5_129 rfl ?_
            refine r_istore (lv' := [(4, .int (I 0 0 6)), (3, .ref (ad 4 c.toNatClampNeg)), (0, .ref (ad 0 0)), (1, .int c), (2, .int a)]) h.ok dX5_come_70 (by decide) rfl ?_
            refine r_new (ci := 4) (ty := tyX4) (fs := [.int 0, .int 0, .int 0, .int 0, .int 0, .int 0, .int 0, .int 0, .int 0, .int 0, .int 0, .int 0]) h.ok 7 ln dX5_come_72 (by simp [cX, cXr]) rfl inX4 tyX4_ok wcl_X5_15 wis_X4 win_X4 (fun j hj => by rcases (show j = 0 ∨ j = 1 ∨ j = 2 ∨ j = 3 ∨ j = 4 ∨ j = 5 ∨ j = 6 ∨ j = 7 ∨ j = 8 ∨ j = 9 ∨ j = 10 ∨ j = 11 by omega) with rfl | rfl | rfl | rfl | rfl | rfl | rfl | rfl | rfl | rfl | rfl | rfl <;> rfl) ⟨by decide, by decide⟩ (fun q => ?_)
            obtain ⟨ad1, h1⟩ : ∃ z, z = gua ad 7 ln q := ⟨_, rfl⟩
            rw [← h1, show q = ad1 7 ln from by rw [h1, gua_self], show ad 4 c.toNatClampNeg = ad1 4 c.toNatClampNeg from by rw [h1, gua_ne (Or.inl (by decide))], show ad 0 0 = ad1 0 0 from by rw [h1, gua_ne (Or.inl (by decide))], ← cX_ad (ad := ad) (ad' := ad1) hF (fresh7 h1)]
            rw [show gup (cX E ad1 I F lc ln) 7 ln (.inr (4, [.int 0, .int 0, .int 0, .int 0, .int 0, .int 0, .int 0, .int 0, .int 0, .int 0, .int 0, .int 0])) = cX E ad1 (bCome0 I ln) F lc (ln + 1) from cX_vis (fun _ => 0)]
            have vc : vp_in c nc := pI_n0.mp c_2
            have n5 : nv < 500 := by rw [kv, show (500 : Int32) = nI 500 by decide, nI_ltI (by omega) (by decide)] at c_60; exact c_60
            exact come_B (C0 := cX E ad1 I F lc ln) (nc := nc) (nv := nv + 1) h (cX_vis (fun _ => 0)).symm (fun r => (cX_vis r).trans (by unfold bCome0; rw [gr_gr])) (by rw [kv]; exact vp_in_nI n5 (by decide)) (by simp [bCome0, gr]) (CI_vis hC0 hln n5 vc (by simp [bRowOf, visRow])) (iw0 vc c_36 c_47) (Nat.lt_succ_self _) (by omega) (Nat.lt_of_lt_of_le (vp_lt vc) klc) ⟨(by unfold bCome_r bCome_q; simp only [if_neg c_2, if_neg c_20, if_pos c_36, if_pos c_47, if_pos c_60]), (by rw [h1, gua_ne (Or.inl (by decide))]), (by rw [h1, gua_ne (Or.inl (by decide))]), (by unfold bCome_I bCome_F bCome_l bCome_q; simp only [if_neg c_2, if_neg c_20, if_pos c_36, if_pos c_47, if_pos c_60])⟩
          · refine r_bipush (v := (-4)) h.ok dX5_come_63 (by decide) ?_
            refine r_iret h dX5_come_65 ⟨by decide, by decide⟩ ⟨(by unfold bCome_r bCome_q; simp only [if_neg c_2, if_neg c_20, if_pos c_36, if_pos c_47, if_neg c_60]), rfl, rfl, (by unfold bCome_I bCome_F bCome_l bCome_q; simp only [if_neg c_2, if_neg c_20, if_pos c_36, if_pos c_47, if_neg c_60])⟩
        · refine r_bipush (v := (-3)) h.ok dX5_come_50 (by decide) ?_
          refine r_iret h dX5_come_52 ⟨by decide, by decide⟩ ⟨(by unfold bCome_r bCome_q; simp only [if_neg c_2, if_neg c_20, if_pos c_36, if_neg c_47]), rfl, rfl, (by unfold bCome_I bCome_F bCome_l bCome_q; simp only [if_neg c_2, if_neg c_20, if_pos c_36, if_neg c_47])⟩
    · refine r_bipush (v := (-2)) h.ok dX5_come_23 (by decide) ?_
      refine r_iret h dX5_come_25 ⟨by decide, by decide⟩ ⟨(by unfold bCome_r bCome_q; simp only [if_neg c_2, if_pos c_20]), rfl, rfl, (by unfold bCome_I bCome_F bCome_l bCome_q; simp only [if_neg c_2, if_pos c_20])⟩
