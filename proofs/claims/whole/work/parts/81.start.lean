theorem gK_start {s : State} {args : Array Value} (hts : ∀ w ∈ lw_tbl, w.before args s = true) : ∃ (D : va_G) (E : gEc), gK D E s := by
  obtain ⟨c0, i0, K0⟩ := u_known (C := RX0) (T := TX0) (N := 5) (n := 5) hts inX0 (hts _ wis_X0)
  obtain ⟨c1, i1, K1⟩ := u_known (C := RX1) (T := TX1) (N := 14) (n := 14) hts inX1 (hts _ wis_X1)
  obtain ⟨c2, i2, K2⟩ := u_known (C := RX2) (T := TX2) (N := 2) (n := 2) hts inX2 (hts _ wis_X2)
  obtain ⟨c3, i3, K3⟩ := u_known (C := RX3) (T := TX3) (N := 5) (n := 5) hts inX3 (hts _ wis_X3)
  obtain ⟨c4, i4, K4⟩ := u_known (C := RX4) (T := TX4) (N := 12) (n := 12) hts inX4 (hts _ wis_X4)
  obtain ⟨c5, i5, K5⟩ := u_known (C := RX5) (T := TX5) (N := 14) (n := 14) hts inX5 (hts _ wis_X5)
  obtain ⟨c6, i6, K6⟩ := u_known (C := RX6) (T := TX6) (N := 43) (n := 43) hts inX6 (hts _ wis_X6)
  obtain ⟨e0, k0, p0, a0, b0, d0⟩ := Cond.arrayClass_spec (hts _ wac_int)
  obtain ⟨e1, k1, p1, a1, b1, d1⟩ := Cond.arrayClass_spec (hts _ wac_boolean)
  obtain ⟨p2, e2, k2, f2, g2, h2, j2, l2⟩ := Cond.arrayOver_spec (hts _ wao_X1)
  obtain ⟨p3, e3, k3, f3, g3, h3, j3, l3⟩ := Cond.arrayOver_spec (hts _ wao_X4)
  refine ⟨(fun k => if k = 0 then c0 else if k = 1 then c1 else if k = 2 then c2 else if k = 3 then c3 else if k = 4 then c4 else if k = 5 then c5 else c6, fun k => if k = 0 then i0 else if k = 1 then i1 else if k = 2 then i2 else if k = 3 then i3 else if k = 4 then i4 else if k = 5 then i5 else i6), fun k => if k = 0 then e0 else if k = 1 then e1 else if k = 2 then e2 else e3, ⟨?_, ?_⟩, va_AO.of (hts _ wao_X1), va_AO.of (hts _ wao_X4), va_Nw.of rfl (hts _ wmn_X5_23), va_Nw.of rfl (hts _ wmn_X5_30), va_Nw.of rfl (hts _ wmn_X5_37), va_Nw.of rfl (hts _ wmn_X4_49)⟩
  · intro k q hq
    match k, hq with
    | 0, hq => cases hq; exact K0
    | 1, hq => cases hq; exact K1
    | 2, hq => cases hq; exact K2
    | 3, hq => cases hq; exact K3
    | 4, hq => cases hq; exact K4
    | 5, hq => cases hq; exact K5
    | 6, hq => cases hq; exact K6
    | k + 7, hq => simp [vwCl] at hq
  · intro k q hq
    match k, hq with
    | 0, hq => cases hq; exact ⟨fun n z => ⟨fun k h => (by cases h), k0, b0, p0, d0⟩, a0⟩
    | 1, hq => cases hq; exact ⟨fun n z => ⟨fun k h => (by cases h), k1, b1, p1, d1⟩, a1⟩
    | 2, hq => cases hq; exact ⟨fun n z => ⟨fun k h => (by cases h), k2, h2, p2, j2⟩, k2, p2, h2, j2, f2, l2⟩
    | 3, hq => cases hq; exact ⟨fun n z => ⟨fun k h => (by cases h), k3, h3, p3, j3⟩, k3, p3, h3, j3, f3, l3⟩
    | k + 4, hq => simp [gTys] at hq
theorem mI0_low {k : Nat} (h : k ≤ 10) : mI0 k = gI0 k := by
  have hl : ∀ {J : gI} {k' j s : Nat} {v : Int32}, k ≠ k' → (gs J k' j s v) k = J k := fun z => gr_off z
  unfold mI0
  rw [hl (by omega), hl (by omega), hl (by omega)]
theorem mI0_12 : mI0 12 = fun _ _ => 0 := by
  have hl : ∀ {J : gI} {k j s : Nat} {v : Int32}, 12 ≠ k → (gs J k j s v) 12 = J 12 := fun z => gr_off z
  unfold mI0 gI0
  rw [hl (by decide), hl (by decide), hl (by decide), hl (by decide), hl (by decide)]
theorem cX_start {E : gEc} {ad ad' : gAd} {ce : gCe} (h1 : ∀ k i : Nat, k ≤ 10 → ad' k i = ad k i) (h2 : ∀ k i : Nat, k ≤ 10 → ce k i = cX E ad gI0 gF0 0 0 k i) (h11 : ce 11 0 = some (.inr (6, [.int 0, .int 0, .int 1, .int 0, .ref (ad' 12 4), .ref (ad' 12 5), .ref (ad' 12 6), .ref (ad' 12 7), .ref (ad' 12 8), .ref (ad' 12 9), .ref (ad' 12 10), .ref (ad' 12 11), .ref (ad' 12 12), .ref (ad' 12 13), .ref (ad' 12 14), .ref (ad' 12 15), .ref (ad' 12 16), .int 0, .ref (ad' 12 18), .ref (ad' 12 19), .ref (ad' 12 20), .ref (ad' 12 21), .ref (ad' 12 22), .ref (ad' 12 23), .ref (ad' 12 24), .ref (ad' 12 25), .ref (ad' 12 26), .ref (ad' 12 27), .ref (ad' 12 28), .int 0, .ref (ad' 12 30), .int (-9), .int 0, .int 0, .int 0, .int 0, .int 0, .int 5000, .int 0, .int 0, .int 0, .int 0, .int 0]))) (h12 : ∀ i : Nat, ce 12 i = cXr E ad' gF0 0 0 12 i (fun _ => 0)) (ho : ∀ k i : Nat, 11 ≤ k → k ≠ 12 → ¬ (k = 11 ∧ i = 0) → ce k i = none) : ce = cX E ad' mI0 gF0 0 0 := by
  funext k i
  by_cases hk : k ≤ 10
  · rw [h2 k i hk]
    show cXr E ad gF0 0 0 k i (gI0 k i) = cXr E ad' gF0 0 0 k i (mI0 k i)
    rw [mI0_low hk]
    generalize gI0 k i = r
    have a1 := h1 1 0 (by decide)
    have a2 := h1 2 0 (by decide)
    have a3 := h1 3 0 (by decide)
    have a8 := h1 8 0 (by decide)
    have a9 := h1 9 0 (by decide)
    have a10 := h1 10 0 (by decide)
    rcases (show k = 0 ∨ k = 1 ∨ k = 2 ∨ k = 3 ∨ k = 4 ∨ k = 5 ∨ k = 6 ∨ k = 7 ∨ k = 8 ∨ k = 9 ∨ k = 10 by omega) with rfl | rfl | rfl | rfl | rfl | rfl | rfl | rfl | rfl | rfl | rfl
    · simp only [cXr, a1, a2, a3, a8, a9]
    · simp only [cXr, a10]
    · rfl
    · rfl
    · rfl
    · rfl
    · rfl
    · rfl
    · rfl
    · rfl
    · rfl
  · by_cases k12 : k = 12
    · subst k12
      rw [h12 i]
      show cXr E ad' gF0 0 0 12 i (fun _ => 0) = cXr E ad' gF0 0 0 12 i (mI0 12 i)
      rw [mI0_12]
    · by_cases k11 : k = 11 ∧ i = 0
      · obtain ⟨rfl, rfl⟩ := k11
        rw [h11]
        rfl
      · rw [ho k i (by omega) k12 k11]
        show none = cXr E ad' gF0 0 0 k i (mI0 k i)
        generalize mI0 k i = r
        by_cases e : k = 11
        · subst e
          exact (if_neg (fun z => k11 ⟨rfl, z⟩)).symm
        · match k, (show 13 ≤ k by omega) with
          | k' + 13, _ => rfl
theorem X6_0 : ∀ j : Nat, j < 43 → defaultValue (tyX6 j) = vp_V [.int 0, .int 0, .int 0, .int 0, .null, .null, .null, .null, .null, .null, .null, .null, .null, .null, .null, .null, .null, .int 0, .null, .null, .null, .null, .null, .null, .null, .null, .null, .null, .null, .int 0, .null, .int 0, .int 0, .int 0, .int 0, .int 0, .int 0, .int 0, .int 0, .int 0, .int 0, .int 0, .int 0] j := fun j hj => by
  match j, hj with
  | 0, _ => rfl
  | 1, _ => rfl
  | 2, _ => rfl
  | 3, _ => rfl
  | 4, _ => rfl
  | 5, _ => rfl
  | 6, _ => rfl
  | 7, _ => rfl
  | 8, _ => rfl
  | 9, _ => rfl
  | 10, _ => rfl
  | 11, _ => rfl
  | 12, _ => rfl
  | 13, _ => rfl
  | 14, _ => rfl
  | 15, _ => rfl
  | 16, _ => rfl
  | 17, _ => rfl
  | 18, _ => rfl
  | 19, _ => rfl
  | 20, _ => rfl
  | 21, _ => rfl
  | 22, _ => rfl
  | 23, _ => rfl
  | 24, _ => rfl
  | 25, _ => rfl
  | 26, _ => rfl
  | 27, _ => rfl
  | 28, _ => rfl
  | 29, _ => rfl
  | 30, _ => rfl
  | 31, _ => rfl
  | 32, _ => rfl
  | 33, _ => rfl
  | 34, _ => rfl
  | 35, _ => rfl
  | 36, _ => rfl
  | 37, _ => rfl
  | 38, _ => rfl
  | 39, _ => rfl
  | 40, _ => rfl
  | 41, _ => rfl
  | 42, _ => rfl
  | j + 43, hj => exact absurd hj (by omega)
theorem X5_0 : ∀ j : Nat, j < 14 → defaultValue (tyX5 j) = vp_V [.null, .null, .null, .null, .null, .int 0, .int 0, .int 0, .int 0, .int 0, .int 0, .int 0, .int 0, .int 0] j := fun j hj => by
  match j, hj with
  | 0, _ => rfl
  | 1, _ => rfl
  | 2, _ => rfl
  | 3, _ => rfl
  | 4, _ => rfl
  | 5, _ => rfl
  | 6, _ => rfl
  | 7, _ => rfl
  | 8, _ => rfl
  | 9, _ => rfl
  | 10, _ => rfl
  | 11, _ => rfl
  | 12, _ => rfl
  | 13, _ => rfl
  | j + 14, hj => exact absurd hj (by omega)
theorem lw_begin {l : Launch} {nm : String} {D : va_G} {A : Nat → Prop} {E : gEc} {b L : Nat} {xs : Nat → Int32} {Rn : gR} (h : gOkL l nm D A E b L xs Rn) (hL : L ≤ 2560) (ad : gAd) : Rn 0 [(0, .ref b)] [] ad (fun _ _ => none) 0 0 := by
  refine r_new (ci := 5) (ty := tyX5) (fs := [.null, .null, .null, .null, .null, .int 0, .int 0, .int 0, .int 0, .int 0, .int 0, .int 0, .int 0, .int 0]) h.ok 0 0 dL_law_0 rfl rfl inX5 tyX5_ok wcl_L_7 wis_X5 win_X5 X5_0 ⟨by decide, by decide⟩ (fun q0 => ?_)
  obtain ⟨ad1, had1⟩ : ∃ z, z = gua ad 0 0 q0 := ⟨_, rfl⟩
  rw [← had1]
  rw [show q0 = ad1 0 0 from by rw [had1, gua_self]]
  refine r_dup h.ok dL_law_3 rfl ?_
  refine r_callIX h.ok [] [.ref (ad1 0 0)] dL_law_4 (c_X5_init D E ad1 (fun _ _ => none) (fun _ _ => rfl)) wml_L_9 wim_X5_init win_X5 wco_X5_init rfl yok_X5_init ⟨by decide, by decide, by decide, by decide⟩ (Nat.le_of_ble_eq_true rfl) rfl (fun v ad2 ce2 hp => ?_)
  obtain ⟨rfl, a0, hlow, hhigh⟩ := hp
  show Rn 7 [(0, .ref b)] [.ref (ad1 0 0)] ad2 ce2 7 550
  rw [← a0 0]
  refine r_astore_n (lv' := [(1, .ref (ad2 0 0)), (0, .ref b)]) h.ok dL_law_7 (by decide) rfl ?_
  refine r_new (ci := 6) (ty := tyX6) (fs := [.int 0, .int 0, .int 0, .int 0, .null, .null, .null, .null, .null, .null, .null, .null, .null, .null, .null, .null, .null, .int 0, .null, .null, .null, .null, .null, .null, .null, .null, .null, .null, .null, .int 0, .null, .int 0, .int 0, .int 0, .int 0, .int 0, .int 0, .int 0, .int 0, .int 0, .int 0, .int 0, .int 0]) h.ok 11 0 dL_law_8 (hhigh 11 0 (by decide)) rfl inX6 tyX6_ok wcl_L_10 wis_X6 win_X6 X6_0 ⟨by decide, by decide⟩ (fun q1 => ?_)
  obtain ⟨ad3, had3⟩ : ∃ z, z = gua ad2 11 0 q1 := ⟨_, rfl⟩
  rw [← had3]
  rw [show q1 = ad3 11 0 from by rw [had3, gua_self]]
  refine r_dup h.ok dL_law_11 rfl ?_
  refine r_callIX h.ok [] [.ref (ad3 11 0)] dL_law_12 (c_X6_init D E ad3 ce2 (fun i => hhigh 12 i (by decide))) wml_L_12 wim_X6_init win_X6 wco_X6_init rfl yok_X6_init ⟨by decide, by decide, by decide, by decide⟩ (Nat.le_of_ble_eq_true rfl) rfl (fun v ad4 ce4 hp => ?_)
  obtain ⟨rfl, b0, b12, b11, bo⟩ := hp
  have e43 : ∀ k i : Nat, k ≤ 10 → ad4 k i = ad2 k i := fun k i hk => by rw [b0 k i (by omega), had3, gua_ne (Or.inl (by omega))]
  have e := cX_start (E := E) (ad := ad2) (ad' := ad4) (ce := ce4) e43 (fun k i hk => (bo k i (by omega) (by omega)).trans (hlow k i hk)) b11 (fun i => b12 gF0 0 0 i) (fun k i hk h1 h2 => (bo k i h1 h2).trans (hhigh k i hk))
  show Rn 15 [(1, .ref (ad2 0 0)), (0, .ref b)] [.ref (ad3 11 0)] ad4 ce4 33 6297
  rw [← b0 11 0 (by decide), ← e43 0 0 (by decide), e]
  refine r_astore_n (lv' := [(2, .ref (ad4 11 0)), (1, .ref (ad4 0 0)), (0, .ref b)]) h.ok dL_law_15 (by decide) rfl ?_
  refine r_iconst (v := nI 0) h.ok dL_law_16 (by decide) ?_
  refine r_istore_n (lv' := [(3, .int (nI 0)), (2, .ref (ad4 11 0)), (1, .ref (ad4 0 0)), (0, .ref b)]) h.ok dL_law_17 (by decide) rfl ?_
  exact lw_loop h hL (k0 := 33) (n0 := 6297) (by omega) (by omega) L 0 0 0 0 ad4 mI0 gF0 (by omega) (by omega) Rel_0
/-- from the entry, for every script of at most 2560 ints, the law comes to its end with true -/
theorem whole_start {p : Program} {e : Env} {s : State} {m : MethodId} {below : List Frame} {meth : Method} {c : Code} (l : Launch) {b L : Nat} {xs : Nat → Int32} (hL : L ≤ 2560) (C0 : lw_At p s m meth c b L xs) : W p l e room_1 s m #[Value.ref b] below meth c s.heap [] 0 0 (lw_Z below #[Value.ref b] s) (entryFrame m ([Value.ref b] : List Value).toArray 4) := by
  obtain ⟨hx, hb, hr, hml, hown, hts, hX, hbl, hlocks, hgv⟩ := C0
  obtain ⟨D, E, hK⟩ := gK_start hts
  have hW : gW D (fun q : Nat => s.heap.size ≤ q) (fun _ _ => 0) (fun _ _ => none) s.heap := ⟨[], fun _ => .inr (0, []), fun k q h => by simp [va_pl] at h, ⟨fun i j p q h => by simp [va_pl] at h, fun k q h => by simp [va_pl] at h⟩, fun k i e h => by simp at h, fun k i k' i' e e' h => by simp at h⟩
  have key := lw_begin (l := l) (nm := meth.name) (D := D) (A := fun q : Nat => s.heap.size ≤ q) (E := E) (b := b) (L := L) (xs := xs) ⟨p, e, s, m, below, meth, c, rfl, hx, hb, hml, hown, fun w hw => hts w (List.mem_filter.mp hw).1, hK, fun _ h => h, rfl, hr, hlocks, hX, hbl, fun _ h => h⟩ hL (fun _ _ => 0)
  have hl := lv_entry [.ref b] (n := 4) (Nat.le_of_ble_eq_true rfl)
  rw [lg_entry_eq]
  exact key s.heap [] _ hl va_S.rf hW
