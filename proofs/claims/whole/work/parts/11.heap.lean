theorem gW.at {D : va_G} {A : Nat → Prop} {ad : gAd} {ce : gCe} {H : Heap} {kd i : Nat} {e : va_E} (h : gW D A ad ce H) (he : ce kd i = some e) : va_P D vwCl [(ad kd i, e)] H := by
  obtain ⟨L, f, hP, hD, h1, h2⟩ := h
  obtain ⟨hm, hf⟩ := h1 kd i e he
  obtain ⟨j, hj⟩ := va_pl_get (X := []) (f := f) hm
  intro k q hk
  have hz : k < 1 := (List.getElem?_eq_some_iff.mp hk).1
  rw [show k = 0 by omega] at hk
  cases hk
  rw [hf] at hj
  exact hP j _ hj
/-- a named cell gets a new content -/
theorem gW.set {D : va_G} {A : Nat → Prop} {ad : gAd} {ce : gCe} {L : List Nat} {f : Nat → va_E} {kd i : Nat} {e e' : va_E} (he : ce kd i = some e) (h1 : ∀ (k i : Nat) (e : va_E), ce k i = some e → ad k i ∈ L ∧ f (ad k i) = e) (h2 : ∀ (k i k' i' : Nat) (e e' : va_E), ce k i = some e → ce k' i' = some e' → ad k i = ad k' i' → k = k' ∧ i = i') {H1 : Heap} (hP : va_P D vwCl ([] ++ va_pl L (va_up f (ad kd i) e')) H1) (hD : va_D A ([] ++ va_pl L (va_up f (ad kd i) e'))) : gW D A ad (gup ce kd i e') H1 := by
  refine ⟨L, _, hP, hD, ?_, ?_⟩
  · intro k1 i1 e1 q
    unfold gup at q
    by_cases hk : k1 = kd ∧ i1 = i
    · rw [if_pos hk] at q
      obtain ⟨rfl, rfl⟩ := hk
      cases q
      exact ⟨(h1 _ _ _ he).1, va_up_self _ _ _⟩
    · rw [if_neg hk] at q
      obtain ⟨a1, a2⟩ := h1 _ _ _ q
      refine ⟨a1, ?_⟩
      rw [va_up_ne _ _ (fun hh => hk (h2 _ _ _ _ _ _ q he hh))]
      exact a2
  · intro k1 i1 k2 i2 e1 e2 q1 q2 hq
    have a1 : ∃ e3, ce k1 i1 = some e3 := by
      unfold gup at q1
      by_cases hk : k1 = kd ∧ i1 = i
      · obtain ⟨rfl, rfl⟩ := hk
        exact ⟨_, he⟩
      · rw [if_neg hk] at q1
        exact ⟨_, q1⟩
    have a2 : ∃ e3, ce k2 i2 = some e3 := by
      unfold gup at q2
      by_cases hk : k2 = kd ∧ i2 = i
      · obtain ⟨rfl, rfl⟩ := hk
        exact ⟨_, he⟩
      · rw [if_neg hk] at q2
        exact ⟨_, q2⟩
    obtain ⟨e3, a1⟩ := a1
    obtain ⟨e4, a2⟩ := a2
    exact h2 _ _ _ _ _ _ a1 a2 hq
/-- a fresh cell gets a name -/
theorem gW.new {D : va_G} {A : Nat → Prop} {ad : gAd} {ce : gCe} {L : List Nat} {f : Nat → va_E} {kd i q : Nat} {e' : va_E} (he : ce kd i = none) (hq : q ∉ L) (h1 : ∀ (k i : Nat) (e : va_E), ce k i = some e → ad k i ∈ L ∧ f (ad k i) = e) (h2 : ∀ (k i k' i' : Nat) (e e' : va_E), ce k i = some e → ce k' i' = some e' → ad k i = ad k' i' → k = k' ∧ i = i') {H1 : Heap} (hP : va_P D vwCl ([] ++ va_pl (L ++ [q]) (va_up f q e')) H1) (hD : va_D A ([] ++ va_pl (L ++ [q]) (va_up f q e'))) : gW D A (gua ad kd i q) (gup ce kd i e') H1 := by
  have hne : ∀ (k1 i1 : Nat) (e1 : va_E), ce k1 i1 = some e1 → ¬ (k1 = kd ∧ i1 = i) := by
    rintro k1 i1 e1 h ⟨rfl, rfl⟩
    rw [he] at h
    cases h
  have hnq : ∀ (k1 i1 : Nat) (e1 : va_E), ce k1 i1 = some e1 → ad k1 i1 ≠ q := fun k1 i1 e1 h hh => hq (hh ▸ (h1 _ _ _ h).1)
  refine ⟨L ++ [q], _, hP, hD, ?_, ?_⟩
  · intro k1 i1 e1 z
    unfold gup at z
    unfold gua
    by_cases hk : k1 = kd ∧ i1 = i
    · rw [if_pos hk] at z ⊢
      cases z
      exact ⟨List.mem_append_right _ (List.mem_singleton.mpr rfl), va_up_self _ _ _⟩
    · rw [if_neg hk] at z ⊢
      obtain ⟨a1, a2⟩ := h1 _ _ _ z
      exact ⟨List.mem_append_left _ a1, by rw [va_up_ne _ _ (hnq _ _ _ z)]; exact a2⟩
  · intro k1 i1 k2 i2 e1 e2 q1 q2 hqq
    unfold gup at q1 q2
    unfold gua at hqq
    by_cases hk : k1 = kd ∧ i1 = i <;> by_cases hk2 : k2 = kd ∧ i2 = i
    · exact ⟨hk.1.trans hk2.1.symm, hk.2.trans hk2.2.symm⟩
    · rw [if_pos hk, if_neg hk2] at hqq
      rw [if_neg hk2] at q2
      exact absurd hqq.symm (hnq _ _ _ q2)
    · rw [if_neg hk, if_pos hk2] at hqq
      rw [if_neg hk] at q1
      exact absurd hqq (hnq _ _ _ q1)
    · rw [if_neg hk, if_neg hk2] at hqq
      rw [if_neg hk] at q1
      rw [if_neg hk2] at q2
      exact h2 _ _ _ _ _ _ q1 q2 hqq
section GH
variable {l : Launch} {R : Room} {cc : ByteArray} {nL : Nat} {own nm : String} {D : va_G} {A : Nat → Prop} {E : gEc} {Rn : gR} {pc : Nat} {lv lv' : List (Nat × Value)} {st : List Value} {ad : gAd} {ce : gCe} {k n : Nat}
theorem r_get (h : gOk l R cc nL own nm D A E Rn) {kd i ci N ix : Nat} {C : String} {T : u_T} {fs : List Value} {v : Value} (f : Nat) (hd : decode cc pc = .ok (.getfield ix, 3)) (hce : ce kd i = some (.inr (ci, fs))) (hc : vwCl[ci]? = some (C, T, N)) (hin : ∀ w ∈ u_ws C T N, w ∈ lw_tbl) (hf : f < N) (hw : Cond.fieldLink own ix (T f).1 (T f).2.1 (T f).2.2.1 ∈ lw_tbl) (hv : fs[f]? = some v) (kk : Rn (pc + 3) lv (v :: st) ad ce k n) : Rn pc lv (.ref (ad kd i) :: st) ad ce k n := by
  obtain ⟨p, e, s, m, args, below, meth, c, Q, rfl, hx, hb, hml, hown, hts, hK, hA, hnm⟩ := h
  intro H locs ls hl hS hW
  exact va_get (D := D) (ci := ci) (v := v) (C := C) (T := T) (N := N) hx hb hts (gmU hin) hown hK.1 (hW.at hce) 0 rfl hc f hf (hts _ (gm hw rfl)) (fun _ h9 => h9) hv hd (kk H locs ls hl hS hW)
theorem r_put (h : gOk l R cc nL own nm D A E Rn) {kd i ci N ix : Nat} {C : String} {T : u_T} {ty : Nat → FieldType} {fs : List Value} {v : Value} {ce' : gCe} (f : Nat) (hd : decode cc pc = .ok (.putfield ix, 3)) (hce : ce kd i = some (.inr (ci, fs))) (hc : vwCl[ci]? = some (C, T, N)) (hin : ∀ w ∈ u_ws C T N, w ∈ lw_tbl) (hty : ∀ k, k < N → parseFieldDescriptor (T k).2.2.1 = some (ty k)) (hnm2 : ∀ a, a < N → ∀ b, b < N → a ≠ b → (T a).2.1 ≠ (T b).2.1) (hf : f < N) (hw : Cond.fieldLink own ix (T f).1 (T f).2.1 (T f).2.2.1 ∈ lw_tbl) (hfin : (T f).2.2.2 = false) (hn : narrow (ty f) v = v) (hfit : fits (ty f) v = true) (hl0 : f < fs.length) (he : gup ce kd i (.inr (ci, fs.set f v)) = ce') (kk : Rn (pc + 3) lv st ad ce' k n) : Rn pc lv (v :: .ref (ad kd i) :: st) ad ce k n := by
  obtain ⟨p, e, s, m, args, below, meth, c, Q, rfl, hx, hb, hml, hown, hts, hK, hA, hnm⟩ := h
  intro H locs ls hl hS hW
  obtain ⟨L, g, hP, hD, h1, h2⟩ := hW
  obtain ⟨hm, hg⟩ := h1 _ _ _ hce
  obtain ⟨j, hj0⟩ := va_pl_get (X := []) (f := g) hm
  have hj := hj0
  rw [hg] at hj
  refine va_put (D := D) (ci := ci) (v := v) (C := C) (T := T) (N := N) hx hb hts (gmU hin) ty hty hnm2 hown hK.1 hP hD hS j hj hc f hf (hts _ (gm hw rfl)) (fun _ h9 => h9) hfin (hty f hf) hn hfit hl0 hd (fun H1 locs1 hP1 hD1 hS1 => ?_)
  rw [va_pl_set hD hm hj0] at hP1 hD1
  exact kk H1 locs1 ls hl hS1 (he ▸ gW.set hce h1 h2 hP1 hD1)
theorem r_putF (h : gOk l R cc nL own nm D A E Rn) {kd i ci N ix : Nat} {C : String} {T : u_T} {ty : Nat → FieldType} {fs : List Value} {v : Value} {ce' : gCe} (f : Nat) (hd : decode cc pc = .ok (.putfield ix, 3)) (hce : ce kd i = some (.inr (ci, fs))) (hc : vwCl[ci]? = some (C, T, N)) (hin : ∀ w ∈ u_ws C T N, w ∈ lw_tbl) (hty : ∀ k, k < N → parseFieldDescriptor (T k).2.2.1 = some (ty k)) (hnm2 : ∀ a, a < N → ∀ b, b < N → a ≠ b → (T a).2.1 ≠ (T b).2.1) (hf : f < N) (hw : Cond.fieldLink own ix (T f).1 (T f).2.1 (T f).2.2.1 ∈ lw_tbl) (hfin : (T f).2.2.2 = true) (hini : nm = "<init>") (hdecl : (T f).1 = own) (hn : narrow (ty f) v = v) (hfit : fits (ty f) v = true) (hl0 : f < fs.length) (he : gup ce kd i (.inr (ci, fs.set f v)) = ce') (kk : Rn (pc + 3) lv st ad ce' k n) : Rn pc lv (v :: .ref (ad kd i) :: st) ad ce k n := by
  obtain ⟨p, e, s, m, args, below, meth, c, Q, rfl, hx, hb, hml, hown, hts, hK, hA, hnm⟩ := h
  intro H locs ls hl hS hW
  obtain ⟨L, g, hP, hD, h1, h2⟩ := hW
  obtain ⟨hm, hg⟩ := h1 _ _ _ hce
  obtain ⟨j, hj0⟩ := va_pl_get (X := []) (f := g) hm
  have hj := hj0
  rw [hg] at hj
  refine va_putF (D := D) (ci := ci) (v := v) (C := C) (T := T) (N := N) hx hb hts (gmU hin) ty hty hnm2 hown hK.1 hP hD hS j hj hc f hf (hts _ (gm hw rfl)) (fun _ h9 => h9) hfin (hnm.trans hini) hdecl (hty f hf) hn hfit hl0 hd (fun H1 locs1 hP1 hD1 hS1 => ?_)
  rw [va_pl_set hD hm hj0] at hP1 hD1
  exact kk H1 locs1 ls hl hS1 (he ▸ gW.set hce h1 h2 hP1 hD1)
theorem r_iald (h : gOk l R cc nL own nm D A E Rn) {kd i N : Nat} {f : Nat → Int32} {x : Int32} (hd : decode cc pc = .ok (.iaload, 1)) (hce : ce kd i = some (.inl (E 0, N, .inl f))) (hx0 : vp_in x N) (kk : Rn (pc + 1) lv (.int (f x.toNatClampNeg) :: st) ad ce k n) : Rn pc lv (.int x :: .ref (ad kd i) :: st) ad ce k n := by
  obtain ⟨p, e, s, m, args, below, meth, c, Q, rfl, hx, hb, hml, hown, hts, hK, hA, hnm⟩ := h
  intro H locs ls hl hS hW
  exact va_iald hx hb hK.1 (hW.at hce) 0 0 rfl rfl hx0 hd (kk H locs ls hl hS hW)
theorem r_zald (h : gOk l R cc nL own nm D A E Rn) {kd i N : Nat} {f : Nat → Int32} {x : Int32} (hd : decode cc pc = .ok (.baload, 1)) (hce : ce kd i = some (.inl (E 1, N, .inl f))) (hx0 : vp_in x N) (kk : Rn (pc + 1) lv (.int (f x.toNatClampNeg) :: st) ad ce k n) : Rn pc lv (.int x :: .ref (ad kd i) :: st) ad ce k n := by
  obtain ⟨p, e, s, m, args, below, meth, c, Q, rfl, hx, hb, hml, hown, hts, hK, hA, hnm⟩ := h
  intro H locs ls hl hS hW
  exact va_zald hx hb hK.1 (hW.at hce) 0 1 rfl rfl hx0 hd (kk H locs ls hl hS hW)
theorem r_iast (h : gOk l R cc nL own nm D A E Rn) {kd i N : Nat} {f : Nat → Int32} {x v : Int32} {ce' : gCe} (hd : decode cc pc = .ok (.iastore, 1)) (hce : ce kd i = some (.inl (E 0, N, .inl f))) (hx0 : vp_in x N) (he : gup ce kd i (.inl (E 0, N, .inl (upd f x.toNatClampNeg v))) = ce') (kk : Rn (pc + 1) lv st ad ce' k n) : Rn pc lv (.int v :: .int x :: .ref (ad kd i) :: st) ad ce k n := by
  obtain ⟨p, e, s, m, args, below, meth, c, Q, rfl, hx, hb, hml, hown, hts, hK, hA, hnm⟩ := h
  intro H locs ls hl hS hW
  obtain ⟨L, g, hP, hD, h1, h2⟩ := hW
  obtain ⟨hm, hg⟩ := h1 _ _ _ hce
  obtain ⟨j, hj0⟩ := va_pl_get (X := []) (f := g) hm
  have hj := hj0
  rw [hg] at hj
  refine va_iast hx hb hK.1 hP hD hS j 0 hj rfl hx0 hd (fun H1 locs1 hP1 hD1 hS1 => ?_)
  rw [va_pl_set hD hm hj0] at hP1 hD1
  exact kk H1 locs1 ls hl hS1 (he ▸ gW.set hce h1 h2 hP1 hD1)
theorem r_aald (h : gOk l R cc nL own nm D A E Rn) {kd i N t0 : Nat} {cA : ClassId} {C : String} {f : Nat → Option Nat} {x : Int32} (hd : decode cc pc = .ok (.aaload, 1)) (hce : ce kd i = some (.inl (cA, N, .inr (.inr (.inr (.inr f)))))) (ht : (gTys E)[t0]? = some (cA, .object C)) (hx0 : vp_in x N) (kk : Rn (pc + 1) lv (va_rf (f x.toNatClampNeg) :: st) ad ce k n) : Rn pc lv (.int x :: .ref (ad kd i) :: st) ad ce k n := by
  obtain ⟨p, e, s, m, args, below, meth, c, Q, rfl, hx, hb, hml, hown, hts, hK, hA, hnm⟩ := h
  intro H locs ls hl hS hW
  exact va_aldq hx hb hK.1 (hW.at hce) 0 t0 rfl ht hx0 hd (kk H locs ls hl hS hW)
theorem r_aast (h : gOk l R cc nL own nm D A E Rn) {kd i N t0 kv iv ci : Nat} {cA : ClassId} {r : vw_C} {vs : List Value} {f : Nat → Option Nat} {x : Int32} {ce' : gCe} (hd : decode cc pc = .ok (.aastore, 1)) (hce : ce kd i = some (.inl (cA, N, .inr (.inr (.inr (.inr f)))))) (ht : (gTys E)[t0]? = some (cA, .object r.1)) (hv : ce kv iv = some (.inr (ci, vs))) (hc : vwCl[ci]? = some r) (hx0 : vp_in x N) (he : gup ce kd i (.inl (cA, N, .inr (.inr (.inr (.inr (va_up f x.toNatClampNeg (some (ad kv iv)))))))) = ce') (kk : Rn (pc + 1) lv st ad ce' k n) : Rn pc lv (.ref (ad kv iv) :: .int x :: .ref (ad kd i) :: st) ad ce k n := by
  obtain ⟨p, e, s, m, args, below, meth, c, Q, rfl, hx, hb, hml, hown, hts, hK, hA, hnm⟩ := h
  intro H locs ls hl hS hW
  obtain ⟨L, g, hP, hD, h1, h2⟩ := hW
  obtain ⟨hm, hg⟩ := h1 _ _ _ hce
  obtain ⟨j, hj0⟩ := va_pl_get (X := []) (f := g) hm
  have hj := hj0
  rw [hg] at hj
  obtain ⟨hmv, hgv⟩ := h1 _ _ _ hv
  obtain ⟨jv, hjv⟩ := va_pl_get (X := []) (f := g) hmv
  rw [hgv] at hjv
  refine va_astq hx hb hK.1 hP hD hS j t0 jv ci hj ht hjv hc hx0 hd (fun H1 locs1 hP1 hD1 hS1 => ?_)
  rw [va_pl_set hD hm hj0] at hP1 hD1
  exact kk H1 locs1 ls hl hS1 (he ▸ gW.set hce h1 h2 hP1 hD1)
theorem r_aastN (h : gOk l R cc nL own nm D A E Rn) {kd i N t0 : Nat} {cA : ClassId} {C : String} {f : Nat → Option Nat} {x : Int32} {ce' : gCe} (hd : decode cc pc = .ok (.aastore, 1)) (hce : ce kd i = some (.inl (cA, N, .inr (.inr (.inr (.inr f)))))) (ht : (gTys E)[t0]? = some (cA, .object C)) (hx0 : vp_in x N) (he : gup ce kd i (.inl (cA, N, .inr (.inr (.inr (.inr (va_up f x.toNatClampNeg none)))))) = ce') (kk : Rn (pc + 1) lv st ad ce' k n) : Rn pc lv (.null :: .int x :: .ref (ad kd i) :: st) ad ce k n := by
  obtain ⟨p, e, s, m, args, below, meth, c, Q, rfl, hx, hb, hml, hown, hts, hK, hA, hnm⟩ := h
  intro H locs ls hl hS hW
  obtain ⟨L, g, hP, hD, h1, h2⟩ := hW
  obtain ⟨hm, hg⟩ := h1 _ _ _ hce
  obtain ⟨j, hj0⟩ := va_pl_get (X := []) (f := g) hm
  have hj := hj0
  rw [hg] at hj
  refine va_astqN hx hb hK.1 hP hD hS j t0 hj ht hx0 hd (fun H1 locs1 hP1 hD1 hS1 => ?_)
  rw [va_pl_set hD hm hj0] at hP1 hD1
  exact kk H1 locs1 ls hl hS1 (he ▸ gW.set hce h1 h2 hP1 hD1)
theorem r_zast (h : gOk l R cc nL own nm D A E Rn) {kd i N : Nat} {f : Nat → Int32} {x v : Int32} {ce' : gCe} (hd : decode cc pc = .ok (.bastore, 1)) (hce : ce kd i = some (.inl (E 1, N, .inl f))) (hx0 : vp_in x N) (hv : v = 0 ∨ v = 1) (he : gup ce kd i (.inl (E 1, N, .inl (upd f x.toNatClampNeg v))) = ce') (kk : Rn (pc + 1) lv st ad ce' k n) : Rn pc lv (.int v :: .int x :: .ref (ad kd i) :: st) ad ce k n := by
  obtain ⟨p, e, s, m, args, below, meth, c, Q, rfl, hx, hb, hml, hown, hts, hK, hA, hnm⟩ := h
  intro H locs ls hl hS hW
  obtain ⟨L, g, hP, hD, h1, h2⟩ := hW
  obtain ⟨hm, hg⟩ := h1 _ _ _ hce
  obtain ⟨j, hj0⟩ := va_pl_get (X := []) (f := g) hm
  have hj := hj0
  rw [hg] at hj
  have hnv : vp_nar .boolean v = v := by rcases hv with rfl | rfl <;> decide
  refine va_zast hx hb hK.1 hP hD hS j 1 hj rfl hx0 hd (fun H1 locs1 hP1 hD1 hS1 => ?_)
  rw [va_pl_set hD hm hj0] at hP1 hD1
  rw [hnv] at hP1 hD1
  exact kk H1 locs1 ls hl hS1 (he ▸ gW.set hce h1 h2 hP1 hD1)
theorem r_alen (h : gOk l R cc nL own nm D A E Rn) {kd i t0 : Nat} {cA : ClassId} {x : vp_A} {ty : FieldType} {v : Int32} (hd : decode cc pc = .ok (.arraylength, 1)) (hce : ce kd i = some (.inl (cA, x))) (ht : (gTys E)[t0]? = some (cA, ty)) (hv : Int32.ofNat x.1 = v) (kk : Rn (pc + 1) lv (.int v :: st) ad ce k n) : Rn pc lv (.ref (ad kd i) :: st) ad ce k n := by
  obtain ⟨p, e, s, m, args, below, meth, c, Q, rfl, hx, hb, hml, hown, hts, hK, hA, hnm⟩ := h
  intro H locs ls hl hS hW
  exact va_alen hx hb hK.1 (hW.at hce) 0 t0 rfl ht hv hd (kk H locs ls hl hS hW)
theorem r_new (h : gOk l R cc nL own nm D A E Rn) (kd i : Nat) {ci N ix : Nat} {C : String} {T : u_T} {ty : Nat → FieldType} {fs : List Value} (hd : decode cc pc = .ok (.new ix, 3)) (hce : ce kd i = none) (hc : vwCl[ci]? = some (C, T, N)) (hin : ∀ w ∈ u_ws C T N, w ∈ lw_tbl) (hty : ∀ k, k < N → parseFieldDescriptor (T k).2.2.1 = some (ty k)) (hw : Cond.classLink own ix C ∈ lw_tbl) (hi : Cond.instantiable C N ∈ lw_tbl) (hini : Cond.initialized C ∈ lw_tbl) (hfs : ∀ j, j < N → defaultValue (ty j) = vp_V fs j) (hR : k + 1 ≤ R.cells ∧ n + N ≤ R.slots) (kk : ∀ q : Nat, Rn (pc + 3) lv (.ref q :: st) (gua ad kd i q) (gup ce kd i (.inr (ci, fs))) (k + 1) (n + N)) : Rn pc lv st ad ce k n := by
  obtain ⟨p, e, s, m, args, below, meth, c, Q, rfl, hx, hb, hml, hown, hts, hK, hA, hnm⟩ := h
  intro H locs ls hl hS hW
  obtain ⟨L, g, hP, hD, h1, h2⟩ := hW
  refine va_new (ci := ci) (fs := fs) (C := C) (T := T) (N := N) hx hb hts (gmU hin) ty hty hown (hts _ (gm hw rfl)) (hts _ (gm hi rfl)) (hts _ (gm hini rfl)) hK.1 hP hD hS hA hc hfs hR.1 hR.2 hd (fun q H1 hP1 hD1 hS1 => ?_)
  have hq : q ∉ L := by
    intro hm
    obtain ⟨j, hj⟩ := va_pl_get (X := []) (f := g) hm
    have e1 : (([] ++ va_pl L g) ++ [(q, (Sum.inr (ci, fs) : va_E))])[j]? = some (q, g q) := by
      rw [List.getElem?_append_left (List.getElem?_eq_some_iff.mp hj).1]; exact hj
    have e2 : (([] ++ va_pl L g) ++ [(q, (Sum.inr (ci, fs) : va_E))])[([] ++ va_pl L g).length]? = some (q, Sum.inr (ci, fs)) := by
      rw [List.getElem?_append_right (Nat.le_refl _), Nat.sub_self]; rfl
    have e3 := hD1.1 _ _ _ _ e1 e2 rfl
    have e4 := (List.getElem?_eq_some_iff.mp hj).1
    omega
  rw [List.append_assoc, va_pl_push hq] at hP1 hD1
  exact kk q H1 locs ls hl hS1 (gW.new hce hq h1 h2 hP1 hD1)
end GH
