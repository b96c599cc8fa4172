def gPd (r : Option Value) (ad : gAd) (ce : gCe) : Option Value → gAd → gCe → Prop := fun v ad' ce' => v = r ∧ ad' = ad ∧ ce' = ce
section GA
variable {l : Launch} {R : Room} {cc : ByteArray} {nL : Nat} {own nm : String} {D : va_G} {A : Nat → Prop} {E : gEc} {Rn : gR} {pc : Nat} {lv lv' : List (Nat × Value)} {st : List Value} {ad : gAd} {ce : gCe} {k n : Nat}
theorem gFresh {D : va_G} {A : Nat → Prop} {L : List Nat} {g : Nat → va_E} {q : Nat} {e' : va_E} (hD1 : va_D A (([] ++ va_pl L g) ++ [(q, e')])) : q ∉ L := by
  intro hm
  obtain ⟨j, hj⟩ := va_pl_get (X := []) (f := g) hm
  have e1 : (([] ++ va_pl L g) ++ [(q, e')])[j]? = some (q, g q) := by
    rw [List.getElem?_append_left (List.getElem?_eq_some_iff.mp hj).1]; exact hj
  have e2 : (([] ++ va_pl L g) ++ [(q, e')])[([] ++ va_pl L g).length]? = some (q, e') := by
    rw [List.getElem?_append_right (Nat.le_refl _), Nat.sub_self]; rfl
  have e3 := hD1.1 _ _ _ _ e1 e2 rfl
  have e4 := (List.getElem?_eq_some_iff.mp hj).1
  omega
theorem r_newi (h : gOk l R cc nL own nm D A E Rn) (kd i N : Nat) {x : Int32} (hd : decode cc pc = .ok (.newarray .int, 2)) (hce : ce kd i = none) (hx0 : ¬ x < 0) (hN : x.toNatClampNeg = N) (hN2 : N ≤ 100000) (hR : k + 1 ≤ R.cells ∧ n + N ≤ R.slots) (kk : ∀ q : Nat, Rn (pc + 2) lv (.ref q :: st) (gua ad kd i q) (gup ce kd i (.inl (E 0, N, .inl (fun _ => 0)))) (k + 1) (n + N)) : Rn pc lv (.int x :: st) ad ce k n := by
  obtain ⟨p, e, s, m, args, below, meth, c, Q, rfl, hx, hb, hml, hown, hts, hK, hA, hnm⟩ := h
  intro H locs ls hl hS hW
  obtain ⟨L, g, hP, hD, h1, h2⟩ := hW
  refine va_newa (atype := .int) (ty := .int) (a0 := (N, .inl (fun _ => 0))) hx hb (hts _ (gm wac_int rfl)) rfl hK.1 hP hD hS hA (fun cA => rfl) hx0 hN (by show N * 4 ≤ _; omega) hR.1 hR.2 hd (fun q cA H1 hK1 hP1 hD1 hS1 => ?_)
  have e1 : s.vm.findClass ("[" ++ FieldType.int.toString) = some (E 0) := (hK.1.2 0 (E 0, .int) rfl).2
  have e2 : s.vm.findClass ("[" ++ FieldType.int.toString) = some cA := (hK1.2 4 (cA, .int) rfl).2
  obtain rfl : cA = E 0 := Option.some.inj (e2.symm.trans e1)
  have hq := gFresh (D := D) hD1
  rw [List.append_assoc, va_pl_push hq] at hP1 hD1
  exact kk q H1 locs ls hl hS1 (gW.new hce hq h1 h2 hP1 hD1)
theorem r_newz (h : gOk l R cc nL own nm D A E Rn) (kd i N : Nat) {x : Int32} (hd : decode cc pc = .ok (.newarray .boolean, 2)) (hce : ce kd i = none) (hx0 : ¬ x < 0) (hN : x.toNatClampNeg = N) (hN2 : N ≤ 100000) (hR : k + 1 ≤ R.cells ∧ n + N ≤ R.slots) (kk : ∀ q : Nat, Rn (pc + 2) lv (.ref q :: st) (gua ad kd i q) (gup ce kd i (.inl (E 1, N, .inl (fun _ => 0)))) (k + 1) (n + N)) : Rn pc lv (.int x :: st) ad ce k n := by
  obtain ⟨p, e, s, m, args, below, meth, c, Q, rfl, hx, hb, hml, hown, hts, hK, hA, hnm⟩ := h
  intro H locs ls hl hS hW
  obtain ⟨L, g, hP, hD, h1, h2⟩ := hW
  refine va_newa (atype := .boolean) (ty := .boolean) (a0 := (N, .inl (fun _ => 0))) hx hb (hts _ (gm wac_boolean rfl)) rfl hK.1 hP hD hS hA (fun cA => rfl) hx0 hN (by show N * 1 ≤ _; omega) hR.1 hR.2 hd (fun q cA H1 hK1 hP1 hD1 hS1 => ?_)
  have e1 : s.vm.findClass ("[" ++ FieldType.boolean.toString) = some (E 1) := (hK.1.2 1 (E 1, .boolean) rfl).2
  have e2 : s.vm.findClass ("[" ++ FieldType.boolean.toString) = some cA := (hK1.2 4 (cA, .boolean) rfl).2
  obtain rfl : cA = E 1 := Option.some.inj (e2.symm.trans e1)
  have hq := gFresh (D := D) hD1
  rw [List.append_assoc, va_pl_push hq] at hP1 hD1
  exact kk q H1 locs ls hl hS1 (gW.new hce hq h1 h2 hP1 hD1)
theorem r_newq (h : gOk l R cc nL own nm D A E Rn) (kd i N : Nat) {ix t0 : Nat} {C : String} {cE : ClassId} {x : Int32} (hd : decode cc pc = .ok (.anewarray ix, 3)) (hce : ce kd i = none) (hw : Cond.classLink own ix C ∈ lw_tbl) (ht : (gTys E)[t0]? = some (cE, .object C)) (hC : C = RX1 ∨ C = RX4) (hx0 : ¬ x < 0) (hN : x.toNatClampNeg = N) (hN2 : N ≤ 100000) (hR : k + 1 ≤ R.cells ∧ n + N ≤ R.slots) (kk : ∀ q : Nat, Rn (pc + 3) lv (.ref q :: st) (gua ad kd i q) (gup ce kd i (.inl (cE, N, .inr (.inr (.inr (.inr (fun _ => none))))))) (k + 1) (n + N)) : Rn pc lv (.int x :: st) ad ce k n := by
  obtain ⟨p, e, s, m, args, below, meth, c, Q, rfl, hx, hb, hml, hown, hts, hK, hA, hnm⟩ := h
  intro H locs ls hl hS hW
  obtain ⟨L, g, hP, hD, h1, h2⟩ := hW
  have hAO : va_AO C s := by
    rcases hC with rfl | rfl
    · exact hK.2.1
    · exact hK.2.2.1
  refine va_newq (C := C) hx hb hown (hts _ (gm hw rfl)) hAO hK.1 hP hD hS hA hx0 hN (by omega) hR.1 hR.2 hd (fun q cA H1 hK1 hP1 hD1 hS1 => ?_)
  obtain ⟨kA, comp, -, -, -, e1⟩ := (hK.1.2 t0 (cE, .object C) ht).2
  obtain ⟨kB, comp2, -, -, -, e2⟩ := (hK1.2 4 (cA, .object C) rfl).2
  obtain rfl : cA = cE := Option.some.inj (e2.symm.trans e1)
  have hq := gFresh (D := D) hD1
  rw [List.append_assoc, va_pl_push hq] at hP1 hD1
  exact kk q H1 locs ls hl hS1 (gW.new hce hq h1 h2 hP1 hD1)
/-- a call out of its run -/
theorem gCall {p : Program} {e : Env} {s : State} {m : MethodId} {args : Array Value} {below : List Frame} {meth : Method} {c : Code} {H : Heap} {locs : List Loc} {Q : State → Prop} {ls : Array Slot} {rest : List Value} {a : Array Value} {mc ms : Nat} {post : Option Value → gAd → gCe → Prop} (hl : lv_has ls nL lv) (hS : va_S A s.heap H locs)
    (hr : va_Run p l e R s m args below meth c H locs k n mc ms (F0 m pc ls st) rest (gQ D A post a) A)
    (kk : ∀ (v : Option Value) (ad' : gAd) (ce' : gCe), post v ad' ce' → gRun p l e R s m args below meth c D A nL Q (pc + 3) lv (v.toList ++ rest) ad' ce' (k + mc) (n + ms)) : W p l e R s m args below meth c H locs k n Q (F0 m pc ls st) := by
  intro T hT X
  obtain ⟨v, st₀, t, T', L, h0, X', hL, e1, e2, ⟨⟨v', ad', ce', hv, hp, hw⟩, hz, hk⟩, stp⟩ := hr T hT X
  cases hv
  rw [h0] at hz hk
  have hS1 : va_S A s.heap T'.heap (locs ++ L) := ⟨Nat.le_trans hS.1 (by rw [e1]; exact hz), fun q h1 h2 => by rw [e1, hk q (Nat.lt_of_lt_of_le h1 hS.1) h2]; exact hS.2.1 q h1 h2, fun q hq => by
      rcases List.mem_append.mp hq with h | h
      · exact hS.2.2 q h
      · exact hL q h⟩
  obtain ⟨t2, a1, b1⟩ := kk v ad' ce' hp T'.heap (locs ++ L) ls hl hS1 (by rw [e1]; exact hw) T' rfl X'
  exact ⟨t2, stp t2 a1, b1⟩
theorem gBlind {av : List Value} : FrameBlind (gP D A E av ad ce) := fun a U g mk q => by
  obtain ⟨q0, q1, q2, q3⟩ := q
  exact ⟨q0, gK.same rfl q1, q2, q3⟩
theorem gPre {s : State} {H : Heap} {locs : List Loc} {av : List Value} (hK : gK D E s) (hA : ∀ q : Nat, s.heap.size ≤ q → A q) (hS : va_S A s.heap H locs) (hW : gW D A ad ce H) : ∀ U : State, U.heap = H → s.WarmedH U.vm → gP D A E av ad ce av.toArray U := fun U hU hw => ⟨rfl, hK.warm hw, by rw [hU]; exact fun q hq => hA q (Nat.le_trans hS.1 hq), by rw [hU]; exact hW⟩
abbrev gYok (y : MethodName) (na : Nat) : Prop := y.cls ≠ "java/lang/invoke/MethodHandle" ∧ y.cls ≠ "java/lang/invoke/VarHandle" ∧ (parseMethodDescriptor y.desc).map (fun d => d.parameters.length) = some na
abbrev gRok (R : Room) (maxL d mc ms k n : Nat) : Prop := d + 1 ≤ R.frames ∧ 8 + (maxL + 11) + 30 * d ≤ R.locals ∧ k + mc ≤ R.cells ∧ n + ms ≤ R.slots
theorem r_callVX (h : gOk l R cc nL own nm D A E Rn) {y : MethodName} {bytes : ByteArray} {maxL d mc ms kd i ci ix : Nat} {ret : Option FieldType} {fs : List Value} {q : vw_C} (As rest : List Value) {post : Option Value → gAd → gCe → Prop} (hd : decode cc pc = .ok (.invokevirtual ix, 3)) (hM : gCon D E y bytes maxL ret d mc ms (.ref (ad kd i) :: As) ad ce post) (w1 : Cond.methodLink own ix y ∈ lw_tbl) (w2 : Cond.instanceMethod y ∈ lw_tbl) (w3 : Cond.selects y.cls y y ∈ lw_tbl) (w4 : Cond.initialized y.cls ∈ lw_tbl) (w5 : Cond.code y bytes maxL ret ∈ lw_tbl) (hy : gYok y As.length) (hce : ce kd i = some (.inr (ci, fs))) (hc : vwCl[ci]? = some q) (hq : q.1 = y.cls) (hR : gRok R maxL d mc ms k n) (hst : (rest.map fun v => v.category).sum ≤ 8) (hrev : st = As.reverse ++ .ref (ad kd i) :: rest)
    (kk : ∀ (v : Option Value) (ad' : gAd) (ce' : gCe), post v ad' ce' → Rn (pc + 3) lv (v.toList ++ rest) ad' ce' (k + mc) (n + ms)) : Rn pc lv st ad ce k n := by
  obtain ⟨p, e, s, m, args, below, meth, c, Q, rfl, hx, hb, hml, hown, hts, hK, hA, hnm⟩ := h
  intro H locs ls hl hS hW
  subst hrev
  have cb : CallB R s args own ix y bytes maxL ret (gWs y bytes maxL ret) (gRm d mc ms) mc ms As.length := callB_of As.length hts (gGoodWs w5) rfl rfl rfl (hts _ (gm w4 rfl)) (hts _ (gm w1 rfl)) hy ⟨hR.1, hR.2.1⟩
  obtain ⟨cell, c1, c2, c3⟩ := va_recv hK.1 (hW.at hce) (ci := ci) (q0 := 0) hc rfl
  refine gCall hl hS (va_runV (As := As) (rest := rest) (b := ad kd i) (C := y.cls) ⟨hx, hb, hml, hown, hts⟩ (hM l A) ⟨cb, hts _ (gm w2 rfl), hts _ (gm w3 rfl)⟩ ⟨gBlind, ⟨cell, c1, c2, by rw [← hq]; exact c3⟩, gPre hK hA hS hW⟩ rfl rfl hl.1 rfl (lv_room hst) hd ⟨hR.2.2.1, hR.2.2.2⟩) kk
theorem r_callV (h : gOk l R cc nL own nm D A E Rn) {y : MethodName} {bytes : ByteArray} {maxL d mc ms kd i ci ix : Nat} {ret : Option FieldType} {fs : List Value} {q : vw_C} (As rest : List Value) {r : Option Value} {ad1 : gAd} {ce1 : gCe} (hd : decode cc pc = .ok (.invokevirtual ix, 3)) (hM : gCon D E y bytes maxL ret d mc ms (.ref (ad kd i) :: As) ad ce (gPd r ad1 ce1)) (w1 : Cond.methodLink own ix y ∈ lw_tbl) (w2 : Cond.instanceMethod y ∈ lw_tbl) (w3 : Cond.selects y.cls y y ∈ lw_tbl) (w4 : Cond.initialized y.cls ∈ lw_tbl) (w5 : Cond.code y bytes maxL ret ∈ lw_tbl) (hy : gYok y As.length) (hce : ce kd i = some (.inr (ci, fs))) (hc : vwCl[ci]? = some q) (hq : q.1 = y.cls) (hR : gRok R maxL d mc ms k n) (hst : (rest.map fun v => v.category).sum ≤ 8) (hrev : st = As.reverse ++ .ref (ad kd i) :: rest)
    (kk : Rn (pc + 3) lv (r.toList ++ rest) ad1 ce1 (k + mc) (n + ms)) : Rn pc lv st ad ce k n :=
  r_callVX h As rest hd hM w1 w2 w3 w4 w5 hy hce hc hq hR hst hrev (fun v ad' ce' hp => by obtain ⟨rfl, rfl, rfl⟩ := hp; exact kk)
theorem r_callS (h : gOk l R cc nL own nm D A E Rn) {y : MethodName} {bytes : ByteArray} {maxL d mc ms ix : Nat} {ret : Option FieldType} (As rest : List Value) {r : Option Value} {ad1 : gAd} {ce1 : gCe} (hd : decode cc pc = .ok (.invokestatic ix, 3)) (hM : gCon D E y bytes maxL ret d mc ms As ad ce (gPd r ad1 ce1)) (w1 : Cond.methodLink own ix y ∈ lw_tbl) (w2 : Cond.static y ∈ lw_tbl) (w4 : Cond.initialized y.cls ∈ lw_tbl) (w5 : Cond.code y bytes maxL ret ∈ lw_tbl) (hy : gYok y As.length) (hR : gRok R maxL d mc ms k n) (hst : (rest.map fun v => v.category).sum ≤ 8) (hrev : st = As.reverse ++ rest)
    (kk : Rn (pc + 3) lv (r.toList ++ rest) ad1 ce1 (k + mc) (n + ms)) : Rn pc lv st ad ce k n := by
  obtain ⟨p, e, s, m, args, below, meth, c, Q, rfl, hx, hb, hml, hown, hts, hK, hA, hnm⟩ := h
  intro H locs ls hl hS hW
  subst hrev
  have cb : CallB R s args own ix y bytes maxL ret (gWs y bytes maxL ret) (gRm d mc ms) mc ms As.length := callB_of As.length hts (gGoodWs w5) rfl rfl rfl (hts _ (gm w4 rfl)) (hts _ (gm w1 rfl)) hy ⟨hR.1, hR.2.1⟩
  refine gCall hl hS (va_runS (As := As) (rest := rest) ⟨hx, hb, hml, hown, hts⟩ (hM l A) ⟨cb, hts _ (gm w2 rfl)⟩ ⟨gBlind, gPre hK hA hS hW⟩ rfl rfl hl.1 rfl (lv_room hst) hd ⟨hR.2.2.1, hR.2.2.2⟩) (fun v ad' ce' hp => by obtain ⟨rfl, rfl, rfl⟩ := hp; exact kk)
theorem gCN {s : State} {args : Array Value} {y : MethodName} {bytes : ByteArray} {maxL d mc ms ix na : Nat} {ret : Option FieldType} {host : String} (hts : ∀ w ∈ gTB, w.before args s = true) (hN : va_Nw (.methodLinkNest own ix y host) s) (w4 : Cond.initialized y.cls ∈ lw_tbl) (w5 : Cond.code y bytes maxL ret ∈ lw_tbl) (hy : gYok y na) (hR : gRok R maxL d mc ms k n) : va_CN R s args own ix y host bytes maxL ret (gWs y bytes maxL ret) (gRm d mc ms) mc ms na :=
  va_cnB na hts (gGoodWs w5) rfl rfl rfl hN (hts _ (gm w4 rfl)) hy ⟨hR.1, hR.2.1⟩
theorem r_callSN (h : gOk l R cc nL own nm D A E Rn) {y : MethodName} {bytes : ByteArray} {maxL d mc ms ix : Nat} {ret : Option FieldType} {host : String} (As rest : List Value) {r : Option Value} {ad1 : gAd} {ce1 : gCe} (hd : decode cc pc = .ok (.invokestatic ix, 3)) (hM : gCon D E y bytes maxL ret d mc ms As ad ce (gPd r ad1 ce1)) (hN : ∀ s : State, gNs s → va_Nw (.methodLinkNest own ix y host) s) (w2 : Cond.static y ∈ lw_tbl) (w4 : Cond.initialized y.cls ∈ lw_tbl) (w5 : Cond.code y bytes maxL ret ∈ lw_tbl) (hy : gYok y As.length) (hR : gRok R maxL d mc ms k n) (hst : (rest.map fun v => v.category).sum ≤ 8) (hrev : st = As.reverse ++ rest)
    (kk : Rn (pc + 3) lv (r.toList ++ rest) ad1 ce1 (k + mc) (n + ms)) : Rn pc lv st ad ce k n := by
  obtain ⟨p, e, s, m, args, below, meth, c, Q, rfl, hx, hb, hml, hown, hts, hK, hA, hnm⟩ := h
  intro H locs ls hl hS hW
  subst hrev
  refine gCall hl hS (va_runSN (As := As) (rest := rest) ⟨hx, hb, hml, hown, hts⟩ (hM l A) ⟨gCN hts (hN s hK.2.2.2) w4 w5 hy hR, hts _ (gm w2 rfl), trivial⟩ ⟨gBlind, gPre hK hA hS hW⟩ rfl rfl hl.1 rfl (lv_room hst) hd ⟨hR.2.2.1, hR.2.2.2⟩) (fun v ad' ce' hp => by obtain ⟨rfl, rfl, rfl⟩ := hp; exact kk)
theorem r_callIX (h : gOk l R cc nL own nm D A E Rn) {y : MethodName} {bytes : ByteArray} {maxL d mc ms ix b : Nat} (As rest : List Value) {post : Option Value → gAd → gCe → Prop} (hd : decode cc pc = .ok (.invokespecial ix, 3)) (hM : gCon D E y bytes maxL none d mc ms (.ref b :: As) ad ce post) (w1 : Cond.methodLink own ix y ∈ lw_tbl) (w2 : Cond.instanceMethod y ∈ lw_tbl) (w4 : Cond.initialized y.cls ∈ lw_tbl) (w5 : Cond.code y bytes maxL none ∈ lw_tbl) (hyn : y.name = "<init>") (hy : gYok y As.length) (hR : gRok R maxL d mc ms k n) (hst : (rest.map fun v => v.category).sum ≤ 8) (hrev : st = As.reverse ++ .ref b :: rest)
    (kk : ∀ (v : Option Value) (ad' : gAd) (ce' : gCe), post v ad' ce' → Rn (pc + 3) lv (v.toList ++ rest) ad' ce' (k + mc) (n + ms)) : Rn pc lv st ad ce k n := by
  obtain ⟨p, e, s, m, args, below, meth, c, Q, rfl, hx, hb, hml, hown, hts, hK, hA, hnm⟩ := h
  intro H locs ls hl hS hW
  subst hrev
  have cb : CallB R s args own ix y bytes maxL none (gWs y bytes maxL none) (gRm d mc ms) mc ms As.length := callB_of As.length hts (gGoodWs w5) rfl rfl rfl (hts _ (gm w4 rfl)) (hts _ (gm w1 rfl)) hy ⟨hR.1, hR.2.1⟩
  exact gCall hl hS (va_runI (As := As) (rest := rest) (b := b) ⟨hx, hb, hml, hown, hts⟩ (hM l A) ⟨cb, hyn, hts _ (gm w2 rfl)⟩ ⟨gBlind, gPre hK hA hS hW⟩ rfl rfl hl.1 rfl (lv_room hst) hd ⟨hR.2.2.1, hR.2.2.2⟩) kk
theorem r_callINX (h : gOk l R cc nL own nm D A E Rn) {y : MethodName} {bytes : ByteArray} {maxL d mc ms ix b : Nat} {host : String} (As rest : List Value) {post : Option Value → gAd → gCe → Prop} (hd : decode cc pc = .ok (.invokespecial ix, 3)) (hM : gCon D E y bytes maxL none d mc ms (.ref b :: As) ad ce post) (hN : ∀ s : State, gNs s → va_Nw (.methodLinkNest own ix y host) s) (w2 : Cond.instanceMethod y ∈ lw_tbl) (w4 : Cond.initialized y.cls ∈ lw_tbl) (w5 : Cond.code y bytes maxL none ∈ lw_tbl) (hyn : y.name = "<init>") (hy : gYok y As.length) (hR : gRok R maxL d mc ms k n) (hst : (rest.map fun v => v.category).sum ≤ 8) (hrev : st = As.reverse ++ .ref b :: rest)
    (kk : ∀ (v : Option Value) (ad' : gAd) (ce' : gCe), post v ad' ce' → Rn (pc + 3) lv (v.toList ++ rest) ad' ce' (k + mc) (n + ms)) : Rn pc lv st ad ce k n := by
  obtain ⟨p, e, s, m, args, below, meth, c, Q, rfl, hx, hb, hml, hown, hts, hK, hA, hnm⟩ := h
  intro H locs ls hl hS hW
  subst hrev
  exact gCall hl hS (va_runIN (As := As) (rest := rest) (b := b) ⟨hx, hb, hml, hown, hts⟩ (hM l A) ⟨gCN hts (hN s hK.2.2.2) w4 w5 hy hR, hyn, hts _ (gm w2 rfl)⟩ ⟨gBlind, gPre hK hA hS hW⟩ rfl rfl hl.1 rfl (lv_room hst) hd ⟨hR.2.2.1, hR.2.2.2⟩) kk
variable {ret : Option FieldType} {mc ms : Nat} {post : Option Value → gAd → gCe → Prop}
theorem r_iret (h : gOkM l R cc nL (some .int) own nm D A E mc ms post Rn) {v : Int32} (hd : decode cc pc = .ok (.ireturn, 1)) (hk : k ≤ mc ∧ n ≤ ms) (hp : post (some (.int v)) ad ce) : Rn pc lv [.int v] ad ce k n := by
  obtain ⟨p, e, s, m, args, below, meth, c, rfl, hx, hb, hml, hown, hts, hK, hA, hnm, hr, hlocks⟩ := h
  intro H locs ls hl hS hW
  refine W.widen hk.1 hk.2 ?_
  exact W.iret hx hb hr (fun t ht hWm => ⟨⟨_, ad, ce, rfl, hp, by rw [ht]; exact hW⟩, hS.F ht⟩) hS.2.2 hd hlocks
theorem r_zret (h : gOkM l R cc nL (some .boolean) own nm D A E mc ms post Rn) {v : Int32} (hd : decode cc pc = .ok (.ireturn, 1)) (hk : k ≤ mc ∧ n ≤ ms) (hv : v = 0 ∨ v = 1) (hp : post (some (.int v)) ad ce) : Rn pc lv [.int v] ad ce k n := by
  obtain ⟨p, e, s, m, args, below, meth, c, rfl, hx, hb, hml, hown, hts, hK, hA, hnm, hr, hlocks⟩ := h
  intro H locs ls hl hS hW
  refine W.widen hk.1 hk.2 ?_
  exact W.zret hx hb hr (by rcases hv with rfl | rfl <;> rfl) (fun t ht hWm => ⟨⟨_, ad, ce, rfl, hp, by rw [ht]; exact hW⟩, hS.F ht⟩) hS.2.2 hd hlocks
theorem r_vret (h : gOkM l R cc nL none own nm D A E mc ms post Rn) (hd : decode cc pc = .ok (.return_, 1)) (hk : k ≤ mc ∧ n ≤ ms) (hp : post none ad ce) : Rn pc lv [] ad ce k n := by
  obtain ⟨p, e, s, m, args, below, meth, c, rfl, hx, hb, hml, hown, hts, hK, hA, hnm, hr, hlocks⟩ := h
  intro H locs ls hl hS hW
  refine W.widen hk.1 hk.2 ?_
  exact W.vret hx hb hr (fun t ht hWm => ⟨⟨_, ad, ce, rfl, hp, by rw [ht]; exact hW⟩, hS.F ht⟩) hS.2.2 hd hlocks
theorem r_aret {C : String} (h : gOkM l R cc nL (some (.object C)) own nm D A E mc ms post Rn) {v : Value} (hd : decode cc pc = .ok (.areturn, 1)) (hk : k ≤ mc ∧ n ≤ ms) (hv : v = .null ∨ ∃ a, v = .ref a) (hp : post (some v) ad ce) : Rn pc lv [v] ad ce k n := by
  obtain ⟨p, e, s, m, args, below, meth, c, rfl, hx, hb, hml, hown, hts, hK, hA, hnm, hr, hlocks⟩ := h
  intro H locs ls hl hS hW
  refine W.widen hk.1 hk.2 ?_
  exact W.aret hx hb hr (Or.inl ⟨C, rfl⟩) hv (fun t ht hWm => ⟨⟨_, ad, ce, rfl, hp, by rw [ht]; exact hW⟩, hS.F ht⟩) hS.2.2 hd hlocks
end GA
