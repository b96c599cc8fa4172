/-! THE LAYER OF OUR OWN: one world of named cells (kind, number), one contract form, one row an instruction -/
abbrev gAd : Type := Nat → Nat → Nat
abbrev gCe : Type := Nat → Nat → Option va_E
abbrev gEc : Type := Nat → ClassId
abbrev gR : Type := Nat → List (Nat × Value) → List Value → gAd → gCe → Nat → Nat → Prop
def gTys (E : gEc) : List (ClassId × FieldType) := [(E 0, .int), (E 1, .boolean), (E 2, .object RX1), (E 3, .object RX4)]
def gK (D : va_G) (E : gEc) (U : State) : Prop := va_K D vwCl (gTys E) U ∧ va_AO RX1 U ∧ va_AO RX4 U ∧ gNs U
theorem gK.warm {D : va_G} {E : gEc} {s U : State} (hW : s.WarmedH U.vm) (h : gK D E s) : gK D E U := by
  obtain ⟨h1, h2, h3, n1, n2, n3, n4⟩ := h
  exact ⟨va_K.moved hW.alike h1, va_AO.moved hW.alike h2, va_AO.moved hW.alike h3, va_Nw.warmM hW n1, va_Nw.warmM hW n2, va_Nw.warmM hW n3, va_Nw.warmM hW n4⟩
theorem gK.same {D : va_G} {E : gEc} {u U : State} (hv : u.vm = U.vm) (h : gK D E u) : gK D E U := by
  obtain ⟨h1, h2, h3, n1, n2, n3, n4⟩ := h
  have ha : u.vm.Alike U.vm := by rw [← hv]; exact Vm.Alike.refl u.vm
  exact ⟨va_K.moved ha h1, va_AO.moved ha h2, va_AO.moved ha h3, va_Nw.same rfl hv n1, va_Nw.same rfl hv n2, va_Nw.same rfl hv n3, va_Nw.same rfl hv n4⟩
/-- the world: every named cell lies at its address, holds what ce says, addresses are apart -/
def gW (D : va_G) (A : Nat → Prop) (ad : gAd) (ce : gCe) (H : Heap) : Prop := ∃ (L : List Nat) (f : Nat → va_E), va_P D vwCl ([] ++ va_pl L f) H ∧ va_D A ([] ++ va_pl L f) ∧ (∀ (k i : Nat) (e : va_E), ce k i = some e → ad k i ∈ L ∧ f (ad k i) = e) ∧ ∀ (k i k' i' : Nat) (e e' : va_E), ce k i = some e → ce k' i' = some e' → ad k i = ad k' i' → k = k' ∧ i = i'
def gup (ce : gCe) (k i : Nat) (e : va_E) : gCe := fun k' i' => if k' = k ∧ i' = i then some e else ce k' i'
def gua (ad : gAd) (k i : Nat) (q : Nat) : gAd := fun k' i' => if k' = k ∧ i' = i then q else ad k' i'
def gQ (D : va_G) (A : Nat → Prop) (post : Option Value → gAd → gCe → Prop) : Array Value → State → Outcome → State → Prop := fun _ st oc t => (∃ (v : Option Value) (ad : gAd) (ce : gCe), oc = .returned v ∧ post v ad ce ∧ gW D A ad ce t.heap) ∧ va_F A st t
def gP (D : va_G) (A : Nat → Prop) (E : gEc) (av : List Value) (ad : gAd) (ce : gCe) : Array Value → State → Prop := va_Pc av (fun U => gK D E U ∧ (∀ q : Nat, U.heap.size ≤ q → A q) ∧ gW D A ad ce U.heap)
def gRm (d mc ms : Nat) : Room := { frames := d, cells := mc, slots := ms, locals := 30 * d }
def gWs (y : MethodName) (cc : ByteArray) (nL : Nat) (ret : Option FieldType) : List Cond := .code y cc nL ret :: gTB
/-- a contract: from the world ad, ce with arguments av, the method returns v and leaves a world with post -/
def gCon (D : va_G) (E : gEc) (y : MethodName) (cc : ByteArray) (nL : Nat) (ret : Option FieldType) (d mc ms : Nat) (av : List Value) (ad : gAd) (ce : gCe) (post : Option Value → gAd → gCe → Prop) : Prop :=
  ∀ (l : Launch) (A : Nat → Prop), Met l y (gWs y cc nL ret) (gRm d mc ms) (gP D A E av ad ce) (gQ D A post) mc ms A
def gRun (p : Program) (l : Launch) (e : Env) (R : Room) (s : State) (m : MethodId) (args : Array Value) (below : List Frame) (meth : Method) (c : Code) (D : va_G) (A : Nat → Prop) (nL : Nat) (Q : State → Prop) : gR := fun pc lv st ad ce k n =>
  ∀ (H : Heap) (locs : List Loc) (ls : Array Slot), lv_has ls nL lv → va_S A s.heap H locs → gW D A ad ce H → W p l e R s m args below meth c H locs k n Q (F0 m pc ls st)
/-- a place to walk in -/
def gOk (l : Launch) (R : Room) (cc : ByteArray) (nL : Nat) (own nm : String) (D : va_G) (A : Nat → Prop) (E : gEc) (Rn : gR) : Prop :=
  ∃ (p : Program) (e : Env) (s : State) (m : MethodId) (args : Array Value) (below : List Frame) (meth : Method) (c : Code) (Q : State → Prop), Rn = gRun p l e R s m args below meth c D A nL Q ∧ p.tables.exec = Jvm.exec ∧ c.code = cc ∧ c.maxLocals = nL ∧ s.vm.findClass own = some m.cls ∧ (∀ w ∈ gTB, w.before args s = true) ∧ gK D E s ∧ (∀ q : Nat, s.heap.size ≤ q → A q) ∧ meth.name = nm
/-- a method's place: it returns by post -/
def gOkM (l : Launch) (R : Room) (cc : ByteArray) (nL : Nat) (ret : Option FieldType) (own nm : String) (D : va_G) (A : Nat → Prop) (E : gEc) (mc ms : Nat) (post : Option Value → gAd → gCe → Prop) (Rn : gR) : Prop :=
  ∃ (p : Program) (e : Env) (s : State) (m : MethodId) (args : Array Value) (below : List Frame) (meth : Method) (c : Code), Rn = gRun p l e R s m args below meth c D A nL (MQ below (gQ D A post) args s mc ms A) ∧ p.tables.exec = Jvm.exec ∧ c.code = cc ∧ c.maxLocals = nL ∧ s.vm.findClass own = some m.cls ∧ (∀ w ∈ gTB, w.before args s = true) ∧ gK D E s ∧ (∀ q : Nat, s.heap.size ≤ q → A q) ∧ meth.name = nm ∧ meth.sig.returnType = ret ∧ meth.locks = false
theorem gOkM.ok {l : Launch} {R : Room} {cc : ByteArray} {nL : Nat} {ret : Option FieldType} {own nm : String} {D : va_G} {A : Nat → Prop} {E : gEc} {mc ms : Nat} {post : Option Value → gAd → gCe → Prop} {Rn : gR} (h : gOkM l R cc nL ret own nm D A E mc ms post Rn) : gOk l R cc nL own nm D A E Rn := by
  obtain ⟨p, e, s, m, args, below, meth, c, rfl, h1, h2, h3, h4, h5, h6, h7, h8, h9, h10⟩ := h
  exact ⟨p, e, s, m, args, below, meth, c, _, rfl, h1, h2, h3, h4, h5, h6, h7, h8⟩
theorem gm {w : Cond} (h : w ∈ lw_tbl) (hg : goodWord w = true) : w ∈ gTB := List.mem_filter.mpr ⟨h, hg⟩
theorem gmU {C : String} {T : u_T} {N : Nat} (h : ∀ w ∈ u_ws C T N, w ∈ lw_tbl) : ∀ w ∈ u_ws C T N, w ∈ gTB := fun w hw => gm (h w hw) (by
  obtain ⟨k, -, rfl⟩ := List.mem_map.mp hw
  unfold u_lay
  split <;> rfl)
theorem gTB_good : ∀ w ∈ gTB, goodWord w = true := fun w h => (List.mem_filter.mp h).2
theorem gGood {ws : List Cond} (h : ∀ w ∈ ws, w ∈ gTB) : GoodIn gTB ws := fun w hw => ⟨h w hw, good_of_word (gTB_good w (h w hw))⟩
theorem gGoodWs {y : MethodName} {cc : ByteArray} {nL : Nat} {ret : Option FieldType} (h : Cond.code y cc nL ret ∈ lw_tbl) : GoodIn gTB (gWs y cc nL ret) := gGood (fun w hw => by
  rcases List.mem_cons.mp hw with rfl | hw
  · exact gm h rfl
  · exact hw)
/-- a method's contract out of its walk -/
theorem gCon.of {D : va_G} {E : gEc} {y : MethodName} {cc : ByteArray} {nL : Nat} {ret : Option FieldType} {d mc ms : Nat} {av : List Value} {ad : gAd} {ce : gCe} {post : Option Value → gAd → gCe → Prop} (hy : plainName y.cls = true) (hav : (lg_sl av).length ≤ nL)
    (body : ∀ (l : Launch) (A : Nat → Prop) (Rn : gR), gOkM l (gRm d mc ms) cc nL ret y.cls y.name D A E mc ms post Rn → Rn 0 (lv_args 0 av) [] ad ce 0 0) : gCon D E y cc nL ret d mc ms av ad ce post := by
  intro l A
  refine Met.ofW (cc := cc) (maxL := nL) (ret := ret) hy rfl ?_
  intro p e s m args below meth c s₁ B hml hv
  obtain ⟨rfl, hK, hA, hW⟩ := hv
  have hts := atoms_spec (ws := gWs y cc nL ret) B.pre
  have hnm : meth.name = y.name := (name_of_methodNamed B.named B.method).1
  have key := body l A _ ⟨p, e, s, m, av.toArray, below, meth, c, rfl, B.exec, B.bytes, hml, findClass_of_methodNamed B.named, fun w hw => hts w (List.mem_cons_of_mem _ hw), hK, hA, hnm, B.returns, B.notSynchronized⟩
  have hl := lv_entry av (n := nL) hav
  rw [lg_entry_eq]
  exact key s.heap [] _ hl va_S.rf hW
section GR
variable {l : Launch} {R : Room} {cc : ByteArray} {nL : Nat} {own nm : String} {D : va_G} {A : Nat → Prop} {E : gEc} {Rn : gR} {pc : Nat} {lv lv' : List (Nat × Value)} {st : List Value} {ad : gAd} {ce : gCe} {k n : Nat}
theorem r_iconst (h : gOk l R cc nL own nm D A E Rn) {z : Int} {v : Int32} (hd : decode cc pc = .ok (.iconst z, 1)) (hv : Int32.ofInt z = v) (kk : Rn (pc + 1) lv (.int v :: st) ad ce k n) : Rn pc lv st ad ce k n := by
  obtain ⟨p, e, s, m, args, below, meth, c, Q, rfl, hx, hb, hml, hown, hts, hK, hA, hnm⟩ := h
  intro H locs ls hl hS hW
  exact lv_iconst hx hb hd hv (kk H locs ls hl hS hW)
theorem r_bipush (h : gOk l R cc nL own nm D A E Rn) {z : Int} {v : Int32} (hd : decode cc pc = .ok (.bipush z, 2)) (hv : (Int8.ofInt z).toInt32 = v) (kk : Rn (pc + 2) lv (.int v :: st) ad ce k n) : Rn pc lv st ad ce k n := by
  obtain ⟨p, e, s, m, args, below, meth, c, Q, rfl, hx, hb, hml, hown, hts, hK, hA, hnm⟩ := h
  intro H locs ls hl hS hW
  exact lv_bipush hx hb hd hv (kk H locs ls hl hS hW)
theorem r_sipush (h : gOk l R cc nL own nm D A E Rn) {z : Int} {v : Int32} (hd : decode cc pc = .ok (.sipush z, 3)) (hv : (Int16.ofInt z).toInt32 = v) (kk : Rn (pc + 3) lv (.int v :: st) ad ce k n) : Rn pc lv st ad ce k n := by
  obtain ⟨p, e, s, m, args, below, meth, c, Q, rfl, hx, hb, hml, hown, hts, hK, hA, hnm⟩ := h
  intro H locs ls hl hS hW
  exact lv_sipush hx hb hd hv (kk H locs ls hl hS hW)
theorem r_lconst (h : gOk l R cc nL own nm D A E Rn) {z : Fin 2} {v : Int64} (hd : decode cc pc = .ok (.lconst z, 1)) (hv : Int64.ofNat (z : Nat) = v) (kk : Rn (pc + 1) lv (.long v :: st) ad ce k n) : Rn pc lv st ad ce k n := by
  obtain ⟨p, e, s, m, args, below, meth, c, Q, rfl, hx, hb, hml, hown, hts, hK, hA, hnm⟩ := h
  intro H locs ls hl hS hW
  exact lv_lconst hx hb hd hv (kk H locs ls hl hS hW)
theorem r_ldc (h : gOk l R cc nL own nm D A E Rn) {ix : Nat} {v : Int32} (hd : decode cc pc = .ok (.ldc ix, 2)) (hw : Cond.constant own ix v ∈ lw_tbl) (kk : Rn (pc + 2) lv (.int v :: st) ad ce k n) : Rn pc lv st ad ce k n := by
  obtain ⟨p, e, s, m, args, below, meth, c, Q, rfl, hx, hb, hml, hown, hts, hK, hA, hnm⟩ := h
  intro H locs ls hl hS hW
  exact lv_ldc hx hb hown (hts _ (gm hw rfl)) hd (kk H locs ls hl hS hW)
theorem r_ldc2 (h : gOk l R cc nL own nm D A E Rn) {ix : Nat} {v v' : Int64} (hd : decode cc pc = .ok (.ldc2_w ix, 3)) (hw : Cond.constantLong own ix v ∈ lw_tbl) (he : v = v') (kk : Rn (pc + 3) lv (.long v' :: st) ad ce k n) : Rn pc lv st ad ce k n := by
  obtain ⟨p, e, s, m, args, below, meth, c, Q, rfl, hx, hb, hml, hown, hts, hK, hA, hnm⟩ := h
  subst he
  intro H locs ls hl hS hW
  exact lv_ldc2 hx hb hown (hts _ (gm hw rfl)) hd (kk H locs ls hl hS hW)
theorem r_iload_n (h : gOk l R cc nL own nm D A E Rn) {z : Fin 4} {x : Int32} (hd : decode cc pc = .ok (.iload_n z, 1)) (j : Nat) (hj : lv[j]? = some ((z : Nat), .int x)) (kk : Rn (pc + 1) lv (.int x :: st) ad ce k n) : Rn pc lv st ad ce k n := by
  obtain ⟨p, e, s, m, args, below, meth, c, Q, rfl, hx, hb, hml, hown, hts, hK, hA, hnm⟩ := h
  intro H locs ls hl hS hW
  exact lv_iload_n hx hb hd rfl (lv_at hl j hj) (kk H locs ls hl hS hW)
theorem r_iload (h : gOk l R cc nL own nm D A E Rn) {z : Nat} {x : Int32} (hd : decode cc pc = .ok (.iload z, 2)) (j : Nat) (hj : lv[j]? = some (z, .int x)) (kk : Rn (pc + 2) lv (.int x :: st) ad ce k n) : Rn pc lv st ad ce k n := by
  obtain ⟨p, e, s, m, args, below, meth, c, Q, rfl, hx, hb, hml, hown, hts, hK, hA, hnm⟩ := h
  intro H locs ls hl hS hW
  exact lv_iload hx hb hd (lv_at hl j hj) (kk H locs ls hl hS hW)
theorem r_lload_n (h : gOk l R cc nL own nm D A E Rn) {z : Fin 4} {x : Int64} (hd : decode cc pc = .ok (.lload_n z, 1)) (j : Nat) (hj : lv[j]? = some ((z : Nat), .long x)) (kk : Rn (pc + 1) lv (.long x :: st) ad ce k n) : Rn pc lv st ad ce k n := by
  obtain ⟨p, e, s, m, args, below, meth, c, Q, rfl, hx, hb, hml, hown, hts, hK, hA, hnm⟩ := h
  intro H locs ls hl hS hW
  exact lv_lload_n hx hb hd rfl (lv_at hl j hj) (kk H locs ls hl hS hW)
theorem r_lload (h : gOk l R cc nL own nm D A E Rn) {z : Nat} {x : Int64} (hd : decode cc pc = .ok (.lload z, 2)) (j : Nat) (hj : lv[j]? = some (z, .long x)) (kk : Rn (pc + 2) lv (.long x :: st) ad ce k n) : Rn pc lv st ad ce k n := by
  obtain ⟨p, e, s, m, args, below, meth, c, Q, rfl, hx, hb, hml, hown, hts, hK, hA, hnm⟩ := h
  intro H locs ls hl hS hW
  exact lv_lload hx hb hd (lv_at hl j hj) (kk H locs ls hl hS hW)
theorem r_aload_n (h : gOk l R cc nL own nm D A E Rn) {z : Fin 4} {x : Nat} (hd : decode cc pc = .ok (.aload_n z, 1)) (j : Nat) (hj : lv[j]? = some ((z : Nat), .ref x)) (kk : Rn (pc + 1) lv (.ref x :: st) ad ce k n) : Rn pc lv st ad ce k n := by
  obtain ⟨p, e, s, m, args, below, meth, c, Q, rfl, hx, hb, hml, hown, hts, hK, hA, hnm⟩ := h
  intro H locs ls hl hS hW
  exact lv_aload_n hx hb hd rfl (lv_at hl j hj) (kk H locs ls hl hS hW)
theorem r_aload (h : gOk l R cc nL own nm D A E Rn) {z : Nat} {x : Nat} (hd : decode cc pc = .ok (.aload z, 2)) (j : Nat) (hj : lv[j]? = some (z, .ref x)) (kk : Rn (pc + 2) lv (.ref x :: st) ad ce k n) : Rn pc lv st ad ce k n := by
  obtain ⟨p, e, s, m, args, below, meth, c, Q, rfl, hx, hb, hml, hown, hts, hK, hA, hnm⟩ := h
  intro H locs ls hl hS hW
  exact lv_aload hx hb hd (lv_at hl j hj) (kk H locs ls hl hS hW)
theorem r_aload_nN (h : gOk l R cc nL own nm D A E Rn) {z : Fin 4} (hd : decode cc pc = .ok (.aload_n z, 1)) (j : Nat) (hj : lv[j]? = some ((z : Nat), .null)) (kk : Rn (pc + 1) lv (.null :: st) ad ce k n) : Rn pc lv st ad ce k n := by
  obtain ⟨p, e, s, m, args, below, meth, c, Q, rfl, hx, hb, hml, hown, hts, hK, hA, hnm⟩ := h
  intro H locs ls hl hS hW
  exact lv_aload_nN hx hb hd rfl (lv_at hl j hj) (kk H locs ls hl hS hW)
theorem r_aloadN (h : gOk l R cc nL own nm D A E Rn) {z : Nat} (hd : decode cc pc = .ok (.aload z, 2)) (j : Nat) (hj : lv[j]? = some (z, .null)) (kk : Rn (pc + 2) lv (.null :: st) ad ce k n) : Rn pc lv st ad ce k n := by
  obtain ⟨p, e, s, m, args, below, meth, c, Q, rfl, hx, hb, hml, hown, hts, hK, hA, hnm⟩ := h
  intro H locs ls hl hS hW
  exact lv_aloadN hx hb hd (lv_at hl j hj) (kk H locs ls hl hS hW)
theorem r_istore_n (h : gOk l R cc nL own nm D A E Rn) {z : Fin 4} {x : Int32} (hd : decode cc pc = .ok (.istore_n z, 1)) (hn : (z : Nat) < nL) (hl' : ((z : Nat), Value.int x) :: lv.filter (fun q => !(q.1 == (z : Nat)) && !(q.1 + 1 == (z : Nat) && q.2.category == 2)) = lv') (kk : Rn (pc + 1) lv' st ad ce k n) : Rn pc lv (.int x :: st) ad ce k n := by
  obtain ⟨p, e, s, m, args, below, meth, c, Q, rfl, hx, hb, hml, hown, hts, hK, hA, hnm⟩ := h
  intro H locs ls hl hS hW
  exact lv_istore_n hx hb hd rfl hl hn hl' (fun ls hl => kk H locs ls hl hS hW)
theorem r_istore (h : gOk l R cc nL own nm D A E Rn) {z : Nat} {x : Int32} (hd : decode cc pc = .ok (.istore z, 2)) (hn : z < nL) (hl' : (z, Value.int x) :: lv.filter (fun q => !(q.1 == z) && !(q.1 + 1 == z && q.2.category == 2)) = lv') (kk : Rn (pc + 2) lv' st ad ce k n) : Rn pc lv (.int x :: st) ad ce k n := by
  obtain ⟨p, e, s, m, args, below, meth, c, Q, rfl, hx, hb, hml, hown, hts, hK, hA, hnm⟩ := h
  intro H locs ls hl hS hW
  exact lv_istore hx hb hd hl hn hl' (fun ls hl => kk H locs ls hl hS hW)
theorem r_astore_n (h : gOk l R cc nL own nm D A E Rn) {z : Fin 4} {x : Nat} (hd : decode cc pc = .ok (.astore_n z, 1)) (hn : (z : Nat) < nL) (hl' : ((z : Nat), Value.ref x) :: lv.filter (fun q => !(q.1 == (z : Nat)) && !(q.1 + 1 == (z : Nat) && q.2.category == 2)) = lv') (kk : Rn (pc + 1) lv' st ad ce k n) : Rn pc lv (.ref x :: st) ad ce k n := by
  obtain ⟨p, e, s, m, args, below, meth, c, Q, rfl, hx, hb, hml, hown, hts, hK, hA, hnm⟩ := h
  intro H locs ls hl hS hW
  exact lv_astore_n hx hb hd rfl hl hn hl' (fun ls hl => kk H locs ls hl hS hW)
theorem r_astore (h : gOk l R cc nL own nm D A E Rn) {z : Nat} {x : Nat} (hd : decode cc pc = .ok (.astore z, 2)) (hn : z < nL) (hl' : (z, Value.ref x) :: lv.filter (fun q => !(q.1 == z) && !(q.1 + 1 == z && q.2.category == 2)) = lv') (kk : Rn (pc + 2) lv' st ad ce k n) : Rn pc lv (.ref x :: st) ad ce k n := by
  obtain ⟨p, e, s, m, args, below, meth, c, Q, rfl, hx, hb, hml, hown, hts, hK, hA, hnm⟩ := h
  intro H locs ls hl hS hW
  exact lv_astore hx hb hd hl hn hl' (fun ls hl => kk H locs ls hl hS hW)
theorem r_astore_nN (h : gOk l R cc nL own nm D A E Rn) {z : Fin 4} (hd : decode cc pc = .ok (.astore_n z, 1)) (hn : (z : Nat) < nL) (hl' : ((z : Nat), Value.null) :: lv.filter (fun q => !(q.1 == (z : Nat)) && !(q.1 + 1 == (z : Nat) && q.2.category == 2)) = lv') (kk : Rn (pc + 1) lv' st ad ce k n) : Rn pc lv (.null :: st) ad ce k n := by
  obtain ⟨p, e, s, m, args, below, meth, c, Q, rfl, hx, hb, hml, hown, hts, hK, hA, hnm⟩ := h
  intro H locs ls hl hS hW
  exact lv_astore_nN hx hb hd rfl hl hn hl' (fun ls hl => kk H locs ls hl hS hW)
theorem r_astoreN (h : gOk l R cc nL own nm D A E Rn) {z : Nat} (hd : decode cc pc = .ok (.astore z, 2)) (hn : z < nL) (hl' : (z, Value.null) :: lv.filter (fun q => !(q.1 == z) && !(q.1 + 1 == z && q.2.category == 2)) = lv') (kk : Rn (pc + 2) lv' st ad ce k n) : Rn pc lv (.null :: st) ad ce k n := by
  obtain ⟨p, e, s, m, args, below, meth, c, Q, rfl, hx, hb, hml, hown, hts, hK, hA, hnm⟩ := h
  intro H locs ls hl hS hW
  exact lv_astoreN hx hb hd hl hn hl' (fun ls hl => kk H locs ls hl hS hW)
theorem r_iinc (h : gOk l R cc nL own nm D A E Rn) {z : Nat} {dz : Int} {x v : Int32} (hd : decode cc pc = .ok (.iinc z dz, 3)) (j : Nat) (hj : lv[j]? = some (z, .int x)) (hv : x + Int32.ofInt dz = v) (hn : z < nL) (hl' : (z, Value.int v) :: lv.filter (fun q => !(q.1 == z) && !(q.1 + 1 == z && q.2.category == 2)) = lv') (kk : Rn (pc + 3) lv' st ad ce k n) : Rn pc lv st ad ce k n := by
  obtain ⟨p, e, s, m, args, below, meth, c, Q, rfl, hx, hb, hml, hown, hts, hK, hA, hnm⟩ := h
  intro H locs ls hl hS hW
  exact lv_iinc hx hb hd hl hj hv hn hl' (fun ls hl => kk H locs ls hl hS hW)
theorem r_iadd (h : gOk l R cc nL own nm D A E Rn) {x y : Int32} (hd : decode cc pc = .ok (.iadd, 1)) (kk : Rn (pc + 1) lv (.int (x + y) :: st) ad ce k n) : Rn pc lv (.int y :: .int x :: st) ad ce k n := by
  obtain ⟨p, e, s, m, args, below, meth, c, Q, rfl, hx, hb, hml, hown, hts, hK, hA, hnm⟩ := h
  intro H locs ls hl hS hW
  exact lv_iadd hx hb hd (kk H locs ls hl hS hW)
theorem r_isub (h : gOk l R cc nL own nm D A E Rn) {x y : Int32} (hd : decode cc pc = .ok (.isub, 1)) (kk : Rn (pc + 1) lv (.int (x - y) :: st) ad ce k n) : Rn pc lv (.int y :: .int x :: st) ad ce k n := by
  obtain ⟨p, e, s, m, args, below, meth, c, Q, rfl, hx, hb, hml, hown, hts, hK, hA, hnm⟩ := h
  intro H locs ls hl hS hW
  exact lv_isub hx hb hd (kk H locs ls hl hS hW)
theorem r_imul (h : gOk l R cc nL own nm D A E Rn) {x y : Int32} (hd : decode cc pc = .ok (.imul, 1)) (kk : Rn (pc + 1) lv (.int (x * y) :: st) ad ce k n) : Rn pc lv (.int y :: .int x :: st) ad ce k n := by
  obtain ⟨p, e, s, m, args, below, meth, c, Q, rfl, hx, hb, hml, hown, hts, hK, hA, hnm⟩ := h
  intro H locs ls hl hS hW
  exact lv_imul hx hb hd (kk H locs ls hl hS hW)
theorem r_iand (h : gOk l R cc nL own nm D A E Rn) {x y : Int32} (hd : decode cc pc = .ok (.iand, 1)) (kk : Rn (pc + 1) lv (.int (x &&& y) :: st) ad ce k n) : Rn pc lv (.int y :: .int x :: st) ad ce k n := by
  obtain ⟨p, e, s, m, args, below, meth, c, Q, rfl, hx, hb, hml, hown, hts, hK, hA, hnm⟩ := h
  intro H locs ls hl hS hW
  exact lv_iand hx hb hd (kk H locs ls hl hS hW)
theorem r_idiv (h : gOk l R cc nL own nm D A E Rn) {x y : Int32} (hd : decode cc pc = .ok (.idiv, 1)) (hne : ¬ y = 0) (kk : Rn (pc + 1) lv (.int (x / y) :: st) ad ce k n) : Rn pc lv (.int y :: .int x :: st) ad ce k n := by
  obtain ⟨p, e, s, m, args, below, meth, c, Q, rfl, hx, hb, hml, hown, hts, hK, hA, hnm⟩ := h
  intro H locs ls hl hS hW
  exact lv_idiv hx hb hd hne (kk H locs ls hl hS hW)
theorem r_irem (h : gOk l R cc nL own nm D A E Rn) {x y : Int32} (hd : decode cc pc = .ok (.irem, 1)) (hne : ¬ y = 0) (kk : Rn (pc + 1) lv (.int (x - x / y * y) :: st) ad ce k n) : Rn pc lv (.int y :: .int x :: st) ad ce k n := by
  obtain ⟨p, e, s, m, args, below, meth, c, Q, rfl, hx, hb, hml, hown, hts, hK, hA, hnm⟩ := h
  intro H locs ls hl hS hW
  exact lv_irem hx hb hd hne (kk H locs ls hl hS hW)
theorem r_i2l (h : gOk l R cc nL own nm D A E Rn) {x : Int32} (hd : decode cc pc = .ok (.i2l, 1)) (kk : Rn (pc + 1) lv (.long x.toInt64 :: st) ad ce k n) : Rn pc lv (.int x :: st) ad ce k n := by
  obtain ⟨p, e, s, m, args, below, meth, c, Q, rfl, hx, hb, hml, hown, hts, hK, hA, hnm⟩ := h
  intro H locs ls hl hS hW
  exact lv_i2l hx hb hd rfl (kk H locs ls hl hS hW)
theorem r_lcmp (h : gOk l R cc nL own nm D A E Rn) {x y : Int64} (hd : decode cc pc = .ok (.lcmp, 1)) (kk : Rn (pc + 1) lv (.int (lg_cmp x y) :: st) ad ce k n) : Rn pc lv (.long y :: .long x :: st) ad ce k n := by
  obtain ⟨p, e, s, m, args, below, meth, c, Q, rfl, hx, hb, hml, hown, hts, hK, hA, hnm⟩ := h
  intro H locs ls hl hS hW
  exact W.lcmp hx hb hd (kk H locs ls hl hS hW)
theorem r_dup (h : gOk l R cc nL own nm D A E Rn) {va : Value} (hd : decode cc pc = .ok (.dup, 1)) (hva : va.category = 1) (kk : Rn (pc + 1) lv (va :: va :: st) ad ce k n) : Rn pc lv (va :: st) ad ce k n := by
  obtain ⟨p, e, s, m, args, below, meth, c, Q, rfl, hx, hb, hml, hown, hts, hK, hA, hnm⟩ := h
  intro H locs ls hl hS hW
  exact lv_dup hx hb hd hva (kk H locs ls hl hS hW)
theorem r_dup2 (h : gOk l R cc nL own nm D A E Rn) {va vb : Value} (hd : decode cc pc = .ok (.dup2, 1)) (hva : va.category = 1) (hvb : vb.category = 1) (kk : Rn (pc + 1) lv (va :: vb :: va :: vb :: st) ad ce k n) : Rn pc lv (va :: vb :: st) ad ce k n := by
  obtain ⟨p, e, s, m, args, below, meth, c, Q, rfl, hx, hb, hml, hown, hts, hK, hA, hnm⟩ := h
  intro H locs ls hl hS hW
  exact lv_dup2_11 hx hb hd hva hvb (kk H locs ls hl hS hW)
theorem r_null (h : gOk l R cc nL own nm D A E Rn) (hd : decode cc pc = .ok (.aconst_null, 1)) (kk : Rn (pc + 1) lv (.null :: st) ad ce k n) : Rn pc lv st ad ce k n := by
  obtain ⟨p, e, s, m, args, below, meth, c, Q, rfl, hx, hb, hml, hown, hts, hK, hA, hnm⟩ := h
  intro H locs ls hl hS hW
  exact lv_null hx hb hd (kk H locs ls hl hS hW)
theorem r_goto (h : gOk l R cc nL own nm D A E Rn) {off : Int} (tgt : Nat) (hd : decode cc pc = .ok (.goto off, 3)) (ht : (pc : Int) + off = (tgt : Int)) (kk : Rn tgt lv st ad ce k n) : Rn pc lv st ad ce k n := by
  obtain ⟨p, e, s, m, args, below, meth, c, Q, rfl, hx, hb, hml, hown, hts, hK, hA, hnm⟩ := h
  intro H locs ls hl hS hW
  exact lv_goto hx hb hd ht (kk H locs ls hl hS hW)
theorem r_ifnull (h : gOk l R cc nL own nm D A E Rn) {x : Nat} {off : Int} (hd : decode cc pc = .ok (.ifnull off, 3)) (kk : Rn (pc + 3) lv st ad ce k n) : Rn pc lv (.ref x :: st) ad ce k n := by
  obtain ⟨p, e, s, m, args, below, meth, c, Q, rfl, hx, hb, hml, hown, hts, hK, hA, hnm⟩ := h
  intro H locs ls hl hS hW
  exact lv_ifnull hx hb hd (kk H locs ls hl hS hW)
theorem r_ifnullN (h : gOk l R cc nL own nm D A E Rn) {off : Int} (tgt : Nat) (hd : decode cc pc = .ok (.ifnull off, 3)) (ht : (pc : Int) + off = (tgt : Int)) (kk : Rn tgt lv st ad ce k n) : Rn pc lv (.null :: st) ad ce k n := by
  obtain ⟨p, e, s, m, args, below, meth, c, Q, rfl, hx, hb, hml, hown, hts, hK, hA, hnm⟩ := h
  intro H locs ls hl hS hW
  exact lv_ifnullN hx hb hd ht (kk H locs ls hl hS hW)
theorem r_ifnonnull (h : gOk l R cc nL own nm D A E Rn) {x : Nat} {off : Int} (tgt : Nat) (hd : decode cc pc = .ok (.ifnonnull off, 3)) (ht : (pc : Int) + off = (tgt : Int)) (kk : Rn tgt lv st ad ce k n) : Rn pc lv (.ref x :: st) ad ce k n := by
  obtain ⟨p, e, s, m, args, below, meth, c, Q, rfl, hx, hb, hml, hown, hts, hK, hA, hnm⟩ := h
  intro H locs ls hl hS hW
  exact lv_ifnonnull hx hb hd ht (kk H locs ls hl hS hW)
theorem r_ifnonnullN (h : gOk l R cc nL own nm D A E Rn) {off : Int} (hd : decode cc pc = .ok (.ifnonnull off, 3)) (kk : Rn (pc + 3) lv st ad ce k n) : Rn pc lv (.null :: st) ad ce k n := by
  obtain ⟨p, e, s, m, args, below, meth, c, Q, rfl, hx, hb, hml, hown, hts, hK, hA, hnm⟩ := h
  intro H locs ls hl hS hW
  exact lv_ifnonnullN hx hb hd (kk H locs ls hl hS hW)
theorem r_if_eq (h : gOk l R cc nL own nm D A E Rn) {x : Int32} {off : Int} (tgt : Nat) (hd : decode cc pc = .ok (.ifCond .eq off, 3)) (ht : (pc : Int) + off = (tgt : Int)) (kt : x = 0 → Rn tgt lv st ad ce k n) (kf : ¬ x = 0 → Rn (pc + 3) lv st ad ce k n) : Rn pc lv (.int x :: st) ad ce k n := by
  obtain ⟨p, e, s, m, args, below, meth, c, Q, rfl, hx, hb, hml, hown, hts, hK, hA, hnm⟩ := h
  intro H locs ls hl hS hW
  exact lv_if_eq hx hb hd ht (fun q => kt q H locs ls hl hS hW) (fun q => kf q H locs ls hl hS hW)
theorem r_icmp_eq (h : gOk l R cc nL own nm D A E Rn) {x y : Int32} {off : Int} (tgt : Nat) (hd : decode cc pc = .ok (.if_icmp .eq off, 3)) (ht : (pc : Int) + off = (tgt : Int)) (kt : x = y → Rn tgt lv st ad ce k n) (kf : ¬ x = y → Rn (pc + 3) lv st ad ce k n) : Rn pc lv (.int y :: .int x :: st) ad ce k n := by
  obtain ⟨p, e, s, m, args, below, meth, c, Q, rfl, hx, hb, hml, hown, hts, hK, hA, hnm⟩ := h
  intro H locs ls hl hS hW
  exact lv_icmp_eq hx hb hd ht (fun q => kt q H locs ls hl hS hW) (fun q => kf q H locs ls hl hS hW)
theorem r_if_ne (h : gOk l R cc nL own nm D A E Rn) {x : Int32} {off : Int} (tgt : Nat) (hd : decode cc pc = .ok (.ifCond .ne off, 3)) (ht : (pc : Int) + off = (tgt : Int)) (kt : ¬ x = 0 → Rn tgt lv st ad ce k n) (kf : x = 0 → Rn (pc + 3) lv st ad ce k n) : Rn pc lv (.int x :: st) ad ce k n := by
  obtain ⟨p, e, s, m, args, below, meth, c, Q, rfl, hx, hb, hml, hown, hts, hK, hA, hnm⟩ := h
  intro H locs ls hl hS hW
  exact lv_if_ne hx hb hd ht (fun q => kt q H locs ls hl hS hW) (fun q => kf q H locs ls hl hS hW)
theorem r_icmp_ne (h : gOk l R cc nL own nm D A E Rn) {x y : Int32} {off : Int} (tgt : Nat) (hd : decode cc pc = .ok (.if_icmp .ne off, 3)) (ht : (pc : Int) + off = (tgt : Int)) (kt : ¬ x = y → Rn tgt lv st ad ce k n) (kf : x = y → Rn (pc + 3) lv st ad ce k n) : Rn pc lv (.int y :: .int x :: st) ad ce k n := by
  obtain ⟨p, e, s, m, args, below, meth, c, Q, rfl, hx, hb, hml, hown, hts, hK, hA, hnm⟩ := h
  intro H locs ls hl hS hW
  exact lv_icmp_ne hx hb hd ht (fun q => kt q H locs ls hl hS hW) (fun q => kf q H locs ls hl hS hW)
theorem r_if_lt (h : gOk l R cc nL own nm D A E Rn) {x : Int32} {off : Int} (tgt : Nat) (hd : decode cc pc = .ok (.ifCond .lt off, 3)) (ht : (pc : Int) + off = (tgt : Int)) (kt : x < 0 → Rn tgt lv st ad ce k n) (kf : ¬ x < 0 → Rn (pc + 3) lv st ad ce k n) : Rn pc lv (.int x :: st) ad ce k n := by
  obtain ⟨p, e, s, m, args, below, meth, c, Q, rfl, hx, hb, hml, hown, hts, hK, hA, hnm⟩ := h
  intro H locs ls hl hS hW
  exact lv_if_lt hx hb hd ht (fun q => kt q H locs ls hl hS hW) (fun q => kf q H locs ls hl hS hW)
theorem r_icmp_lt (h : gOk l R cc nL own nm D A E Rn) {x y : Int32} {off : Int} (tgt : Nat) (hd : decode cc pc = .ok (.if_icmp .lt off, 3)) (ht : (pc : Int) + off = (tgt : Int)) (kt : x < y → Rn tgt lv st ad ce k n) (kf : ¬ x < y → Rn (pc + 3) lv st ad ce k n) : Rn pc lv (.int y :: .int x :: st) ad ce k n := by
  obtain ⟨p, e, s, m, args, below, meth, c, Q, rfl, hx, hb, hml, hown, hts, hK, hA, hnm⟩ := h
  intro H locs ls hl hS hW
  exact lv_icmp_lt hx hb hd ht (fun q => kt q H locs ls hl hS hW) (fun q => kf q H locs ls hl hS hW)
theorem r_if_ge (h : gOk l R cc nL own nm D A E Rn) {x : Int32} {off : Int} (tgt : Nat) (hd : decode cc pc = .ok (.ifCond .ge off, 3)) (ht : (pc : Int) + off = (tgt : Int)) (kt : 0 ≤ x → Rn tgt lv st ad ce k n) (kf : ¬ 0 ≤ x → Rn (pc + 3) lv st ad ce k n) : Rn pc lv (.int x :: st) ad ce k n := by
  obtain ⟨p, e, s, m, args, below, meth, c, Q, rfl, hx, hb, hml, hown, hts, hK, hA, hnm⟩ := h
  intro H locs ls hl hS hW
  exact lv_if_ge hx hb hd ht (fun q => kt q H locs ls hl hS hW) (fun q => kf q H locs ls hl hS hW)
theorem r_icmp_ge (h : gOk l R cc nL own nm D A E Rn) {x y : Int32} {off : Int} (tgt : Nat) (hd : decode cc pc = .ok (.if_icmp .ge off, 3)) (ht : (pc : Int) + off = (tgt : Int)) (kt : y ≤ x → Rn tgt lv st ad ce k n) (kf : ¬ y ≤ x → Rn (pc + 3) lv st ad ce k n) : Rn pc lv (.int y :: .int x :: st) ad ce k n := by
  obtain ⟨p, e, s, m, args, below, meth, c, Q, rfl, hx, hb, hml, hown, hts, hK, hA, hnm⟩ := h
  intro H locs ls hl hS hW
  exact lv_icmp_ge hx hb hd ht (fun q => kt q H locs ls hl hS hW) (fun q => kf q H locs ls hl hS hW)
theorem r_if_gt (h : gOk l R cc nL own nm D A E Rn) {x : Int32} {off : Int} (tgt : Nat) (hd : decode cc pc = .ok (.ifCond .gt off, 3)) (ht : (pc : Int) + off = (tgt : Int)) (kt : 0 < x → Rn tgt lv st ad ce k n) (kf : ¬ 0 < x → Rn (pc + 3) lv st ad ce k n) : Rn pc lv (.int x :: st) ad ce k n := by
  obtain ⟨p, e, s, m, args, below, meth, c, Q, rfl, hx, hb, hml, hown, hts, hK, hA, hnm⟩ := h
  intro H locs ls hl hS hW
  exact lv_if_gt hx hb hd ht (fun q => kt q H locs ls hl hS hW) (fun q => kf q H locs ls hl hS hW)
theorem r_icmp_gt (h : gOk l R cc nL own nm D A E Rn) {x y : Int32} {off : Int} (tgt : Nat) (hd : decode cc pc = .ok (.if_icmp .gt off, 3)) (ht : (pc : Int) + off = (tgt : Int)) (kt : y < x → Rn tgt lv st ad ce k n) (kf : ¬ y < x → Rn (pc + 3) lv st ad ce k n) : Rn pc lv (.int y :: .int x :: st) ad ce k n := by
  obtain ⟨p, e, s, m, args, below, meth, c, Q, rfl, hx, hb, hml, hown, hts, hK, hA, hnm⟩ := h
  intro H locs ls hl hS hW
  exact lv_icmp_gt hx hb hd ht (fun q => kt q H locs ls hl hS hW) (fun q => kf q H locs ls hl hS hW)
theorem r_if_le (h : gOk l R cc nL own nm D A E Rn) {x : Int32} {off : Int} (tgt : Nat) (hd : decode cc pc = .ok (.ifCond .le off, 3)) (ht : (pc : Int) + off = (tgt : Int)) (kt : x ≤ 0 → Rn tgt lv st ad ce k n) (kf : ¬ x ≤ 0 → Rn (pc + 3) lv st ad ce k n) : Rn pc lv (.int x :: st) ad ce k n := by
  obtain ⟨p, e, s, m, args, below, meth, c, Q, rfl, hx, hb, hml, hown, hts, hK, hA, hnm⟩ := h
  intro H locs ls hl hS hW
  exact lv_if_le hx hb hd ht (fun q => kt q H locs ls hl hS hW) (fun q => kf q H locs ls hl hS hW)
theorem r_icmp_le (h : gOk l R cc nL own nm D A E Rn) {x y : Int32} {off : Int} (tgt : Nat) (hd : decode cc pc = .ok (.if_icmp .le off, 3)) (ht : (pc : Int) + off = (tgt : Int)) (kt : x ≤ y → Rn tgt lv st ad ce k n) (kf : ¬ x ≤ y → Rn (pc + 3) lv st ad ce k n) : Rn pc lv (.int y :: .int x :: st) ad ce k n := by
  obtain ⟨p, e, s, m, args, below, meth, c, Q, rfl, hx, hb, hml, hown, hts, hK, hA, hnm⟩ := h
  intro H locs ls hl hS hW
  exact lv_icmp_le hx hb hd ht (fun q => kt q H locs ls hl hS hW) (fun q => kf q H locs ls hl hS hW)
theorem r_tableOut (h : gOk l R cc nL own nm D A E Rn) {dflt lo hi : Int} {offs : Array Int} {len : Nat} {x : Int32} (tgt : Nat) (hd : decode cc pc = .ok (.tableswitch dflt lo hi offs, len)) (hq : x.toInt < lo ∨ hi < x.toInt) (ht : (pc : Int) + dflt = (tgt : Int)) (kk : Rn tgt lv st ad ce k n) : Rn pc lv (.int x :: st) ad ce k n := by
  obtain ⟨p, e, s, m, args, below, meth, c, Q, rfl, hx, hb, hml, hown, hts, hK, hA, hnm⟩ := h
  intro H locs ls hl hS hW
  exact lv_tableOut hx hb hd hq ht (kk H locs ls hl hS hW)
theorem r_tableIn (h : gOk l R cc nL own nm D A E Rn) {dflt lo hi off : Int} {offs : Array Int} {len : Nat} {x : Int32} (tgt : Nat) (hd : decode cc pc = .ok (.tableswitch dflt lo hi offs, len)) (h1 : ¬ x.toInt < lo) (h2 : ¬ hi < x.toInt) (ho : offs[(x.toInt - lo).toNat]? = some off) (ht : (pc : Int) + off = (tgt : Int)) (kk : Rn tgt lv st ad ce k n) : Rn pc lv (.int x :: st) ad ce k n := by
  obtain ⟨p, e, s, m, args, below, meth, c, Q, rfl, hx, hb, hml, hown, hts, hK, hA, hnm⟩ := h
  intro H locs ls hl hS hW
  exact lv_tableIn hx hb hd h1 h2 ho ht (kk H locs ls hl hS hW)
theorem r_mmax (h : gOk l R cc nL own nm D A E Rn) {ix : Nat} {x y : Int32} (hd : decode cc pc = .ok (.invokestatic ix, 3)) (hw : Cond.methodLink own ix Lib.Math.max.name ∈ lw_tbl) (hR : 1 ≤ R.frames ∧ (st.map fun v => v.category).sum + 13 ≤ R.locals ∧ k ≤ R.cells ∧ n ≤ R.slots) (kk : Rn (pc + 3) lv (.int (if x < y then y else x) :: st) ad ce k n) : Rn pc lv (.int y :: .int x :: st) ad ce k n := by
  obtain ⟨p, e, s, m, args, below, meth, c, Q, rfl, hx, hb, hml, hown, hts, hK, hA, hnm⟩ := h
  intro H locs ls hl hS hW
  exact va_mmax hx hb (hml.trans hl.1.symm) hown (hts _ (gm hw rfl)) (hts _ (gm wst_Lib_Math_max_name rfl)) (hts _ (gm win_J9 rfl)) (hts _ (gm wco_Lib_Math_max_name rfl)) hR.1 hR.2.1 hR.2.2.1 hR.2.2.2 hd (kk H locs ls hl hS hW)
theorem r_mmin (h : gOk l R cc nL own nm D A E Rn) {ix : Nat} {x y : Int32} (hd : decode cc pc = .ok (.invokestatic ix, 3)) (hw : Cond.methodLink own ix Lib.Math.min.name ∈ lw_tbl) (hR : 1 ≤ R.frames ∧ (st.map fun v => v.category).sum + 13 ≤ R.locals ∧ k ≤ R.cells ∧ n ≤ R.slots) (kk : Rn (pc + 3) lv (.int (if y < x then y else x) :: st) ad ce k n) : Rn pc lv (.int y :: .int x :: st) ad ce k n := by
  obtain ⟨p, e, s, m, args, below, meth, c, Q, rfl, hx, hb, hml, hown, hts, hK, hA, hnm⟩ := h
  intro H locs ls hl hS hW
  exact va_mmin hx hb (hml.trans hl.1.symm) hown (hts _ (gm hw rfl)) (hts _ (gm wst_Lib_Math_min_name rfl)) (hts _ (gm win_J9 rfl)) (hts _ (gm wco_Lib_Math_min_name rfl)) hR.1 hR.2.1 hR.2.2.1 hR.2.2.2 hd (kk H locs ls hl hS hW)
theorem r_objInit (h : gOk l R cc nL own nm D A E Rn) {ix a : Nat} (hd : decode cc pc = .ok (.invokespecial ix, 3)) (hw : Cond.methodLink own ix objectInit ∈ lw_tbl) (hR : 1 ≤ R.frames ∧ (st.map fun v => v.category).sum + 12 ≤ R.locals) (kk : Rn (pc + 3) lv st ad ce k n) : Rn pc lv (.ref a :: st) ad ce k n := by
  obtain ⟨p, e, s, m, args, below, meth, c, Q, rfl, hx, hb, hml, hown, hts, hK, hA, hnm⟩ := h
  intro H locs ls hl hS hW
  exact W.objInit hx hb hown (hts _ (gm hw rfl)) (hts _ (gm wim_objectInit rfl)) (hts _ (gm wco_objectInit rfl)) rfl (by rw [hml]; exact hl.1) rfl hd hR.1 (by show 2 * 0 + _ + 12 ≤ _; omega) (kk H locs ls hl hS hW)
theorem r_widen (h : gOk l R cc nL own nm D A E Rn) {k' n' : Nat} (h1 : k ≤ k') (h2 : n ≤ n') (kk : Rn pc lv st ad ce k' n') : Rn pc lv st ad ce k n := by
  obtain ⟨p, e, s, m, args, below, meth, c, Q, rfl, hx, hb, hml, hown, hts, hK, hA, hnm⟩ := h
  intro H locs ls hl hS hW
  exact W.widen h1 h2 (kk H locs ls hl hS hW)
theorem r_lv (h : gOk l R cc nL own nm D A E Rn) (ks : List Nat) (hl' : lv_pick lv ks = lv') (kk : Rn pc lv' st ad ce k n) : Rn pc lv st ad ce k n := by
  obtain ⟨p, e, s, m, args, below, meth, c, Q, rfl, hx, hb, hml, hown, hts, hK, hA, hnm⟩ := h
  intro H locs ls hl hS hW
  exact kk H locs ls (lv_sub hl ks hl') hS hW
end GR
