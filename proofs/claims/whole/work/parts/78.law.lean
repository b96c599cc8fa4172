/-! THE CLAIM OUT OF ONE WALK OF THE LAW'S BODY. Your part is whole_start (and what it stands on); all else here is the same for every law, but numbers. -/
def R_law : String := "MilkBoxLaw"
def lw_P (b : Addr) (xs : List Int32) (args : Array Value) (s : State) : Prop := args = #[.ref b] ∧ s.IntsAt b xs ∧ xs.length ≤ 2560 ∧ (Jvm.Cond.and given_1 narrow_1).before args s = true
def lw_Q (_ : Array Value) (s : State) (o : Outcome) (t : State) : Prop := o = .returned (some (.int 1)) ∧ Framed s o t [] 600000 7302250
def lw_Z (below : List Frame) (a : Array Value) (s : State) : State → Prop := fun t => ∃ o, t.status = .running ∧ Ended t below o ∧ lw_Q a s o t
/-- the law's own end, with 1 on the stack, nothing written that was there before, its room as the claim has it -/
theorem lw_ret {p : Program} {l : Launch} {e : Env} {s : State} {m : MethodId} {below : List Frame} {meth : Method} {c : Code} {b : Nat} (hx : p.tables.exec = Jvm.exec) (hb : c.code = code) (hr : meth.sig.returnType = ret) (hlocks : meth.locks = false) {pc : Nat} {H : Heap} {ls : Array Slot} (hdg : decode code pc = .ok (.ireturn, 1)) : W p l e room_1 s m #[Value.ref b] below meth c H [] 600000 7302250 (lw_Z below #[Value.ref b] s) (F0 m pc ls [.int 1]) := by
  intro T hT X
  obtain ⟨fs, hret, hrun, hended, hW, hframe⟩ := X.leave (v := some (.int 1)) (hlocks := hlocks) (fun h => by rw [hr] at h; cases h)
  have hmeth' : T.vm.method? m = some meth := X.method'
  refine ⟨T.setFrames fs, ?_, .returned (some (.int 1)), hrun, hended, rfl, ⟨_, rfl⟩, hW, hframe⟩
  jvm_step X.here [X.here.top, hx, hb, hdg, hmeth', hr, ret, narrow_b1]
  (try refine ⟨rfl, ?_⟩); (try refine ⟨rfl, ?_⟩)
  first | (intro acts; rw [hret _ acts rfl rfl rfl]) | rw [hret _ _ rfl rfl rfl]
  exact Steps.refl _
/-- what holds at the law's entry: the machine, the code, the tables' words (any of lw_tbl by 'hts w (by decide +kernel)'), the script of L ints xs at the cell b, what the Statement gives of the start (any of its parts by flat_of_before) -/
def lw_At (p : Program) (s : State) (m : MethodId) (meth : Method) (c : Code) (b L : Nat) (xs : Nat → Int32) : Prop :=
  p.tables.exec = Jvm.exec ∧ c.code = code ∧ meth.sig.returnType = ret ∧ c.maxLocals = 4 ∧ s.vm.findClass R_law = some m.cls ∧ (∀ w ∈ lw_tbl, w.before #[Value.ref b] s = true) ∧ va_X b L xs s s.heap ∧ b < s.heap.size ∧ meth.locks = false ∧ (Jvm.Cond.and given_1 narrow_1).before #[Value.ref b] s = true
/-- the law's place: as gOk, with the script -/
def gOkL (l : Launch) (nm : String) (D : va_G) (A : Nat → Prop) (E : gEc) (b L : Nat) (xs : Nat → Int32) (Rn : gR) : Prop :=
  ∃ (p : Program) (e : Env) (s : State) (m : MethodId) (below : List Frame) (meth : Method) (c : Code), Rn = gRun p l e room_1 s m #[Value.ref b] below meth c D A 4 (lw_Z below #[Value.ref b] s) ∧ p.tables.exec = Jvm.exec ∧ c.code = cL_law ∧ c.maxLocals = 4 ∧ s.vm.findClass RL = some m.cls ∧ (∀ w ∈ gTB, w.before #[Value.ref b] s = true) ∧ gK D E s ∧ (∀ q : Nat, s.heap.size ≤ q → A q) ∧ meth.name = nm ∧ meth.sig.returnType = ret ∧ meth.locks = false ∧ va_X b L xs s s.heap ∧ b < s.heap.size ∧ (∀ q : Nat, A q → s.heap.size ≤ q)
theorem gOkL.ok {l : Launch} {nm : String} {D : va_G} {A : Nat → Prop} {E : gEc} {b L : Nat} {xs : Nat → Int32} {Rn : gR} (h : gOkL l nm D A E b L xs Rn) : gOk l room_1 cL_law 4 RL nm D A E Rn := by
  obtain ⟨p, e, s, m, below, meth, c, rfl, h1, h2, h3, h4, h5, h6, h7, h8, -⟩ := h
  exact ⟨p, e, s, m, _, below, meth, c, _, rfl, h1, h2, h3, h4, h5, h6, h7, h8⟩
abbrev lvL (i x0 m0 b : Nat) : List (Nat × Value) := [(3, .int (nI i)), (2, .ref m0), (1, .ref x0), (0, .ref b)]
section LAW
variable {l : Launch} {nm : String} {D : va_G} {A : Nat → Prop} {E : gEc} {b L : Nat} {xs : Nat → Int32} {Rn : gR} {pc : Nat} {lv : List (Nat × Value)} {st : List Value} {ad : gAd} {ce : gCe} {k n : Nat}
theorem r_sld (h : gOkL l nm D A E b L xs Rn) {x : Int32} (hd : decode cL_law pc = .ok (.iaload, 1)) (hin : vp_in x L) (kk : Rn (pc + 1) lv (.int (xs x.toNatClampNeg) :: st) ad ce k n) : Rn pc lv (.int x :: .ref b :: st) ad ce k n := by
  obtain ⟨p, e, s, m, below, meth, c, rfl, hx, hb, hml, hown, hts, hK, hA, hnm, hr, hlk, hX, hbl, hA2⟩ := h
  intro H locs ls hl hS hW
  exact va_sld hx hb hX hbl (fun z => absurd (hA2 _ z) (Nat.not_le.mpr hbl)) hS hin hd (kk H locs ls hl hS hW)
theorem r_slen (h : gOkL l nm D A E b L xs Rn) (hd : decode cL_law pc = .ok (.arraylength, 1)) (kk : Rn (pc + 1) lv (.int (nI L) :: st) ad ce k n) : Rn pc lv (.ref b :: st) ad ce k n := by
  obtain ⟨p, e, s, m, below, meth, c, rfl, hx, hb, hml, hown, hts, hK, hA, hnm, hr, hlk, hX, hbl, hA2⟩ := h
  intro H locs ls hl hS hW
  exact va_slen hx hb hX hbl (fun z => absurd (hA2 _ z) (Nat.not_le.mpr hbl)) hS hd (kk H locs ls hl hS hW)
theorem r_lret (h : gOkL l nm D A E b L xs Rn) (hd : decode cL_law pc = .ok (.ireturn, 1)) (hk : k ≤ 600000) (hn : n ≤ 7302250) : Rn pc lv [.int 1] ad ce k n := by
  obtain ⟨p, e, s, m, below, meth, c, rfl, hx, hb, hml, hown, hts, hK, hA, hnm, hr, hlk, hX, hbl, hA2⟩ := h
  intro H locs ls hl hS hW
  refine va_forget (fun q hq => hA2 _ (hS.2.2 q hq)) ?_
  refine W.widen hk hn ?_
  exact lw_ret hx hb hr hlk hd
theorem r_arg (h : gOkL l nm D A E b L xs Rn) {i x0 m0 : Nat} {z : Int} (j : Nat) (d0 : decode cL_law pc = .ok (.aload_n 0, 1)) (d1 : decode cL_law (pc + 1) = .ok (.iload_n 3, 1)) (d2 : decode cL_law (pc + 2) = .ok (.iconst z, 1)) (d3 : decode cL_law (pc + 3) = .ok (.iadd, 1)) (d4 : decode cL_law (pc + 4) = .ok (.iaload, 1)) (hz : Int32.ofInt z = nI j) (hij : i + j < L) (hL : L ≤ 2560) (kk : Rn (pc + 5) (lvL i x0 m0 b) (.int (xs (i + j)) :: st) ad ce k n) : Rn pc (lvL i x0 m0 b) st ad ce k n := by
  refine r_aload_n h.ok d0 3 rfl ?_
  refine r_iload_n h.ok d1 0 rfl ?_
  refine r_iconst h.ok d2 hz ?_
  refine r_iadd h.ok d3 ?_
  rw [nI_add]
  refine r_sld h d4 (vp_in_nI hij (by omega)) ?_
  rw [nI_clamp (by omega)]
  exact kk
end LAW
