theorem L5_toInt {L : Nat} (hL : L ≤ 2560) : (nI L - 5).toInt = (L : Int) - 5 := by
  have e5 : (5 : Int32).toInt = 5 := by decide
  rw [Int32.toInt_sub, nI_toInt (by omega), e5]
  exact Int.bmod_eq_of_le_mul_two (by omega) (by omega)
section LOOP
variable {l : Launch} {nm : String} {D : va_G} {A : Nat → Prop} {E : gEc} {b L : Nat} {xs : Nat → Int32} {Rn : gR}
/-- behind a call: on to the next -/
theorem lw_next (h : gOkL l nm D A E b L xs Rn) {i x0 m0 k n : Nat} {ad : gAd} {ce : gCe} (kk : Rn 18 (lvL (i + 5) x0 m0 b) [] ad ce k n) : Rn 724 (lvL i x0 m0 b) [] ad ce k n := by
  refine r_iinc (v := nI (i + 5)) (lv' := lvL (i + 5) x0 m0 b) h.ok dL_law_724 0 rfl ?_ (by decide) rfl ?_
  · rw [← nI_add]; rfl
  · exact r_goto h.ok 18 dL_law_727 (by decide) kk
/-- one turn -/
theorem lw_turn (h : gOkL l nm D A E b L xs Rn) (hL : L ≤ 2560) {i k n nc nv nw t : Nat} {ad : gAd} {I : gI} {F : gF} (hi : i + 5 ≤ L) (hr : Rel I I F nc nv nw t) (ht : t + 12 ≤ 100000) (hk : k + 3 ≤ 600000) (hn : n + 23 ≤ 7302250) (kk : ∀ (ad' : gAd) (I' : gI) (F' : gF) (nc' nv' nw' : Nat), ad' 0 0 = ad 0 0 → ad' 11 0 = ad 11 0 → Rel I' I' F' nc' nv' nw' (t + 12) → Rn 724 (lvL i (ad 0 0) (ad 11 0) b) [] ad' (cX E ad' I' F' nc' nv') (k + 3) (n + 23)) (x : Int32) : Rn 32 (lvL i (ad 0 0) (ad 11 0) b) [.int x] ad (cX E ad I F nc nv) k n := by
  by_cases c0 : x = 0
  · rw [c0]
    exact r_tableIn (off := 96) h.ok 128 dL_law_32 (by decide) (by decide) rfl (by decide) (lw_cow h hL hi hr ht hk hn kk)
  by_cases c1 : x = 1
  · rw [c1]
    exact r_tableIn (off := 149) h.ok 181 dL_law_32 (by decide) (by decide) rfl (by decide) (lw_taken h hL hi hr ht hk hn kk)
  by_cases c2 : x = 2
  · rw [c2]
    exact r_tableIn (off := 192) h.ok 224 dL_law_32 (by decide) (by decide) rfl (by decide) (lw_withhold h hL hi hr ht hk hn kk)
  by_cases c3 : x = 3
  · rw [c3]
    exact r_tableIn (off := 225) h.ok 257 dL_law_32 (by decide) (by decide) rfl (by decide) (lw_trouble h hL hi hr ht hk hn kk)
  by_cases c4 : x = 4
  · rw [c4]
    exact r_tableIn (off := 268) h.ok 300 dL_law_32 (by decide) (by decide) rfl (by decide) (lw_about h hL hi hr ht hk hn kk)
  by_cases c5 : x = 5
  · rw [c5]
    exact r_tableIn (off := 301) h.ok 333 dL_law_32 (by decide) (by decide) rfl (by decide) (lw_pass h hL hi hr ht hk hn kk)
  by_cases c6 : x = 6
  · rw [c6]
    exact r_tableIn (off := 324) h.ok 356 dL_law_32 (by decide) (by decide) rfl (by decide) (lw_come h hL hi hr ht hk hn kk)
  by_cases c7 : x = 7
  · rw [c7]
    exact r_tableIn (off := 357) h.ok 389 dL_law_32 (by decide) (by decide) rfl (by decide) (lw_power h hL hi hr ht hk hn kk)
  by_cases c8 : x = 8
  · rw [c8]
    exact r_tableIn (off := 396) h.ok 428 dL_law_32 (by decide) (by decide) rfl (by decide) (lw_box h hL hi hr ht hk hn kk)
  by_cases c9 : x = 9
  · rw [c9]
    exact r_tableIn (off := 409) h.ok 441 dL_law_32 (by decide) (by decide) rfl (by decide) (lw_queue h hL hi hr ht hk hn kk)
  by_cases c10 : x = 10
  · rw [c10]
    exact r_tableIn (off := 432) h.ok 464 dL_law_32 (by decide) (by decide) rfl (by decide) (lw_ends h hL hi hr ht hk hn kk)
  by_cases c11 : x = 11
  · rw [c11]
    exact r_tableIn (off := 445) h.ok 477 dL_law_32 (by decide) (by decide) rfl (by decide) (lw_room h hL hi hr ht hk hn kk)
  by_cases c12 : x = 12
  · rw [c12]
    exact r_tableIn (off := 468) h.ok 500 dL_law_32 (by decide) (by decide) rfl (by decide) (lw_pick h hL hi hr ht hk hn kk)
  by_cases c13 : x = 13
  · rw [c13]
    exact r_tableIn (off := 491) h.ok 523 dL_law_32 (by decide) (by decide) rfl (by decide) (lw_total h hL hi hr ht hk hn kk)
  by_cases c14 : x = 14
  · rw [c14]
    exact r_tableIn (off := 514) h.ok 546 dL_law_32 (by decide) (by decide) rfl (by decide) (lw_visit h hL hi hr ht hk hn kk)
  by_cases c15 : x = 15
  · rw [c15]
    exact r_tableIn (off := 557) h.ok 589 dL_law_32 (by decide) (by decide) rfl (by decide) (lw_visitOf h hL hi hr ht hk hn kk)
  by_cases c16 : x = 16
  · rw [c16]
    exact r_tableIn (off := 590) h.ok 622 dL_law_32 (by decide) (by decide) rfl (by decide) (lw_gave h hL hi hr ht hk hn kk)
  by_cases c17 : x = 17
  · rw [c17]
    exact r_tableIn (off := 623) h.ok 655 dL_law_32 (by decide) (by decide) rfl (by decide) (lw_longest h hL hi hr ht hk hn kk)
  by_cases c18 : x = 18
  · rw [c18]
    exact r_tableIn (off := 636) h.ok 668 dL_law_32 (by decide) (by decide) rfl (by decide) (lw_rank h hL hi hr ht hk hn kk)
  by_cases c19 : x = 19
  · rw [c19]
    exact r_tableIn (off := 659) h.ok 691 dL_law_32 (by decide) (by decide) rfl (by decide) (lw_until h hL hi hr ht hk hn kk)
  refine r_tableOut h.ok 724 dL_law_32 (gOut19 c0 c1 c2 c3 c4 c5 c6 c7 c8 c9 c10 c11 c12 c13 c14 c15 c16 c17 c18 c19) (by decide) ?_
  exact r_widen h.ok (k' := k + 3) (n' := n + 23) (by omega) (by omega) (kk ad I F nc nv nw rfl rfl (Rel_le hr (by omega)))
theorem lw_loop (h : gOkL l nm D A E b L xs Rn) (hL : L ≤ 2560) {k0 n0 : Nat} (hk : k0 ≤ 1000) (hn : n0 ≤ 100000) : ∀ (f j nc nv nw : Nat) (ad : gAd) (I : gI) (F : gF), L ≤ 5 * j + 5 * f → 5 * j ≤ 2560 → Rel I I F nc nv nw (12 * j) → Rn 18 (lvL (5 * j) (ad 0 0) (ad 11 0) b) [] ad (cX E ad I F nc nv) (k0 + 3 * j) (n0 + 23 * j) := by
  intro f
  induction f with
  | zero =>
    intro j nc nv nw ad I F h1 h2 hr
    refine r_iload_n h.ok dL_law_18 0 rfl ?_
    refine r_aload_n h.ok dL_law_19 3 rfl ?_
    refine r_slen h dL_law_20 ?_
    refine r_iconst (v := 5) h.ok dL_law_21 (by decide) ?_
    refine r_isub h.ok dL_law_22 ?_
    refine r_icmp_gt h.ok 730 dL_law_23 (by decide) (fun _ => ?_) (fun z => ?_)
    · refine r_iconst (v := 1) h.ok dL_law_730 (by decide) ?_
      exact r_lret h dL_law_731 (by omega) (by omega)
    · refine absurd ?_ z
      rw [Int32.lt_iff_toInt_lt, L5_toInt hL, nI_toInt (by omega)]
      omega
  | succ f ih =>
    intro j nc nv nw ad I F h1 h2 hr
    refine r_iload_n h.ok dL_law_18 0 rfl ?_
    refine r_aload_n h.ok dL_law_19 3 rfl ?_
    refine r_slen h dL_law_20 ?_
    refine r_iconst (v := 5) h.ok dL_law_21 (by decide) ?_
    refine r_isub h.ok dL_law_22 ?_
    refine r_icmp_gt h.ok 730 dL_law_23 (by decide) (fun _ => ?_) (fun z => ?_)
    · refine r_iconst (v := 1) h.ok dL_law_730 (by decide) ?_
      exact r_lret h dL_law_731 (by omega) (by omega)
    · have hi : 5 * j + 5 ≤ L := by
        rw [Int32.lt_iff_toInt_lt, L5_toInt hL, nI_toInt (by omega)] at z
        omega
      refine r_aload_n h.ok dL_law_26 3 rfl ?_
      refine r_iload_n h.ok dL_law_27 0 rfl ?_
      refine r_sld h dL_law_28 (vp_in_nI (by omega) (by omega)) ?_
      refine r_bipush (v := 31) h.ok dL_law_29 (by decide) ?_
      refine r_iand h.ok dL_law_31 ?_
      refine lw_turn h hL hi hr (by omega) (by omega) (by omega) (fun ad' I' F' nc' nv' nw' h00 h11 hr' => ?_) _
      refine lw_next h ?_
      have key := ih (j + 1) nc' nv' nw' ad' I' F' (by omega) (by omega) hr'
      rw [h00, h11] at key
      exact key
end LOOP
