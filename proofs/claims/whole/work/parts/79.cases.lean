section CASES
variable {l : Launch} {nm : String} {D : va_G} {A : Nat → Prop} {E : gEc} {b L : Nat} {xs : Nat → Int32} {Rn : gR} {ad : gAd} {I : gI} {F : gF} {i k n nc nv nw t : Nat}
theorem lw_cow (h : gOkL l nm D A E b L xs Rn) (hL : L ≤ 2560) (hi : i + 5 ≤ L) (hr : Rel I I F nc nv nw t) (ht : t + 12 ≤ 100000) (hk : k + 3 ≤ 600000) (hn : n + 23 ≤ 7302250) (kk : ∀ (ad' : gAd) (I' : gI) (F' : gF) (nc' nv' nw' : Nat), ad' 0 0 = ad 0 0 → ad' 11 0 = ad 11 0 → Rel I' I' F' nc' nv' nw' (t + 12) → Rn 724 (lvL i (ad 0 0) (ad 11 0) b) [] ad' (cX E ad' I' F' nc' nv') (k + 3) (n + 23)) : Rn 128 (lvL i (ad 0 0) (ad 11 0) b) [] ad (cX E ad I F nc nv) k n := by
  refine r_aload_n h.ok dL_law_128 2 rfl ?_
  refine r_arg h 1 dL_law_129 dL_law_130 dL_law_131 dL_law_132 dL_law_133 (by decide) (by omega) hL ?_
  refine r_arg h 2 dL_law_134 dL_law_135 dL_law_136 dL_law_137 dL_law_138 (by decide) (by omega) hL ?_
  refine r_arg h 3 dL_law_139 dL_law_140 dL_law_141 dL_law_142 dL_law_143 (by decide) (by omega) hL ?_
  refine r_arg h 4 dL_law_144 dL_law_145 dL_law_146 dL_law_147 dL_law_148 (by decide) (by omega) hL ?_
  have hr1 : Rel I (bCow_I I nc (xs (i + 1)) (xs (i + 2)) (xs (i + 3)) (xs (i + 4))) F nc nv nw t := Rel_one hr hi_cow
  refine r_callVX h.ok [.int (xs (i + 1)), .int (xs (i + 2)), .int (xs (i + 3)), .int (xs (i + 4))] [] dL_law_149 (c_X5_cow D E ad I F nc nv nc nv nw hr.1 hr.2.2.1 (xs (i + 1)) (xs (i + 2)) (xs (i + 3)) (xs (i + 4))) wml_L_13 wim_X5_cow wse_X5_cow win_X5 wco_X5_cow yok_X5_cow (xo_0 _) rfl rfl ⟨by decide, by decide, by show k + 3 ≤ 600000; omega, by show n + 23 ≤ 7302250; omega⟩ (Nat.le_of_ble_eq_true rfl) (rfl) (fun v ad' ce' hp => ?_)
  obtain ⟨rfl, h00, h11, rfl⟩ := hp
  show Rn 152 (lvL i (ad 0 0) (ad 11 0) b) [.int (bCow_r I (xs (i + 1)) (xs (i + 2)) (xs (i + 3)) (xs (i + 4)))] ad' (cX E ad' (bCow_I I nc (xs (i + 1)) (xs (i + 2)) (xs (i + 3)) (xs (i + 4))) (bCow_F I F nc (xs (i + 1)) (xs (i + 2)) (xs (i + 3)) (xs (i + 4))) (bCow_l I nc (xs (i + 1)) (xs (i + 2)) (xs (i + 3)) (xs (i + 4))) nv) (k + 3) (n + 23)
  refine r_aload_n h.ok dL_law_152 1 rfl ?_
  refine r_arg h 1 dL_law_153 dL_law_154 dL_law_155 dL_law_156 dL_law_157 (by decide) (by omega) hL ?_
  refine r_arg h 2 dL_law_158 dL_law_159 dL_law_160 dL_law_161 dL_law_162 (by decide) (by omega) hL ?_
  refine r_arg h 3 dL_law_163 dL_law_164 dL_law_165 dL_law_166 dL_law_167 (by decide) (by omega) hL ?_
  refine r_arg h 4 dL_law_168 dL_law_169 dL_law_170 dL_law_171 dL_law_172 (by decide) (by omega) hL ?_
  refine r_callV h.ok [.int (xs (i + 1)), .int (xs (i + 2)), .int (xs (i + 3)), .int (xs (i + 4))] [.int (bCow_r I (xs (i + 1)) (xs (i + 2)) (xs (i + 3)) (xs (i + 4)))] dL_law_173 (c_X6_cow D E ad' (bCow_I I nc (xs (i + 1)) (xs (i + 2)) (xs (i + 3)) (xs (i + 4))) (bCow_F I F nc (xs (i + 1)) (xs (i + 2)) (xs (i + 3)) (xs (i + 4))) (bCow_l I nc (xs (i + 1)) (xs (i + 2)) (xs (i + 3)) (xs (i + 4))) nv (xs (i + 1)) (xs (i + 2)) (xs (i + 3)) (xs (i + 4)) hr1.ht nc hr1.hn hr1.h12) wml_L_17 wim_X6_cow wse_X6_cow win_X6 wco_X6_cow yok_X6_cow (xo_11 _) rfl rfl ⟨by decide, by decide, by show (k + 3) + 0 ≤ 600000; omega, by show (n + 23) + 0 ≤ 7302250; omega⟩ (Nat.le_of_ble_eq_true rfl) (by rw [h11]; rfl) ?_
  have hst := st_cow hr (bCow_F I F nc (xs (i + 1)) (xs (i + 2)) (xs (i + 3)) (xs (i + 4))) (xs (i + 1)) (xs (i + 2)) (xs (i + 3)) (xs (i + 4))
  obtain ⟨he, hr2⟩ := hst
  show Rn 176 (lvL i (ad 0 0) (ad 11 0) b) [.int (mCow_r (bCow_I I nc (xs (i + 1)) (xs (i + 2)) (xs (i + 3)) (xs (i + 4))) (bCow_F I F nc (xs (i + 1)) (xs (i + 2)) (xs (i + 3)) (xs (i + 4))) (xs (i + 1)) (xs (i + 2)) (xs (i + 3)) (xs (i + 4))), .int (bCow_r I (xs (i + 1)) (xs (i + 2)) (xs (i + 3)) (xs (i + 4)))] ad' (cX E ad' (mCow_I (bCow_I I nc (xs (i + 1)) (xs (i + 2)) (xs (i + 3)) (xs (i + 4))) (bCow_F I F nc (xs (i + 1)) (xs (i + 2)) (xs (i + 3)) (xs (i + 4))) (xs (i + 1)) (xs (i + 2)) (xs (i + 3)) (xs (i + 4))) (bCow_F I F nc (xs (i + 1)) (xs (i + 2)) (xs (i + 3)) (xs (i + 4))) (bCow_l I nc (xs (i + 1)) (xs (i + 2)) (xs (i + 3)) (xs (i + 4))) nv) (k + 3) (n + 23)
  refine r_icmp_eq h.ok 724 dL_law_176 (by decide) (fun _ => ?_) (fun z => absurd he z)
  exact r_widen h.ok (by omega) (by omega) (kk ad' _ _ _ _ nw h00 h11 (Rel_le hr2 (by omega)))
theorem lw_taken (h : gOkL l nm D A E b L xs Rn) (hL : L ≤ 2560) (hi : i + 5 ≤ L) (hr : Rel I I F nc nv nw t) (ht : t + 12 ≤ 100000) (hk : k + 3 ≤ 600000) (hn : n + 23 ≤ 7302250) (kk : ∀ (ad' : gAd) (I' : gI) (F' : gF) (nc' nv' nw' : Nat), ad' 0 0 = ad 0 0 → ad' 11 0 = ad 11 0 → Rel I' I' F' nc' nv' nw' (t + 12) → Rn 724 (lvL i (ad 0 0) (ad 11 0) b) [] ad' (cX E ad' I' F' nc' nv') (k + 3) (n + 23)) : Rn 181 (lvL i (ad 0 0) (ad 11 0) b) [] ad (cX E ad I F nc nv) k n := by
  refine r_aload_n h.ok dL_law_181 2 rfl ?_
  refine r_arg h 1 dL_law_182 dL_law_183 dL_law_184 dL_law_185 dL_law_186 (by decide) (by omega) hL ?_
  refine r_arg h 2 dL_law_187 dL_law_188 dL_law_189 dL_law_190 dL_law_191 (by decide) (by omega) hL ?_
  refine r_arg h 3 dL_law_192 dL_law_193 dL_law_194 dL_law_195 dL_law_196 (by decide) (by omega) hL ?_
  refine r_callV h.ok [.int (xs (i + 1)), .int (xs (i + 2)), .int (xs (i + 3))] [] dL_law_197 (c_X5_taken D E ad I F nc nv nc nv nw hr.1 (xs (i + 1)) (xs (i + 2)) (xs (i + 3))) wml_L_18 wim_X5_taken wse_X5_taken win_X5 wco_X5_taken yok_X5_taken (xo_0 _) rfl rfl ⟨by decide, by decide, by show k + 0 ≤ 600000; omega, by show n + 0 ≤ 7302250; omega⟩ (Nat.le_of_ble_eq_true rfl) (rfl) ?_
  show Rn 200 (lvL i (ad 0 0) (ad 11 0) b) [.int (bTaken_r I F nc (xs (i + 1)) (xs (i + 2)) (xs (i + 3)))] ad (cX E ad I F nc nv) k n
  refine r_aload_n h.ok dL_law_200 1 rfl ?_
  refine r_arg h 1 dL_law_201 dL_law_202 dL_law_203 dL_law_204 dL_law_205 (by decide) (by omega) hL ?_
  refine r_arg h 2 dL_law_206 dL_law_207 dL_law_208 dL_law_209 dL_law_210 (by decide) (by omega) hL ?_
  refine r_arg h 3 dL_law_211 dL_law_212 dL_law_213 dL_law_214 dL_law_215 (by decide) (by omega) hL ?_
  refine r_callV h.ok [.int (xs (i + 1)), .int (xs (i + 2)), .int (xs (i + 3))] [.int (bTaken_r I F nc (xs (i + 1)) (xs (i + 2)) (xs (i + 3)))] dL_law_216 (c_X6_taken D E ad I F nc nv (xs (i + 1)) (xs (i + 2)) (xs (i + 3)) hr.ht nc hr.hn hr.h12) wml_L_22 wim_X6_taken wse_X6_taken win_X6 wco_X6_taken yok_X6_taken (xo_11 _) rfl rfl ⟨by decide, by decide, by show k + 0 ≤ 600000; omega, by show n + 0 ≤ 7302250; omega⟩ (Nat.le_of_ble_eq_true rfl) (rfl) ?_
  refine r_icmp_eq h.ok 724 dL_law_219 (by decide) (fun _ => ?_) (fun z => absurd (sim_taken hr (xs (i + 1)) (xs (i + 2)) (xs (i + 3))) z)
  exact r_widen h.ok (k' := k + 3) (n' := n + 23) (by omega) (by omega) (kk ad _ _ _ _ nw rfl rfl (Rel_le hr (by omega)))
theorem lw_withhold (h : gOkL l nm D A E b L xs Rn) (hL : L ≤ 2560) (hi : i + 5 ≤ L) (hr : Rel I I F nc nv nw t) (ht : t + 12 ≤ 100000) (hk : k + 3 ≤ 600000) (hn : n + 23 ≤ 7302250) (kk : ∀ (ad' : gAd) (I' : gI) (F' : gF) (nc' nv' nw' : Nat), ad' 0 0 = ad 0 0 → ad' 11 0 = ad 11 0 → Rel I' I' F' nc' nv' nw' (t + 12) → Rn 724 (lvL i (ad 0 0) (ad 11 0) b) [] ad' (cX E ad' I' F' nc' nv') (k + 3) (n + 23)) : Rn 224 (lvL i (ad 0 0) (ad 11 0) b) [] ad (cX E ad I F nc nv) k n := by
  refine r_aload_n h.ok dL_law_224 2 rfl ?_
  refine r_arg h 1 dL_law_225 dL_law_226 dL_law_227 dL_law_228 dL_law_229 (by decide) (by omega) hL ?_
  refine r_arg h 2 dL_law_230 dL_law_231 dL_law_232 dL_law_233 dL_law_234 (by decide) (by omega) hL ?_
  have hr1 : Rel I (bWithhold_I I F nc (xs (i + 1)) (xs (i + 2))) F nc nv nw t := Rel_one hr hi_withhold
  refine r_callV h.ok [.int (xs (i + 1)), .int (xs (i + 2))] [] dL_law_235 (c_X5_withhold D E ad I F nc nv nc nv nw hr.1 (xs (i + 1)) (xs (i + 2))) wml_L_23 wim_X5_withhold wse_X5_withhold win_X5 wco_X5_withhold yok_X5_withhold (xo_0 _) rfl rfl ⟨by decide, by decide, by show k + 0 ≤ 600000; omega, by show n + 0 ≤ 7302250; omega⟩ (Nat.le_of_ble_eq_true rfl) (rfl) ?_
  show Rn 238 (lvL i (ad 0 0) (ad 11 0) b) [.int (bWithhold_r I F nc (xs (i + 1)) (xs (i + 2)))] ad (cX E ad (bWithhold_I I F nc (xs (i + 1)) (xs (i + 2))) F nc nv) k n
  refine r_aload_n h.ok dL_law_238 1 rfl ?_
  refine r_arg h 1 dL_law_239 dL_law_240 dL_law_241 dL_law_242 dL_law_243 (by decide) (by omega) hL ?_
  refine r_arg h 2 dL_law_244 dL_law_245 dL_law_246 dL_law_247 dL_law_248 (by decide) (by omega) hL ?_
  refine r_callV h.ok [.int (xs (i + 1)), .int (xs (i + 2))] [.int (bWithhold_r I F nc (xs (i + 1)) (xs (i + 2)))] dL_law_249 (c_X6_withhold D E ad (bWithhold_I I F nc (xs (i + 1)) (xs (i + 2))) F nc nv (xs (i + 1)) (xs (i + 2)) hr1.ht nc hr1.hn hr1.h12) wml_L_27 wim_X6_withhold wse_X6_withhold win_X6 wco_X6_withhold yok_X6_withhold (xo_11 _) rfl rfl ⟨by decide, by decide, by show k + 0 ≤ 600000; omega, by show n + 0 ≤ 7302250; omega⟩ (Nat.le_of_ble_eq_true rfl) (rfl) ?_
  obtain ⟨he, hr2⟩ := st_withhold hr (xs (i + 1)) (xs (i + 2))
  refine r_icmp_eq h.ok 724 dL_law_252 (by decide) (fun _ => ?_) (fun z => absurd he z)
  exact r_widen h.ok (k' := k + 3) (n' := n + 23) (by omega) (by omega) (kk ad _ _ _ _ nw rfl rfl (Rel_le hr2 (by omega)))
theorem lw_trouble (h : gOkL l nm D A E b L xs Rn) (hL : L ≤ 2560) (hi : i + 5 ≤ L) (hr : Rel I I F nc nv nw t) (ht : t + 12 ≤ 100000) (hk : k + 3 ≤ 600000) (hn : n + 23 ≤ 7302250) (kk : ∀ (ad' : gAd) (I' : gI) (F' : gF) (nc' nv' nw' : Nat), ad' 0 0 = ad 0 0 → ad' 11 0 = ad 11 0 → Rel I' I' F' nc' nv' nw' (t + 12) → Rn 724 (lvL i (ad 0 0) (ad 11 0) b) [] ad' (cX E ad' I' F' nc' nv') (k + 3) (n + 23)) : Rn 257 (lvL i (ad 0 0) (ad 11 0) b) [] ad (cX E ad I F nc nv) k n := by
  refine r_aload_n h.ok dL_law_257 2 rfl ?_
  refine r_arg h 1 dL_law_258 dL_law_259 dL_law_260 dL_law_261 dL_law_262 (by decide) (by omega) hL ?_
  refine r_arg h 2 dL_law_263 dL_law_264 dL_law_265 dL_law_266 dL_law_267 (by decide) (by omega) hL ?_
  refine r_arg h 3 dL_law_268 dL_law_269 dL_law_270 dL_law_271 dL_law_272 (by decide) (by omega) hL ?_
  have hr1 : Rel I (bTrouble_I I F nc (xs (i + 1)) (xs (i + 2)) (xs (i + 3))) F nc nv nw t := Rel_one hr hi_trouble
  refine r_callV h.ok [.int (xs (i + 1)), .int (xs (i + 2)), .int (xs (i + 3))] [] dL_law_273 (c_X5_trouble D E ad I F nc nv nc nv nw hr.1 (xs (i + 1)) (xs (i + 2)) (xs (i + 3))) wml_L_28 wim_X5_trouble wse_X5_trouble win_X5 wco_X5_trouble yok_X5_trouble (xo_0 _) rfl rfl ⟨by decide, by decide, by show k + 0 ≤ 600000; omega, by show n + 0 ≤ 7302250; omega⟩ (Nat.le_of_ble_eq_true rfl) (rfl) ?_
  show Rn 276 (lvL i (ad 0 0) (ad 11 0) b) [.int (bTrouble_r I F nc (xs (i + 1)) (xs (i + 2)) (xs (i + 3)))] ad (cX E ad (bTrouble_I I F nc (xs (i + 1)) (xs (i + 2)) (xs (i + 3))) F nc nv) k n
  refine r_aload_n h.ok dL_law_276 1 rfl ?_
  refine r_arg h 1 dL_law_277 dL_law_278 dL_law_279 dL_law_280 dL_law_281 (by decide) (by omega) hL ?_
  refine r_arg h 2 dL_law_282 dL_law_283 dL_law_284 dL_law_285 dL_law_286 (by decide) (by omega) hL ?_
  refine r_arg h 3 dL_law_287 dL_law_288 dL_law_289 dL_law_290 dL_law_291 (by decide) (by omega) hL ?_
  refine r_callV h.ok [.int (xs (i + 1)), .int (xs (i + 2)), .int (xs (i + 3))] [.int (bTrouble_r I F nc (xs (i + 1)) (xs (i + 2)) (xs (i + 3)))] dL_law_292 (c_X6_trouble D E ad (bTrouble_I I F nc (xs (i + 1)) (xs (i + 2)) (xs (i + 3))) F nc nv (xs (i + 1)) (xs (i + 2)) (xs (i + 3)) hr1.ht nc hr1.hn hr1.h12) wml_L_31 wim_X6_trouble wse_X6_trouble win_X6 wco_X6_trouble yok_X6_trouble (xo_11 _) rfl rfl ⟨by decide, by decide, by show k + 0 ≤ 600000; omega, by show n + 0 ≤ 7302250; omega⟩ (Nat.le_of_ble_eq_true rfl) (rfl) ?_
  obtain ⟨he, hr2⟩ := st_trouble hr (xs (i + 1)) (xs (i + 2)) (xs (i + 3))
  refine r_icmp_eq h.ok 724 dL_law_295 (by decide) (fun _ => ?_) (fun z => absurd he z)
  exact r_widen h.ok (k' := k + 3) (n' := n + 23) (by omega) (by omega) (kk ad _ _ _ _ nw rfl rfl (Rel_le hr2 (by omega)))
theorem lw_about (h : gOkL l nm D A E b L xs Rn) (hL : L ≤ 2560) (hi : i + 5 ≤ L) (hr : Rel I I F nc nv nw t) (ht : t + 12 ≤ 100000) (hk : k + 3 ≤ 600000) (hn : n + 23 ≤ 7302250) (kk : ∀ (ad' : gAd) (I' : gI) (F' : gF) (nc' nv' nw' : Nat), ad' 0 0 = ad 0 0 → ad' 11 0 = ad 11 0 → Rel I' I' F' nc' nv' nw' (t + 12) → Rn 724 (lvL i (ad 0 0) (ad 11 0) b) [] ad' (cX E ad' I' F' nc' nv') (k + 3) (n + 23)) : Rn 300 (lvL i (ad 0 0) (ad 11 0) b) [] ad (cX E ad I F nc nv) k n := by
  refine r_aload_n h.ok dL_law_300 2 rfl ?_
  refine r_arg h 1 dL_law_301 dL_law_302 dL_law_303 dL_law_304 dL_law_305 (by decide) (by omega) hL ?_
  refine r_arg h 2 dL_law_306 dL_law_307 dL_law_308 dL_law_309 dL_law_310 (by decide) (by omega) hL ?_
  refine r_callV h.ok [.int (xs (i + 1)), .int (xs (i + 2))] [] dL_law_311 (c_X5_about D E ad I F nc nv nc nv nw hr.1 (xs (i + 1)) (xs (i + 2))) wml_L_32 wim_X5_about wse_X5_about win_X5 wco_X5_about yok_X5_about (xo_0 _) rfl rfl ⟨by decide, by decide, by show k + 0 ≤ 600000; omega, by show n + 0 ≤ 7302250; omega⟩ (Nat.le_of_ble_eq_true rfl) (rfl) ?_
  show Rn 314 (lvL i (ad 0 0) (ad 11 0) b) [.int (bAbout_r I F nc nw (xs (i + 1)) (xs (i + 2)))] ad (cX E ad I F nc nv) k n
  refine r_aload_n h.ok dL_law_314 1 rfl ?_
  refine r_arg h 1 dL_law_315 dL_law_316 dL_law_317 dL_law_318 dL_law_319 (by decide) (by omega) hL ?_
  refine r_arg h 2 dL_law_320 dL_law_321 dL_law_322 dL_law_323 dL_law_324 (by decide) (by omega) hL ?_
  refine r_callV h.ok [.int (xs (i + 1)), .int (xs (i + 2))] [.int (bAbout_r I F nc nw (xs (i + 1)) (xs (i + 2)))] dL_law_325 (c_X6_about D E ad I F nc nv (xs (i + 1)) (xs (i + 2)) hr.ht nc hr.hn hr.h12 nv nw hr.hw hr.w12 hr.v500 hr.hq) wml_L_35 wim_X6_about wse_X6_about win_X6 wco_X6_about yok_X6_about (xo_11 _) rfl rfl ⟨by decide, by decide, by show k + 0 ≤ 600000; omega, by show n + 0 ≤ 7302250; omega⟩ (Nat.le_of_ble_eq_true rfl) (rfl) ?_
  refine r_icmp_eq h.ok 724 dL_law_328 (by decide) (fun _ => ?_) (fun z => absurd (sim_about hr (xs (i + 1)) (xs (i + 2))) z)
  exact r_widen h.ok (k' := k + 3) (n' := n + 23) (by omega) (by omega) (kk ad _ _ _ _ nw rfl rfl (Rel_le hr (by omega)))
theorem lw_pass (h : gOkL l nm D A E b L xs Rn) (hL : L ≤ 2560) (hi : i + 5 ≤ L) (hr : Rel I I F nc nv nw t) (ht : t + 12 ≤ 100000) (hk : k + 3 ≤ 600000) (hn : n + 23 ≤ 7302250) (kk : ∀ (ad' : gAd) (I' : gI) (F' : gF) (nc' nv' nw' : Nat), ad' 0 0 = ad 0 0 → ad' 11 0 = ad 11 0 → Rel I' I' F' nc' nv' nw' (t + 12) → Rn 724 (lvL i (ad 0 0) (ad 11 0) b) [] ad' (cX E ad' I' F' nc' nv') (k + 3) (n + 23)) : Rn 333 (lvL i (ad 0 0) (ad 11 0) b) [] ad (cX E ad I F nc nv) k n := by
  refine r_aload_n h.ok dL_law_333 2 rfl ?_
  refine r_arg h 1 dL_law_334 dL_law_335 dL_law_336 dL_law_337 dL_law_338 (by decide) (by omega) hL ?_
  have hr1 : Rel I (bPass_I I F nw (xs (i + 1))) F nc nv nw t := Rel_one hr hi_pass
  refine r_callV h.ok [.int (xs (i + 1))] [] dL_law_339 (c_X5_pass D E ad I F nc nv nc nv nw hr.1 (xs (i + 1))) wml_L_36 wim_X5_pass wse_X5_pass win_X5 wco_X5_pass yok_X5_pass (xo_0 _) rfl rfl ⟨by decide, by decide, by show k + 0 ≤ 600000; omega, by show n + 0 ≤ 7302250; omega⟩ (Nat.le_of_ble_eq_true rfl) (rfl) ?_
  show Rn 342 (lvL i (ad 0 0) (ad 11 0) b) [.int (bPass_r I (xs (i + 1)))] ad (cX E ad (bPass_I I F nw (xs (i + 1))) (bPass_F I F nw (xs (i + 1))) nc nv) k n
  refine r_aload_n h.ok dL_law_342 1 rfl ?_
  refine r_arg h 1 dL_law_343 dL_law_344 dL_law_345 dL_law_346 dL_law_347 (by decide) (by omega) hL ?_
  refine r_callV h.ok [.int (xs (i + 1))] [.int (bPass_r I (xs (i + 1)))] dL_law_348 (c_X6_pass D E ad (bPass_I I F nw (xs (i + 1))) (bPass_F I F nw (xs (i + 1))) nc nv (xs (i + 1)) nc nv nw hr1.2.1) wml_L_40 wim_X6_pass wse_X6_pass win_X6 wco_X6_pass yok_X6_pass (xo_11 _) rfl rfl ⟨by decide, by decide, by show k + 0 ≤ 600000; omega, by show n + 0 ≤ 7302250; omega⟩ (Nat.le_of_ble_eq_true rfl) (rfl) ?_
  obtain ⟨he, nw2, hr2⟩ := st_pass hr (bPass_F I F nw (xs (i + 1))) (xs (i + 1)) ht
  refine r_icmp_eq h.ok 724 dL_law_351 (by decide) (fun _ => ?_) (fun z => absurd he z)
  exact r_widen h.ok (k' := k + 3) (n' := n + 23) (by omega) (by omega) (kk ad _ _ _ _ nw2 rfl rfl hr2)
theorem lw_come (h : gOkL l nm D A E b L xs Rn) (hL : L ≤ 2560) (hi : i + 5 ≤ L) (hr : Rel I I F nc nv nw t) (ht : t + 12 ≤ 100000) (hk : k + 3 ≤ 600000) (hn : n + 23 ≤ 7302250) (kk : ∀ (ad' : gAd) (I' : gI) (F' : gF) (nc' nv' nw' : Nat), ad' 0 0 = ad 0 0 → ad' 11 0 = ad 11 0 → Rel I' I' F' nc' nv' nw' (t + 12) → Rn 724 (lvL i (ad 0 0) (ad 11 0) b) [] ad' (cX E ad' I' F' nc' nv') (k + 3) (n + 23)) : Rn 356 (lvL i (ad 0 0) (ad 11 0) b) [] ad (cX E ad I F nc nv) k n := by
  refine r_aload_n h.ok dL_law_356 2 rfl ?_
  refine r_arg h 1 dL_law_357 dL_law_358 dL_law_359 dL_law_360 dL_law_361 (by decide) (by omega) hL ?_
  refine r_arg h 2 dL_law_362 dL_law_363 dL_law_364 dL_law_365 dL_law_366 (by decide) (by omega) hL ?_
  have hr1 : Rel I (bCome_I I F nv nc nw (xs (i + 1)) (xs (i + 2))) F nc nv nw t := Rel_one hr hi_come
  refine r_callVX h.ok [.int (xs (i + 1)), .int (xs (i + 2))] [] dL_law_367 (c_X5_come D E ad I F nc nv nc nv nw hr.1 hr.2.2.1 rfl (xs (i + 1)) (xs (i + 2)) (hr.few_come _)) wml_L_41 wim_X5_come wse_X5_come win_X5 wco_X5_come yok_X5_come (xo_0 _) rfl rfl ⟨by decide, by decide, by show k + 1 ≤ 600000; omega, by show n + 12 ≤ 7302250; omega⟩ (Nat.le_of_ble_eq_true rfl) (rfl) (fun v ad' ce' hp => ?_)
  obtain ⟨rfl, h00, h11, rfl⟩ := hp
  show Rn 370 (lvL i (ad 0 0) (ad 11 0) b) [.int (bCome_r I F nc nw (xs (i + 1)) (xs (i + 2)))] ad' (cX E ad' (bCome_I I F nv nc nw (xs (i + 1)) (xs (i + 2))) (bCome_F I F nv nc nw (xs (i + 1)) (xs (i + 2))) nc (bCome_l I F nv nc nw (xs (i + 1)) (xs (i + 2)))) (k + 1) (n + 12)
  refine r_aload_n h.ok dL_law_370 1 rfl ?_
  refine r_arg h 1 dL_law_371 dL_law_372 dL_law_373 dL_law_374 dL_law_375 (by decide) (by omega) hL ?_
  refine r_arg h 2 dL_law_376 dL_law_377 dL_law_378 dL_law_379 dL_law_380 (by decide) (by omega) hL ?_
  refine r_callV h.ok [.int (xs (i + 1)), .int (xs (i + 2))] [.int (bCome_r I F nc nw (xs (i + 1)) (xs (i + 2)))] dL_law_381 (c_X6_come D E ad' (bCome_I I F nv nc nw (xs (i + 1)) (xs (i + 2))) (bCome_F I F nv nc nw (xs (i + 1)) (xs (i + 2))) nc (bCome_l I F nv nc nw (xs (i + 1)) (xs (i + 2))) (xs (i + 1)) (xs (i + 2)) nc nv nw hr1.2.1 (hr1.few_comeM _)) wml_L_44 wim_X6_come wse_X6_come win_X6 wco_X6_come yok_X6_come (xo_11 _) rfl rfl ⟨by decide, by decide, by show (k + 1) + 0 ≤ 600000; omega, by show (n + 12) + 0 ≤ 7302250; omega⟩ (Nat.le_of_ble_eq_true rfl) (by rw [h11]; rfl) ?_
  obtain ⟨he, nw2, hr2⟩ := st_come hr (bCome_F I F nv nc nw (xs (i + 1)) (xs (i + 2))) (xs (i + 1)) (xs (i + 2))
  show Rn 384 (lvL i (ad 0 0) (ad 11 0) b) [.int (mCome_r (bCome_I I F nv nc nw (xs (i + 1)) (xs (i + 2))) nv nw (xs (i + 1)) (xs (i + 2))), .int (bCome_r I F nc nw (xs (i + 1)) (xs (i + 2)))] ad' (cX E ad' (mCome_I (bCome_I I F nv nc nw (xs (i + 1)) (xs (i + 2))) (bCome_F I F nv nc nw (xs (i + 1)) (xs (i + 2))) nv nw (xs (i + 1)) (xs (i + 2))) (bCome_F I F nv nc nw (xs (i + 1)) (xs (i + 2))) nc (bCome_l I F nv nc nw (xs (i + 1)) (xs (i + 2)))) (k + 1) (n + 12)
  refine r_icmp_eq h.ok 724 dL_law_384 (by decide) (fun _ => ?_) (fun z => absurd he z)
  exact r_widen h.ok (by omega) (by omega) (kk ad' _ _ _ _ nw2 h00 h11 (Rel_le hr2 (by omega)))
theorem lw_box (h : gOkL l nm D A E b L xs Rn) (hL : L ≤ 2560) (hi : i + 5 ≤ L) (hr : Rel I I F nc nv nw t) (ht : t + 12 ≤ 100000) (hk : k + 3 ≤ 600000) (hn : n + 23 ≤ 7302250) (kk : ∀ (ad' : gAd) (I' : gI) (F' : gF) (nc' nv' nw' : Nat), ad' 0 0 = ad 0 0 → ad' 11 0 = ad 11 0 → Rel I' I' F' nc' nv' nw' (t + 12) → Rn 724 (lvL i (ad 0 0) (ad 11 0) b) [] ad' (cX E ad' I' F' nc' nv') (k + 3) (n + 23)) : Rn 428 (lvL i (ad 0 0) (ad 11 0) b) [] ad (cX E ad I F nc nv) k n := by
  refine r_aload_n h.ok dL_law_428 2 rfl ?_
  refine r_callV h.ok [] [] dL_law_429 (c_X5_box D E ad I F nc nv nc nv nw hr.1 ) wml_L_50 wim_X5_box wse_X5_box win_X5 wco_X5_box yok_X5_box (xo_0 _) rfl rfl ⟨by decide, by decide, by show k + 0 ≤ 600000; omega, by show n + 0 ≤ 7302250; omega⟩ (Nat.le_of_ble_eq_true rfl) (rfl) ?_
  show Rn 432 (lvL i (ad 0 0) (ad 11 0) b) [.int (bBox_r I F)] ad (cX E ad I F nc nv) k n
  refine r_aload_n h.ok dL_law_432 1 rfl ?_
  refine r_callV h.ok [] [.int (bBox_r I F)] dL_law_433 (c_X6_box D E ad I F nc nv hr.ht hr.hb) wml_L_54 wim_X6_box wse_X6_box win_X6 wco_X6_box yok_X6_box (xo_11 _) rfl rfl ⟨by decide, by decide, by show k + 0 ≤ 600000; omega, by show n + 0 ≤ 7302250; omega⟩ (Nat.le_of_ble_eq_true rfl) (rfl) ?_
  refine r_icmp_eq h.ok 724 dL_law_436 (by decide) (fun _ => ?_) (fun z => absurd (sim_box hr ) z)
  exact r_widen h.ok (k' := k + 3) (n' := n + 23) (by omega) (by omega) (kk ad _ _ _ _ nw rfl rfl (Rel_le hr (by omega)))
theorem lw_queue (h : gOkL l nm D A E b L xs Rn) (hL : L ≤ 2560) (hi : i + 5 ≤ L) (hr : Rel I I F nc nv nw t) (ht : t + 12 ≤ 100000) (hk : k + 3 ≤ 600000) (hn : n + 23 ≤ 7302250) (kk : ∀ (ad' : gAd) (I' : gI) (F' : gF) (nc' nv' nw' : Nat), ad' 0 0 = ad 0 0 → ad' 11 0 = ad 11 0 → Rel I' I' F' nc' nv' nw' (t + 12) → Rn 724 (lvL i (ad 0 0) (ad 11 0) b) [] ad' (cX E ad' I' F' nc' nv') (k + 3) (n + 23)) : Rn 441 (lvL i (ad 0 0) (ad 11 0) b) [] ad (cX E ad I F nc nv) k n := by
  refine r_aload_n h.ok dL_law_441 2 rfl ?_
  refine r_arg h 1 dL_law_442 dL_law_443 dL_law_444 dL_law_445 dL_law_446 (by decide) (by omega) hL ?_
  refine r_callV h.ok [.int (xs (i + 1))] [] dL_law_447 (c_X5_queue D E ad I F nc nv nc nv nw hr.1 (xs (i + 1))) wml_L_55 wim_X5_queue wse_X5_queue win_X5 wco_X5_queue yok_X5_queue (xo_0 _) rfl rfl ⟨by decide, by decide, by show k + 0 ≤ 600000; omega, by show n + 0 ≤ 7302250; omega⟩ (Nat.le_of_ble_eq_true rfl) (rfl) ?_
  show Rn 450 (lvL i (ad 0 0) (ad 11 0) b) [.int (bQueue_r I F nw (xs (i + 1)))] ad (cX E ad I F nc nv) k n
  refine r_aload_n h.ok dL_law_450 1 rfl ?_
  refine r_arg h 1 dL_law_451 dL_law_452 dL_law_453 dL_law_454 dL_law_455 (by decide) (by omega) hL ?_
  refine r_callV h.ok [.int (xs (i + 1))] [.int (bQueue_r I F nw (xs (i + 1)))] dL_law_456 (c_X6_queue D E ad I F nc nv (xs (i + 1)) hr.ht nv nw hr.hw hr.w12 hr.v500 hr.hq) wml_L_58 wim_X6_queue wse_X6_queue win_X6 wco_X6_queue yok_X6_queue (xo_11 _) rfl rfl ⟨by decide, by decide, by show k + 0 ≤ 600000; omega, by show n + 0 ≤ 7302250; omega⟩ (Nat.le_of_ble_eq_true rfl) (rfl) ?_
  refine r_icmp_eq h.ok 724 dL_law_459 (by decide) (fun _ => ?_) (fun z => absurd (sim_queue hr (xs (i + 1))) z)
  exact r_widen h.ok (k' := k + 3) (n' := n + 23) (by omega) (by omega) (kk ad _ _ _ _ nw rfl rfl (Rel_le hr (by omega)))
theorem lw_ends (h : gOkL l nm D A E b L xs Rn) (hL : L ≤ 2560) (hi : i + 5 ≤ L) (hr : Rel I I F nc nv nw t) (ht : t + 12 ≤ 100000) (hk : k + 3 ≤ 600000) (hn : n + 23 ≤ 7302250) (kk : ∀ (ad' : gAd) (I' : gI) (F' : gF) (nc' nv' nw' : Nat), ad' 0 0 = ad 0 0 → ad' 11 0 = ad 11 0 → Rel I' I' F' nc' nv' nw' (t + 12) → Rn 724 (lvL i (ad 0 0) (ad 11 0) b) [] ad' (cX E ad' I' F' nc' nv') (k + 3) (n + 23)) : Rn 464 (lvL i (ad 0 0) (ad 11 0) b) [] ad (cX E ad I F nc nv) k n := by
  refine r_aload_n h.ok dL_law_464 2 rfl ?_
  refine r_callV h.ok [] [] dL_law_465 (c_X5_ends D E ad I F nc nv nc nv nw hr.1 ) wml_L_59 wim_X5_ends wse_X5_ends win_X5 wco_X5_ends yok_X5_ends (xo_0 _) rfl rfl ⟨by decide, by decide, by show k + 0 ≤ 600000; omega, by show n + 0 ≤ 7302250; omega⟩ (Nat.le_of_ble_eq_true rfl) (rfl) ?_
  show Rn 468 (lvL i (ad 0 0) (ad 11 0) b) [.int (bEnds_r I F)] ad (cX E ad I F nc nv) k n
  refine r_aload_n h.ok dL_law_468 1 rfl ?_
  refine r_callV h.ok [] [.int (bEnds_r I F)] dL_law_469 (c_X6_ends D E ad I F nc nv hr.ht) wml_L_62 wim_X6_ends wse_X6_ends win_X6 wco_X6_ends yok_X6_ends (xo_11 _) rfl rfl ⟨by decide, by decide, by show k + 0 ≤ 600000; omega, by show n + 0 ≤ 7302250; omega⟩ (Nat.le_of_ble_eq_true rfl) (rfl) ?_
  refine r_icmp_eq h.ok 724 dL_law_472 (by decide) (fun _ => ?_) (fun z => absurd (sim_ends hr ) z)
  exact r_widen h.ok (k' := k + 3) (n' := n + 23) (by omega) (by omega) (kk ad _ _ _ _ nw rfl rfl (Rel_le hr (by omega)))
theorem lw_room (h : gOkL l nm D A E b L xs Rn) (hL : L ≤ 2560) (hi : i + 5 ≤ L) (hr : Rel I I F nc nv nw t) (ht : t + 12 ≤ 100000) (hk : k + 3 ≤ 600000) (hn : n + 23 ≤ 7302250) (kk : ∀ (ad' : gAd) (I' : gI) (F' : gF) (nc' nv' nw' : Nat), ad' 0 0 = ad 0 0 → ad' 11 0 = ad 11 0 → Rel I' I' F' nc' nv' nw' (t + 12) → Rn 724 (lvL i (ad 0 0) (ad 11 0) b) [] ad' (cX E ad' I' F' nc' nv') (k + 3) (n + 23)) : Rn 477 (lvL i (ad 0 0) (ad 11 0) b) [] ad (cX E ad I F nc nv) k n := by
  refine r_aload_n h.ok dL_law_477 2 rfl ?_
  refine r_arg h 1 dL_law_478 dL_law_479 dL_law_480 dL_law_481 dL_law_482 (by decide) (by omega) hL ?_
  have hr1 : Rel I (bRoom_I I F (xs (i + 1))) F nc nv nw t := Rel_one hr hi_room
  refine r_callV h.ok [.int (xs (i + 1))] [] dL_law_483 (c_X5_room D E ad I F nc nv (xs (i + 1))) wml_L_63 wim_X5_room wse_X5_room win_X5 wco_X5_room yok_X5_room (xo_0 _) rfl rfl ⟨by decide, by decide, by show k + 0 ≤ 600000; omega, by show n + 0 ≤ 7302250; omega⟩ (Nat.le_of_ble_eq_true rfl) (rfl) ?_
  show Rn 486 (lvL i (ad 0 0) (ad 11 0) b) [.int (bRoom_r I F (xs (i + 1)))] ad (cX E ad (bRoom_I I F (xs (i + 1))) F nc nv) k n
  refine r_aload_n h.ok dL_law_486 1 rfl ?_
  refine r_arg h 1 dL_law_487 dL_law_488 dL_law_489 dL_law_490 dL_law_491 (by decide) (by omega) hL ?_
  refine r_callV h.ok [.int (xs (i + 1))] [.int (bRoom_r I F (xs (i + 1)))] dL_law_492 (c_X6_room D E ad (bRoom_I I F (xs (i + 1))) F nc nv (xs (i + 1)) hr1.ht) wml_L_66 wim_X6_room wse_X6_room win_X6 wco_X6_room yok_X6_room (xo_11 _) rfl rfl ⟨by decide, by decide, by show k + 0 ≤ 600000; omega, by show n + 0 ≤ 7302250; omega⟩ (Nat.le_of_ble_eq_true rfl) (rfl) ?_
  obtain ⟨he, hr2⟩ := st_room hr (xs (i + 1))
  refine r_icmp_eq h.ok 724 dL_law_495 (by decide) (fun _ => ?_) (fun z => absurd he z)
  exact r_widen h.ok (k' := k + 3) (n' := n + 23) (by omega) (by omega) (kk ad _ _ _ _ nw rfl rfl (Rel_le hr2 (by omega)))
theorem lw_pick (h : gOkL l nm D A E b L xs Rn) (hL : L ≤ 2560) (hi : i + 5 ≤ L) (hr : Rel I I F nc nv nw t) (ht : t + 12 ≤ 100000) (hk : k + 3 ≤ 600000) (hn : n + 23 ≤ 7302250) (kk : ∀ (ad' : gAd) (I' : gI) (F' : gF) (nc' nv' nw' : Nat), ad' 0 0 = ad 0 0 → ad' 11 0 = ad 11 0 → Rel I' I' F' nc' nv' nw' (t + 12) → Rn 724 (lvL i (ad 0 0) (ad 11 0) b) [] ad' (cX E ad' I' F' nc' nv') (k + 3) (n + 23)) : Rn 500 (lvL i (ad 0 0) (ad 11 0) b) [] ad (cX E ad I F nc nv) k n := by
  refine r_aload_n h.ok dL_law_500 2 rfl ?_
  refine r_arg h 1 dL_law_501 dL_law_502 dL_law_503 dL_law_504 dL_law_505 (by decide) (by omega) hL ?_
  have hr1 : Rel I (bPick_I I F (xs (i + 1))) F nc nv nw t := Rel_one hr hi_pick
  refine r_callV h.ok [.int (xs (i + 1))] [] dL_law_506 (c_X5_pick D E ad I F nc nv (xs (i + 1))) wml_L_67 wim_X5_pick wse_X5_pick win_X5 wco_X5_pick yok_X5_pick (xo_0 _) rfl rfl ⟨by decide, by decide, by show k + 0 ≤ 600000; omega, by show n + 0 ≤ 7302250; omega⟩ (Nat.le_of_ble_eq_true rfl) (rfl) ?_
  show Rn 509 (lvL i (ad 0 0) (ad 11 0) b) [.int (bPick_r I F (xs (i + 1)))] ad (cX E ad (bPick_I I F (xs (i + 1))) F nc nv) k n
  refine r_aload_n h.ok dL_law_509 1 rfl ?_
  refine r_arg h 1 dL_law_510 dL_law_511 dL_law_512 dL_law_513 dL_law_514 (by decide) (by omega) hL ?_
  refine r_callV h.ok [.int (xs (i + 1))] [.int (bPick_r I F (xs (i + 1)))] dL_law_515 (c_X6_pick D E ad (bPick_I I F (xs (i + 1))) F nc nv (xs (i + 1)) hr1.ht) wml_L_70 wim_X6_pick wse_X6_pick win_X6 wco_X6_pick yok_X6_pick (xo_11 _) rfl rfl ⟨by decide, by decide, by show k + 0 ≤ 600000; omega, by show n + 0 ≤ 7302250; omega⟩ (Nat.le_of_ble_eq_true rfl) (rfl) ?_
  obtain ⟨he, hr2⟩ := st_pick hr (xs (i + 1))
  refine r_icmp_eq h.ok 724 dL_law_518 (by decide) (fun _ => ?_) (fun z => absurd he z)
  exact r_widen h.ok (k' := k + 3) (n' := n + 23) (by omega) (by omega) (kk ad _ _ _ _ nw rfl rfl (Rel_le hr2 (by omega)))
theorem lw_total (h : gOkL l nm D A E b L xs Rn) (hL : L ≤ 2560) (hi : i + 5 ≤ L) (hr : Rel I I F nc nv nw t) (ht : t + 12 ≤ 100000) (hk : k + 3 ≤ 600000) (hn : n + 23 ≤ 7302250) (kk : ∀ (ad' : gAd) (I' : gI) (F' : gF) (nc' nv' nw' : Nat), ad' 0 0 = ad 0 0 → ad' 11 0 = ad 11 0 → Rel I' I' F' nc' nv' nw' (t + 12) → Rn 724 (lvL i (ad 0 0) (ad 11 0) b) [] ad' (cX E ad' I' F' nc' nv') (k + 3) (n + 23)) : Rn 523 (lvL i (ad 0 0) (ad 11 0) b) [] ad (cX E ad I F nc nv) k n := by
  refine r_aload_n h.ok dL_law_523 2 rfl ?_
  refine r_arg h 1 dL_law_524 dL_law_525 dL_law_526 dL_law_527 dL_law_528 (by decide) (by omega) hL ?_
  refine r_callV h.ok [.int (xs (i + 1))] [] dL_law_529 (c_X5_total D E ad I F nc nv (xs (i + 1))) wml_L_71 wim_X5_total wse_X5_total win_X5 wco_X5_total yok_X5_total (xo_0 _) rfl rfl ⟨by decide, by decide, by show k + 0 ≤ 600000; omega, by show n + 0 ≤ 7302250; omega⟩ (Nat.le_of_ble_eq_true rfl) (rfl) ?_
  show Rn 532 (lvL i (ad 0 0) (ad 11 0) b) [.int (bTotal_r I F (xs (i + 1)))] ad (cX E ad I F nc nv) k n
  refine r_aload_n h.ok dL_law_532 1 rfl ?_
  refine r_arg h 1 dL_law_533 dL_law_534 dL_law_535 dL_law_536 dL_law_537 (by decide) (by omega) hL ?_
  refine r_callV h.ok [.int (xs (i + 1))] [.int (bTotal_r I F (xs (i + 1)))] dL_law_538 (c_X6_total D E ad I F nc nv (xs (i + 1)) hr.ht nv hr.hv hr.v500) wml_L_74 wim_X6_total wse_X6_total win_X6 wco_X6_total yok_X6_total (xo_11 _) rfl rfl ⟨by decide, by decide, by show k + 0 ≤ 600000; omega, by show n + 0 ≤ 7302250; omega⟩ (Nat.le_of_ble_eq_true rfl) (rfl) ?_
  refine r_icmp_eq h.ok 724 dL_law_541 (by decide) (fun _ => ?_) (fun z => absurd (sim_total hr (xs (i + 1))) z)
  exact r_widen h.ok (k' := k + 3) (n' := n + 23) (by omega) (by omega) (kk ad _ _ _ _ nw rfl rfl (Rel_le hr (by omega)))
theorem lw_visit (h : gOkL l nm D A E b L xs Rn) (hL : L ≤ 2560) (hi : i + 5 ≤ L) (hr : Rel I I F nc nv nw t) (ht : t + 12 ≤ 100000) (hk : k + 3 ≤ 600000) (hn : n + 23 ≤ 7302250) (kk : ∀ (ad' : gAd) (I' : gI) (F' : gF) (nc' nv' nw' : Nat), ad' 0 0 = ad 0 0 → ad' 11 0 = ad 11 0 → Rel I' I' F' nc' nv' nw' (t + 12) → Rn 724 (lvL i (ad 0 0) (ad 11 0) b) [] ad' (cX E ad' I' F' nc' nv') (k + 3) (n + 23)) : Rn 546 (lvL i (ad 0 0) (ad 11 0) b) [] ad (cX E ad I F nc nv) k n := by
  refine r_aload_n h.ok dL_law_546 2 rfl ?_
  refine r_arg h 1 dL_law_547 dL_law_548 dL_law_549 dL_law_550 dL_law_551 (by decide) (by omega) hL ?_
  refine r_arg h 2 dL_law_552 dL_law_553 dL_law_554 dL_law_555 dL_law_556 (by decide) (by omega) hL ?_
  refine r_arg h 3 dL_law_557 dL_law_558 dL_law_559 dL_law_560 dL_law_561 (by decide) (by omega) hL ?_
  refine r_callV h.ok [.int (xs (i + 1)), .int (xs (i + 2)), .int (xs (i + 3))] [] dL_law_562 (c_X5_visit D E ad I F nc nv nc nv nw hr.1 (xs (i + 1)) (xs (i + 2)) (xs (i + 3))) wml_L_75 wim_X5_visit wse_X5_visit win_X5 wco_X5_visit yok_X5_visit (xo_0 _) rfl rfl ⟨by decide, by decide, by show k + 0 ≤ 600000; omega, by show n + 0 ≤ 7302250; omega⟩ (Nat.le_of_ble_eq_true rfl) (rfl) ?_
  show Rn 565 (lvL i (ad 0 0) (ad 11 0) b) [.int (bVisit_r I F nv (xs (i + 1)) (xs (i + 2)) (xs (i + 3)))] ad (cX E ad I F nc nv) k n
  refine r_aload_n h.ok dL_law_565 1 rfl ?_
  refine r_arg h 1 dL_law_566 dL_law_567 dL_law_568 dL_law_569 dL_law_570 (by decide) (by omega) hL ?_
  refine r_arg h 2 dL_law_571 dL_law_572 dL_law_573 dL_law_574 dL_law_575 (by decide) (by omega) hL ?_
  refine r_arg h 3 dL_law_576 dL_law_577 dL_law_578 dL_law_579 dL_law_580 (by decide) (by omega) hL ?_
  refine r_callV h.ok [.int (xs (i + 1)), .int (xs (i + 2)), .int (xs (i + 3))] [.int (bVisit_r I F nv (xs (i + 1)) (xs (i + 2)) (xs (i + 3)))] dL_law_581 (c_X6_visit D E ad I F nc nv (xs (i + 1)) (xs (i + 2)) (xs (i + 3)) hr.ht nv hr.hv hr.v500) wml_L_78 wim_X6_visit wse_X6_visit win_X6 wco_X6_visit yok_X6_visit (xo_11 _) rfl rfl ⟨by decide, by decide, by show k + 0 ≤ 600000; omega, by show n + 0 ≤ 7302250; omega⟩ (Nat.le_of_ble_eq_true rfl) (rfl) ?_
  refine r_icmp_eq h.ok 724 dL_law_584 (by decide) (fun _ => ?_) (fun z => absurd (sim_visit hr (xs (i + 1)) (xs (i + 2)) (xs (i + 3))) z)
  exact r_widen h.ok (k' := k + 3) (n' := n + 23) (by omega) (by omega) (kk ad _ _ _ _ nw rfl rfl (Rel_le hr (by omega)))
theorem lw_visitOf (h : gOkL l nm D A E b L xs Rn) (hL : L ≤ 2560) (hi : i + 5 ≤ L) (hr : Rel I I F nc nv nw t) (ht : t + 12 ≤ 100000) (hk : k + 3 ≤ 600000) (hn : n + 23 ≤ 7302250) (kk : ∀ (ad' : gAd) (I' : gI) (F' : gF) (nc' nv' nw' : Nat), ad' 0 0 = ad 0 0 → ad' 11 0 = ad 11 0 → Rel I' I' F' nc' nv' nw' (t + 12) → Rn 724 (lvL i (ad 0 0) (ad 11 0) b) [] ad' (cX E ad' I' F' nc' nv') (k + 3) (n + 23)) : Rn 589 (lvL i (ad 0 0) (ad 11 0) b) [] ad (cX E ad I F nc nv) k n := by
  refine r_aload_n h.ok dL_law_589 2 rfl ?_
  refine r_arg h 1 dL_law_590 dL_law_591 dL_law_592 dL_law_593 dL_law_594 (by decide) (by omega) hL ?_
  refine r_arg h 2 dL_law_595 dL_law_596 dL_law_597 dL_law_598 dL_law_599 (by decide) (by omega) hL ?_
  refine r_callV h.ok [.int (xs (i + 1)), .int (xs (i + 2))] [] dL_law_600 (c_X5_visitOf D E ad I F nc nv nc nv nw hr.1 (xs (i + 1)) (xs (i + 2))) wml_L_79 wim_X5_visitOf wse_X5_visitOf win_X5 wco_X5_visitOf yok_X5_visitOf (xo_0 _) rfl rfl ⟨by decide, by decide, by show k + 0 ≤ 600000; omega, by show n + 0 ≤ 7302250; omega⟩ (Nat.le_of_ble_eq_true rfl) (rfl) ?_
  show Rn 603 (lvL i (ad 0 0) (ad 11 0) b) [.int (bVisitOf I nc nv (xs (i + 1)) (xs (i + 2)))] ad (cX E ad I F nc nv) k n
  refine r_aload_n h.ok dL_law_603 1 rfl ?_
  refine r_arg h 1 dL_law_604 dL_law_605 dL_law_606 dL_law_607 dL_law_608 (by decide) (by omega) hL ?_
  refine r_arg h 2 dL_law_609 dL_law_610 dL_law_611 dL_law_612 dL_law_613 (by decide) (by omega) hL ?_
  refine r_callV h.ok [.int (xs (i + 1)), .int (xs (i + 2))] [.int (bVisitOf I nc nv (xs (i + 1)) (xs (i + 2)))] dL_law_614 (c_X6_visitOf D E ad I F nc nv (xs (i + 1)) (xs (i + 2)) hr.ht nc hr.hn hr.h12 nv hr.hv hr.v500) wml_L_82 wim_X6_visitOf wse_X6_visitOf win_X6 wco_X6_visitOf yok_X6_visitOf (xo_11 _) rfl rfl ⟨by decide, by decide, by show k + 0 ≤ 600000; omega, by show n + 0 ≤ 7302250; omega⟩ (Nat.le_of_ble_eq_true rfl) (rfl) ?_
  refine r_icmp_eq h.ok 724 dL_law_617 (by decide) (fun _ => ?_) (fun z => absurd (sim_visitOf hr (xs (i + 1)) (xs (i + 2))) z)
  exact r_widen h.ok (k' := k + 3) (n' := n + 23) (by omega) (by omega) (kk ad _ _ _ _ nw rfl rfl (Rel_le hr (by omega)))
theorem lw_gave (h : gOkL l nm D A E b L xs Rn) (hL : L ≤ 2560) (hi : i + 5 ≤ L) (hr : Rel I I F nc nv nw t) (ht : t + 12 ≤ 100000) (hk : k + 3 ≤ 600000) (hn : n + 23 ≤ 7302250) (kk : ∀ (ad' : gAd) (I' : gI) (F' : gF) (nc' nv' nw' : Nat), ad' 0 0 = ad 0 0 → ad' 11 0 = ad 11 0 → Rel I' I' F' nc' nv' nw' (t + 12) → Rn 724 (lvL i (ad 0 0) (ad 11 0) b) [] ad' (cX E ad' I' F' nc' nv') (k + 3) (n + 23)) : Rn 622 (lvL i (ad 0 0) (ad 11 0) b) [] ad (cX E ad I F nc nv) k n := by
  refine r_aload_n h.ok dL_law_622 2 rfl ?_
  refine r_arg h 1 dL_law_623 dL_law_624 dL_law_625 dL_law_626 dL_law_627 (by decide) (by omega) hL ?_
  refine r_arg h 2 dL_law_628 dL_law_629 dL_law_630 dL_law_631 dL_law_632 (by decide) (by omega) hL ?_
  refine r_callV h.ok [.int (xs (i + 1)), .int (xs (i + 2))] [] dL_law_633 (c_X5_gave D E ad I F nc nv nc nv nw hr.1 (xs (i + 1)) (xs (i + 2))) wml_L_83 wim_X5_gave wse_X5_gave win_X5 wco_X5_gave yok_X5_gave (xo_0 _) rfl rfl ⟨by decide, by decide, by show k + 0 ≤ 600000; omega, by show n + 0 ≤ 7302250; omega⟩ (Nat.le_of_ble_eq_true rfl) (rfl) ?_
  show Rn 636 (lvL i (ad 0 0) (ad 11 0) b) [.int (bGave I F nc nv (xs (i + 1)) (xs (i + 2)))] ad (cX E ad I F nc nv) k n
  refine r_aload_n h.ok dL_law_636 1 rfl ?_
  refine r_arg h 1 dL_law_637 dL_law_638 dL_law_639 dL_law_640 dL_law_641 (by decide) (by omega) hL ?_
  refine r_arg h 2 dL_law_642 dL_law_643 dL_law_644 dL_law_645 dL_law_646 (by decide) (by omega) hL ?_
  refine r_callV h.ok [.int (xs (i + 1)), .int (xs (i + 2))] [.int (bGave I F nc nv (xs (i + 1)) (xs (i + 2)))] dL_law_647 (c_X6_gave D E ad I F nc nv (xs (i + 1)) (xs (i + 2)) hr.ht nc hr.hn hr.h12 nv hr.hv hr.v500) wml_L_86 wim_X6_gave wse_X6_gave win_X6 wco_X6_gave yok_X6_gave (xo_11 _) rfl rfl ⟨by decide, by decide, by show k + 0 ≤ 600000; omega, by show n + 0 ≤ 7302250; omega⟩ (Nat.le_of_ble_eq_true rfl) (rfl) ?_
  refine r_icmp_eq h.ok 724 dL_law_650 (by decide) (fun _ => ?_) (fun z => absurd (sim_gave hr (xs (i + 1)) (xs (i + 2))) z)
  exact r_widen h.ok (k' := k + 3) (n' := n + 23) (by omega) (by omega) (kk ad _ _ _ _ nw rfl rfl (Rel_le hr (by omega)))
theorem lw_longest (h : gOkL l nm D A E b L xs Rn) (hL : L ≤ 2560) (hi : i + 5 ≤ L) (hr : Rel I I F nc nv nw t) (ht : t + 12 ≤ 100000) (hk : k + 3 ≤ 600000) (hn : n + 23 ≤ 7302250) (kk : ∀ (ad' : gAd) (I' : gI) (F' : gF) (nc' nv' nw' : Nat), ad' 0 0 = ad 0 0 → ad' 11 0 = ad 11 0 → Rel I' I' F' nc' nv' nw' (t + 12) → Rn 724 (lvL i (ad 0 0) (ad 11 0) b) [] ad' (cX E ad' I' F' nc' nv') (k + 3) (n + 23)) : Rn 655 (lvL i (ad 0 0) (ad 11 0) b) [] ad (cX E ad I F nc nv) k n := by
  refine r_aload_n h.ok dL_law_655 2 rfl ?_
  refine r_callV h.ok [] [] dL_law_656 (c_X5_longest D E ad I F nc nv ) wml_L_87 wim_X5_longest wse_X5_longest win_X5 wco_X5_longest yok_X5_longest (xo_0 _) rfl rfl ⟨by decide, by decide, by show k + 0 ≤ 600000; omega, by show n + 0 ≤ 7302250; omega⟩ (Nat.le_of_ble_eq_true rfl) (rfl) ?_
  show Rn 659 (lvL i (ad 0 0) (ad 11 0) b) [.int (I 0 0 13)] ad (cX E ad I F nc nv) k n
  refine r_aload_n h.ok dL_law_659 1 rfl ?_
  refine r_callV h.ok [] [.int (I 0 0 13)] dL_law_660 (c_X6_longest D E ad I F nc nv hr.ht nv hr.hv hr.v500) wml_L_90 wim_X6_longest wse_X6_longest win_X6 wco_X6_longest yok_X6_longest (xo_11 _) rfl rfl ⟨by decide, by decide, by show k + 0 ≤ 600000; omega, by show n + 0 ≤ 7302250; omega⟩ (Nat.le_of_ble_eq_true rfl) (rfl) ?_
  refine r_icmp_eq h.ok 724 dL_law_663 (by decide) (fun _ => ?_) (fun z => absurd (sim_longest hr ) z)
  exact r_widen h.ok (k' := k + 3) (n' := n + 23) (by omega) (by omega) (kk ad _ _ _ _ nw rfl rfl (Rel_le hr (by omega)))
theorem lw_rank (h : gOkL l nm D A E b L xs Rn) (hL : L ≤ 2560) (hi : i + 5 ≤ L) (hr : Rel I I F nc nv nw t) (ht : t + 12 ≤ 100000) (hk : k + 3 ≤ 600000) (hn : n + 23 ≤ 7302250) (kk : ∀ (ad' : gAd) (I' : gI) (F' : gF) (nc' nv' nw' : Nat), ad' 0 0 = ad 0 0 → ad' 11 0 = ad 11 0 → Rel I' I' F' nc' nv' nw' (t + 12) → Rn 724 (lvL i (ad 0 0) (ad 11 0) b) [] ad' (cX E ad' I' F' nc' nv') (k + 3) (n + 23)) : Rn 668 (lvL i (ad 0 0) (ad 11 0) b) [] ad (cX E ad I F nc nv) k n := by
  refine r_aload_n h.ok dL_law_668 2 rfl ?_
  refine r_arg h 1 dL_law_669 dL_law_670 dL_law_671 dL_law_672 dL_law_673 (by decide) (by omega) hL ?_
  refine r_callV h.ok [.int (xs (i + 1))] [] dL_law_674 (c_X5_rank D E ad I F nc nv nc nv nw hr.1 (xs (i + 1))) wml_L_91 wim_X5_rank wse_X5_rank win_X5 wco_X5_rank yok_X5_rank (xo_0 _) rfl rfl ⟨by decide, by decide, by show k + 0 ≤ 600000; omega, by show n + 0 ≤ 7302250; omega⟩ (Nat.le_of_ble_eq_true rfl) (rfl) ?_
  show Rn 677 (lvL i (ad 0 0) (ad 11 0) b) [.int (bRank I nc (xs (i + 1)))] ad (cX E ad I F nc nv) k n
  refine r_aload_n h.ok dL_law_677 1 rfl ?_
  refine r_arg h 1 dL_law_678 dL_law_679 dL_law_680 dL_law_681 dL_law_682 (by decide) (by omega) hL ?_
  refine r_callV h.ok [.int (xs (i + 1))] [.int (bRank I nc (xs (i + 1)))] dL_law_683 (c_X6_rank D E ad I F nc nv (xs (i + 1)) hr.ht nc hr.hn hr.h12) wml_L_94 wim_X6_rank wse_X6_rank win_X6 wco_X6_rank yok_X6_rank (xo_11 _) rfl rfl ⟨by decide, by decide, by show k + 0 ≤ 600000; omega, by show n + 0 ≤ 7302250; omega⟩ (Nat.le_of_ble_eq_true rfl) (rfl) ?_
  refine r_icmp_eq h.ok 724 dL_law_686 (by decide) (fun _ => ?_) (fun z => absurd (sim_rank hr (by omega) (xs (i + 1))) z)
  exact r_widen h.ok (k' := k + 3) (n' := n + 23) (by omega) (by omega) (kk ad _ _ _ _ nw rfl rfl (Rel_le hr (by omega)))
theorem lw_until (h : gOkL l nm D A E b L xs Rn) (hL : L ≤ 2560) (hi : i + 5 ≤ L) (hr : Rel I I F nc nv nw t) (ht : t + 12 ≤ 100000) (hk : k + 3 ≤ 600000) (hn : n + 23 ≤ 7302250) (kk : ∀ (ad' : gAd) (I' : gI) (F' : gF) (nc' nv' nw' : Nat), ad' 0 0 = ad 0 0 → ad' 11 0 = ad 11 0 → Rel I' I' F' nc' nv' nw' (t + 12) → Rn 724 (lvL i (ad 0 0) (ad 11 0) b) [] ad' (cX E ad' I' F' nc' nv') (k + 3) (n + 23)) : Rn 691 (lvL i (ad 0 0) (ad 11 0) b) [] ad (cX E ad I F nc nv) k n := by
  refine r_aload_n h.ok dL_law_691 2 rfl ?_
  refine r_arg h 1 dL_law_692 dL_law_693 dL_law_694 dL_law_695 dL_law_696 (by decide) (by omega) hL ?_
  refine r_arg h 2 dL_law_697 dL_law_698 dL_law_699 dL_law_700 dL_law_701 (by decide) (by omega) hL ?_
  refine r_callV h.ok [.int (xs (i + 1)), .int (xs (i + 2))] [] dL_law_702 (c_X5_until D E ad I F nc nv nc nv nw hr.1 (xs (i + 1)) (xs (i + 2))) wml_L_95 wim_X5_until wse_X5_until win_X5 wco_X5_until yok_X5_until (xo_0 _) rfl rfl ⟨by decide, by decide, by show k + 0 ≤ 600000; omega, by show n + 0 ≤ 7302250; omega⟩ (Nat.le_of_ble_eq_true rfl) (rfl) ?_
  show Rn 705 (lvL i (ad 0 0) (ad 11 0) b) [.int (bUntil_r I F nc (xs (i + 1)) (xs (i + 2)))] ad (cX E ad I F nc nv) k n
  refine r_aload_n h.ok dL_law_705 1 rfl ?_
  refine r_arg h 1 dL_law_706 dL_law_707 dL_law_708 dL_law_709 dL_law_710 (by decide) (by omega) hL ?_
  refine r_arg h 2 dL_law_711 dL_law_712 dL_law_713 dL_law_714 dL_law_715 (by decide) (by omega) hL ?_
  refine r_callV h.ok [.int (xs (i + 1)), .int (xs (i + 2))] [.int (bUntil_r I F nc (xs (i + 1)) (xs (i + 2)))] dL_law_716 (c_X6_until D E ad I F nc nv (xs (i + 1)) (xs (i + 2)) hr.ht nc hr.hn hr.h12 hr.hb hr.hr) wml_L_98 wim_X6_until wse_X6_until win_X6 wco_X6_until yok_X6_until (xo_11 _) rfl rfl ⟨by decide, by decide, by show k + 0 ≤ 600000; omega, by show n + 0 ≤ 7302250; omega⟩ (Nat.le_of_ble_eq_true rfl) (rfl) ?_
  refine r_icmp_eq h.ok 724 dL_law_719 (by decide) (fun _ => ?_) (fun z => absurd (sim_until hr (xs (i + 1)) (xs (i + 2))) z)
  exact r_widen h.ok (k' := k + 3) (n' := n + 23) (by omega) (by omega) (kk ad _ _ _ _ nw rfl rfl (Rel_le hr (by omega)))
theorem lw_power2 {bb : Int32} (hbb : (xs (i + 1) = 0 ∧ bb = 0) ∨ (¬ xs (i + 1) = 0 ∧ bb = 1)) (h : gOkL l nm D A E b L xs Rn) (hL : L ≤ 2560) (hi : i + 5 ≤ L) (hr : Rel I I F nc nv nw t) (ht : t + 12 ≤ 100000) (hk : k + 3 ≤ 600000) (hn : n + 23 ≤ 7302250) (kk : ∀ (ad' : gAd) (I' : gI) (F' : gF) (nc' nv' nw' : Nat), ad' 0 0 = ad 0 0 → ad' 11 0 = ad 11 0 → Rel I' I' F' nc' nv' nw' (t + 12) → Rn 724 (lvL i (ad 0 0) (ad 11 0) b) [] ad' (cX E ad' I' F' nc' nv') (k + 3) (n + 23)) : Rn 403 (lvL i (ad 0 0) (ad 11 0) b) [.int bb, .ref (ad 0 0)] ad (cX E ad I F nc nv) k n := by
  have b01 : bb = 0 ∨ bb = 1 := hbb.imp And.right And.right
  have hr1 : Rel I (bPower_I I F nw bb) F nc nv nw t := Rel_one hr hi_power
  refine r_callV h.ok [.int bb] [] dL_law_403 (c_X5_power D E ad I F nc nv nc nv nw hr.1 bb b01) wml_L_45 wim_X5_power wse_X5_power win_X5 wco_X5_power yok_X5_power (xo_0 _) rfl rfl ⟨by decide, by decide, by show k + 0 ≤ 600000; omega, by show n + 0 ≤ 7302250; omega⟩ (Nat.le_of_ble_eq_true rfl) rfl ?_
  show Rn 406 (lvL i (ad 0 0) (ad 11 0) b) [.int (bNum_r I F (I 0 0 8))] ad (cX E ad (bPower_I I F nw bb) (bPower_F I F nw bb) nc nv) k n
  refine r_aload_n h.ok dL_law_406 1 rfl ?_
  refine r_arg h 1 dL_law_407 dL_law_408 dL_law_409 dL_law_410 dL_law_411 (by decide) (by omega) hL ?_
  have key : Rn 420 (lvL i (ad 0 0) (ad 11 0) b) [.int bb, .ref (ad 11 0), .int (bNum_r I F (I 0 0 8))] ad (cX E ad (bPower_I I F nw bb) (bPower_F I F nw bb) nc nv) k n := by
    refine r_callV h.ok [.int bb] [.int (bNum_r I F (I 0 0 8))] dL_law_420 (c_X6_power D E ad (bPower_I I F nw bb) (bPower_F I F nw bb) nc nv bb b01 nc nv nw hr1.2.1) wml_L_49 wim_X6_power wse_X6_power win_X6 wco_X6_power yok_X6_power (xo_11 _) rfl rfl ⟨by decide, by decide, by show k + 0 ≤ 600000; omega, by show n + 0 ≤ 7302250; omega⟩ (Nat.le_of_ble_eq_true rfl) rfl ?_
    obtain ⟨he, nw2, hr2⟩ := st_power hr (bPower_F I F nw bb) bb b01 (by omega)
    refine r_icmp_eq h.ok 724 dL_law_423 (by decide) (fun _ => ?_) (fun z => absurd he z)
    exact r_widen h.ok (k' := k + 3) (n' := n + 23) (by omega) (by omega) (kk ad _ _ _ _ nw2 rfl rfl (Rel_le hr2 (by omega)))
  refine r_if_eq h.ok 419 dL_law_412 (by decide) (fun z => ?_) (fun z => ?_)
  · have e : bb = 0 := hbb.elim And.right (fun q => absurd z q.1)
    refine r_iconst (v := 0) h.ok dL_law_419 (by decide) ?_
    rw [e] at key ⊢
    exact key
  · have e : bb = 1 := hbb.elim (fun q => absurd q.1 z) And.right
    refine r_iconst (v := 1) h.ok dL_law_415 (by decide) ?_
    refine r_goto h.ok 420 dL_law_416 (by decide) ?_
    rw [e] at key ⊢
    exact key
theorem lw_power (h : gOkL l nm D A E b L xs Rn) (hL : L ≤ 2560) (hi : i + 5 ≤ L) (hr : Rel I I F nc nv nw t) (ht : t + 12 ≤ 100000) (hk : k + 3 ≤ 600000) (hn : n + 23 ≤ 7302250) (kk : ∀ (ad' : gAd) (I' : gI) (F' : gF) (nc' nv' nw' : Nat), ad' 0 0 = ad 0 0 → ad' 11 0 = ad 11 0 → Rel I' I' F' nc' nv' nw' (t + 12) → Rn 724 (lvL i (ad 0 0) (ad 11 0) b) [] ad' (cX E ad' I' F' nc' nv') (k + 3) (n + 23)) : Rn 389 (lvL i (ad 0 0) (ad 11 0) b) [] ad (cX E ad I F nc nv) k n := by
  refine r_aload_n h.ok dL_law_389 2 rfl ?_
  refine r_arg h 1 dL_law_390 dL_law_391 dL_law_392 dL_law_393 dL_law_394 (by decide) (by omega) hL ?_
  refine r_if_eq h.ok 402 dL_law_395 (by decide) (fun z => ?_) (fun z => ?_)
  · refine r_iconst (v := 0) h.ok dL_law_402 (by decide) ?_
    exact lw_power2 (Or.inl ⟨z, rfl⟩) h hL hi hr ht hk hn kk
  · refine r_iconst (v := 1) h.ok dL_law_398 (by decide) ?_
    refine r_goto h.ok 403 dL_law_399 (by decide) ?_
    exact lw_power2 (Or.inr ⟨z, rfl⟩) h hL hi hr ht hk hn kk
end CASES
