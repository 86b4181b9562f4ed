/-! the law, from its loop's head on -/
def SC (Z : Zt) (X : Xt) (bs Ls : Nat) (xs : Nat → Int32) : Prop := va_X bs Ls xs X.2.2.2.1 X.2.2.2.1.heap ∧ bs < X.2.2.2.1.heap.size ∧ ¬ AA Z bs
section LAWS
variable {Z : Zt} {X : Xt} {cc : ByteArray} {nL d : Nat} {own : String} {b : Mem} {pc : Nat} {L : List (Option Value)} {st : List Value} {bs Ls : Nat} {xs : Nat → Int32}
theorem g_sldS (hX : Ok Z X cc nL own d) (hs : SC Z X bs Ls xs) {x : Int32} (j : Nat) (hx : x = nI j) (hj : j < Ls) (hL : Ls ≤ 2048) (dg : decode cc pc = .ok (.iaload, 1)) (k : G Z X b (pc + 1) L (.int (xs j) :: st)) : G Z X b pc L (.int x :: .ref bs :: st) := by
  subst hx
  intro H locs ls hP hS hl
  refine va_sld hX.1 hX.2.1 hs.1 hs.2.1 hs.2.2 hS (vp_in_nI hj (by omega)) dg ?_
  rw [nI_clamp (by omega)]
  exact k H locs ls hP hS hl
theorem g_slenS (hX : Ok Z X cc nL own d) (hs : SC Z X bs Ls xs) (dg : decode cc pc = .ok (.arraylength, 1)) (k : G Z X b (pc + 1) L (.int (nI Ls) :: st)) : G Z X b pc L (.ref bs :: st) :=
  fun H locs ls hP hS hl => va_slen hX.1 hX.2.1 hs.1 hs.2.1 hs.2.2 hS dg (k H locs ls hP hS hl)
end LAWS
theorem and31 (x : Int32) : ∃ k, k < 32 ∧ x &&& 31 = nI k := by
  refine ⟨(x &&& 31).toBitVec.toNat, ?_, ?_⟩
  · rw [Int32.toBitVec_and, BitVec.toNat_and]
    have : x.toBitVec.toNat &&& (31 : Int32).toBitVec.toNat ≤ (31 : Int32).toBitVec.toNat := Nat.and_le_right
    have e : (31 : Int32).toBitVec.toNat = 31 := by decide
    omega
  · apply Int32.toBitVec_inj.mp
    show (x &&& 31).toBitVec = BitVec.ofNat 32 (x &&& 31).toBitVec.toNat
    simp
theorem lhd_go {i Ls : Nat} (hL : Ls ≤ 2048) (hi : i ≤ 3000) (h : ¬ nI Ls - 4 < nI i) : i + 4 ≤ Ls := by
  rw [Int32.lt_iff_toInt_lt, Int32.toInt_sub, nI_toInt (by omega), nI_toInt (by omega), show (4 : Int32).toInt = 4 by decide] at h
  have e : Int.bmod ((Ls : Int) - 4) (2 ^ 32) = (Ls : Int) - 4 := by
    apply Int.bmod_eq_of_le
    · omega
    · omega
  rw [e] at h
  omega
theorem cmp0 {x y : Int64} (h : x = y) : lg_cmp x y = 0 := by
  subst h
  unfold lg_cmp
  rw [if_neg (by simp), if_pos rfl]
abbrev LL (Z : Zt) (bs i : Nat) : List (Option Value) := [some (.ref bs), some (.ref (zad Z 0)), some (.ref (zad Z 69)), some (.int (nI i))]
set_option maxRecDepth 100000 in
set_option maxHeartbeats 4000000 in
theorem law_line {Z : Zt} {X : Xt} {b : Mem} {bs Ls i : Nat} {xs : Nat → Int32} (hX : Ok Z X cL_law 4 RL 12) (hs : SC Z X bs Ls xs) (hL : Ls ≤ 2048) (hi : i + 4 ≤ Ls) (h : SIM b) (hn : ∀ b2, SIM b2 → G Z X b2 818 (LL Z bs i) []) : G Z X b 156 (LL Z bs i) [] := by
  refine g_aload_1 hX dL_law_156 ?_
  refine g_aload_0 hX dL_law_157 ?_
  refine g_iload_3 hX dL_law_158 ?_
  refine g_iconst hX 1 dL_law_159 (by decide) ?_
  refine g_iadd hX dL_law_160 ?_
  refine g_sldS hX hs (i + 1) (nI_add i 1) (by omega) hL dL_law_161 ?_
  refine g_eV1i hX mkX5_line ml_L_13 (c_X5_line h.1) (ob_0 Z _) dL_law_162 rfl (by decide) (Nat.le_of_ble_eq_true rfl) (fun x1 b1 p1 => ?_)
  refine g_aload_2 hX dL_law_165 ?_
  refine g_aload_0 hX dL_law_166 ?_
  refine g_iload_3 hX dL_law_167 ?_
  refine g_iconst hX 1 dL_law_168 (by decide) ?_
  refine g_iadd hX dL_law_169 ?_
  refine g_sldS hX hs (i + 1) (nI_add i 1) (by omega) hL dL_law_170 ?_
  obtain ⟨⟨hv, h3, h5⟩, e, hS⟩ := pr_line h p1
  refine g_cV1r hX mkX6_line ml_L_17 (c_X6_line hv h3 h5) (ob_69 Z _) dL_law_171 rfl (by decide) (Nat.le_of_ble_eq_true rfl) ?_
  exact g_icmp_eq hX 818 dL_law_174 (by decide) (fun _ => hn _ hS) (fun c => absurd e c)
set_option maxRecDepth 100000 in
set_option maxHeartbeats 4000000 in
theorem law_goes {Z : Zt} {X : Xt} {b : Mem} {bs Ls i : Nat} {xs : Nat → Int32} (hX : Ok Z X cL_law 4 RL 12) (hs : SC Z X bs Ls xs) (hL : Ls ≤ 2048) (hi : i + 4 ≤ Ls) (h : SIM b) (hn : ∀ b2, SIM b2 → G Z X b2 818 (LL Z bs i) []) : G Z X b 179 (LL Z bs i) [] := by
  refine g_aload_1 hX dL_law_179 ?_
  refine g_aload_0 hX dL_law_180 ?_
  refine g_iload_3 hX dL_law_181 ?_
  refine g_iconst hX 1 dL_law_182 (by decide) ?_
  refine g_iadd hX dL_law_183 ?_
  refine g_sldS hX hs (i + 1) (nI_add i 1) (by omega) hL dL_law_184 ?_
  refine g_aload_0 hX dL_law_185 ?_
  refine g_iload_3 hX dL_law_186 ?_
  refine g_iconst hX 2 dL_law_187 (by decide) ?_
  refine g_iadd hX dL_law_188 ?_
  refine g_sldS hX hs (i + 2) (nI_add i 2) (by omega) hL dL_law_189 ?_
  refine g_aload_0 hX dL_law_190 ?_
  refine g_iload_3 hX dL_law_191 ?_
  refine g_iconst hX 3 dL_law_192 (by decide) ?_
  refine g_iadd hX dL_law_193 ?_
  refine g_sldS hX hs (i + 3) (nI_add i 3) (by omega) hL dL_law_194 ?_
  refine g_eV3i hX mkX5_goes ml_L_18 (c_X5_goes h.1) (ob_0 Z _) dL_law_195 rfl (by decide) (Nat.le_of_ble_eq_true rfl) (fun x1 b1 p1 => ?_)
  refine g_aload_2 hX dL_law_198 ?_
  refine g_aload_0 hX dL_law_199 ?_
  refine g_iload_3 hX dL_law_200 ?_
  refine g_iconst hX 1 dL_law_201 (by decide) ?_
  refine g_iadd hX dL_law_202 ?_
  refine g_sldS hX hs (i + 1) (nI_add i 1) (by omega) hL dL_law_203 ?_
  refine g_aload_0 hX dL_law_204 ?_
  refine g_iload_3 hX dL_law_205 ?_
  refine g_iconst hX 2 dL_law_206 (by decide) ?_
  refine g_iadd hX dL_law_207 ?_
  refine g_sldS hX hs (i + 2) (nI_add i 2) (by omega) hL dL_law_208 ?_
  refine g_aload_0 hX dL_law_209 ?_
  refine g_iload_3 hX dL_law_210 ?_
  refine g_iconst hX 3 dL_law_211 (by decide) ?_
  refine g_iadd hX dL_law_212 ?_
  refine g_sldS hX hs (i + 3) (nI_add i 3) (by omega) hL dL_law_213 ?_
  obtain ⟨⟨hv, h3, h5⟩, e, hS⟩ := pr_goes h p1
  refine g_cV3r hX mkX6_goes ml_L_22 (c_X6_goes hv h3 h5) (ob_69 Z _) dL_law_214 rfl (by decide) (Nat.le_of_ble_eq_true rfl) ?_
  exact g_icmp_eq hX 818 dL_law_217 (by decide) (fun _ => hn _ hS) (fun c => absurd e c)
set_option maxRecDepth 100000 in
set_option maxHeartbeats 4000000 in
theorem law_shortens {Z : Zt} {X : Xt} {b : Mem} {bs Ls i : Nat} {xs : Nat → Int32} (hX : Ok Z X cL_law 4 RL 12) (hs : SC Z X bs Ls xs) (hL : Ls ≤ 2048) (hi : i + 4 ≤ Ls) (h : SIM b) (hn : ∀ b2, SIM b2 → G Z X b2 818 (LL Z bs i) []) : G Z X b 222 (LL Z bs i) [] := by
  refine g_aload_1 hX dL_law_222 ?_
  refine g_aload_0 hX dL_law_223 ?_
  refine g_iload_3 hX dL_law_224 ?_
  refine g_iconst hX 1 dL_law_225 (by decide) ?_
  refine g_iadd hX dL_law_226 ?_
  refine g_sldS hX hs (i + 1) (nI_add i 1) (by omega) hL dL_law_227 ?_
  refine g_eV1i hX mkX5_shortens ml_L_23 (c_X5_shortens h.1) (ob_0 Z _) dL_law_228 rfl (by decide) (Nat.le_of_ble_eq_true rfl) (fun x1 b1 p1 => ?_)
  refine g_aload_2 hX dL_law_231 ?_
  refine g_aload_0 hX dL_law_232 ?_
  refine g_iload_3 hX dL_law_233 ?_
  refine g_iconst hX 1 dL_law_234 (by decide) ?_
  refine g_iadd hX dL_law_235 ?_
  refine g_sldS hX hs (i + 1) (nI_add i 1) (by omega) hL dL_law_236 ?_
  obtain ⟨⟨hv, h3, h5⟩, e, hS⟩ := pr_shortens h p1
  refine g_cV1r hX mkX6_shortens ml_L_26 (c_X6_shortens hv h3 h5) (ob_69 Z _) dL_law_237 rfl (by decide) (Nat.le_of_ble_eq_true rfl) ?_
  exact g_icmp_eq hX 818 dL_law_240 (by decide) (fun _ => hn _ hS) (fun c => absurd e c)
set_option maxRecDepth 100000 in
set_option maxHeartbeats 4000000 in
theorem law_pocket {Z : Zt} {X : Xt} {b : Mem} {bs Ls i : Nat} {xs : Nat → Int32} (hX : Ok Z X cL_law 4 RL 12) (hs : SC Z X bs Ls xs) (hL : Ls ≤ 2048) (hi : i + 4 ≤ Ls) (h : SIM b) (hn : ∀ b2, SIM b2 → G Z X b2 818 (LL Z bs i) []) : G Z X b 245 (LL Z bs i) [] := by
  refine g_aload_1 hX dL_law_245 ?_
  refine g_aload_0 hX dL_law_246 ?_
  refine g_iload_3 hX dL_law_247 ?_
  refine g_iconst hX 1 dL_law_248 (by decide) ?_
  refine g_iadd hX dL_law_249 ?_
  refine g_sldS hX hs (i + 1) (nI_add i 1) (by omega) hL dL_law_250 ?_
  refine g_aload_0 hX dL_law_251 ?_
  refine g_iload_3 hX dL_law_252 ?_
  refine g_iconst hX 2 dL_law_253 (by decide) ?_
  refine g_iadd hX dL_law_254 ?_
  refine g_sldS hX hs (i + 2) (nI_add i 2) (by omega) hL dL_law_255 ?_
  refine g_eV2i hX mkX5_pocket ml_L_27 (c_X5_pocket h.1) (ob_0 Z _) dL_law_256 rfl (by decide) (Nat.le_of_ble_eq_true rfl) (fun x1 b1 p1 => ?_)
  refine g_aload_2 hX dL_law_259 ?_
  refine g_aload_0 hX dL_law_260 ?_
  refine g_iload_3 hX dL_law_261 ?_
  refine g_iconst hX 1 dL_law_262 (by decide) ?_
  refine g_iadd hX dL_law_263 ?_
  refine g_sldS hX hs (i + 1) (nI_add i 1) (by omega) hL dL_law_264 ?_
  refine g_aload_0 hX dL_law_265 ?_
  refine g_iload_3 hX dL_law_266 ?_
  refine g_iconst hX 2 dL_law_267 (by decide) ?_
  refine g_iadd hX dL_law_268 ?_
  refine g_sldS hX hs (i + 2) (nI_add i 2) (by omega) hL dL_law_269 ?_
  obtain ⟨⟨hv, h3, h5⟩, e, hS⟩ := pr_pocket h p1
  refine g_cV2r hX mkX6_pocket ml_L_31 (c_X6_pocket hv h3 h5) (ob_69 Z _) dL_law_270 rfl (by decide) (Nat.le_of_ble_eq_true rfl) ?_
  exact g_icmp_eq hX 818 dL_law_273 (by decide) (fun _ => hn _ hS) (fun c => absurd e c)
set_option maxRecDepth 100000 in
set_option maxHeartbeats 4000000 in
theorem law_widens {Z : Zt} {X : Xt} {b : Mem} {bs Ls i : Nat} {xs : Nat → Int32} (hX : Ok Z X cL_law 4 RL 12) (hs : SC Z X bs Ls xs) (hL : Ls ≤ 2048) (hi : i + 4 ≤ Ls) (h : SIM b) (hn : ∀ b2, SIM b2 → G Z X b2 818 (LL Z bs i) []) : G Z X b 278 (LL Z bs i) [] := by
  refine g_aload_1 hX dL_law_278 ?_
  refine g_aload_0 hX dL_law_279 ?_
  refine g_iload_3 hX dL_law_280 ?_
  refine g_iconst hX 1 dL_law_281 (by decide) ?_
  refine g_iadd hX dL_law_282 ?_
  refine g_sldS hX hs (i + 1) (nI_add i 1) (by omega) hL dL_law_283 ?_
  refine g_aload_0 hX dL_law_284 ?_
  refine g_iload_3 hX dL_law_285 ?_
  refine g_iconst hX 2 dL_law_286 (by decide) ?_
  refine g_iadd hX dL_law_287 ?_
  refine g_sldS hX hs (i + 2) (nI_add i 2) (by omega) hL dL_law_288 ?_
  refine g_eV2i hX mkX5_widens ml_L_32 (c_X5_widens h.1) (ob_0 Z _) dL_law_289 rfl (by decide) (Nat.le_of_ble_eq_true rfl) (fun x1 b1 p1 => ?_)
  refine g_aload_2 hX dL_law_292 ?_
  refine g_aload_0 hX dL_law_293 ?_
  refine g_iload_3 hX dL_law_294 ?_
  refine g_iconst hX 1 dL_law_295 (by decide) ?_
  refine g_iadd hX dL_law_296 ?_
  refine g_sldS hX hs (i + 1) (nI_add i 1) (by omega) hL dL_law_297 ?_
  refine g_aload_0 hX dL_law_298 ?_
  refine g_iload_3 hX dL_law_299 ?_
  refine g_iconst hX 2 dL_law_300 (by decide) ?_
  refine g_iadd hX dL_law_301 ?_
  refine g_sldS hX hs (i + 2) (nI_add i 2) (by omega) hL dL_law_302 ?_
  obtain ⟨⟨hv, h3, h5⟩, e, hS⟩ := pr_widens h p1
  refine g_cV2r hX mkX6_widens ml_L_35 (c_X6_widens hv h3 h5) (ob_69 Z _) dL_law_303 rfl (by decide) (Nat.le_of_ble_eq_true rfl) ?_
  exact g_icmp_eq hX 818 dL_law_306 (by decide) (fun _ => hn _ hS) (fun c => absurd e c)
set_option maxRecDepth 100000 in
set_option maxHeartbeats 4000000 in
theorem law_touches {Z : Zt} {X : Xt} {b : Mem} {bs Ls i : Nat} {xs : Nat → Int32} (hX : Ok Z X cL_law 4 RL 12) (hs : SC Z X bs Ls xs) (hL : Ls ≤ 2048) (hi : i + 4 ≤ Ls) (h : SIM b) (hn : ∀ b2, SIM b2 → G Z X b2 818 (LL Z bs i) []) : G Z X b 311 (LL Z bs i) [] := by
  refine g_aload_1 hX dL_law_311 ?_
  refine g_aload_0 hX dL_law_312 ?_
  refine g_iload_3 hX dL_law_313 ?_
  refine g_iconst hX 1 dL_law_314 (by decide) ?_
  refine g_iadd hX dL_law_315 ?_
  refine g_sldS hX hs (i + 1) (nI_add i 1) (by omega) hL dL_law_316 ?_
  refine g_aload_0 hX dL_law_317 ?_
  refine g_iload_3 hX dL_law_318 ?_
  refine g_iconst hX 2 dL_law_319 (by decide) ?_
  refine g_iadd hX dL_law_320 ?_
  refine g_sldS hX hs (i + 2) (nI_add i 2) (by omega) hL dL_law_321 ?_
  refine g_eV2i hX mkX5_touches ml_L_36 (c_X5_touches h.1) (ob_0 Z _) dL_law_322 rfl (by decide) (Nat.le_of_ble_eq_true rfl) (fun x1 b1 p1 => ?_)
  refine g_aload_2 hX dL_law_325 ?_
  refine g_aload_0 hX dL_law_326 ?_
  refine g_iload_3 hX dL_law_327 ?_
  refine g_iconst hX 1 dL_law_328 (by decide) ?_
  refine g_iadd hX dL_law_329 ?_
  refine g_sldS hX hs (i + 1) (nI_add i 1) (by omega) hL dL_law_330 ?_
  refine g_aload_0 hX dL_law_331 ?_
  refine g_iload_3 hX dL_law_332 ?_
  refine g_iconst hX 2 dL_law_333 (by decide) ?_
  refine g_iadd hX dL_law_334 ?_
  refine g_sldS hX hs (i + 2) (nI_add i 2) (by omega) hL dL_law_335 ?_
  obtain ⟨⟨hv, h3, h5⟩, e, hS⟩ := pr_touches h p1
  refine g_cV2r hX mkX6_touches ml_L_39 (c_X6_touches hv h3 h5) (ob_69 Z _) dL_law_336 rfl (by decide) (Nat.le_of_ble_eq_true rfl) ?_
  exact g_icmp_eq hX 818 dL_law_339 (by decide) (fun _ => hn _ hS) (fun c => absurd e c)
set_option maxRecDepth 100000 in
set_option maxHeartbeats 4000000 in
theorem law_sets {Z : Zt} {X : Xt} {b : Mem} {bs Ls i : Nat} {xs : Nat → Int32} (hX : Ok Z X cL_law 4 RL 12) (hs : SC Z X bs Ls xs) (hL : Ls ≤ 2048) (hi : i + 4 ≤ Ls) (h : SIM b) (hn : ∀ b2, SIM b2 → G Z X b2 818 (LL Z bs i) []) : G Z X b 344 (LL Z bs i) [] := by
  refine g_aload_1 hX dL_law_344 ?_
  refine g_aload_0 hX dL_law_345 ?_
  refine g_iload_3 hX dL_law_346 ?_
  refine g_iconst hX 1 dL_law_347 (by decide) ?_
  refine g_iadd hX dL_law_348 ?_
  refine g_sldS hX hs (i + 1) (nI_add i 1) (by omega) hL dL_law_349 ?_
  refine g_aload_0 hX dL_law_350 ?_
  refine g_iload_3 hX dL_law_351 ?_
  refine g_iconst hX 2 dL_law_352 (by decide) ?_
  refine g_iadd hX dL_law_353 ?_
  refine g_sldS hX hs (i + 2) (nI_add i 2) (by omega) hL dL_law_354 ?_
  refine g_eV2i hX mkX5_sets ml_L_40 (c_X5_sets h.1) (ob_0 Z _) dL_law_355 rfl (by decide) (Nat.le_of_ble_eq_true rfl) (fun x1 b1 p1 => ?_)
  refine g_aload_2 hX dL_law_358 ?_
  refine g_aload_0 hX dL_law_359 ?_
  refine g_iload_3 hX dL_law_360 ?_
  refine g_iconst hX 1 dL_law_361 (by decide) ?_
  refine g_iadd hX dL_law_362 ?_
  refine g_sldS hX hs (i + 1) (nI_add i 1) (by omega) hL dL_law_363 ?_
  refine g_aload_0 hX dL_law_364 ?_
  refine g_iload_3 hX dL_law_365 ?_
  refine g_iconst hX 2 dL_law_366 (by decide) ?_
  refine g_iadd hX dL_law_367 ?_
  refine g_sldS hX hs (i + 2) (nI_add i 2) (by omega) hL dL_law_368 ?_
  obtain ⟨⟨hv, h3, h5⟩, e, hS⟩ := pr_sets h p1
  refine g_cV2r hX mkX6_sets ml_L_43 (c_X6_sets hv h3 h5) (ob_69 Z _) dL_law_369 rfl (by decide) (Nat.le_of_ble_eq_true rfl) ?_
  exact g_icmp_eq hX 818 dL_law_372 (by decide) (fun _ => hn _ hS) (fun c => absurd e c)
set_option maxRecDepth 100000 in
set_option maxHeartbeats 4000000 in
theorem law_of {Z : Zt} {X : Xt} {b : Mem} {bs Ls i : Nat} {xs : Nat → Int32} (hX : Ok Z X cL_law 4 RL 12) (hs : SC Z X bs Ls xs) (hL : Ls ≤ 2048) (hi : i + 4 ≤ Ls) (h : SIM b) (hn : ∀ b2, SIM b2 → G Z X b2 818 (LL Z bs i) []) : G Z X b 377 (LL Z bs i) [] := by
  refine g_aload_1 hX dL_law_377 ?_
  refine g_aload_0 hX dL_law_378 ?_
  refine g_iload_3 hX dL_law_379 ?_
  refine g_iconst hX 1 dL_law_380 (by decide) ?_
  refine g_iadd hX dL_law_381 ?_
  refine g_sldS hX hs (i + 1) (nI_add i 1) (by omega) hL dL_law_382 ?_
  refine g_aload_0 hX dL_law_383 ?_
  refine g_iload_3 hX dL_law_384 ?_
  refine g_iconst hX 2 dL_law_385 (by decide) ?_
  refine g_iadd hX dL_law_386 ?_
  refine g_sldS hX hs (i + 2) (nI_add i 2) (by omega) hL dL_law_387 ?_
  refine g_eV2i hX mkX5_of ml_L_44 (c_X5_of h.1) (ob_0 Z _) dL_law_388 rfl (by decide) (Nat.le_of_ble_eq_true rfl) (fun x1 b1 p1 => ?_)
  refine g_aload_2 hX dL_law_391 ?_
  refine g_aload_0 hX dL_law_392 ?_
  refine g_iload_3 hX dL_law_393 ?_
  refine g_iconst hX 1 dL_law_394 (by decide) ?_
  refine g_iadd hX dL_law_395 ?_
  refine g_sldS hX hs (i + 1) (nI_add i 1) (by omega) hL dL_law_396 ?_
  refine g_aload_0 hX dL_law_397 ?_
  refine g_iload_3 hX dL_law_398 ?_
  refine g_iconst hX 2 dL_law_399 (by decide) ?_
  refine g_iadd hX dL_law_400 ?_
  refine g_sldS hX hs (i + 2) (nI_add i 2) (by omega) hL dL_law_401 ?_
  refine g_eV2i hX mkX6_of ml_L_47 (c_X6_of (h.k p1.2).2) (ob_69 Z _) dL_law_402 rfl (by decide) (Nat.le_of_ble_eq_true rfl) (fun x2 b2 p2 => ?_)
  obtain ⟨e, hS⟩ := pr_of h p1 p2
  exact g_icmp_eq hX 818 dL_law_405 (by decide) (fun _ => hn _ hS) (fun c => absurd e c)
set_option maxRecDepth 100000 in
set_option maxHeartbeats 4000000 in
theorem law_run {Z : Zt} {X : Xt} {b : Mem} {bs Ls i : Nat} {xs : Nat → Int32} (hX : Ok Z X cL_law 4 RL 12) (hs : SC Z X bs Ls xs) (hL : Ls ≤ 2048) (hi : i + 4 ≤ Ls) (h : SIM b) (hn : ∀ b2, SIM b2 → G Z X b2 818 (LL Z bs i) []) : G Z X b 410 (LL Z bs i) [] := by
  refine g_aload_1 hX dL_law_410 ?_
  refine g_aload_0 hX dL_law_411 ?_
  refine g_iload_3 hX dL_law_412 ?_
  refine g_iconst hX 1 dL_law_413 (by decide) ?_
  refine g_iadd hX dL_law_414 ?_
  refine g_sldS hX hs (i + 1) (nI_add i 1) (by omega) hL dL_law_415 ?_
  refine g_aload_0 hX dL_law_416 ?_
  refine g_iload_3 hX dL_law_417 ?_
  refine g_iconst hX 2 dL_law_418 (by decide) ?_
  refine g_iadd hX dL_law_419 ?_
  refine g_sldS hX hs (i + 2) (nI_add i 2) (by omega) hL dL_law_420 ?_
  refine g_aload_0 hX dL_law_421 ?_
  refine g_iload_3 hX dL_law_422 ?_
  refine g_iconst hX 3 dL_law_423 (by decide) ?_
  refine g_iadd hX dL_law_424 ?_
  refine g_sldS hX hs (i + 3) (nI_add i 3) (by omega) hL dL_law_425 ?_
  refine g_eV3i hX mkX5_run ml_L_48 (c_X5_run h.1) (ob_0 Z _) dL_law_426 rfl (by decide) (Nat.le_of_ble_eq_true rfl) (fun x1 b1 p1 => ?_)
  refine g_aload_2 hX dL_law_429 ?_
  refine g_aload_0 hX dL_law_430 ?_
  refine g_iload_3 hX dL_law_431 ?_
  refine g_iconst hX 1 dL_law_432 (by decide) ?_
  refine g_iadd hX dL_law_433 ?_
  refine g_sldS hX hs (i + 1) (nI_add i 1) (by omega) hL dL_law_434 ?_
  refine g_aload_0 hX dL_law_435 ?_
  refine g_iload_3 hX dL_law_436 ?_
  refine g_iconst hX 2 dL_law_437 (by decide) ?_
  refine g_iadd hX dL_law_438 ?_
  refine g_sldS hX hs (i + 2) (nI_add i 2) (by omega) hL dL_law_439 ?_
  refine g_aload_0 hX dL_law_440 ?_
  refine g_iload_3 hX dL_law_441 ?_
  refine g_iconst hX 3 dL_law_442 (by decide) ?_
  refine g_iadd hX dL_law_443 ?_
  refine g_sldS hX hs (i + 3) (nI_add i 3) (by omega) hL dL_law_444 ?_
  refine g_eV3i hX mkX6_run ml_L_51 (c_X6_run (h.k p1.2).2) (ob_69 Z _) dL_law_445 rfl (by decide) (Nat.le_of_ble_eq_true rfl) (fun x2 b2 p2 => ?_)
  obtain ⟨e, hS⟩ := pr_run h p1 p2
  exact g_icmp_eq hX 818 dL_law_448 (by decide) (fun _ => hn _ hS) (fun c => absurd e c)
set_option maxRecDepth 100000 in
set_option maxHeartbeats 4000000 in
theorem law_about {Z : Zt} {X : Xt} {b : Mem} {bs Ls i : Nat} {xs : Nat → Int32} (hX : Ok Z X cL_law 4 RL 12) (hs : SC Z X bs Ls xs) (hL : Ls ≤ 2048) (hi : i + 4 ≤ Ls) (h : SIM b) (hn : ∀ b2, SIM b2 → G Z X b2 818 (LL Z bs i) []) : G Z X b 453 (LL Z bs i) [] := by
  refine g_aload_1 hX dL_law_453 ?_
  refine g_aload_0 hX dL_law_454 ?_
  refine g_iload_3 hX dL_law_455 ?_
  refine g_iconst hX 1 dL_law_456 (by decide) ?_
  refine g_iadd hX dL_law_457 ?_
  refine g_sldS hX hs (i + 1) (nI_add i 1) (by omega) hL dL_law_458 ?_
  refine g_aload_0 hX dL_law_459 ?_
  refine g_iload_3 hX dL_law_460 ?_
  refine g_iconst hX 2 dL_law_461 (by decide) ?_
  refine g_iadd hX dL_law_462 ?_
  refine g_sldS hX hs (i + 2) (nI_add i 2) (by omega) hL dL_law_463 ?_
  refine g_eV2i hX mkX5_about ml_L_52 (c_X5_about h.1) (ob_0 Z _) dL_law_464 rfl (by decide) (Nat.le_of_ble_eq_true rfl) (fun x1 b1 p1 => ?_)
  refine g_aload_2 hX dL_law_467 ?_
  refine g_aload_0 hX dL_law_468 ?_
  refine g_iload_3 hX dL_law_469 ?_
  refine g_iconst hX 1 dL_law_470 (by decide) ?_
  refine g_iadd hX dL_law_471 ?_
  refine g_sldS hX hs (i + 1) (nI_add i 1) (by omega) hL dL_law_472 ?_
  refine g_aload_0 hX dL_law_473 ?_
  refine g_iload_3 hX dL_law_474 ?_
  refine g_iconst hX 2 dL_law_475 (by decide) ?_
  refine g_iadd hX dL_law_476 ?_
  refine g_sldS hX hs (i + 2) (nI_add i 2) (by omega) hL dL_law_477 ?_
  refine g_eV2i hX mkX6_about ml_L_55 (c_X6_about (h.k p1.2).2) (ob_69 Z _) dL_law_478 rfl (by decide) (Nat.le_of_ble_eq_true rfl) (fun x2 b2 p2 => ?_)
  obtain ⟨e, hS⟩ := pr_about h p1 p2
  exact g_icmp_eq hX 818 dL_law_481 (by decide) (fun _ => hn _ hS) (fun c => absurd e c)
set_option maxRecDepth 100000 in
set_option maxHeartbeats 4000000 in
theorem law_setting {Z : Zt} {X : Xt} {b : Mem} {bs Ls i : Nat} {xs : Nat → Int32} (hX : Ok Z X cL_law 4 RL 12) (hs : SC Z X bs Ls xs) (hL : Ls ≤ 2048) (hi : i + 4 ≤ Ls) (h : SIM b) (hn : ∀ b2, SIM b2 → G Z X b2 818 (LL Z bs i) []) : G Z X b 486 (LL Z bs i) [] := by
  refine g_aload_1 hX dL_law_486 ?_
  refine g_aload_0 hX dL_law_487 ?_
  refine g_iload_3 hX dL_law_488 ?_
  refine g_iconst hX 1 dL_law_489 (by decide) ?_
  refine g_iadd hX dL_law_490 ?_
  refine g_sldS hX hs (i + 1) (nI_add i 1) (by omega) hL dL_law_491 ?_
  refine g_eV1i hX mkX5_setting ml_L_56 (c_X5_setting h.1) (ob_0 Z _) dL_law_492 rfl (by decide) (Nat.le_of_ble_eq_true rfl) (fun x1 b1 p1 => ?_)
  refine g_aload_2 hX dL_law_495 ?_
  refine g_aload_0 hX dL_law_496 ?_
  refine g_iload_3 hX dL_law_497 ?_
  refine g_iconst hX 1 dL_law_498 (by decide) ?_
  refine g_iadd hX dL_law_499 ?_
  refine g_sldS hX hs (i + 1) (nI_add i 1) (by omega) hL dL_law_500 ?_
  refine g_eV1i hX mkX6_setting ml_L_59 c_X6_setting (ob_69 Z _) dL_law_501 rfl (by decide) (Nat.le_of_ble_eq_true rfl) (fun x2 b2 p2 => ?_)
  obtain ⟨e, hS⟩ := pr_setting h p1 p2
  exact g_icmp_eq hX 818 dL_law_504 (by decide) (fun _ => hn _ hS) (fun c => absurd e c)
set_option maxRecDepth 100000 in
set_option maxHeartbeats 4000000 in
theorem law_count {Z : Zt} {X : Xt} {b : Mem} {bs Ls i : Nat} {xs : Nat → Int32} (hX : Ok Z X cL_law 4 RL 12) (hs : SC Z X bs Ls xs) (hL : Ls ≤ 2048) (hi : i + 4 ≤ Ls) (h : SIM b) (hn : ∀ b2, SIM b2 → G Z X b2 818 (LL Z bs i) []) : G Z X b 509 (LL Z bs i) [] := by
  refine g_aload_1 hX dL_law_509 ?_
  refine g_aload_0 hX dL_law_510 ?_
  refine g_iload_3 hX dL_law_511 ?_
  refine g_iconst hX 1 dL_law_512 (by decide) ?_
  refine g_iadd hX dL_law_513 ?_
  refine g_sldS hX hs (i + 1) (nI_add i 1) (by omega) hL dL_law_514 ?_
  refine g_eV1i hX mkX5_count ml_L_60 (c_X5_count h.1) (ob_0 Z _) dL_law_515 rfl (by decide) (Nat.le_of_ble_eq_true rfl) (fun x1 b1 p1 => ?_)
  refine g_aload_2 hX dL_law_518 ?_
  refine g_aload_0 hX dL_law_519 ?_
  refine g_iload_3 hX dL_law_520 ?_
  refine g_iconst hX 1 dL_law_521 (by decide) ?_
  refine g_iadd hX dL_law_522 ?_
  refine g_sldS hX hs (i + 1) (nI_add i 1) (by omega) hL dL_law_523 ?_
  refine g_eV1i hX mkX6_count ml_L_63 (c_X6_count (h.k p1.2).2) (ob_69 Z _) dL_law_524 rfl (by decide) (Nat.le_of_ble_eq_true rfl) (fun x2 b2 p2 => ?_)
  obtain ⟨e, hS⟩ := pr_count h p1 p2
  exact g_icmp_eq hX 818 dL_law_527 (by decide) (fun _ => hn _ hS) (fun c => absurd e c)
set_option maxRecDepth 100000 in
set_option maxHeartbeats 4000000 in
theorem law_draws {Z : Zt} {X : Xt} {b : Mem} {bs Ls i : Nat} {xs : Nat → Int32} (hX : Ok Z X cL_law 4 RL 12) (hs : SC Z X bs Ls xs) (hL : Ls ≤ 2048) (hi : i + 4 ≤ Ls) (h : SIM b) (hn : ∀ b2, SIM b2 → G Z X b2 818 (LL Z bs i) []) : G Z X b 532 (LL Z bs i) [] := by
  refine g_aload_1 hX dL_law_532 ?_
  refine g_aload_0 hX dL_law_533 ?_
  refine g_iload_3 hX dL_law_534 ?_
  refine g_iconst hX 1 dL_law_535 (by decide) ?_
  refine g_iadd hX dL_law_536 ?_
  refine g_sldS hX hs (i + 1) (nI_add i 1) (by omega) hL dL_law_537 ?_
  refine g_aload_0 hX dL_law_538 ?_
  refine g_iload_3 hX dL_law_539 ?_
  refine g_iconst hX 2 dL_law_540 (by decide) ?_
  refine g_iadd hX dL_law_541 ?_
  refine g_sldS hX hs (i + 2) (nI_add i 2) (by omega) hL dL_law_542 ?_
  refine g_eV2i hX mkX5_draws ml_L_64 (c_X5_draws h.1) (ob_0 Z _) dL_law_543 rfl (by decide) (Nat.le_of_ble_eq_true rfl) (fun x1 b1 p1 => ?_)
  refine g_aload_2 hX dL_law_546 ?_
  refine g_aload_0 hX dL_law_547 ?_
  refine g_iload_3 hX dL_law_548 ?_
  refine g_iconst hX 1 dL_law_549 (by decide) ?_
  refine g_iadd hX dL_law_550 ?_
  refine g_sldS hX hs (i + 1) (nI_add i 1) (by omega) hL dL_law_551 ?_
  refine g_aload_0 hX dL_law_552 ?_
  refine g_iload_3 hX dL_law_553 ?_
  refine g_iconst hX 2 dL_law_554 (by decide) ?_
  refine g_iadd hX dL_law_555 ?_
  refine g_sldS hX hs (i + 2) (nI_add i 2) (by omega) hL dL_law_556 ?_
  refine g_eV2i hX mkX6_draws ml_L_67 (c_X6_draws (h.k p1.2).2) (ob_69 Z _) dL_law_557 rfl (by decide) (Nat.le_of_ble_eq_true rfl) (fun x2 b2 p2 => ?_)
  obtain ⟨e, hS⟩ := pr_draws h p1 p2
  exact g_icmp_eq hX 818 dL_law_560 (by decide) (fun _ => hn _ hS) (fun c => absurd e c)
set_option maxRecDepth 100000 in
set_option maxHeartbeats 4000000 in
theorem law_length {Z : Zt} {X : Xt} {b : Mem} {bs Ls i : Nat} {xs : Nat → Int32} (hX : Ok Z X cL_law 4 RL 12) (hs : SC Z X bs Ls xs) (hL : Ls ≤ 2048) (hi : i + 4 ≤ Ls) (h : SIM b) (hn : ∀ b2, SIM b2 → G Z X b2 818 (LL Z bs i) []) : G Z X b 565 (LL Z bs i) [] := by
  refine g_aload_1 hX dL_law_565 ?_
  refine g_aload_0 hX dL_law_566 ?_
  refine g_iload_3 hX dL_law_567 ?_
  refine g_iconst hX 1 dL_law_568 (by decide) ?_
  refine g_iadd hX dL_law_569 ?_
  refine g_sldS hX hs (i + 1) (nI_add i 1) (by omega) hL dL_law_570 ?_
  refine g_eV1i hX mkX5_length ml_L_68 (c_X5_length h.1) (ob_0 Z _) dL_law_571 rfl (by decide) (Nat.le_of_ble_eq_true rfl) (fun x1 b1 p1 => ?_)
  refine g_aload_2 hX dL_law_574 ?_
  refine g_aload_0 hX dL_law_575 ?_
  refine g_iload_3 hX dL_law_576 ?_
  refine g_iconst hX 1 dL_law_577 (by decide) ?_
  refine g_iadd hX dL_law_578 ?_
  refine g_sldS hX hs (i + 1) (nI_add i 1) (by omega) hL dL_law_579 ?_
  refine g_eV1i hX mkX6_length ml_L_71 (c_X6_length (h.k p1.2).2) (ob_69 Z _) dL_law_580 rfl (by decide) (Nat.le_of_ble_eq_true rfl) (fun x2 b2 p2 => ?_)
  obtain ⟨e, hS⟩ := pr_length h p1 p2
  exact g_icmp_eq hX 818 dL_law_583 (by decide) (fun _ => hn _ hS) (fun c => absurd e c)
set_option maxRecDepth 100000 in
set_option maxHeartbeats 4000000 in
theorem law_blocked {Z : Zt} {X : Xt} {b : Mem} {bs Ls i : Nat} {xs : Nat → Int32} (hX : Ok Z X cL_law 4 RL 12) (hs : SC Z X bs Ls xs) (hL : Ls ≤ 2048) (hi : i + 4 ≤ Ls) (h : SIM b) (hn : ∀ b2, SIM b2 → G Z X b2 818 (LL Z bs i) []) : G Z X b 588 (LL Z bs i) [] := by
  refine g_aload_1 hX dL_law_588 ?_
  refine g_eV0i hX mkX5_blocked ml_L_72 (c_X5_blocked h.1) (ob_0 Z _) dL_law_589 rfl (by decide) (Nat.le_of_ble_eq_true rfl) (fun x1 b1 p1 => ?_)
  refine g_aload_2 hX dL_law_592 ?_
  refine g_eV0i hX mkX6_blocked ml_L_76 (c_X6_blocked (h.k p1.2).2) (ob_69 Z _) dL_law_593 rfl (by decide) (Nat.le_of_ble_eq_true rfl) (fun x2 b2 p2 => ?_)
  obtain ⟨e, hS⟩ := pr_blocked h p1 p2
  exact g_icmp_eq hX 818 dL_law_596 (by decide) (fun _ => hn _ hS) (fun c => absurd e c)
set_option maxRecDepth 100000 in
set_option maxHeartbeats 4000000 in
theorem law_can {Z : Zt} {X : Xt} {b : Mem} {bs Ls i : Nat} {xs : Nat → Int32} (hX : Ok Z X cL_law 4 RL 12) (hs : SC Z X bs Ls xs) (hL : Ls ≤ 2048) (hi : i + 4 ≤ Ls) (h : SIM b) (hn : ∀ b2, SIM b2 → G Z X b2 818 (LL Z bs i) []) : G Z X b 601 (LL Z bs i) [] := by
  refine g_aload_1 hX dL_law_601 ?_
  refine g_aload_0 hX dL_law_602 ?_
  refine g_iload_3 hX dL_law_603 ?_
  refine g_iconst hX 1 dL_law_604 (by decide) ?_
  refine g_iadd hX dL_law_605 ?_
  refine g_sldS hX hs (i + 1) (nI_add i 1) (by omega) hL dL_law_606 ?_
  refine g_eV1i hX mkX5_can ml_L_77 (c_X5_can h.1) (ob_0 Z _) dL_law_607 rfl (by decide) (Nat.le_of_ble_eq_true rfl) (fun x1 b1 p1 => ?_)
  refine g_aload_2 hX dL_law_610 ?_
  refine g_aload_0 hX dL_law_611 ?_
  refine g_iload_3 hX dL_law_612 ?_
  refine g_iconst hX 1 dL_law_613 (by decide) ?_
  refine g_iadd hX dL_law_614 ?_
  refine g_sldS hX hs (i + 1) (nI_add i 1) (by omega) hL dL_law_615 ?_
  refine g_eV1i hX mkX6_can ml_L_80 (c_X6_can (h.k p1.2).2) (ob_69 Z _) dL_law_616 rfl (by decide) (Nat.le_of_ble_eq_true rfl) (fun x2 b2 p2 => ?_)
  obtain ⟨e, hS⟩ := pr_can h p1 p2
  exact g_icmp_eq hX 818 dL_law_619 (by decide) (fun _ => hn _ hS) (fun c => absurd e c)
set_option maxRecDepth 100000 in
set_option maxHeartbeats 4000000 in
theorem law_least {Z : Zt} {X : Xt} {b : Mem} {bs Ls i : Nat} {xs : Nat → Int32} (hX : Ok Z X cL_law 4 RL 12) (hs : SC Z X bs Ls xs) (hL : Ls ≤ 2048) (hi : i + 4 ≤ Ls) (h : SIM b) (hn : ∀ b2, SIM b2 → G Z X b2 818 (LL Z bs i) []) : G Z X b 624 (LL Z bs i) [] := by
  refine g_aload_1 hX dL_law_624 ?_
  refine g_eV0i hX mkX5_least ml_L_81 (c_X5_least h.1) (ob_0 Z _) dL_law_625 rfl (by decide) (Nat.le_of_ble_eq_true rfl) (fun x1 b1 p1 => ?_)
  refine g_aload_2 hX dL_law_628 ?_
  refine g_eV0i hX mkX6_least ml_L_84 (c_X6_least (h.k p1.2).2) (ob_69 Z _) dL_law_629 rfl (by decide) (Nat.le_of_ble_eq_true rfl) (fun x2 b2 p2 => ?_)
  obtain ⟨e, hS⟩ := pr_least h p1 p2
  exact g_icmp_eq hX 818 dL_law_632 (by decide) (fun _ => hn _ hS) (fun c => absurd e c)
set_option maxRecDepth 100000 in
set_option maxHeartbeats 4000000 in
theorem law_greatest {Z : Zt} {X : Xt} {b : Mem} {bs Ls i : Nat} {xs : Nat → Int32} (hX : Ok Z X cL_law 4 RL 12) (hs : SC Z X bs Ls xs) (hL : Ls ≤ 2048) (hi : i + 4 ≤ Ls) (h : SIM b) (hn : ∀ b2, SIM b2 → G Z X b2 818 (LL Z bs i) []) : G Z X b 637 (LL Z bs i) [] := by
  refine g_aload_1 hX dL_law_637 ?_
  refine g_eV0i hX mkX5_greatest ml_L_85 (c_X5_greatest h.1) (ob_0 Z _) dL_law_638 rfl (by decide) (Nat.le_of_ble_eq_true rfl) (fun x1 b1 p1 => ?_)
  refine g_aload_2 hX dL_law_641 ?_
  refine g_eV0i hX mkX6_greatest ml_L_88 (c_X6_greatest (h.k p1.2).2) (ob_69 Z _) dL_law_642 rfl (by decide) (Nat.le_of_ble_eq_true rfl) (fun x2 b2 p2 => ?_)
  obtain ⟨e, hS⟩ := pr_greatest h p1 p2
  exact g_icmp_eq hX 818 dL_law_645 (by decide) (fun _ => hn _ hS) (fun c => absurd e c)
set_option maxRecDepth 100000 in
set_option maxHeartbeats 4000000 in
theorem law_more {Z : Zt} {X : Xt} {b : Mem} {bs Ls i : Nat} {xs : Nat → Int32} (hX : Ok Z X cL_law 4 RL 12) (hs : SC Z X bs Ls xs) (hL : Ls ≤ 2048) (hi : i + 4 ≤ Ls) (h : SIM b) (hn : ∀ b2, SIM b2 → G Z X b2 818 (LL Z bs i) []) : G Z X b 650 (LL Z bs i) [] := by
  refine g_aload_1 hX dL_law_650 ?_
  refine g_eV0i hX mkX5_more ml_L_89 (c_X5_more h.1) (ob_0 Z _) dL_law_651 rfl (by decide) (Nat.le_of_ble_eq_true rfl) (fun x1 b1 p1 => ?_)
  refine g_aload_2 hX dL_law_654 ?_
  refine g_eV0i hX mkX6_more ml_L_92 (c_X6_more (h.k p1.2).2) (ob_69 Z _) dL_law_655 rfl (by decide) (Nat.le_of_ble_eq_true rfl) (fun x2 b2 p2 => ?_)
  obtain ⟨e, hS⟩ := pr_more h p1 p2
  exact g_icmp_eq hX 818 dL_law_658 (by decide) (fun _ => hn _ hS) (fun c => absurd e c)
set_option maxRecDepth 100000 in
set_option maxHeartbeats 4000000 in
theorem law_bumps {Z : Zt} {X : Xt} {b : Mem} {bs Ls i : Nat} {xs : Nat → Int32} (hX : Ok Z X cL_law 4 RL 12) (hs : SC Z X bs Ls xs) (hL : Ls ≤ 2048) (hi : i + 4 ≤ Ls) (h : SIM b) (hn : ∀ b2, SIM b2 → G Z X b2 818 (LL Z bs i) []) : G Z X b 663 (LL Z bs i) [] := by
  refine g_aload_1 hX dL_law_663 ?_
  refine g_aload_0 hX dL_law_664 ?_
  refine g_iload_3 hX dL_law_665 ?_
  refine g_iconst hX 1 dL_law_666 (by decide) ?_
  refine g_iadd hX dL_law_667 ?_
  refine g_sldS hX hs (i + 1) (nI_add i 1) (by omega) hL dL_law_668 ?_
  refine g_eV1i hX mkX5_bumps ml_L_93 (c_X5_bumps h.1) (ob_0 Z _) dL_law_669 rfl (by decide) (Nat.le_of_ble_eq_true rfl) (fun x1 b1 p1 => ?_)
  refine g_aload_2 hX dL_law_672 ?_
  refine g_aload_0 hX dL_law_673 ?_
  refine g_iload_3 hX dL_law_674 ?_
  refine g_iconst hX 1 dL_law_675 (by decide) ?_
  refine g_iadd hX dL_law_676 ?_
  refine g_sldS hX hs (i + 1) (nI_add i 1) (by omega) hL dL_law_677 ?_
  refine g_eV1i hX mkX6_bumps ml_L_96 (c_X6_bumps (h.k p1.2).2) (ob_69 Z _) dL_law_678 rfl (by decide) (Nat.le_of_ble_eq_true rfl) (fun x2 b2 p2 => ?_)
  obtain ⟨e, hS⟩ := pr_bumps h p1 p2
  exact g_icmp_eq hX 818 dL_law_681 (by decide) (fun _ => hn _ hS) (fun c => absurd e c)
set_option maxRecDepth 100000 in
set_option maxHeartbeats 4000000 in
theorem law_skew {Z : Zt} {X : Xt} {b : Mem} {bs Ls i : Nat} {xs : Nat → Int32} (hX : Ok Z X cL_law 4 RL 12) (hs : SC Z X bs Ls xs) (hL : Ls ≤ 2048) (hi : i + 4 ≤ Ls) (h : SIM b) (hn : ∀ b2, SIM b2 → G Z X b2 818 (LL Z bs i) []) : G Z X b 686 (LL Z bs i) [] := by
  refine g_aload_1 hX dL_law_686 ?_
  refine g_aload_0 hX dL_law_687 ?_
  refine g_iload_3 hX dL_law_688 ?_
  refine g_iconst hX 1 dL_law_689 (by decide) ?_
  refine g_iadd hX dL_law_690 ?_
  refine g_sldS hX hs (i + 1) (nI_add i 1) (by omega) hL dL_law_691 ?_
  refine g_aload_0 hX dL_law_692 ?_
  refine g_iload_3 hX dL_law_693 ?_
  refine g_iconst hX 2 dL_law_694 (by decide) ?_
  refine g_iadd hX dL_law_695 ?_
  refine g_sldS hX hs (i + 2) (nI_add i 2) (by omega) hL dL_law_696 ?_
  refine g_eV2i hX mkX5_skew ml_L_97 (c_X5_skew h.1) (ob_0 Z _) dL_law_697 rfl (by decide) (Nat.le_of_ble_eq_true rfl) (fun x1 b1 p1 => ?_)
  refine g_aload_2 hX dL_law_700 ?_
  refine g_aload_0 hX dL_law_701 ?_
  refine g_iload_3 hX dL_law_702 ?_
  refine g_iconst hX 1 dL_law_703 (by decide) ?_
  refine g_iadd hX dL_law_704 ?_
  refine g_sldS hX hs (i + 1) (nI_add i 1) (by omega) hL dL_law_705 ?_
  refine g_aload_0 hX dL_law_706 ?_
  refine g_iload_3 hX dL_law_707 ?_
  refine g_iconst hX 2 dL_law_708 (by decide) ?_
  refine g_iadd hX dL_law_709 ?_
  refine g_sldS hX hs (i + 2) (nI_add i 2) (by omega) hL dL_law_710 ?_
  refine g_eV2i hX mkX6_skew ml_L_100 (c_X6_skew (h.k p1.2).2) (ob_69 Z _) dL_law_711 rfl (by decide) (Nat.le_of_ble_eq_true rfl) (fun x2 b2 p2 => ?_)
  obtain ⟨e, hS⟩ := pr_skew h p1 p2
  exact g_icmp_eq hX 818 dL_law_714 (by decide) (fun _ => hn _ hS) (fun c => absurd e c)
set_option maxRecDepth 100000 in
set_option maxHeartbeats 4000000 in
theorem law_type {Z : Zt} {X : Xt} {b : Mem} {bs Ls i : Nat} {xs : Nat → Int32} (hX : Ok Z X cL_law 4 RL 12) (hs : SC Z X bs Ls xs) (hL : Ls ≤ 2048) (hi : i + 4 ≤ Ls) (h : SIM b) (hn : ∀ b2, SIM b2 → G Z X b2 818 (LL Z bs i) []) : G Z X b 719 (LL Z bs i) [] := by
  refine g_aload_1 hX dL_law_719 ?_
  refine g_aload_0 hX dL_law_720 ?_
  refine g_iload_3 hX dL_law_721 ?_
  refine g_iconst hX 1 dL_law_722 (by decide) ?_
  refine g_iadd hX dL_law_723 ?_
  refine g_sldS hX hs (i + 1) (nI_add i 1) (by omega) hL dL_law_724 ?_
  refine g_eV1i hX mkX5_type ml_L_101 (c_X5_type h.1) (ob_0 Z _) dL_law_725 rfl (by decide) (Nat.le_of_ble_eq_true rfl) (fun x1 b1 p1 => ?_)
  refine g_aload_2 hX dL_law_728 ?_
  refine g_aload_0 hX dL_law_729 ?_
  refine g_iload_3 hX dL_law_730 ?_
  refine g_iconst hX 1 dL_law_731 (by decide) ?_
  refine g_iadd hX dL_law_732 ?_
  refine g_sldS hX hs (i + 1) (nI_add i 1) (by omega) hL dL_law_733 ?_
  obtain ⟨⟨ht, hm⟩, e, hS⟩ := pr_type h p1
  refine g_cV1r hX mkX6_type ml_L_104 (c_X6_type ht hm) (ob_69 Z _) dL_law_734 rfl (by decide) (Nat.le_of_ble_eq_true rfl) ?_
  exact g_icmp_eq hX 818 dL_law_737 (by decide) (fun _ => hn _ hS) (fun c => absurd e c)
set_option maxRecDepth 100000 in
set_option maxHeartbeats 4000000 in
theorem law_clear {Z : Zt} {X : Xt} {b : Mem} {bs Ls i : Nat} {xs : Nat → Int32} (hX : Ok Z X cL_law 4 RL 12) (hs : SC Z X bs Ls xs) (hL : Ls ≤ 2048) (hi : i + 4 ≤ Ls) (h : SIM b) (hn : ∀ b2, SIM b2 → G Z X b2 818 (LL Z bs i) []) : G Z X b 742 (LL Z bs i) [] := by
  refine g_aload_1 hX dL_law_742 ?_
  refine g_eV0i hX mkX5_clear ml_L_105 (c_X5_clear h.1) (ob_0 Z _) dL_law_743 rfl (by decide) (Nat.le_of_ble_eq_true rfl) (fun x1 b1 p1 => ?_)
  refine g_aload_2 hX dL_law_746 ?_
  obtain ⟨e, hS⟩ := pr_clear h p1
  refine g_cV0r hX mkX6_clear ml_L_108 c_X6_clear (ob_69 Z _) dL_law_747 rfl (by decide) (Nat.le_of_ble_eq_true rfl) ?_
  exact g_icmp_eq hX 818 dL_law_750 (by decide) (fun _ => hn _ hS) (fun c => absurd e c)
set_option maxRecDepth 100000 in
set_option maxHeartbeats 4000000 in
theorem law_does {Z : Zt} {X : Xt} {b : Mem} {bs Ls i : Nat} {xs : Nat → Int32} (hX : Ok Z X cL_law 4 RL 12) (hs : SC Z X bs Ls xs) (hL : Ls ≤ 2048) (hi : i + 4 ≤ Ls) (h : SIM b) (hn : ∀ b2, SIM b2 → G Z X b2 818 (LL Z bs i) []) : G Z X b 755 (LL Z bs i) [] := by
  refine g_aload_1 hX dL_law_755 ?_
  refine g_eV0i hX mkX5_does ml_L_109 (c_X5_does h.1) (ob_0 Z _) dL_law_756 rfl (by decide) (Nat.le_of_ble_eq_true rfl) (fun x1 b1 p1 => ?_)
  refine g_aload_2 hX dL_law_759 ?_
  obtain ⟨d1, d2, d3, d4, d5, d6, d7, d8⟩ := h.does_pre p1
  refine g_eV0i hX mkX6_does ml_L_112 (c_X6_does d1 d2 d3 d4 d5 d6 d7 d8) (ob_69 Z _) dL_law_760 rfl (by decide) (Nat.le_of_ble_eq_true rfl) (fun x2 b2 p2 => ?_)
  obtain ⟨e, hS⟩ := h.does p1 p2
  exact g_icmp_eq hX 818 dL_law_763 (by decide) (fun _ => hn _ hS) (fun c => absurd e c)
set_option maxRecDepth 100000 in
set_option maxHeartbeats 4000000 in
theorem law_back {Z : Zt} {X : Xt} {b : Mem} {bs Ls i : Nat} {xs : Nat → Int32} (hX : Ok Z X cL_law 4 RL 12) (hs : SC Z X bs Ls xs) (hL : Ls ≤ 2048) (hi : i + 4 ≤ Ls) (h : SIM b) (hn : ∀ b2, SIM b2 → G Z X b2 818 (LL Z bs i) []) : G Z X b 768 (LL Z bs i) [] := by
  refine g_aload_1 hX dL_law_768 ?_
  refine g_eV0i hX mkX5_back ml_L_113 (c_X5_back h.1) (ob_0 Z _) dL_law_769 rfl (by decide) (Nat.le_of_ble_eq_true rfl) (fun x1 b1 p1 => ?_)
  refine g_aload_2 hX dL_law_772 ?_
  obtain ⟨⟨h3, h5⟩, e, hS⟩ := pr_back h p1
  refine g_cV0r hX mkX6_back ml_L_116 (c_X6_back h3 h5) (ob_69 Z _) dL_law_773 rfl (by decide) (Nat.le_of_ble_eq_true rfl) ?_
  exact g_icmp_eq hX 818 dL_law_776 (by decide) (fun _ => hn _ hS) (fun c => absurd e c)
set_option maxRecDepth 100000 in
set_option maxHeartbeats 4000000 in
theorem law_told {Z : Zt} {X : Xt} {b : Mem} {bs Ls i : Nat} {xs : Nat → Int32} (hX : Ok Z X cL_law 4 RL 12) (hs : SC Z X bs Ls xs) (hL : Ls ≤ 2048) (hi : i + 4 ≤ Ls) (h : SIM b) (hn : ∀ b2, SIM b2 → G Z X b2 818 (LL Z bs i) []) : G Z X b 781 (LL Z bs i) [] := by
  refine g_aload_1 hX dL_law_781 ?_
  refine g_aload_0 hX dL_law_782 ?_
  refine g_iload_3 hX dL_law_783 ?_
  refine g_iconst hX 1 dL_law_784 (by decide) ?_
  refine g_iadd hX dL_law_785 ?_
  refine g_sldS hX hs (i + 1) (nI_add i 1) (by omega) hL dL_law_786 ?_
  refine g_eV1i hX mkX5_told ml_L_117 (c_X5_told h.1) (ob_0 Z _) dL_law_787 rfl (by decide) (Nat.le_of_ble_eq_true rfl) (fun x1 b1 p1 => ?_)
  refine g_aload_2 hX dL_law_790 ?_
  refine g_aload_0 hX dL_law_791 ?_
  refine g_iload_3 hX dL_law_792 ?_
  refine g_iconst hX 1 dL_law_793 (by decide) ?_
  refine g_iadd hX dL_law_794 ?_
  refine g_sldS hX hs (i + 1) (nI_add i 1) (by omega) hL dL_law_795 ?_
  refine g_eV1i hX mkX6_told ml_L_120 c_X6_told (ob_69 Z _) dL_law_796 rfl (by decide) (Nat.le_of_ble_eq_true rfl) (fun x2 b2 p2 => ?_)
  obtain ⟨e, hS⟩ := pr_told h p1 p2
  exact g_icmp_eq hX 818 dL_law_799 (by decide) (fun _ => hn _ hS) (fun c => absurd e c)
set_option maxRecDepth 100000 in
set_option maxHeartbeats 4000000 in
theorem law_digest {Z : Zt} {X : Xt} {b : Mem} {bs Ls i : Nat} {xs : Nat → Int32} (hX : Ok Z X cL_law 4 RL 12) (hs : SC Z X bs Ls xs) (hL : Ls ≤ 2048) (hi : i + 4 ≤ Ls) (h : SIM b) (hn : ∀ b2, SIM b2 → G Z X b2 818 (LL Z bs i) []) : G Z X b 804 (LL Z bs i) [] := by
  refine g_aload_1 hX dL_law_804 ?_
  refine g_eV0l hX mkX5_digest ml_L_121 (c_X5_digest h.1) (ob_0 Z _) dL_law_805 rfl (by decide) (Nat.le_of_ble_eq_true rfl) (fun x1 b1 p1 => ?_)
  refine g_aload_2 hX dL_law_808 ?_
  refine g_eV0l hX mkX6_digest ml_L_125 (c_X6_digest (h.k p1.2).2) (ob_69 Z _) dL_law_809 rfl (by decide) (Nat.le_of_ble_eq_true rfl) (fun x2 b2 p2 => ?_)
  obtain ⟨e, hS⟩ := pr_digest h p1 p2
  refine g_lcmp hX dL_law_812 ?_
  exact g_if_eq hX 818 dL_law_813 (by decide) (fun _ => hn _ hS) (fun c => absurd (cmp0 e) c)
set_option maxRecDepth 100000 in
set_option maxHeartbeats 4000000 in
theorem law_loop {Z : Zt} {X : Xt} {bs Ls : Nat} {xs : Nat → Int32} (hX : Ok Z X cL_law 4 RL 12) (hs : SC Z X bs Ls xs) (hL : Ls ≤ 2048) (hq : ∀ (pc : Nat) (L : List (Option Value)) (bb : Mem), decode cL_law pc = .ok (.ireturn, 1) → G Z X bb pc L [.int 1]) : ∀ n i b, Ls < i + n → i ≤ 2100 → SIM b → G Z X b 18 (LL Z bs i) [] := by
  intro n
  induction n with
  | zero =>
    intro i b hn hi h
    refine g_iload_3 hX dL_law_18 ?_
    refine g_aload_0 hX dL_law_19 ?_
    refine g_slenS hX hs dL_law_20 ?_
    refine g_iconst hX 4 dL_law_21 (by decide) ?_
    refine g_isub hX dL_law_22 ?_
    refine g_icmp_gt hX 824 dL_law_23 (by decide) (fun _ => ?_) (fun c => ?_)
    · refine g_iconst hX 1 dL_law_824 (by decide) ?_
      exact hq _ _ _ dL_law_825
    · have := lhd_go hL (by omega) c
      omega
  | succ n ih =>
    intro i b hn hi h
    refine g_iload_3 hX dL_law_18 ?_
    refine g_aload_0 hX dL_law_19 ?_
    refine g_slenS hX hs dL_law_20 ?_
    refine g_iconst hX 4 dL_law_21 (by decide) ?_
    refine g_isub hX dL_law_22 ?_
    refine g_icmp_gt hX 824 dL_law_23 (by decide) (fun _ => ?_) (fun c => ?_)
    · refine g_iconst hX 1 dL_law_824 (by decide) ?_
      exact hq _ _ _ dL_law_825
    · have hi4 := lhd_go hL (by omega) c
      have hnx : ∀ b2, SIM b2 → G Z X b2 818 (LL Z bs i) [] := by
        intro b2 h2
        refine g_iinc_3 hX 4 dL_law_818 (by decide) rfl ?_
        refine g_goto hX 18 dL_law_821 (by decide) ?_
        exact g_cast (ih (i + 4) b2 (by omega) (by omega) h2) rfl (by unfold LL; rw [← nI_add i 4]; rfl) rfl
      refine g_aload_0 hX dL_law_26 ?_
      refine g_iload_3 hX dL_law_27 ?_
      refine g_sldS hX hs i rfl (by omega) hL dL_law_28 ?_
      refine g_bipush hX 31 dL_law_29 (by decide) ?_
      refine g_iand hX dL_law_31 ?_
      obtain ⟨k, hk, ek⟩ := and31 (xs i)
      rw [ek]
      rcases (show k = 0 ∨ k = 1 ∨ k = 2 ∨ k = 3 ∨ k = 4 ∨ k = 5 ∨ k = 6 ∨ k = 7 ∨ k = 8 ∨ k = 9 ∨ k = 10 ∨ k = 11 ∨ k = 12 ∨ k = 13 ∨ k = 14 ∨ k = 15 ∨ k = 16 ∨ k = 17 ∨ k = 18 ∨ k = 19 ∨ k = 20 ∨ k = 21 ∨ k = 22 ∨ k = 23 ∨ k = 24 ∨ k = 25 ∨ k = 26 ∨ 27 ≤ k by omega) with rfl | rfl | rfl | rfl | rfl | rfl | rfl | rfl | rfl | rfl | rfl | rfl | rfl | rfl | rfl | rfl | rfl | rfl | rfl | rfl | rfl | rfl | rfl | rfl | rfl | rfl | rfl | hbig
      · exact g_tableIn hX 156 dL_law_32 (by decide) (by decide) (off := 124) (by decide +kernel) (by decide) (law_line hX hs hL hi4 h hnx)
      · exact g_tableIn hX 179 dL_law_32 (by decide) (by decide) (off := 147) (by decide +kernel) (by decide) (law_goes hX hs hL hi4 h hnx)
      · exact g_tableIn hX 222 dL_law_32 (by decide) (by decide) (off := 190) (by decide +kernel) (by decide) (law_shortens hX hs hL hi4 h hnx)
      · exact g_tableIn hX 245 dL_law_32 (by decide) (by decide) (off := 213) (by decide +kernel) (by decide) (law_pocket hX hs hL hi4 h hnx)
      · exact g_tableIn hX 278 dL_law_32 (by decide) (by decide) (off := 246) (by decide +kernel) (by decide) (law_widens hX hs hL hi4 h hnx)
      · exact g_tableIn hX 311 dL_law_32 (by decide) (by decide) (off := 279) (by decide +kernel) (by decide) (law_touches hX hs hL hi4 h hnx)
      · exact g_tableIn hX 344 dL_law_32 (by decide) (by decide) (off := 312) (by decide +kernel) (by decide) (law_sets hX hs hL hi4 h hnx)
      · exact g_tableIn hX 377 dL_law_32 (by decide) (by decide) (off := 345) (by decide +kernel) (by decide) (law_of hX hs hL hi4 h hnx)
      · exact g_tableIn hX 410 dL_law_32 (by decide) (by decide) (off := 378) (by decide +kernel) (by decide) (law_run hX hs hL hi4 h hnx)
      · exact g_tableIn hX 453 dL_law_32 (by decide) (by decide) (off := 421) (by decide +kernel) (by decide) (law_about hX hs hL hi4 h hnx)
      · exact g_tableIn hX 486 dL_law_32 (by decide) (by decide) (off := 454) (by decide +kernel) (by decide) (law_setting hX hs hL hi4 h hnx)
      · exact g_tableIn hX 509 dL_law_32 (by decide) (by decide) (off := 477) (by decide +kernel) (by decide) (law_count hX hs hL hi4 h hnx)
      · exact g_tableIn hX 532 dL_law_32 (by decide) (by decide) (off := 500) (by decide +kernel) (by decide) (law_draws hX hs hL hi4 h hnx)
      · exact g_tableIn hX 565 dL_law_32 (by decide) (by decide) (off := 533) (by decide +kernel) (by decide) (law_length hX hs hL hi4 h hnx)
      · exact g_tableIn hX 588 dL_law_32 (by decide) (by decide) (off := 556) (by decide +kernel) (by decide) (law_blocked hX hs hL hi4 h hnx)
      · exact g_tableIn hX 601 dL_law_32 (by decide) (by decide) (off := 569) (by decide +kernel) (by decide) (law_can hX hs hL hi4 h hnx)
      · exact g_tableIn hX 624 dL_law_32 (by decide) (by decide) (off := 592) (by decide +kernel) (by decide) (law_least hX hs hL hi4 h hnx)
      · exact g_tableIn hX 637 dL_law_32 (by decide) (by decide) (off := 605) (by decide +kernel) (by decide) (law_greatest hX hs hL hi4 h hnx)
      · exact g_tableIn hX 650 dL_law_32 (by decide) (by decide) (off := 618) (by decide +kernel) (by decide) (law_more hX hs hL hi4 h hnx)
      · exact g_tableIn hX 663 dL_law_32 (by decide) (by decide) (off := 631) (by decide +kernel) (by decide) (law_bumps hX hs hL hi4 h hnx)
      · exact g_tableIn hX 686 dL_law_32 (by decide) (by decide) (off := 654) (by decide +kernel) (by decide) (law_skew hX hs hL hi4 h hnx)
      · exact g_tableIn hX 719 dL_law_32 (by decide) (by decide) (off := 687) (by decide +kernel) (by decide) (law_type hX hs hL hi4 h hnx)
      · exact g_tableIn hX 742 dL_law_32 (by decide) (by decide) (off := 710) (by decide +kernel) (by decide) (law_clear hX hs hL hi4 h hnx)
      · exact g_tableIn hX 755 dL_law_32 (by decide) (by decide) (off := 723) (by decide +kernel) (by decide) (law_does hX hs hL hi4 h hnx)
      · exact g_tableIn hX 768 dL_law_32 (by decide) (by decide) (off := 736) (by decide +kernel) (by decide) (law_back hX hs hL hi4 h hnx)
      · exact g_tableIn hX 781 dL_law_32 (by decide) (by decide) (off := 749) (by decide +kernel) (by decide) (law_told hX hs hL hi4 h hnx)
      · exact g_tableIn hX 804 dL_law_32 (by decide) (by decide) (off := 772) (by decide +kernel) (by decide) (law_digest hX hs hL hi4 h hnx)
      · refine g_tableOut hX 818 dL_law_32 (Or.inr ?_) (by decide) (hnx b h)
        rw [nI_toInt (by omega)]; omega
