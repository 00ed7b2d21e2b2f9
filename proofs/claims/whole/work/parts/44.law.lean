/-! ===== the law, command by command ===== -/
section LawGo
variable {p : Program} {l : Launch} {e : Env} {s : State} {m : MethodId} {below : List Frame} {meth : Method} {c : Code} {b L : Nat} {xs : Nat → Int32} {D : va_G} {cI cB : ClassId} {aC aM : Nat → Nat} {Z : State → Prop} {i pc : Nat} {st : List Value} {wc wm : List ac_T}
theorem lv_lcmp0 {R : Room} {args : Array Value} {H : Heap} {locs : List Loc} {cells slots : Nat} {Q : State → Prop} {ls : Array Slot} {rest : List Value} {cc : ByteArray} (hexec : p.tables.exec = Jvm.exec) (hb : c.code = cc) {x : Int64} (hdg : decode cc pc = .ok (.lcmp, 1))
    (k : W p l e R s m args below meth c H locs cells slots Q (F0 m (pc + 1) ls (.int 0 :: rest))) : W p l e R s m args below meth c H locs cells slots Q (F0 m pc ls (.long x :: .long x :: rest)) := by
  intro T hT X
  obtain ⟨t, a, b⟩ := k T hT X
  refine ⟨t, ?_, b⟩
  jvm_step X.here [X.here.top, hexec, hb, hdg]
  simpa using a
theorem lr_lcmp {z : Int64} (C : lc_C p s m meth c b L xs D cI cB aC aM) (hd : decode code pc = .ok (.lcmp, 1)) (k : LW p l e s m below meth c b D cI cB aC aM Z i (pc + 1) (.int 0 :: st) wc wm) : LW p l e s m below meth c b D cI cB aC aM Z i pc (.long z :: .long z :: st) wc wm := by
  intro H locs ls h1 h2 h3 h4 hl
  exact lv_lcmp0 C.1 C.2.1 hd (k H locs ls h1 h2 h3 h4 hl)
theorem CW_0 {S : st_T} {w : List ac_T} (h : CW S w) : ∃ fs, w[0]? = some (.inr (8, fs)) := by
  obtain ⟨rd, ⟨pl, pc⟩, ⟨ra, up, f0, su, nn, wk, ki, we, ow, fr, of⟩, ⟨oc, oa, ob, os⟩, ik, t1, o1⟩ := S
  obtain ⟨t2, x, -, -, rfl⟩ := h
  exact ⟨_, rfl⟩
theorem MW_0 {S : st_T} {w : List ac_T} (h : MW S w) : ∃ fs, w[0]? = some (.inr (9, fs)) := by
  obtain ⟨rd, ⟨pl, pc⟩, ⟨ra, up, f0, su, nn, wk, ki, we, ow, fr, of⟩, ⟨oc, oa, ob, os⟩, ik, t1, o1⟩ := S
  obtain ⟨k2, w2, o2, f2, x2, K, y, -, -, -, rfl⟩ := h
  exact ⟨_, rfl⟩
/-- behind a command -/
abbrev lx_K (p : Program) (l : Launch) (e : Env) (s : State) (m : MethodId) (below : List Frame) (meth : Method) (c : Code) (b : Nat) (D : va_G) (cI cB : ClassId) (aC aM : Nat → Nat) (Z : State → Prop) (i : Nat) : Prop := ∀ (S : st_T) (wc wm : List ac_T), iS S → CW S wc → MW S wm → LW p l e s m below meth c b D cI cB aC aM Z i 954 [] wc wm
set_option maxHeartbeats 4000000 in
theorem lx_letter (C : lc_C p s m meth c b L xs D cI cB aC aM) (hi : i + 6 ≤ L) (hL : L ≤ 3072) {S : st_T} (hI : iS S) (hCW : CW S wc) (hMW : MW S wm) (K : lx_K p l e s m below meth c b D cI cB aC aM Z i) : LW p l e s m below meth c b D cI cB aC aM Z i 156 [] wc wm := by
  obtain ⟨v, S2, hI2, hC, hM⟩ := g_letter hI hCW hMW (xs (i + 1))
  obtain ⟨fsC, hwC⟩ := CW_0 hCW
  obtain ⟨fsM, hwM⟩ := MW_0 hMW
  refine lr_al1 C dL_law_156 ?_
  refine lr_arg (j := 1) C rfl (by omega) hL dL_law_157 dL_law_158 dL_law_159 dL_law_160 dL_law_161 ?_
  refine lc_callC (d1 := 8) (as := [.int (xs (i + 1))]) C hwC rfl hC gq_274 gq_275 gq_276 gq_44 gq_277 (by show _ ≠ _ ∧ _ ≠ _ ∧ _ = some 1; decide +kernel) dL_law_162 (by decide) (by decide) (Nat.le_of_ble_eq_true rfl) rfl (fun r w1 q => ?_)
  obtain ⟨rfl, qC⟩ := q
  refine lr_al2 C dL_law_165 ?_
  refine lr_arg (j := 1) C rfl (by omega) hL dL_law_166 dL_law_167 dL_law_168 dL_law_169 dL_law_170 ?_
  refine lc_callM (d1 := 8) (as := [.int (xs (i + 1))]) C hwM rfl hM gq_779 gq_780 gq_781 gq_53 gq_782 (by show _ ≠ _ ∧ _ ≠ _ ∧ _ = some 1; decide +kernel) dL_law_171 (by decide) (by decide) (Nat.le_of_ble_eq_true rfl) rfl (fun r w1 q => ?_)
  obtain ⟨rfl, qM⟩ := q
  refine lr_same 954 C dL_law_174 (by decide) ?_
  exact K S2 _ _ hI2 qC qM
set_option maxHeartbeats 4000000 in
theorem lx_blank (C : lc_C p s m meth c b L xs D cI cB aC aM) (hi : i + 6 ≤ L) (hL : L ≤ 3072) {S : st_T} (hI : iS S) (hCW : CW S wc) (hMW : MW S wm) (K : lx_K p l e s m below meth c b D cI cB aC aM Z i) : LW p l e s m below meth c b D cI cB aC aM Z i 179 [] wc wm := by
  obtain ⟨v, S2, hI2, hC, hM⟩ := g_blank hI hCW hMW 
  obtain ⟨fsC, hwC⟩ := CW_0 hCW
  obtain ⟨fsM, hwM⟩ := MW_0 hMW
  refine lr_al1 C dL_law_179 ?_
  refine lc_callC (d1 := 8) (as := []) C hwC rfl hC gq_285 gq_286 gq_287 gq_44 gq_288 (by show _ ≠ _ ∧ _ ≠ _ ∧ _ = some 0; decide +kernel) dL_law_180 (by decide) (by decide) (Nat.le_of_ble_eq_true rfl) rfl (fun r w1 q => ?_)
  obtain ⟨rfl, qC⟩ := q
  refine lr_al2 C dL_law_183 ?_
  refine lc_callM (d1 := 8) (as := []) C hwM rfl hM gq_786 gq_787 gq_788 gq_53 gq_789 (by show _ ≠ _ ∧ _ ≠ _ ∧ _ = some 0; decide +kernel) dL_law_184 (by decide) (by decide) (Nat.le_of_ble_eq_true rfl) rfl (fun r w1 q => ?_)
  obtain ⟨rfl, qM⟩ := q
  refine lr_same 954 C dL_law_187 (by decide) ?_
  exact K S2 _ _ hI2 qC qM
set_option maxHeartbeats 4000000 in
theorem lx_fault (C : lc_C p s m meth c b L xs D cI cB aC aM) (hi : i + 6 ≤ L) (hL : L ≤ 3072) {S : st_T} (hI : iS S) (hCW : CW S wc) (hMW : MW S wm) (K : lx_K p l e s m below meth c b D cI cB aC aM Z i) : LW p l e s m below meth c b D cI cB aC aM Z i 192 [] wc wm := by
  obtain ⟨v, S2, hI2, hC, hM⟩ := g_fault hI hCW hMW 
  obtain ⟨fsC, hwC⟩ := CW_0 hCW
  obtain ⟨fsM, hwM⟩ := MW_0 hMW
  refine lr_al1 C dL_law_192 ?_
  refine lc_callC (d1 := 8) (as := []) C hwC rfl hC gq_289 gq_290 gq_291 gq_44 gq_292 (by show _ ≠ _ ∧ _ ≠ _ ∧ _ = some 0; decide +kernel) dL_law_193 (by decide) (by decide) (Nat.le_of_ble_eq_true rfl) rfl (fun r w1 q => ?_)
  obtain ⟨rfl, qC⟩ := q
  refine lr_al2 C dL_law_196 ?_
  refine lc_callM (d1 := 8) (as := []) C hwM rfl hM gq_790 gq_791 gq_792 gq_53 gq_793 (by show _ ≠ _ ∧ _ ≠ _ ∧ _ = some 0; decide +kernel) dL_law_197 (by decide) (by decide) (Nat.le_of_ble_eq_true rfl) rfl (fun r w1 q => ?_)
  obtain ⟨rfl, qM⟩ := q
  refine lr_same 954 C dL_law_200 (by decide) ?_
  exact K S2 _ _ hI2 qC qM
set_option maxHeartbeats 4000000 in
theorem lx_law (C : lc_C p s m meth c b L xs D cI cB aC aM) (hi : i + 6 ≤ L) (hL : L ≤ 3072) {S : st_T} (hI : iS S) (hCW : CW S wc) (hMW : MW S wm) (K : lx_K p l e s m below meth c b D cI cB aC aM Z i) : LW p l e s m below meth c b D cI cB aC aM Z i 205 [] wc wm := by
  obtain ⟨v, S2, hI2, hC, hM⟩ := g_law hI hCW hMW 
  obtain ⟨fsC, hwC⟩ := CW_0 hCW
  obtain ⟨fsM, hwM⟩ := MW_0 hMW
  refine lr_al1 C dL_law_205 ?_
  refine lc_callC (d1 := 8) (as := []) C hwC rfl hC gq_306 gq_307 gq_308 gq_44 gq_309 (by show _ ≠ _ ∧ _ ≠ _ ∧ _ = some 0; decide +kernel) dL_law_206 (by decide) (by decide) (Nat.le_of_ble_eq_true rfl) rfl (fun r w1 q => ?_)
  obtain ⟨rfl, qC⟩ := q
  refine lr_al2 C dL_law_209 ?_
  refine lc_callM (d1 := 8) (as := []) C hwM rfl hM gq_802 gq_803 gq_804 gq_53 gq_805 (by show _ ≠ _ ∧ _ ≠ _ ∧ _ = some 0; decide +kernel) dL_law_210 (by decide) (by decide) (Nat.le_of_ble_eq_true rfl) rfl (fun r w1 q => ?_)
  obtain ⟨rfl, qM⟩ := q
  refine lr_same 954 C dL_law_213 (by decide) ?_
  exact K S2 _ _ hI2 qC qM
set_option maxHeartbeats 4000000 in
theorem lx_person (C : lc_C p s m meth c b L xs D cI cB aC aM) (hi : i + 6 ≤ L) (hL : L ≤ 3072) {S : st_T} (hI : iS S) (hCW : CW S wc) (hMW : MW S wm) (K : lx_K p l e s m below meth c b D cI cB aC aM Z i) : LW p l e s m below meth c b D cI cB aC aM Z i 218 [] wc wm := by
  obtain ⟨v, S2, hI2, hC, hM⟩ := g_person hI hCW hMW (xs (i + 1)) (xs (i + 2))
  obtain ⟨fsC, hwC⟩ := CW_0 hCW
  obtain ⟨fsM, hwM⟩ := MW_0 hMW
  refine lr_al1 C dL_law_218 ?_
  refine lr_arg (j := 1) C rfl (by omega) hL dL_law_219 dL_law_220 dL_law_221 dL_law_222 dL_law_223 ?_
  refine lr_arg (j := 2) C rfl (by omega) hL dL_law_224 dL_law_225 dL_law_226 dL_law_227 dL_law_228 ?_
  refine lc_callC (d1 := 8) (as := [.int (xs (i + 1)), .int (xs (i + 2))]) C hwC rfl hC gq_320 gq_321 gq_322 gq_44 gq_323 (by show _ ≠ _ ∧ _ ≠ _ ∧ _ = some 2; decide +kernel) dL_law_229 (by decide) (by decide) (Nat.le_of_ble_eq_true rfl) rfl (fun r w1 q => ?_)
  obtain ⟨rfl, qC⟩ := q
  refine lr_al2 C dL_law_232 ?_
  refine lr_arg (j := 1) C rfl (by omega) hL dL_law_233 dL_law_234 dL_law_235 dL_law_236 dL_law_237 ?_
  refine lr_arg (j := 2) C rfl (by omega) hL dL_law_238 dL_law_239 dL_law_240 dL_law_241 dL_law_242 ?_
  refine lc_callM (d1 := 8) (as := [.int (xs (i + 1)), .int (xs (i + 2))]) C hwM rfl hM gq_806 gq_807 gq_808 gq_53 gq_809 (by show _ ≠ _ ∧ _ ≠ _ ∧ _ = some 2; decide +kernel) dL_law_243 (by decide) (by decide) (Nat.le_of_ble_eq_true rfl) rfl (fun r w1 q => ?_)
  obtain ⟨rfl, qM⟩ := q
  refine lr_same 954 C dL_law_246 (by decide) ?_
  exact K S2 _ _ hI2 qC qM
set_option maxHeartbeats 4000000 in
theorem lx_about (C : lc_C p s m meth c b L xs D cI cB aC aM) (hi : i + 6 ≤ L) (hL : L ≤ 3072) {S : st_T} (hI : iS S) (hCW : CW S wc) (hMW : MW S wm) (K : lx_K p l e s m below meth c b D cI cB aC aM Z i) : LW p l e s m below meth c b D cI cB aC aM Z i 251 [] wc wm := by
  obtain ⟨v, S2, hI2, hC, hM⟩ := g_about hI hCW hMW (xs (i + 1)) (xs (i + 2))
  obtain ⟨fsC, hwC⟩ := CW_0 hCW
  obtain ⟨fsM, hwM⟩ := MW_0 hMW
  refine lr_al1 C dL_law_251 ?_
  refine lr_arg (j := 1) C rfl (by omega) hL dL_law_252 dL_law_253 dL_law_254 dL_law_255 dL_law_256 ?_
  refine lr_arg (j := 2) C rfl (by omega) hL dL_law_257 dL_law_258 dL_law_259 dL_law_260 dL_law_261 ?_
  refine lc_callC (d1 := 8) (as := [.int (xs (i + 1)), .int (xs (i + 2))]) C hwC rfl hC gq_333 gq_334 gq_335 gq_44 gq_336 (by show _ ≠ _ ∧ _ ≠ _ ∧ _ = some 2; decide +kernel) dL_law_262 (by decide) (by decide) (Nat.le_of_ble_eq_true rfl) rfl (fun r w1 q => ?_)
  obtain ⟨rfl, qC⟩ := q
  refine lr_al2 C dL_law_265 ?_
  refine lr_arg (j := 1) C rfl (by omega) hL dL_law_266 dL_law_267 dL_law_268 dL_law_269 dL_law_270 ?_
  refine lr_arg (j := 2) C rfl (by omega) hL dL_law_271 dL_law_272 dL_law_273 dL_law_274 dL_law_275 ?_
  refine lc_callM (d1 := 8) (as := [.int (xs (i + 1)), .int (xs (i + 2))]) C hwM rfl hM gq_814 gq_815 gq_816 gq_53 gq_817 (by show _ ≠ _ ∧ _ ≠ _ ∧ _ = some 2; decide +kernel) dL_law_276 (by decide) (by decide) (Nat.le_of_ble_eq_true rfl) rfl (fun r w1 q => ?_)
  obtain ⟨rfl, qM⟩ := q
  refine lr_same 954 C dL_law_279 (by decide) ?_
  exact K S2 _ _ hI2 qC qM
set_option maxHeartbeats 4000000 in
theorem lx_as (C : lc_C p s m meth c b L xs D cI cB aC aM) (hi : i + 6 ≤ L) (hL : L ≤ 3072) {S : st_T} (hI : iS S) (hCW : CW S wc) (hMW : MW S wm) (K : lx_K p l e s m below meth c b D cI cB aC aM Z i) : LW p l e s m below meth c b D cI cB aC aM Z i 284 [] wc wm := by
  obtain ⟨v, S2, hI2, hC, hM⟩ := g_as hI hCW hMW (xs (i + 1)) (xs (i + 2))
  obtain ⟨fsC, hwC⟩ := CW_0 hCW
  obtain ⟨fsM, hwM⟩ := MW_0 hMW
  refine lr_al1 C dL_law_284 ?_
  refine lr_arg (j := 1) C rfl (by omega) hL dL_law_285 dL_law_286 dL_law_287 dL_law_288 dL_law_289 ?_
  refine lr_arg (j := 2) C rfl (by omega) hL dL_law_290 dL_law_291 dL_law_292 dL_law_293 dL_law_294 ?_
  refine lc_callC (d1 := 8) (as := [.int (xs (i + 1)), .int (xs (i + 2))]) C hwC rfl hC gq_366 gq_367 gq_368 gq_44 gq_369 (by show _ ≠ _ ∧ _ ≠ _ ∧ _ = some 2; decide +kernel) dL_law_295 (by decide) (by decide) (Nat.le_of_ble_eq_true rfl) rfl (fun r w1 q => ?_)
  obtain ⟨rfl, qC⟩ := q
  refine lr_al2 C dL_law_298 ?_
  refine lr_arg (j := 1) C rfl (by omega) hL dL_law_299 dL_law_300 dL_law_301 dL_law_302 dL_law_303 ?_
  refine lr_arg (j := 2) C rfl (by omega) hL dL_law_304 dL_law_305 dL_law_306 dL_law_307 dL_law_308 ?_
  refine lc_callM (d1 := 8) (as := [.int (xs (i + 1)), .int (xs (i + 2))]) C hwM rfl hM gq_838 gq_839 gq_840 gq_53 gq_841 (by show _ ≠ _ ∧ _ ≠ _ ∧ _ = some 2; decide +kernel) dL_law_309 (by decide) (by decide) (Nat.le_of_ble_eq_true rfl) rfl (fun r w1 q => ?_)
  obtain ⟨rfl, qM⟩ := q
  refine lr_same 954 C dL_law_312 (by decide) ?_
  exact K S2 _ _ hI2 qC qM
set_option maxHeartbeats 4000000 in
theorem lx_between (C : lc_C p s m meth c b L xs D cI cB aC aM) (hi : i + 6 ≤ L) (hL : L ≤ 3072) {S : st_T} (hI : iS S) (hCW : CW S wc) (hMW : MW S wm) (K : lx_K p l e s m below meth c b D cI cB aC aM Z i) : LW p l e s m below meth c b D cI cB aC aM Z i 317 [] wc wm := by
  obtain ⟨v, S2, hI2, hC, hM⟩ := g_between hI hCW hMW (xs (i + 1)) (xs (i + 2)) (xs (i + 3))
  obtain ⟨fsC, hwC⟩ := CW_0 hCW
  obtain ⟨fsM, hwM⟩ := MW_0 hMW
  refine lr_al1 C dL_law_317 ?_
  refine lr_arg (j := 1) C rfl (by omega) hL dL_law_318 dL_law_319 dL_law_320 dL_law_321 dL_law_322 ?_
  refine lr_arg (j := 2) C rfl (by omega) hL dL_law_323 dL_law_324 dL_law_325 dL_law_326 dL_law_327 ?_
  refine lr_arg (j := 3) C rfl (by omega) hL dL_law_328 dL_law_329 dL_law_330 dL_law_331 dL_law_332 ?_
  refine lc_callC (d1 := 8) (as := [.int (xs (i + 1)), .int (xs (i + 2)), .int (xs (i + 3))]) C hwC rfl hC gq_385 gq_386 gq_387 gq_44 gq_388 (by show _ ≠ _ ∧ _ ≠ _ ∧ _ = some 3; decide +kernel) dL_law_333 (by decide) (by decide) (Nat.le_of_ble_eq_true rfl) rfl (fun r w1 q => ?_)
  obtain ⟨rfl, qC⟩ := q
  refine lr_al2 C dL_law_336 ?_
  refine lr_arg (j := 1) C rfl (by omega) hL dL_law_337 dL_law_338 dL_law_339 dL_law_340 dL_law_341 ?_
  refine lr_arg (j := 2) C rfl (by omega) hL dL_law_342 dL_law_343 dL_law_344 dL_law_345 dL_law_346 ?_
  refine lr_arg (j := 3) C rfl (by omega) hL dL_law_347 dL_law_348 dL_law_349 dL_law_350 dL_law_351 ?_
  refine lc_callM (d1 := 8) (as := [.int (xs (i + 1)), .int (xs (i + 2)), .int (xs (i + 3))]) C hwM rfl hM gq_842 gq_843 gq_844 gq_53 gq_845 (by show _ ≠ _ ∧ _ ≠ _ ∧ _ = some 3; decide +kernel) dL_law_352 (by decide) (by decide) (Nat.le_of_ble_eq_true rfl) rfl (fun r w1 q => ?_)
  obtain ⟨rfl, qM⟩ := q
  refine lr_same 954 C dL_law_355 (by decide) ?_
  exact K S2 _ _ hI2 qC qM
set_option maxHeartbeats 4000000 in
theorem lx_favour (C : lc_C p s m meth c b L xs D cI cB aC aM) (hi : i + 6 ≤ L) (hL : L ≤ 3072) {S : st_T} (hI : iS S) (hCW : CW S wc) (hMW : MW S wm) (K : lx_K p l e s m below meth c b D cI cB aC aM Z i) : LW p l e s m below meth c b D cI cB aC aM Z i 360 [] wc wm := by
  obtain ⟨v, S2, hI2, hC, hM⟩ := g_favour hI hCW hMW (xs (i + 1)) (xs (i + 2)) (xs (i + 3)) (¬ xs (i + 4) = 0)
  obtain ⟨fsC, hwC⟩ := CW_0 hCW
  obtain ⟨fsM, hwM⟩ := MW_0 hMW
  have tkC : ∀ {st : List Value} {wc wm : List ac_T}, LW p l e s m below meth c b D cI cB aC aM Z i 389 (.int (bI (¬ xs (i + 4) = 0)) :: st) wc wm → LW p l e s m below meth c b D cI cB aC aM Z i 381 (.int (xs (i + 4)) :: st) wc wm := by
    intro st wc wm k
    refine lr_if0 388 C dL_law_381 (by decide) (fun h => ?_) (fun h => ?_)
    · refine lr_iconst (v := 0) C dL_law_388 (by decide) ?_
      rw [bI_f (fun z => z h)] at k
      exact k
    · refine lr_iconst (v := 1) C dL_law_384 (by decide) ?_
      refine lr_goto 389 C dL_law_385 (by decide) ?_
      rw [bI_t h] at k
      exact k
  have tkM : ∀ {st : List Value} {wc wm : List ac_T}, LW p l e s m below meth c b D cI cB aC aM Z i 421 (.int (bI (¬ xs (i + 4) = 0)) :: st) wc wm → LW p l e s m below meth c b D cI cB aC aM Z i 413 (.int (xs (i + 4)) :: st) wc wm := by
    intro st wc wm k
    refine lr_if0 420 C dL_law_413 (by decide) (fun h => ?_) (fun h => ?_)
    · refine lr_iconst (v := 0) C dL_law_420 (by decide) ?_
      rw [bI_f (fun z => z h)] at k
      exact k
    · refine lr_iconst (v := 1) C dL_law_416 (by decide) ?_
      refine lr_goto 421 C dL_law_417 (by decide) ?_
      rw [bI_t h] at k
      exact k
  refine lr_al1 C dL_law_360 ?_
  refine lr_arg (j := 1) C rfl (by omega) hL dL_law_361 dL_law_362 dL_law_363 dL_law_364 dL_law_365 ?_
  refine lr_arg (j := 2) C rfl (by omega) hL dL_law_366 dL_law_367 dL_law_368 dL_law_369 dL_law_370 ?_
  refine lr_arg (j := 3) C rfl (by omega) hL dL_law_371 dL_law_372 dL_law_373 dL_law_374 dL_law_375 ?_
  refine lr_arg (j := 4) C rfl (by omega) hL dL_law_376 dL_law_377 dL_law_378 dL_law_379 dL_law_380 ?_
  refine tkC ?_
  refine lc_callC (d1 := 8) (as := [.int (xs (i + 1)), .int (xs (i + 2)), .int (xs (i + 3)), .int (bI (¬ xs (i + 4) = 0))]) C hwC rfl hC gq_395 gq_396 gq_397 gq_44 gq_398 (by show _ ≠ _ ∧ _ ≠ _ ∧ _ = some 4; decide +kernel) dL_law_389 (by decide) (by decide) (Nat.le_of_ble_eq_true rfl) rfl (fun r w1 q => ?_)
  obtain ⟨rfl, qC⟩ := q
  refine lr_al2 C dL_law_392 ?_
  refine lr_arg (j := 1) C rfl (by omega) hL dL_law_393 dL_law_394 dL_law_395 dL_law_396 dL_law_397 ?_
  refine lr_arg (j := 2) C rfl (by omega) hL dL_law_398 dL_law_399 dL_law_400 dL_law_401 dL_law_402 ?_
  refine lr_arg (j := 3) C rfl (by omega) hL dL_law_403 dL_law_404 dL_law_405 dL_law_406 dL_law_407 ?_
  refine lr_arg (j := 4) C rfl (by omega) hL dL_law_408 dL_law_409 dL_law_410 dL_law_411 dL_law_412 ?_
  refine tkM ?_
  refine lc_callM (d1 := 8) (as := [.int (xs (i + 1)), .int (xs (i + 2)), .int (xs (i + 3)), .int (bI (¬ xs (i + 4) = 0))]) C hwM rfl hM gq_854 gq_855 gq_856 gq_53 gq_857 (by show _ ≠ _ ∧ _ ≠ _ ∧ _ = some 4; decide +kernel) dL_law_421 (by decide) (by decide) (Nat.le_of_ble_eq_true rfl) rfl (fun r w1 q => ?_)
  obtain ⟨rfl, qM⟩ := q
  refine lr_same 954 C dL_law_424 (by decide) ?_
  exact K S2 _ _ hI2 qC qM
set_option maxHeartbeats 4000000 in
theorem lx_week (C : lc_C p s m meth c b L xs D cI cB aC aM) (hi : i + 6 ≤ L) (hL : L ≤ 3072) {S : st_T} (hI : iS S) (hCW : CW S wc) (hMW : MW S wm) (K : lx_K p l e s m below meth c b D cI cB aC aM Z i) : LW p l e s m below meth c b D cI cB aC aM Z i 429 [] wc wm := by
  obtain ⟨v, S2, hI2, hC, hM⟩ := g_week hI hCW hMW 
  obtain ⟨fsC, hwC⟩ := CW_0 hCW
  obtain ⟨fsM, hwM⟩ := MW_0 hMW
  refine lr_al1 C dL_law_429 ?_
  refine lc_callC (d1 := 8) (as := []) C hwC rfl hC gq_421 gq_422 gq_423 gq_44 gq_424 (by show _ ≠ _ ∧ _ ≠ _ ∧ _ = some 0; decide +kernel) dL_law_430 (by decide) (by decide) (Nat.le_of_ble_eq_true rfl) rfl (fun r w1 q => ?_)
  obtain ⟨rfl, qC⟩ := q
  refine lr_al2 C dL_law_433 ?_
  refine lc_callM (d1 := 8) (as := []) C hwM rfl hM gq_876 gq_877 gq_878 gq_53 gq_879 (by show _ ≠ _ ∧ _ ≠ _ ∧ _ = some 0; decide +kernel) dL_law_434 (by decide) (by decide) (Nat.le_of_ble_eq_true rfl) rfl (fun r w1 q => ?_)
  obtain ⟨rfl, qM⟩ := q
  refine lr_same 954 C dL_law_437 (by decide) ?_
  exact K S2 _ _ hI2 qC qM
set_option maxHeartbeats 4000000 in
theorem lx_pay (C : lc_C p s m meth c b L xs D cI cB aC aM) (hi : i + 6 ≤ L) (hL : L ≤ 3072) {S : st_T} (hI : iS S) (hCW : CW S wc) (hMW : MW S wm) (K : lx_K p l e s m below meth c b D cI cB aC aM Z i) : LW p l e s m below meth c b D cI cB aC aM Z i 442 [] wc wm := by
  obtain ⟨v, S2, hI2, hC, hM⟩ := g_pay hI hCW hMW (xs (i + 1)) (xs (i + 2)) (xs (i + 3))
  obtain ⟨fsC, hwC⟩ := CW_0 hCW
  obtain ⟨fsM, hwM⟩ := MW_0 hMW
  refine lr_al1 C dL_law_442 ?_
  refine lr_arg (j := 1) C rfl (by omega) hL dL_law_443 dL_law_444 dL_law_445 dL_law_446 dL_law_447 ?_
  refine lr_arg (j := 2) C rfl (by omega) hL dL_law_448 dL_law_449 dL_law_450 dL_law_451 dL_law_452 ?_
  refine lr_arg (j := 3) C rfl (by omega) hL dL_law_453 dL_law_454 dL_law_455 dL_law_456 dL_law_457 ?_
  refine lc_callC (d1 := 8) (as := [.int (xs (i + 1)), .int (xs (i + 2)), .int (xs (i + 3))]) C hwC rfl hC gq_442 gq_443 gq_444 gq_44 gq_445 (by show _ ≠ _ ∧ _ ≠ _ ∧ _ = some 3; decide +kernel) dL_law_458 (by decide) (by decide) (Nat.le_of_ble_eq_true rfl) rfl (fun r w1 q => ?_)
  obtain ⟨rfl, qC⟩ := q
  refine lr_al2 C dL_law_461 ?_
  refine lr_arg (j := 1) C rfl (by omega) hL dL_law_462 dL_law_463 dL_law_464 dL_law_465 dL_law_466 ?_
  refine lr_arg (j := 2) C rfl (by omega) hL dL_law_467 dL_law_468 dL_law_469 dL_law_470 dL_law_471 ?_
  refine lr_arg (j := 3) C rfl (by omega) hL dL_law_472 dL_law_473 dL_law_474 dL_law_475 dL_law_476 ?_
  refine lc_callM (d1 := 8) (as := [.int (xs (i + 1)), .int (xs (i + 2)), .int (xs (i + 3))]) C hwM rfl hM gq_888 gq_889 gq_890 gq_53 gq_891 (by show _ ≠ _ ∧ _ ≠ _ ∧ _ = some 3; decide +kernel) dL_law_477 (by decide) (by decide) (Nat.le_of_ble_eq_true rfl) rfl (fun r w1 q => ?_)
  obtain ⟨rfl, qM⟩ := q
  refine lr_same 954 C dL_law_480 (by decide) ?_
  exact K S2 _ _ hI2 qC qM
set_option maxHeartbeats 4000000 in
theorem lx_setOff (C : lc_C p s m meth c b L xs D cI cB aC aM) (hi : i + 6 ≤ L) (hL : L ≤ 3072) {S : st_T} (hI : iS S) (hCW : CW S wc) (hMW : MW S wm) (K : lx_K p l e s m below meth c b D cI cB aC aM Z i) : LW p l e s m below meth c b D cI cB aC aM Z i 485 [] wc wm := by
  obtain ⟨v, S2, hI2, hC, hM⟩ := g_setOff hI hCW hMW (xs (i + 1)) (xs (i + 2))
  obtain ⟨fsC, hwC⟩ := CW_0 hCW
  obtain ⟨fsM, hwM⟩ := MW_0 hMW
  refine lr_al1 C dL_law_485 ?_
  refine lr_arg (j := 1) C rfl (by omega) hL dL_law_486 dL_law_487 dL_law_488 dL_law_489 dL_law_490 ?_
  refine lr_arg (j := 2) C rfl (by omega) hL dL_law_491 dL_law_492 dL_law_493 dL_law_494 dL_law_495 ?_
  refine lc_callC (d1 := 8) (as := [.int (xs (i + 1)), .int (xs (i + 2))]) C hwC rfl hC gq_446 gq_447 gq_448 gq_44 gq_449 (by show _ ≠ _ ∧ _ ≠ _ ∧ _ = some 2; decide +kernel) dL_law_496 (by decide) (by decide) (Nat.le_of_ble_eq_true rfl) rfl (fun r w1 q => ?_)
  obtain ⟨rfl, qC⟩ := q
  refine lr_al2 C dL_law_499 ?_
  refine lr_arg (j := 1) C rfl (by omega) hL dL_law_500 dL_law_501 dL_law_502 dL_law_503 dL_law_504 ?_
  refine lr_arg (j := 2) C rfl (by omega) hL dL_law_505 dL_law_506 dL_law_507 dL_law_508 dL_law_509 ?_
  refine lc_callM (d1 := 8) (as := [.int (xs (i + 1)), .int (xs (i + 2))]) C hwM rfl hM gq_892 gq_893 gq_894 gq_53 gq_895 (by show _ ≠ _ ∧ _ ≠ _ ∧ _ = some 2; decide +kernel) dL_law_510 (by decide) (by decide) (Nat.le_of_ble_eq_true rfl) rfl (fun r w1 q => ?_)
  obtain ⟨rfl, qM⟩ := q
  refine lr_same 954 C dL_law_513 (by decide) ?_
  exact K S2 _ _ hI2 qC qM
set_option maxHeartbeats 4000000 in
theorem lx_ring (C : lc_C p s m meth c b L xs D cI cB aC aM) (hi : i + 6 ≤ L) (hL : L ≤ 3072) {S : st_T} (hI : iS S) (hCW : CW S wc) (hMW : MW S wm) (K : lx_K p l e s m below meth c b D cI cB aC aM Z i) : LW p l e s m below meth c b D cI cB aC aM Z i 518 [] wc wm := by
  obtain ⟨v, S2, hI2, hC, hM⟩ := g_ring hI hCW hMW (xs (i + 1)) (xs (i + 2)) (xs (i + 3))
  obtain ⟨fsC, hwC⟩ := CW_0 hCW
  obtain ⟨fsM, hwM⟩ := MW_0 hMW
  refine lr_al1 C dL_law_518 ?_
  refine lr_arg (j := 1) C rfl (by omega) hL dL_law_519 dL_law_520 dL_law_521 dL_law_522 dL_law_523 ?_
  refine lr_arg (j := 2) C rfl (by omega) hL dL_law_524 dL_law_525 dL_law_526 dL_law_527 dL_law_528 ?_
  refine lr_arg (j := 3) C rfl (by omega) hL dL_law_529 dL_law_530 dL_law_531 dL_law_532 dL_law_533 ?_
  refine lc_callC (d1 := 8) (as := [.int (xs (i + 1)), .int (xs (i + 2)), .int (xs (i + 3))]) C hwC rfl hC gq_451 gq_452 gq_453 gq_44 gq_454 (by show _ ≠ _ ∧ _ ≠ _ ∧ _ = some 3; decide +kernel) dL_law_534 (by decide) (by decide) (Nat.le_of_ble_eq_true rfl) rfl (fun r w1 q => ?_)
  obtain ⟨rfl, qC⟩ := q
  refine lr_al2 C dL_law_537 ?_
  refine lr_arg (j := 1) C rfl (by omega) hL dL_law_538 dL_law_539 dL_law_540 dL_law_541 dL_law_542 ?_
  refine lr_arg (j := 2) C rfl (by omega) hL dL_law_543 dL_law_544 dL_law_545 dL_law_546 dL_law_547 ?_
  refine lr_arg (j := 3) C rfl (by omega) hL dL_law_548 dL_law_549 dL_law_550 dL_law_551 dL_law_552 ?_
  refine lc_callM (d1 := 8) (as := [.int (xs (i + 1)), .int (xs (i + 2)), .int (xs (i + 3))]) C hwM rfl hM gq_896 gq_897 gq_898 gq_53 gq_899 (by show _ ≠ _ ∧ _ ≠ _ ∧ _ = some 3; decide +kernel) dL_law_553 (by decide) (by decide) (Nat.le_of_ble_eq_true rfl) rfl (fun r w1 q => ?_)
  obtain ⟨rfl, qM⟩ := q
  refine lr_same 954 C dL_law_556 (by decide) ?_
  exact K S2 _ _ hI2 qC qM
set_option maxHeartbeats 4000000 in
theorem lx_forgive (C : lc_C p s m meth c b L xs D cI cB aC aM) (hi : i + 6 ≤ L) (hL : L ≤ 3072) {S : st_T} (hI : iS S) (hCW : CW S wc) (hMW : MW S wm) (K : lx_K p l e s m below meth c b D cI cB aC aM Z i) : LW p l e s m below meth c b D cI cB aC aM Z i 561 [] wc wm := by
  obtain ⟨v, S2, hI2, hC, hM⟩ := g_forgive hI hCW hMW (xs (i + 1)) (xs (i + 2))
  obtain ⟨fsC, hwC⟩ := CW_0 hCW
  obtain ⟨fsM, hwM⟩ := MW_0 hMW
  refine lr_al1 C dL_law_561 ?_
  refine lr_arg (j := 1) C rfl (by omega) hL dL_law_562 dL_law_563 dL_law_564 dL_law_565 dL_law_566 ?_
  refine lr_arg (j := 2) C rfl (by omega) hL dL_law_567 dL_law_568 dL_law_569 dL_law_570 dL_law_571 ?_
  refine lc_callC (d1 := 8) (as := [.int (xs (i + 1)), .int (xs (i + 2))]) C hwC rfl hC gq_455 gq_456 gq_457 gq_44 gq_458 (by show _ ≠ _ ∧ _ ≠ _ ∧ _ = some 2; decide +kernel) dL_law_572 (by decide) (by decide) (Nat.le_of_ble_eq_true rfl) rfl (fun r w1 q => ?_)
  obtain ⟨rfl, qC⟩ := q
  refine lr_al2 C dL_law_575 ?_
  refine lr_arg (j := 1) C rfl (by omega) hL dL_law_576 dL_law_577 dL_law_578 dL_law_579 dL_law_580 ?_
  refine lr_arg (j := 2) C rfl (by omega) hL dL_law_581 dL_law_582 dL_law_583 dL_law_584 dL_law_585 ?_
  refine lc_callM (d1 := 8) (as := [.int (xs (i + 1)), .int (xs (i + 2))]) C hwM rfl hM gq_900 gq_901 gq_902 gq_53 gq_903 (by show _ ≠ _ ∧ _ ≠ _ ∧ _ = some 2; decide +kernel) dL_law_586 (by decide) (by decide) (Nat.le_of_ble_eq_true rfl) rfl (fun r w1 q => ?_)
  obtain ⟨rfl, qM⟩ := q
  refine lr_same 954 C dL_law_589 (by decide) ?_
  exact K S2 _ _ hI2 qC qM
set_option maxHeartbeats 4000000 in
theorem lx_bankrupt (C : lc_C p s m meth c b L xs D cI cB aC aM) (hi : i + 6 ≤ L) (hL : L ≤ 3072) {S : st_T} (hI : iS S) (hCW : CW S wc) (hMW : MW S wm) (K : lx_K p l e s m below meth c b D cI cB aC aM Z i) : LW p l e s m below meth c b D cI cB aC aM Z i 594 [] wc wm := by
  obtain ⟨v, S2, hI2, hC, hM⟩ := g_bankrupt hI hCW hMW (xs (i + 1))
  obtain ⟨fsC, hwC⟩ := CW_0 hCW
  obtain ⟨fsM, hwM⟩ := MW_0 hMW
  refine lr_al1 C dL_law_594 ?_
  refine lr_arg (j := 1) C rfl (by omega) hL dL_law_595 dL_law_596 dL_law_597 dL_law_598 dL_law_599 ?_
  refine lc_callC (d1 := 8) (as := [.int (xs (i + 1))]) C hwC rfl hC gq_459 gq_460 gq_461 gq_44 gq_462 (by show _ ≠ _ ∧ _ ≠ _ ∧ _ = some 1; decide +kernel) dL_law_600 (by decide) (by decide) (Nat.le_of_ble_eq_true rfl) rfl (fun r w1 q => ?_)
  obtain ⟨rfl, qC⟩ := q
  refine lr_al2 C dL_law_603 ?_
  refine lr_arg (j := 1) C rfl (by omega) hL dL_law_604 dL_law_605 dL_law_606 dL_law_607 dL_law_608 ?_
  refine lc_callM (d1 := 8) (as := [.int (xs (i + 1))]) C hwM rfl hM gq_904 gq_905 gq_906 gq_53 gq_907 (by show _ ≠ _ ∧ _ ≠ _ ∧ _ = some 1; decide +kernel) dL_law_609 (by decide) (by decide) (Nat.le_of_ble_eq_true rfl) rfl (fun r w1 q => ?_)
  obtain ⟨rfl, qM⟩ := q
  refine lr_same 954 C dL_law_612 (by decide) ?_
  exact K S2 _ _ hI2 qC qM
set_option maxHeartbeats 4000000 in
theorem lx_ruin (C : lc_C p s m meth c b L xs D cI cB aC aM) (hi : i + 6 ≤ L) (hL : L ≤ 3072) {S : st_T} (hI : iS S) (hCW : CW S wc) (hMW : MW S wm) (K : lx_K p l e s m below meth c b D cI cB aC aM Z i) : LW p l e s m below meth c b D cI cB aC aM Z i 617 [] wc wm := by
  obtain ⟨v, S2, hI2, hC, hM⟩ := g_ruin hI hCW hMW (xs (i + 1))
  obtain ⟨fsC, hwC⟩ := CW_0 hCW
  obtain ⟨fsM, hwM⟩ := MW_0 hMW
  refine lr_al1 C dL_law_617 ?_
  refine lr_arg (j := 1) C rfl (by omega) hL dL_law_618 dL_law_619 dL_law_620 dL_law_621 dL_law_622 ?_
  refine lc_callC (d1 := 8) (as := [.int (xs (i + 1))]) C hwC rfl hC gq_467 gq_468 gq_469 gq_44 gq_470 (by show _ ≠ _ ∧ _ ≠ _ ∧ _ = some 1; decide +kernel) dL_law_623 (by decide) (by decide) (Nat.le_of_ble_eq_true rfl) rfl (fun r w1 q => ?_)
  obtain ⟨rfl, qC⟩ := q
  refine lr_al2 C dL_law_626 ?_
  refine lr_arg (j := 1) C rfl (by omega) hL dL_law_627 dL_law_628 dL_law_629 dL_law_630 dL_law_631 ?_
  refine lc_callM (d1 := 8) (as := [.int (xs (i + 1))]) C hwM rfl hM gq_908 gq_909 gq_910 gq_53 gq_911 (by show _ ≠ _ ∧ _ ≠ _ ∧ _ = some 1; decide +kernel) dL_law_632 (by decide) (by decide) (Nat.le_of_ble_eq_true rfl) rfl (fun r w1 q => ?_)
  obtain ⟨rfl, qM⟩ := q
  refine lr_same 954 C dL_law_635 (by decide) ?_
  exact K S2 _ _ hI2 qC qM
set_option maxHeartbeats 4000000 in
theorem lx_settling (C : lc_C p s m meth c b L xs D cI cB aC aM) (hi : i + 6 ≤ L) (hL : L ≤ 3072) {S : st_T} (hI : iS S) (hCW : CW S wc) (hMW : MW S wm) (K : lx_K p l e s m below meth c b D cI cB aC aM Z i) : LW p l e s m below meth c b D cI cB aC aM Z i 640 [] wc wm := by
  obtain ⟨v, S2, hI2, hC, hM⟩ := g_settling hI hCW hMW 
  obtain ⟨fsC, hwC⟩ := CW_0 hCW
  obtain ⟨fsM, hwM⟩ := MW_0 hMW
  refine lr_al1 C dL_law_640 ?_
  refine lc_callC (d1 := 8) (as := []) C hwC rfl hC gq_490 gq_491 gq_492 gq_44 gq_493 (by show _ ≠ _ ∧ _ ≠ _ ∧ _ = some 0; decide +kernel) dL_law_641 (by decide) (by decide) (Nat.le_of_ble_eq_true rfl) rfl (fun r w1 q => ?_)
  obtain ⟨rfl, qC⟩ := q
  refine lr_al2 C dL_law_644 ?_
  refine lc_callM (d1 := 8) (as := []) C hwM rfl hM gq_920 gq_921 gq_922 gq_53 gq_923 (by show _ ≠ _ ∧ _ ≠ _ ∧ _ = some 0; decide +kernel) dL_law_645 (by decide) (by decide) (Nat.le_of_ble_eq_true rfl) rfl (fun r w1 q => ?_)
  obtain ⟨rfl, qM⟩ := q
  refine lr_same 954 C dL_law_648 (by decide) ?_
  exact K S2 _ _ hI2 qC qM
set_option maxHeartbeats 4000000 in
theorem lx_bestRing (C : lc_C p s m meth c b L xs D cI cB aC aM) (hi : i + 6 ≤ L) (hL : L ≤ 3072) {S : st_T} (hI : iS S) (hCW : CW S wc) (hMW : MW S wm) (K : lx_K p l e s m below meth c b D cI cB aC aM Z i) : LW p l e s m below meth c b D cI cB aC aM Z i 653 [] wc wm := by
  obtain ⟨v, S2, hI2, hC, hM⟩ := g_bestRing hI hCW hMW (xs (i + 1))
  obtain ⟨fsC, hwC⟩ := CW_0 hCW
  obtain ⟨fsM, hwM⟩ := MW_0 hMW
  refine lr_al1 C dL_law_653 ?_
  refine lr_arg (j := 1) C rfl (by omega) hL dL_law_654 dL_law_655 dL_law_656 dL_law_657 dL_law_658 ?_
  refine lc_callC (d1 := 8) (as := [.int (xs (i + 1))]) C hwC rfl hC gq_513 gq_514 gq_515 gq_44 gq_516 (by show _ ≠ _ ∧ _ ≠ _ ∧ _ = some 1; decide +kernel) dL_law_659 (by decide) (by decide) (Nat.le_of_ble_eq_true rfl) rfl (fun r w1 q => ?_)
  obtain ⟨rfl, qC⟩ := q
  refine lr_al2 C dL_law_662 ?_
  refine lr_arg (j := 1) C rfl (by omega) hL dL_law_663 dL_law_664 dL_law_665 dL_law_666 dL_law_667 ?_
  refine lc_callM (d1 := 8) (as := [.int (xs (i + 1))]) C hwM rfl hM gq_935 gq_936 gq_937 gq_53 gq_938 (by show _ ≠ _ ∧ _ ≠ _ ∧ _ = some 1; decide +kernel) dL_law_668 (by decide) (by decide) (Nat.le_of_ble_eq_true rfl) rfl (fun r w1 q => ?_)
  obtain ⟨rfl, qM⟩ := q
  refine lr_same 954 C dL_law_671 (by decide) ?_
  exact K S2 _ _ hI2 qC qM
set_option maxHeartbeats 4000000 in
theorem lx_offer (C : lc_C p s m meth c b L xs D cI cB aC aM) (hi : i + 6 ≤ L) (hL : L ≤ 3072) {S : st_T} (hI : iS S) (hCW : CW S wc) (hMW : MW S wm) (K : lx_K p l e s m below meth c b D cI cB aC aM Z i) : LW p l e s m below meth c b D cI cB aC aM Z i 676 [] wc wm := by
  obtain ⟨v, S2, hI2, hC, hM⟩ := g_offer hI hCW hMW (xs (i + 1)) (xs (i + 2)) (xs (i + 3))
  obtain ⟨fsC, hwC⟩ := CW_0 hCW
  obtain ⟨fsM, hwM⟩ := MW_0 hMW
  refine lr_al1 C dL_law_676 ?_
  refine lr_arg (j := 1) C rfl (by omega) hL dL_law_677 dL_law_678 dL_law_679 dL_law_680 dL_law_681 ?_
  refine lr_arg (j := 2) C rfl (by omega) hL dL_law_682 dL_law_683 dL_law_684 dL_law_685 dL_law_686 ?_
  refine lr_arg (j := 3) C rfl (by omega) hL dL_law_687 dL_law_688 dL_law_689 dL_law_690 dL_law_691 ?_
  refine lc_callC (d1 := 8) (as := [.int (xs (i + 1)), .int (xs (i + 2)), .int (xs (i + 3))]) C hwC rfl hC gq_540 gq_541 gq_542 gq_44 gq_543 (by show _ ≠ _ ∧ _ ≠ _ ∧ _ = some 3; decide +kernel) dL_law_692 (by decide) (by decide) (Nat.le_of_ble_eq_true rfl) rfl (fun r w1 q => ?_)
  obtain ⟨rfl, qC⟩ := q
  refine lr_al2 C dL_law_695 ?_
  refine lr_arg (j := 1) C rfl (by omega) hL dL_law_696 dL_law_697 dL_law_698 dL_law_699 dL_law_700 ?_
  refine lr_arg (j := 2) C rfl (by omega) hL dL_law_701 dL_law_702 dL_law_703 dL_law_704 dL_law_705 ?_
  refine lr_arg (j := 3) C rfl (by omega) hL dL_law_706 dL_law_707 dL_law_708 dL_law_709 dL_law_710 ?_
  refine lc_callM (d1 := 8) (as := [.int (xs (i + 1)), .int (xs (i + 2)), .int (xs (i + 3))]) C hwM rfl hM gq_948 gq_949 gq_950 gq_53 gq_951 (by show _ ≠ _ ∧ _ ≠ _ ∧ _ = some 3; decide +kernel) dL_law_711 (by decide) (by decide) (Nat.le_of_ble_eq_true rfl) rfl (fun r w1 q => ?_)
  obtain ⟨rfl, qM⟩ := q
  refine lr_same 954 C dL_law_714 (by decide) ?_
  exact K S2 _ _ hI2 qC qM
set_option maxHeartbeats 4000000 in
theorem lx_forget (C : lc_C p s m meth c b L xs D cI cB aC aM) (hi : i + 6 ≤ L) (hL : L ≤ 3072) {S : st_T} (hI : iS S) (hCW : CW S wc) (hMW : MW S wm) (K : lx_K p l e s m below meth c b D cI cB aC aM Z i) : LW p l e s m below meth c b D cI cB aC aM Z i 719 [] wc wm := by
  obtain ⟨v, S2, hI2, hC, hM⟩ := g_forget hI hCW hMW 
  obtain ⟨fsC, hwC⟩ := CW_0 hCW
  obtain ⟨fsM, hwM⟩ := MW_0 hMW
  refine lr_al1 C dL_law_719 ?_
  refine lc_callC (d1 := 8) (as := []) C hwC rfl hC gq_548 gq_549 gq_550 gq_44 gq_551 (by show _ ≠ _ ∧ _ ≠ _ ∧ _ = some 0; decide +kernel) dL_law_720 (by decide) (by decide) (Nat.le_of_ble_eq_true rfl) rfl (fun r w1 q => ?_)
  obtain ⟨rfl, qC⟩ := q
  refine lr_al2 C dL_law_723 ?_
  refine lc_callM (d1 := 8) (as := []) C hwM rfl hM gq_952 gq_953 gq_954 gq_53 gq_955 (by show _ ≠ _ ∧ _ ≠ _ ∧ _ = some 0; decide +kernel) dL_law_724 (by decide) (by decide) (Nat.le_of_ble_eq_true rfl) rfl (fun r w1 q => ?_)
  obtain ⟨rfl, qM⟩ := q
  refine lr_same 954 C dL_law_727 (by decide) ?_
  exact K S2 _ _ hI2 qC qM
set_option maxHeartbeats 4000000 in
theorem lx_accept (C : lc_C p s m meth c b L xs D cI cB aC aM) (hi : i + 6 ≤ L) (hL : L ≤ 3072) {S : st_T} (hI : iS S) (hCW : CW S wc) (hMW : MW S wm) (K : lx_K p l e s m below meth c b D cI cB aC aM Z i) : LW p l e s m below meth c b D cI cB aC aM Z i 732 [] wc wm := by
  obtain ⟨v, S2, hI2, hC, hM⟩ := g_accept hI hCW hMW (xs (i + 1)) (xs (i + 2)) (xs (i + 3)) (xs (i + 4))
  obtain ⟨fsC, hwC⟩ := CW_0 hCW
  obtain ⟨fsM, hwM⟩ := MW_0 hMW
  refine lr_al1 C dL_law_732 ?_
  refine lr_arg (j := 1) C rfl (by omega) hL dL_law_733 dL_law_734 dL_law_735 dL_law_736 dL_law_737 ?_
  refine lr_arg (j := 2) C rfl (by omega) hL dL_law_738 dL_law_739 dL_law_740 dL_law_741 dL_law_742 ?_
  refine lr_arg (j := 3) C rfl (by omega) hL dL_law_743 dL_law_744 dL_law_745 dL_law_746 dL_law_747 ?_
  refine lr_arg (j := 4) C rfl (by omega) hL dL_law_748 dL_law_749 dL_law_750 dL_law_751 dL_law_752 ?_
  refine lc_callC (d1 := 8) (as := [.int (xs (i + 1)), .int (xs (i + 2)), .int (xs (i + 3)), .int (xs (i + 4))]) C hwC rfl hC gq_552 gq_553 gq_554 gq_44 gq_555 (by show _ ≠ _ ∧ _ ≠ _ ∧ _ = some 4; decide +kernel) dL_law_753 (by decide) (by decide) (Nat.le_of_ble_eq_true rfl) rfl (fun r w1 q => ?_)
  obtain ⟨rfl, qC⟩ := q
  refine lr_al2 C dL_law_756 ?_
  refine lr_arg (j := 1) C rfl (by omega) hL dL_law_757 dL_law_758 dL_law_759 dL_law_760 dL_law_761 ?_
  refine lr_arg (j := 2) C rfl (by omega) hL dL_law_762 dL_law_763 dL_law_764 dL_law_765 dL_law_766 ?_
  refine lr_arg (j := 3) C rfl (by omega) hL dL_law_767 dL_law_768 dL_law_769 dL_law_770 dL_law_771 ?_
  refine lr_arg (j := 4) C rfl (by omega) hL dL_law_772 dL_law_773 dL_law_774 dL_law_775 dL_law_776 ?_
  refine lc_callM (d1 := 8) (as := [.int (xs (i + 1)), .int (xs (i + 2)), .int (xs (i + 3)), .int (xs (i + 4))]) C hwM rfl hM gq_956 gq_957 gq_958 gq_53 gq_959 (by show _ ≠ _ ∧ _ ≠ _ ∧ _ = some 4; decide +kernel) dL_law_777 (by decide) (by decide) (Nat.le_of_ble_eq_true rfl) rfl (fun r w1 q => ?_)
  obtain ⟨rfl, qM⟩ := q
  refine lr_same 954 C dL_law_780 (by decide) ?_
  exact K S2 _ _ hI2 qC qM
set_option maxHeartbeats 4000000 in
theorem lx_grown (C : lc_C p s m meth c b L xs D cI cB aC aM) (hi : i + 6 ≤ L) (hL : L ≤ 3072) {S : st_T} (hI : iS S) (hCW : CW S wc) (hMW : MW S wm) (K : lx_K p l e s m below meth c b D cI cB aC aM Z i) : LW p l e s m below meth c b D cI cB aC aM Z i 785 [] wc wm := by
  obtain ⟨v, S2, hI2, hC, hM⟩ := g_grown hI hCW hMW (xs (i + 1)) (xs (i + 2)) (xs (i + 3)) (xs (i + 4)) (xs (i + 5))
  obtain ⟨fsC, hwC⟩ := CW_0 hCW
  obtain ⟨fsM, hwM⟩ := MW_0 hMW
  refine lr_al1 C dL_law_785 ?_
  refine lr_arg (j := 1) C rfl (by omega) hL dL_law_786 dL_law_787 dL_law_788 dL_law_789 dL_law_790 ?_
  refine lr_arg (j := 2) C rfl (by omega) hL dL_law_791 dL_law_792 dL_law_793 dL_law_794 dL_law_795 ?_
  refine lr_arg (j := 3) C rfl (by omega) hL dL_law_796 dL_law_797 dL_law_798 dL_law_799 dL_law_800 ?_
  refine lr_arg (j := 4) C rfl (by omega) hL dL_law_801 dL_law_802 dL_law_803 dL_law_804 dL_law_805 ?_
  refine lr_arg (j := 5) C rfl (by omega) hL dL_law_806 dL_law_807 dL_law_808 dL_law_809 dL_law_810 ?_
  refine lc_callC (d1 := 8) (as := [.int (xs (i + 1)), .int (xs (i + 2)), .int (xs (i + 3)), .int (xs (i + 4)), .int (xs (i + 5))]) C hwC rfl hC gq_597 gq_598 gq_599 gq_44 gq_600 (by show _ ≠ _ ∧ _ ≠ _ ∧ _ = some 5; decide +kernel) dL_law_811 (by decide) (by decide) (Nat.le_of_ble_eq_true rfl) rfl (fun r w1 q => ?_)
  obtain ⟨rfl, qC⟩ := q
  refine lr_al2 C dL_law_814 ?_
  refine lr_arg (j := 1) C rfl (by omega) hL dL_law_815 dL_law_816 dL_law_817 dL_law_818 dL_law_819 ?_
  refine lr_arg (j := 2) C rfl (by omega) hL dL_law_820 dL_law_821 dL_law_822 dL_law_823 dL_law_824 ?_
  refine lr_arg (j := 3) C rfl (by omega) hL dL_law_825 dL_law_826 dL_law_827 dL_law_828 dL_law_829 ?_
  refine lr_arg (j := 4) C rfl (by omega) hL dL_law_830 dL_law_831 dL_law_832 dL_law_833 dL_law_834 ?_
  refine lr_arg (j := 5) C rfl (by omega) hL dL_law_835 dL_law_836 dL_law_837 dL_law_838 dL_law_839 ?_
  refine lc_callM (d1 := 8) (as := [.int (xs (i + 1)), .int (xs (i + 2)), .int (xs (i + 3)), .int (xs (i + 4)), .int (xs (i + 5))]) C hwM rfl hM gq_968 gq_969 gq_970 gq_53 gq_971 (by show _ ≠ _ ∧ _ ≠ _ ∧ _ = some 5; decide +kernel) dL_law_840 (by decide) (by decide) (Nat.le_of_ble_eq_true rfl) rfl (fun r w1 q => ?_)
  obtain ⟨rfl, qM⟩ := q
  refine lr_same 954 C dL_law_843 (by decide) ?_
  exact K S2 _ _ hI2 qC qM
set_option maxHeartbeats 4000000 in
theorem lx_years (C : lc_C p s m meth c b L xs D cI cB aC aM) (hi : i + 6 ≤ L) (hL : L ≤ 3072) {S : st_T} (hI : iS S) (hCW : CW S wc) (hMW : MW S wm) (K : lx_K p l e s m below meth c b D cI cB aC aM Z i) : LW p l e s m below meth c b D cI cB aC aM Z i 848 [] wc wm := by
  obtain ⟨v, S2, hI2, hC, hM⟩ := g_years hI hCW hMW (xs (i + 1)) (xs (i + 2)) (xs (i + 3))
  obtain ⟨fsC, hwC⟩ := CW_0 hCW
  obtain ⟨fsM, hwM⟩ := MW_0 hMW
  refine lr_al1 C dL_law_848 ?_
  refine lr_arg (j := 1) C rfl (by omega) hL dL_law_849 dL_law_850 dL_law_851 dL_law_852 dL_law_853 ?_
  refine lr_arg (j := 2) C rfl (by omega) hL dL_law_854 dL_law_855 dL_law_856 dL_law_857 dL_law_858 ?_
  refine lr_arg (j := 3) C rfl (by omega) hL dL_law_859 dL_law_860 dL_law_861 dL_law_862 dL_law_863 ?_
  refine lc_callC (d1 := 8) (as := [.int (xs (i + 1)), .int (xs (i + 2)), .int (xs (i + 3))]) C hwC rfl hC gq_603 gq_604 gq_605 gq_44 gq_606 (by show _ ≠ _ ∧ _ ≠ _ ∧ _ = some 3; decide +kernel) dL_law_864 (by decide) (by decide) (Nat.le_of_ble_eq_true rfl) rfl (fun r w1 q => ?_)
  obtain ⟨rfl, qC⟩ := q
  refine lr_al2 C dL_law_867 ?_
  refine lr_arg (j := 1) C rfl (by omega) hL dL_law_868 dL_law_869 dL_law_870 dL_law_871 dL_law_872 ?_
  refine lr_arg (j := 2) C rfl (by omega) hL dL_law_873 dL_law_874 dL_law_875 dL_law_876 dL_law_877 ?_
  refine lr_arg (j := 3) C rfl (by omega) hL dL_law_878 dL_law_879 dL_law_880 dL_law_881 dL_law_882 ?_
  refine lc_callM (d1 := 8) (as := [.int (xs (i + 1)), .int (xs (i + 2)), .int (xs (i + 3))]) C hwM rfl hM gq_976 gq_977 gq_978 gq_53 gq_979 (by show _ ≠ _ ∧ _ ≠ _ ∧ _ = some 3; decide +kernel) dL_law_883 (by decide) (by decide) (Nat.le_of_ble_eq_true rfl) rfl (fun r w1 q => ?_)
  obtain ⟨rfl, qM⟩ := q
  refine lr_same 954 C dL_law_886 (by decide) ?_
  exact K S2 _ _ hI2 qC qM
set_option maxHeartbeats 4000000 in
theorem lx_image (C : lc_C p s m meth c b L xs D cI cB aC aM) (hi : i + 6 ≤ L) (hL : L ≤ 3072) {S : st_T} (hI : iS S) (hCW : CW S wc) (hMW : MW S wm) (K : lx_K p l e s m below meth c b D cI cB aC aM Z i) : LW p l e s m below meth c b D cI cB aC aM Z i 891 [] wc wm := by
  obtain ⟨v, S2, hI2, hC, hM⟩ := g_image hI hCW hMW 
  obtain ⟨fsC, hwC⟩ := CW_0 hCW
  obtain ⟨fsM, hwM⟩ := MW_0 hMW
  refine lr_al1 C dL_law_891 ?_
  refine lc_callC (d1 := 8) (as := []) C hwC rfl hC gq_633 gq_634 gq_635 gq_44 gq_636 (by show _ ≠ _ ∧ _ ≠ _ ∧ _ = some 0; decide +kernel) dL_law_892 (by decide) (by decide) (Nat.le_of_ble_eq_true rfl) rfl (fun r w1 q => ?_)
  obtain ⟨rfl, qC⟩ := q
  refine lr_al2 C dL_law_895 ?_
  refine lc_callM (d1 := 8) (as := []) C hwM rfl hM gq_996 gq_997 gq_998 gq_53 gq_999 (by show _ ≠ _ ∧ _ ≠ _ ∧ _ = some 0; decide +kernel) dL_law_896 (by decide) (by decide) (Nat.le_of_ble_eq_true rfl) rfl (fun r w1 q => ?_)
  obtain ⟨rfl, qM⟩ := q
  refine lr_same 954 C dL_law_899 (by decide) ?_
  exact K S2 _ _ hI2 qC qM
set_option maxHeartbeats 4000000 in
theorem lx_restore (C : lc_C p s m meth c b L xs D cI cB aC aM) (hi : i + 6 ≤ L) (hL : L ≤ 3072) {S : st_T} (hI : iS S) (hCW : CW S wc) (hMW : MW S wm) (K : lx_K p l e s m below meth c b D cI cB aC aM Z i) : LW p l e s m below meth c b D cI cB aC aM Z i 904 [] wc wm := by
  obtain ⟨v, S2, hI2, hC, hM⟩ := g_restore hI hCW hMW 
  obtain ⟨fsC, hwC⟩ := CW_0 hCW
  obtain ⟨fsM, hwM⟩ := MW_0 hMW
  refine lr_al1 C dL_law_904 ?_
  refine lc_callC (d1 := 8) (as := []) C hwC rfl hC gq_642 gq_643 gq_644 gq_44 gq_645 (by show _ ≠ _ ∧ _ ≠ _ ∧ _ = some 0; decide +kernel) dL_law_905 (by decide) (by decide) (Nat.le_of_ble_eq_true rfl) rfl (fun r w1 q => ?_)
  obtain ⟨rfl, qC⟩ := q
  refine lr_al2 C dL_law_908 ?_
  refine lc_callM (d1 := 8) (as := []) C hwM rfl hM gq_1000 gq_1001 gq_1002 gq_53 gq_1003 (by show _ ≠ _ ∧ _ ≠ _ ∧ _ = some 0; decide +kernel) dL_law_909 (by decide) (by decide) (Nat.le_of_ble_eq_true rfl) rfl (fun r w1 q => ?_)
  obtain ⟨rfl, qM⟩ := q
  refine lr_same 954 C dL_law_912 (by decide) ?_
  exact K S2 _ _ hI2 qC qM
set_option maxHeartbeats 4000000 in
theorem lx_count (C : lc_C p s m meth c b L xs D cI cB aC aM) (hi : i + 6 ≤ L) (hL : L ≤ 3072) {S : st_T} (hI : iS S) (hCW : CW S wc) (hMW : MW S wm) (K : lx_K p l e s m below meth c b D cI cB aC aM Z i) : LW p l e s m below meth c b D cI cB aC aM Z i 917 [] wc wm := by
  obtain ⟨v, S2, hI2, hC, hM⟩ := g_count hI hCW hMW (xs (i + 1))
  obtain ⟨fsC, hwC⟩ := CW_0 hCW
  obtain ⟨fsM, hwM⟩ := MW_0 hMW
  refine lr_al1 C dL_law_917 ?_
  refine lr_arg (j := 1) C rfl (by omega) hL dL_law_918 dL_law_919 dL_law_920 dL_law_921 dL_law_922 ?_
  refine lc_callC (d1 := 8) (as := [.int (xs (i + 1))]) C hwC rfl hC gq_646 gq_647 gq_648 gq_44 gq_649 (by show _ ≠ _ ∧ _ ≠ _ ∧ _ = some 1; decide +kernel) dL_law_923 (by decide) (by decide) (Nat.le_of_ble_eq_true rfl) rfl (fun r w1 q => ?_)
  obtain ⟨rfl, qC⟩ := q
  refine lr_al2 C dL_law_926 ?_
  refine lr_arg (j := 1) C rfl (by omega) hL dL_law_927 dL_law_928 dL_law_929 dL_law_930 dL_law_931 ?_
  refine lc_callM (d1 := 8) (as := [.int (xs (i + 1))]) C hwM rfl hM gq_1004 gq_1005 gq_1006 gq_53 gq_1007 (by show _ ≠ _ ∧ _ ≠ _ ∧ _ = some 1; decide +kernel) dL_law_932 (by decide) (by decide) (Nat.le_of_ble_eq_true rfl) rfl (fun r w1 q => ?_)
  obtain ⟨rfl, qM⟩ := q
  refine lr_same 954 C dL_law_935 (by decide) ?_
  exact K S2 _ _ hI2 qC qM
set_option maxHeartbeats 4000000 in
theorem lx_digest (C : lc_C p s m meth c b L xs D cI cB aC aM) (hi : i + 6 ≤ L) (hL : L ≤ 3072) {S : st_T} (hI : iS S) (hCW : CW S wc) (hMW : MW S wm) (K : lx_K p l e s m below meth c b D cI cB aC aM Z i) : LW p l e s m below meth c b D cI cB aC aM Z i 940 [] wc wm := by
  obtain ⟨v, S2, hI2, hC, hM⟩ := g_digest hI hCW hMW 
  obtain ⟨fsC, hwC⟩ := CW_0 hCW
  obtain ⟨fsM, hwM⟩ := MW_0 hMW
  refine lr_al1 C dL_law_940 ?_
  refine lc_callC (d1 := 10) (as := []) C hwC rfl hC gq_650 gq_651 gq_652 gq_44 gq_653 (by show _ ≠ _ ∧ _ ≠ _ ∧ _ = some 0; decide +kernel) dL_law_941 (by decide) (by decide) (Nat.le_of_ble_eq_true rfl) rfl (fun r w1 q => ?_)
  obtain ⟨rfl, qC⟩ := q
  refine lr_al2 C dL_law_944 ?_
  refine lc_callM (d1 := 10) (as := []) C hwM rfl hM gq_1020 gq_1021 gq_1022 gq_53 gq_1023 (by show _ ≠ _ ∧ _ ≠ _ ∧ _ = some 0; decide +kernel) dL_law_945 (by decide) (by decide) (Nat.le_of_ble_eq_true rfl) rfl (fun r w1 q => ?_)
  obtain ⟨rfl, qM⟩ := q
  refine lr_lcmp C dL_law_948 ?_
  refine lr_if0 954 C dL_law_949 (by decide) (fun _ => ?_) (fun h => absurd rfl h)
  exact K S2 _ _ hI2 qC qM
end LawGo
