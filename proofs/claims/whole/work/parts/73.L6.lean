section
/-! the law -/
def LX (X : Bn) (b L : Nat) (xs : Nat → Int32) : Prop := va_X b L xs X.s X.s.heap ∧ b < X.s.heap.size ∧ ¬ X.A b ∧ L ≤ 448
def LV (b : Nat) (ad ad' : Nat → Nat) (j : Nat) : List (Nat × Value) := [(0, .ref b), (1, .ref (ad 0)), (2, .ref (ad' 0)), (3, .int (nI j))]
section Law
variable {X : Bn} {fr lo : Nat} {ws : va_W} {pc b L j : Nat} {xs : Nat → Int32} {ad ad' : Nat → Nat} {st : List Value}
theorem at_sld (K : Cx X cL_law 4 RL wsL_law fr lo) (hX : LX X b L xs) {lv : List (Nat × Value)} {c : Nat} (hc : c < L) (d : decode cL_law pc = .ok (.iaload, 1)) (k : At X 4 ws (pc + 1) lv (.int (xs c) :: st)) : At X 4 ws pc lv (.int (nI c) :: .ref b :: st) := by
  intro H locs ls hP hD hS hl
  have h448 := hX.2.2.2
  refine va_sld K.1.1 K.1.2.1 hX.1 hX.2.1 hX.2.2.1 hS (vp_in_nI hc (by omega)) d ?_
  rw [nI_clamp (by omega)]
  exact k H locs ls hP hD hS hl
theorem at_slen (K : Cx X cL_law 4 RL wsL_law fr lo) (hX : LX X b L xs) {lv : List (Nat × Value)} (d : decode cL_law pc = .ok (.arraylength, 1)) (k : At X 4 ws (pc + 1) lv (.int (nI L) :: st)) : At X 4 ws pc lv (.ref b :: st) :=
  fun H locs ls hP hD hS hl => va_slen K.1.1 K.1.2.1 hX.1 hX.2.1 hX.2.2.1 hS d (k H locs ls hP hD hS hl)
theorem at_arg (K : Cx X cL_law 4 RL wsL_law fr lo) (hX : LX X b L xs) (c : Nat) {n : Int} (hv : Int32.ofInt n = nI c) (hj : j + c < L) (d1 : decode cL_law pc = .ok (.aload_n 0, 1)) (d2 : decode cL_law (pc + 1) = .ok (.iload_n 3, 1)) (d3 : decode cL_law (pc + 1 + 1) = .ok (.iconst n, 1)) (d4 : decode cL_law (pc + 1 + 1 + 1) = .ok (.iadd, 1)) (d5 : decode cL_law (pc + 1 + 1 + 1 + 1) = .ok (.iaload, 1)) (k : At X 4 ws (pc + 1 + 1 + 1 + 1 + 1) (LV b ad ad' j) (.int (xs (j + c)) :: st)) : At X 4 ws pc (LV b ad ad' j) st := by
  refine at_aload_n K d1 rfl (j := 0) rfl ?_
  refine at_iload_n K d2 rfl (j := 3) rfl ?_
  refine at_iconst K d3 hv ?_
  refine at_iadd K d4 ?_
  rw [nI_add]
  exact at_sld K hX hj d5 k
theorem at_arg6 (K : Cx X cL_law 4 RL wsL_law fr lo) (hX : LX X b L xs) (c : Nat) {n : Int} (hv : (Int8.ofInt n).toInt32 = nI c) (hj : j + c < L) (d1 : decode cL_law pc = .ok (.aload_n 0, 1)) (d2 : decode cL_law (pc + 1) = .ok (.iload_n 3, 1)) (d3 : decode cL_law (pc + 1 + 1) = .ok (.bipush n, 2)) (d4 : decode cL_law (pc + 1 + 1 + 2) = .ok (.iadd, 1)) (d5 : decode cL_law (pc + 1 + 1 + 2 + 1) = .ok (.iaload, 1)) (k : At X 4 ws (pc + 1 + 1 + 2 + 1 + 1) (LV b ad ad' j) (.int (xs (j + c)) :: st)) : At X 4 ws pc (LV b ad ad' j) st := by
  refine at_aload_n K d1 rfl (j := 0) rfl ?_
  refine at_iload_n K d2 rfl (j := 3) rfl ?_
  refine at_bipush K d3 hv ?_
  refine at_iadd K d4 ?_
  rw [nI_add]
  exact at_sld K hX hj d5 k
/-- a call of the class: its world stands left -/
theorem at_callA (K : Cx X cL_law 4 RL wsL_law fr lo) {y : MethodName} {wsy ws'' : List Cond} {fr' lo' : Nat} {As : List Value} {C C' : MS} {wr : va_W} {v : Value} {rest stk : List Value} {lv : List (Nat × Value)} {bytes : ByteArray} {maxL index : Nat} {ret : Option FieldType} (n : Nat)
    (f : Fn X.l X.D X.E X.a1 X.a2 y wsy fr' lo' (.ref (ad 0) :: As) (cW X.E ad C) (some v) (cW X.E ad C')) (hG : GoodIn wsL_law (wsV RL index RX7 y wsy)) (hw : wsy = Cond.code y bytes maxL ret :: ws'')
    (hd : y.cls = RX7 ∧ y.cls ≠ "java/lang/invoke/MethodHandle" ∧ y.cls ≠ "java/lang/invoke/VarHandle" ∧ (parseMethodDescriptor y.desc).map (fun d => d.parameters.length) = some n) (hR : Nat.ble (fr' + 1) fr = true ∧ Nat.ble (8 + (maxL + 11) + lo') lo = true) (hn : As.length = n) (hst : stk = As.reverse ++ .ref (ad 0) :: rest) (hrm : (rest.map fun v => v.category).sum ≤ 8)
    (d : decode cL_law pc = .ok (.invokevirtual index, 3)) (k : At X 4 (cW X.E ad C' ++ wr) (pc + 3) lv (v :: rest)) : At X 4 (cW X.E ad C ++ wr) pc lv stk :=
  at_callV K [] wr n f hG hw hd hR hn hst hrm 0 cW_c0 rfl d k
/-- a call of the reference: its world stands right -/
theorem at_callB (K : Cx X cL_law 4 RL wsL_law fr lo) {y : MethodName} {wsy ws'' : List Cond} {fr' lo' : Nat} {As : List Value} {M M' : MS} {wl : va_W} {v : Value} {rest stk : List Value} {lv : List (Nat × Value)} {bytes : ByteArray} {maxL index : Nat} {ret : Option FieldType} (n : Nat)
    (f : Fn X.l X.D X.E X.a1 X.a2 y wsy fr' lo' (.ref (ad' 0) :: As) (mW X.E ad' M) (some v) (mW X.E ad' M')) (hG : GoodIn wsL_law (wsV RL index RX8 y wsy)) (hw : wsy = Cond.code y bytes maxL ret :: ws'')
    (hd : y.cls = RX8 ∧ y.cls ≠ "java/lang/invoke/MethodHandle" ∧ y.cls ≠ "java/lang/invoke/VarHandle" ∧ (parseMethodDescriptor y.desc).map (fun d => d.parameters.length) = some n) (hR : Nat.ble (fr' + 1) fr = true ∧ Nat.ble (8 + (maxL + 11) + lo') lo = true) (hn : As.length = n) (hst : stk = As.reverse ++ .ref (ad' 0) :: rest) (hrm : (rest.map fun v => v.category).sum ≤ 8)
    (d : decode cL_law pc = .ok (.invokevirtual index, 3)) (k : At X 4 (wl ++ mW X.E ad' M') (pc + 3) lv (v :: rest)) : At X 4 (wl ++ mW X.E ad' M) pc lv stk := by
  have h := at_callV (lv := lv) K wl [] n f hG hw hd hR hn hst hrm 0 mW_c0 rfl d (by rw [List.append_nil]; exact k)
  rw [List.append_nil] at h
  exact h
end Law
theorem lcmp_self (r : Int64) : lg_cmp r r = 0 := by
  simp [lg_cmp, Int64.lt_irrefl]
set_option maxRecDepth 100000 in
theorem law_0 {X : Bn} {b L j : Nat} {xs : Nat → Int32} {ad ad' : Nat → Nat} {C M : MS} (K : Cx X cL_law 4 RL wsL_law 9 346) (hX : LX X b L xs) (hj : j + 7 ≤ L) (hR : Rel C M) (next : ∀ C' M', Rel C' M' → At X 4 (cW X.E ad C' ++ mW X.E ad' M') 1296 (LV b ad ad' j) []) : At X 4 (cW X.E ad C ++ mW X.E ad' M) 176 (LV b ad ad' j) [] := by
  obtain ⟨r, C', M', hR', F7, F8⟩ := pr_type (xs (j + 1)) (xs (j + 2)) C M hR ad ad'
  refine at_aload_n K dL_law_176 rfl (j := 1) rfl ?_
  refine at_arg K hX 1 rfl (by omega) dL_law_177 dL_law_178 dL_law_179 dL_law_180 dL_law_181 ?_
  refine at_arg K hX 2 rfl (by omega) dL_law_182 dL_law_183 dL_law_184 dL_law_185 dL_law_186 ?_
  refine at_callA K 2 (F7 X.l X.D X.E X.a1 X.a2) gL_law_X7_type rfl (by decide +kernel) ⟨rfl, rfl⟩ rfl rfl (Nat.le_of_ble_eq_true rfl) dL_law_187 ?_
  refine at_aload_n K dL_law_190 rfl (j := 2) rfl ?_
  refine at_arg K hX 1 rfl (by omega) dL_law_191 dL_law_192 dL_law_193 dL_law_194 dL_law_195 ?_
  refine at_arg K hX 2 rfl (by omega) dL_law_196 dL_law_197 dL_law_198 dL_law_199 dL_law_200 ?_
  refine at_callB K 2 (F8 X.l X.D X.E X.a1 X.a2) gL_law_X8_type rfl (by decide +kernel) ⟨rfl, rfl⟩ rfl rfl (Nat.le_of_ble_eq_true rfl) dL_law_201 ?_
  exact at_icmp_eq K dL_law_204 (tgt := 1296) (by decide) (fun _ => next C' M' hR') (fun h => absurd rfl h)
set_option maxRecDepth 100000 in
theorem law_1 {X : Bn} {b L j : Nat} {xs : Nat → Int32} {ad ad' : Nat → Nat} {C M : MS} (K : Cx X cL_law 4 RL wsL_law 9 346) (hX : LX X b L xs) (hj : j + 7 ≤ L) (hR : Rel C M) (next : ∀ C' M', Rel C' M' → At X 4 (cW X.E ad C' ++ mW X.E ad' M') 1296 (LV b ad ad' j) []) : At X 4 (cW X.E ad C ++ mW X.E ad' M) 209 (LV b ad ad' j) [] := by
  obtain ⟨r, C', M', hR', F7, F8⟩ := pr_wipe (xs (j + 1)) C M hR ad ad'
  refine at_aload_n K dL_law_209 rfl (j := 1) rfl ?_
  refine at_arg K hX 1 rfl (by omega) dL_law_210 dL_law_211 dL_law_212 dL_law_213 dL_law_214 ?_
  refine at_callA K 1 (F7 X.l X.D X.E X.a1 X.a2) gL_law_X7_wipe rfl (by decide +kernel) ⟨rfl, rfl⟩ rfl rfl (Nat.le_of_ble_eq_true rfl) dL_law_215 ?_
  refine at_aload_n K dL_law_218 rfl (j := 2) rfl ?_
  refine at_arg K hX 1 rfl (by omega) dL_law_219 dL_law_220 dL_law_221 dL_law_222 dL_law_223 ?_
  refine at_callB K 1 (F8 X.l X.D X.E X.a1 X.a2) gL_law_X8_wipe rfl (by decide +kernel) ⟨rfl, rfl⟩ rfl rfl (Nat.le_of_ble_eq_true rfl) dL_law_224 ?_
  exact at_icmp_eq K dL_law_227 (tgt := 1296) (by decide) (fun _ => next C' M' hR') (fun h => absurd rfl h)
set_option maxRecDepth 100000 in
theorem law_2 {X : Bn} {b L j : Nat} {xs : Nat → Int32} {ad ad' : Nat → Nat} {C M : MS} (K : Cx X cL_law 4 RL wsL_law 9 346) (hX : LX X b L xs) (hj : j + 7 ≤ L) (hR : Rel C M) (next : ∀ C' M', Rel C' M' → At X 4 (cW X.E ad C' ++ mW X.E ad' M') 1296 (LV b ad ad' j) []) : At X 4 (cW X.E ad C ++ mW X.E ad' M) 232 (LV b ad ad' j) [] := by
  obtain ⟨r, C', M', hR', F7, F8⟩ := pr_undo (xs (j + 1)) C M hR ad ad'
  refine at_aload_n K dL_law_232 rfl (j := 1) rfl ?_
  refine at_arg K hX 1 rfl (by omega) dL_law_233 dL_law_234 dL_law_235 dL_law_236 dL_law_237 ?_
  refine at_callA K 1 (F7 X.l X.D X.E X.a1 X.a2) gL_law_X7_undo rfl (by decide +kernel) ⟨rfl, rfl⟩ rfl rfl (Nat.le_of_ble_eq_true rfl) dL_law_238 ?_
  refine at_aload_n K dL_law_241 rfl (j := 2) rfl ?_
  refine at_arg K hX 1 rfl (by omega) dL_law_242 dL_law_243 dL_law_244 dL_law_245 dL_law_246 ?_
  refine at_callB K 1 (F8 X.l X.D X.E X.a1 X.a2) gL_law_X8_undo rfl (by decide +kernel) ⟨rfl, rfl⟩ rfl rfl (Nat.le_of_ble_eq_true rfl) dL_law_247 ?_
  exact at_icmp_eq K dL_law_250 (tgt := 1296) (by decide) (fun _ => next C' M' hR') (fun h => absurd rfl h)
set_option maxRecDepth 100000 in
theorem law_3 {X : Bn} {b L j : Nat} {xs : Nat → Int32} {ad ad' : Nat → Nat} {C M : MS} (K : Cx X cL_law 4 RL wsL_law 9 346) (hX : LX X b L xs) (hj : j + 7 ≤ L) (hR : Rel C M) (next : ∀ C' M', Rel C' M' → At X 4 (cW X.E ad C' ++ mW X.E ad' M') 1296 (LV b ad ad' j) []) : At X 4 (cW X.E ad C ++ mW X.E ad' M) 255 (LV b ad ad' j) [] := by
  obtain ⟨r, C', M', hR', F7, F8⟩ := pr_fault (xs (j + 1)) C M hR ad ad'
  refine at_aload_n K dL_law_255 rfl (j := 1) rfl ?_
  refine at_arg K hX 1 rfl (by omega) dL_law_256 dL_law_257 dL_law_258 dL_law_259 dL_law_260 ?_
  refine at_callA K 1 (F7 X.l X.D X.E X.a1 X.a2) gL_law_X7_fault rfl (by decide +kernel) ⟨rfl, rfl⟩ rfl rfl (Nat.le_of_ble_eq_true rfl) dL_law_261 ?_
  refine at_aload_n K dL_law_264 rfl (j := 2) rfl ?_
  refine at_arg K hX 1 rfl (by omega) dL_law_265 dL_law_266 dL_law_267 dL_law_268 dL_law_269 ?_
  refine at_callB K 1 (F8 X.l X.D X.E X.a1 X.a2) gL_law_X8_fault rfl (by decide +kernel) ⟨rfl, rfl⟩ rfl rfl (Nat.le_of_ble_eq_true rfl) dL_law_270 ?_
  exact at_icmp_eq K dL_law_273 (tgt := 1296) (by decide) (fun _ => next C' M' hR') (fun h => absurd rfl h)
set_option maxRecDepth 100000 in
theorem law_4 {X : Bn} {b L j : Nat} {xs : Nat → Int32} {ad ad' : Nat → Nat} {C M : MS} (K : Cx X cL_law 4 RL wsL_law 9 346) (hX : LX X b L xs) (hj : j + 7 ≤ L) (hR : Rel C M) (next : ∀ C' M', Rel C' M' → At X 4 (cW X.E ad C' ++ mW X.E ad' M') 1296 (LV b ad ad' j) []) : At X 4 (cW X.E ad C ++ mW X.E ad' M) 278 (LV b ad ad' j) [] := by
  obtain ⟨r, C', M', hR', F7, F8⟩ := pr_shape (xs (j + 1)) (xs (j + 2)) C M hR ad ad'
  refine at_aload_n K dL_law_278 rfl (j := 1) rfl ?_
  refine at_arg K hX 1 rfl (by omega) dL_law_279 dL_law_280 dL_law_281 dL_law_282 dL_law_283 ?_
  refine at_arg K hX 2 rfl (by omega) dL_law_284 dL_law_285 dL_law_286 dL_law_287 dL_law_288 ?_
  refine at_callA K 2 (F7 X.l X.D X.E X.a1 X.a2) gL_law_X7_shape rfl (by decide +kernel) ⟨rfl, rfl⟩ rfl rfl (Nat.le_of_ble_eq_true rfl) dL_law_289 ?_
  refine at_aload_n K dL_law_292 rfl (j := 2) rfl ?_
  refine at_arg K hX 1 rfl (by omega) dL_law_293 dL_law_294 dL_law_295 dL_law_296 dL_law_297 ?_
  refine at_arg K hX 2 rfl (by omega) dL_law_298 dL_law_299 dL_law_300 dL_law_301 dL_law_302 ?_
  refine at_callB K 2 (F8 X.l X.D X.E X.a1 X.a2) gL_law_X8_shape rfl (by decide +kernel) ⟨rfl, rfl⟩ rfl rfl (Nat.le_of_ble_eq_true rfl) dL_law_303 ?_
  exact at_icmp_eq K dL_law_306 (tgt := 1296) (by decide) (fun _ => next C' M' hR') (fun h => absurd rfl h)
set_option maxRecDepth 100000 in
theorem law_5 {X : Bn} {b L j : Nat} {xs : Nat → Int32} {ad ad' : Nat → Nat} {C M : MS} (K : Cx X cL_law 4 RL wsL_law 9 346) (hX : LX X b L xs) (hj : j + 7 ≤ L) (hR : Rel C M) (next : ∀ C' M', Rel C' M' → At X 4 (cW X.E ad C' ++ mW X.E ad' M') 1296 (LV b ad ad' j) []) : At X 4 (cW X.E ad C ++ mW X.E ad' M) 311 (LV b ad ad' j) [] := by
  obtain ⟨r, C', M', hR', F7, F8⟩ := pr_made (xs (j + 1)) (xs (j + 2)) C M hR ad ad'
  refine at_aload_n K dL_law_311 rfl (j := 1) rfl ?_
  refine at_arg K hX 1 rfl (by omega) dL_law_312 dL_law_313 dL_law_314 dL_law_315 dL_law_316 ?_
  refine at_arg K hX 2 rfl (by omega) dL_law_317 dL_law_318 dL_law_319 dL_law_320 dL_law_321 ?_
  refine at_callA K 2 (F7 X.l X.D X.E X.a1 X.a2) gL_law_X7_made rfl (by decide +kernel) ⟨rfl, rfl⟩ rfl rfl (Nat.le_of_ble_eq_true rfl) dL_law_322 ?_
  refine at_aload_n K dL_law_325 rfl (j := 2) rfl ?_
  refine at_arg K hX 1 rfl (by omega) dL_law_326 dL_law_327 dL_law_328 dL_law_329 dL_law_330 ?_
  refine at_arg K hX 2 rfl (by omega) dL_law_331 dL_law_332 dL_law_333 dL_law_334 dL_law_335 ?_
  refine at_callB K 2 (F8 X.l X.D X.E X.a1 X.a2) gL_law_X8_made rfl (by decide +kernel) ⟨rfl, rfl⟩ rfl rfl (Nat.le_of_ble_eq_true rfl) dL_law_336 ?_
  exact at_icmp_eq K dL_law_339 (tgt := 1296) (by decide) (fun _ => next C' M' hR') (fun h => absurd rfl h)
set_option maxRecDepth 100000 in
theorem law_6 {X : Bn} {b L j : Nat} {xs : Nat → Int32} {ad ad' : Nat → Nat} {C M : MS} (K : Cx X cL_law 4 RL wsL_law 9 346) (hX : LX X b L xs) (hj : j + 7 ≤ L) (hR : Rel C M) (next : ∀ C' M', Rel C' M' → At X 4 (cW X.E ad C' ++ mW X.E ad' M') 1296 (LV b ad ad' j) []) : At X 4 (cW X.E ad C ++ mW X.E ad' M) 344 (LV b ad ad' j) [] := by
  obtain ⟨r, C', M', hR', F7, F8⟩ := pr_sight (xs (j + 1)) (xs (j + 2)) (xs (j + 3)) C M hR ad ad'
  refine at_aload_n K dL_law_344 rfl (j := 1) rfl ?_
  refine at_arg K hX 1 rfl (by omega) dL_law_345 dL_law_346 dL_law_347 dL_law_348 dL_law_349 ?_
  refine at_arg K hX 2 rfl (by omega) dL_law_350 dL_law_351 dL_law_352 dL_law_353 dL_law_354 ?_
  refine at_arg K hX 3 rfl (by omega) dL_law_355 dL_law_356 dL_law_357 dL_law_358 dL_law_359 ?_
  refine at_callA K 3 (F7 X.l X.D X.E X.a1 X.a2) gL_law_X7_sight rfl (by decide +kernel) ⟨rfl, rfl⟩ rfl rfl (Nat.le_of_ble_eq_true rfl) dL_law_360 ?_
  refine at_aload_n K dL_law_363 rfl (j := 2) rfl ?_
  refine at_arg K hX 1 rfl (by omega) dL_law_364 dL_law_365 dL_law_366 dL_law_367 dL_law_368 ?_
  refine at_arg K hX 2 rfl (by omega) dL_law_369 dL_law_370 dL_law_371 dL_law_372 dL_law_373 ?_
  refine at_arg K hX 3 rfl (by omega) dL_law_374 dL_law_375 dL_law_376 dL_law_377 dL_law_378 ?_
  refine at_callB K 3 (F8 X.l X.D X.E X.a1 X.a2) gL_law_X8_sight rfl (by decide +kernel) ⟨rfl, rfl⟩ rfl rfl (Nat.le_of_ble_eq_true rfl) dL_law_379 ?_
  exact at_icmp_eq K dL_law_382 (tgt := 1296) (by decide) (fun _ => next C' M' hR') (fun h => absurd rfl h)
set_option maxRecDepth 100000 in
theorem law_7 {X : Bn} {b L j : Nat} {xs : Nat → Int32} {ad ad' : Nat → Nat} {C M : MS} (K : Cx X cL_law 4 RL wsL_law 9 346) (hX : LX X b L xs) (hj : j + 7 ≤ L) (hR : Rel C M) (next : ∀ C' M', Rel C' M' → At X 4 (cW X.E ad C' ++ mW X.E ad' M') 1296 (LV b ad ad' j) []) : At X 4 (cW X.E ad C ++ mW X.E ad' M) 387 (LV b ad ad' j) [] := by
  obtain ⟨r, C', M', hR', F7, F8⟩ := pr_form (xs (j + 1)) (xs (j + 2)) C M hR ad ad'
  refine at_aload_n K dL_law_387 rfl (j := 1) rfl ?_
  refine at_arg K hX 1 rfl (by omega) dL_law_388 dL_law_389 dL_law_390 dL_law_391 dL_law_392 ?_
  refine at_arg K hX 2 rfl (by omega) dL_law_393 dL_law_394 dL_law_395 dL_law_396 dL_law_397 ?_
  refine at_callA K 2 (F7 X.l X.D X.E X.a1 X.a2) gL_law_X7_form rfl (by decide +kernel) ⟨rfl, rfl⟩ rfl rfl (Nat.le_of_ble_eq_true rfl) dL_law_398 ?_
  refine at_aload_n K dL_law_401 rfl (j := 2) rfl ?_
  refine at_arg K hX 1 rfl (by omega) dL_law_402 dL_law_403 dL_law_404 dL_law_405 dL_law_406 ?_
  refine at_arg K hX 2 rfl (by omega) dL_law_407 dL_law_408 dL_law_409 dL_law_410 dL_law_411 ?_
  refine at_callB K 2 (F8 X.l X.D X.E X.a1 X.a2) gL_law_X8_form rfl (by decide +kernel) ⟨rfl, rfl⟩ rfl rfl (Nat.le_of_ble_eq_true rfl) dL_law_412 ?_
  exact at_icmp_eq K dL_law_415 (tgt := 1296) (by decide) (fun _ => next C' M' hR') (fun h => absurd rfl h)
set_option maxRecDepth 100000 in
theorem law_8 {X : Bn} {b L j : Nat} {xs : Nat → Int32} {ad ad' : Nat → Nat} {C M : MS} (K : Cx X cL_law 4 RL wsL_law 9 346) (hX : LX X b L xs) (hj : j + 7 ≤ L) (hR : Rel C M) (next : ∀ C' M', Rel C' M' → At X 4 (cW X.E ad C' ++ mW X.E ad' M') 1296 (LV b ad ad' j) []) : At X 4 (cW X.E ad C ++ mW X.E ad' M) 420 (LV b ad ad' j) [] := by
  obtain ⟨r, C', M', hR', F7, F8⟩ := pr_kin (xs (j + 1)) (xs (j + 2)) C M hR ad ad'
  refine at_aload_n K dL_law_420 rfl (j := 1) rfl ?_
  refine at_arg K hX 1 rfl (by omega) dL_law_421 dL_law_422 dL_law_423 dL_law_424 dL_law_425 ?_
  refine at_arg K hX 2 rfl (by omega) dL_law_426 dL_law_427 dL_law_428 dL_law_429 dL_law_430 ?_
  refine at_callA K 2 (F7 X.l X.D X.E X.a1 X.a2) gL_law_X7_kin rfl (by decide +kernel) ⟨rfl, rfl⟩ rfl rfl (Nat.le_of_ble_eq_true rfl) dL_law_431 ?_
  refine at_aload_n K dL_law_434 rfl (j := 2) rfl ?_
  refine at_arg K hX 1 rfl (by omega) dL_law_435 dL_law_436 dL_law_437 dL_law_438 dL_law_439 ?_
  refine at_arg K hX 2 rfl (by omega) dL_law_440 dL_law_441 dL_law_442 dL_law_443 dL_law_444 ?_
  refine at_callB K 2 (F8 X.l X.D X.E X.a1 X.a2) gL_law_X8_kin rfl (by decide +kernel) ⟨rfl, rfl⟩ rfl rfl (Nat.le_of_ble_eq_true rfl) dL_law_445 ?_
  exact at_icmp_eq K dL_law_448 (tgt := 1296) (by decide) (fun _ => next C' M' hR') (fun h => absurd rfl h)
set_option maxRecDepth 100000 in
theorem law_9 {X : Bn} {b L j : Nat} {xs : Nat → Int32} {ad ad' : Nat → Nat} {C M : MS} (K : Cx X cL_law 4 RL wsL_law 9 346) (hX : LX X b L xs) (hj : j + 7 ≤ L) (hR : Rel C M) (next : ∀ C' M', Rel C' M' → At X 4 (cW X.E ad C' ++ mW X.E ad' M') 1296 (LV b ad ad' j) []) : At X 4 (cW X.E ad C ++ mW X.E ad' M) 453 (LV b ad ad' j) [] := by
  obtain ⟨r, C', M', hR', F7, F8⟩ := pr_self (xs (j + 1)) C M hR ad ad'
  refine at_aload_n K dL_law_453 rfl (j := 1) rfl ?_
  refine at_arg K hX 1 rfl (by omega) dL_law_454 dL_law_455 dL_law_456 dL_law_457 dL_law_458 ?_
  refine at_callA K 1 (F7 X.l X.D X.E X.a1 X.a2) gL_law_X7_self rfl (by decide +kernel) ⟨rfl, rfl⟩ rfl rfl (Nat.le_of_ble_eq_true rfl) dL_law_459 ?_
  refine at_aload_n K dL_law_462 rfl (j := 2) rfl ?_
  refine at_arg K hX 1 rfl (by omega) dL_law_463 dL_law_464 dL_law_465 dL_law_466 dL_law_467 ?_
  refine at_callB K 1 (F8 X.l X.D X.E X.a1 X.a2) gL_law_X8_self rfl (by decide +kernel) ⟨rfl, rfl⟩ rfl rfl (Nat.le_of_ble_eq_true rfl) dL_law_468 ?_
  exact at_icmp_eq K dL_law_471 (tgt := 1296) (by decide) (fun _ => next C' M' hR') (fun h => absurd rfl h)
set_option maxRecDepth 100000 in
theorem law_10 {X : Bn} {b L j : Nat} {xs : Nat → Int32} {ad ad' : Nat → Nat} {C M : MS} (K : Cx X cL_law 4 RL wsL_law 9 346) (hX : LX X b L xs) (hj : j + 7 ≤ L) (hR : Rel C M) (next : ∀ C' M', Rel C' M' → At X 4 (cW X.E ad C' ++ mW X.E ad' M') 1296 (LV b ad ad' j) []) : At X 4 (cW X.E ad C ++ mW X.E ad' M) 476 (LV b ad ad' j) [] := by
  obtain ⟨r, C', M', hR', F7, F8⟩ := pr_stands (xs (j + 1)) (xs (j + 2)) (xs (j + 3)) C M hR ad ad'
  refine at_aload_n K dL_law_476 rfl (j := 1) rfl ?_
  refine at_arg K hX 1 rfl (by omega) dL_law_477 dL_law_478 dL_law_479 dL_law_480 dL_law_481 ?_
  refine at_arg K hX 2 rfl (by omega) dL_law_482 dL_law_483 dL_law_484 dL_law_485 dL_law_486 ?_
  refine at_arg K hX 3 rfl (by omega) dL_law_487 dL_law_488 dL_law_489 dL_law_490 dL_law_491 ?_
  refine at_callA K 3 (F7 X.l X.D X.E X.a1 X.a2) gL_law_X7_stands rfl (by decide +kernel) ⟨rfl, rfl⟩ rfl rfl (Nat.le_of_ble_eq_true rfl) dL_law_492 ?_
  refine at_aload_n K dL_law_495 rfl (j := 2) rfl ?_
  refine at_arg K hX 1 rfl (by omega) dL_law_496 dL_law_497 dL_law_498 dL_law_499 dL_law_500 ?_
  refine at_arg K hX 2 rfl (by omega) dL_law_501 dL_law_502 dL_law_503 dL_law_504 dL_law_505 ?_
  refine at_arg K hX 3 rfl (by omega) dL_law_506 dL_law_507 dL_law_508 dL_law_509 dL_law_510 ?_
  refine at_callB K 3 (F8 X.l X.D X.E X.a1 X.a2) gL_law_X8_stands rfl (by decide +kernel) ⟨rfl, rfl⟩ rfl rfl (Nat.le_of_ble_eq_true rfl) dL_law_511 ?_
  exact at_icmp_eq K dL_law_514 (tgt := 1296) (by decide) (fun _ => next C' M' hR') (fun h => absurd rfl h)
set_option maxRecDepth 100000 in
theorem law_11 {X : Bn} {b L j : Nat} {xs : Nat → Int32} {ad ad' : Nat → Nat} {C M : MS} (K : Cx X cL_law 4 RL wsL_law 9 346) (hX : LX X b L xs) (hj : j + 7 ≤ L) (hR : Rel C M) (next : ∀ C' M', Rel C' M' → At X 4 (cW X.E ad C' ++ mW X.E ad' M') 1296 (LV b ad ad' j) []) : At X 4 (cW X.E ad C ++ mW X.E ad' M) 519 (LV b ad ad' j) [] := by
  obtain ⟨r, C', M', hR', F7, F8⟩ := pr_through (xs (j + 1)) (xs (j + 2)) (xs (j + 3)) (xs (j + 4)) (xs (j + 5)) C M hR ad ad'
  refine at_aload_n K dL_law_519 rfl (j := 1) rfl ?_
  refine at_arg K hX 1 rfl (by omega) dL_law_520 dL_law_521 dL_law_522 dL_law_523 dL_law_524 ?_
  refine at_arg K hX 2 rfl (by omega) dL_law_525 dL_law_526 dL_law_527 dL_law_528 dL_law_529 ?_
  refine at_arg K hX 3 rfl (by omega) dL_law_530 dL_law_531 dL_law_532 dL_law_533 dL_law_534 ?_
  refine at_arg K hX 4 rfl (by omega) dL_law_535 dL_law_536 dL_law_537 dL_law_538 dL_law_539 ?_
  refine at_arg K hX 5 rfl (by omega) dL_law_540 dL_law_541 dL_law_542 dL_law_543 dL_law_544 ?_
  refine at_callA K 5 (F7 X.l X.D X.E X.a1 X.a2) gL_law_X7_through rfl (by decide +kernel) ⟨rfl, rfl⟩ rfl rfl (Nat.le_of_ble_eq_true rfl) dL_law_545 ?_
  refine at_aload_n K dL_law_548 rfl (j := 2) rfl ?_
  refine at_arg K hX 1 rfl (by omega) dL_law_549 dL_law_550 dL_law_551 dL_law_552 dL_law_553 ?_
  refine at_arg K hX 2 rfl (by omega) dL_law_554 dL_law_555 dL_law_556 dL_law_557 dL_law_558 ?_
  refine at_arg K hX 3 rfl (by omega) dL_law_559 dL_law_560 dL_law_561 dL_law_562 dL_law_563 ?_
  refine at_arg K hX 4 rfl (by omega) dL_law_564 dL_law_565 dL_law_566 dL_law_567 dL_law_568 ?_
  refine at_arg K hX 5 rfl (by omega) dL_law_569 dL_law_570 dL_law_571 dL_law_572 dL_law_573 ?_
  refine at_callB K 5 (F8 X.l X.D X.E X.a1 X.a2) gL_law_X8_through rfl (by decide +kernel) ⟨rfl, rfl⟩ rfl rfl (Nat.le_of_ble_eq_true rfl) dL_law_574 ?_
  exact at_icmp_eq K dL_law_577 (tgt := 1296) (by decide) (fun _ => next C' M' hR') (fun h => absurd rfl h)
set_option maxRecDepth 100000 in
theorem law_12 {X : Bn} {b L j : Nat} {xs : Nat → Int32} {ad ad' : Nat → Nat} {C M : MS} (K : Cx X cL_law 4 RL wsL_law 9 346) (hX : LX X b L xs) (hj : j + 7 ≤ L) (hR : Rel C M) (next : ∀ C' M', Rel C' M' → At X 4 (cW X.E ad C' ++ mW X.E ad' M') 1296 (LV b ad ad' j) []) : At X 4 (cW X.E ad C ++ mW X.E ad' M) 582 (LV b ad ad' j) [] := by
  obtain ⟨r, C', M', hR', F7, F8⟩ := pr_reach (xs (j + 1)) (xs (j + 2)) (xs (j + 3)) C M hR ad ad'
  refine at_aload_n K dL_law_582 rfl (j := 1) rfl ?_
  refine at_arg K hX 1 rfl (by omega) dL_law_583 dL_law_584 dL_law_585 dL_law_586 dL_law_587 ?_
  refine at_arg K hX 2 rfl (by omega) dL_law_588 dL_law_589 dL_law_590 dL_law_591 dL_law_592 ?_
  refine at_arg K hX 3 rfl (by omega) dL_law_593 dL_law_594 dL_law_595 dL_law_596 dL_law_597 ?_
  refine at_callA K 3 (F7 X.l X.D X.E X.a1 X.a2) gL_law_X7_reach rfl (by decide +kernel) ⟨rfl, rfl⟩ rfl rfl (Nat.le_of_ble_eq_true rfl) dL_law_598 ?_
  refine at_aload_n K dL_law_601 rfl (j := 2) rfl ?_
  refine at_arg K hX 1 rfl (by omega) dL_law_602 dL_law_603 dL_law_604 dL_law_605 dL_law_606 ?_
  refine at_arg K hX 2 rfl (by omega) dL_law_607 dL_law_608 dL_law_609 dL_law_610 dL_law_611 ?_
  refine at_arg K hX 3 rfl (by omega) dL_law_612 dL_law_613 dL_law_614 dL_law_615 dL_law_616 ?_
  refine at_callB K 3 (F8 X.l X.D X.E X.a1 X.a2) gL_law_X8_reach rfl (by decide +kernel) ⟨rfl, rfl⟩ rfl rfl (Nat.le_of_ble_eq_true rfl) dL_law_617 ?_
  exact at_icmp_eq K dL_law_620 (tgt := 1296) (by decide) (fun _ => next C' M' hR') (fun h => absurd rfl h)
set_option maxRecDepth 100000 in
theorem law_13 {X : Bn} {b L j : Nat} {xs : Nat → Int32} {ad ad' : Nat → Nat} {C M : MS} (K : Cx X cL_law 4 RL wsL_law 9 346) (hX : LX X b L xs) (hj : j + 7 ≤ L) (hR : Rel C M) (next : ∀ C' M', Rel C' M' → At X 4 (cW X.E ad C' ++ mW X.E ad' M') 1296 (LV b ad ad' j) []) : At X 4 (cW X.E ad C ++ mW X.E ad' M) 625 (LV b ad ad' j) [] := by
  obtain ⟨r, C', M', hR', F7, F8⟩ := pr_meet (xs (j + 1)) (xs (j + 2)) (xs (j + 3)) (xs (j + 4)) (xs (j + 5)) (xs (j + 6)) C M hR ad ad'
  refine at_aload_n K dL_law_625 rfl (j := 1) rfl ?_
  refine at_arg K hX 1 rfl (by omega) dL_law_626 dL_law_627 dL_law_628 dL_law_629 dL_law_630 ?_
  refine at_arg K hX 2 rfl (by omega) dL_law_631 dL_law_632 dL_law_633 dL_law_634 dL_law_635 ?_
  refine at_arg K hX 3 rfl (by omega) dL_law_636 dL_law_637 dL_law_638 dL_law_639 dL_law_640 ?_
  refine at_arg K hX 4 rfl (by omega) dL_law_641 dL_law_642 dL_law_643 dL_law_644 dL_law_645 ?_
  refine at_arg K hX 5 rfl (by omega) dL_law_646 dL_law_647 dL_law_648 dL_law_649 dL_law_650 ?_
  refine at_arg6 K hX 6 rfl (by omega) dL_law_651 dL_law_652 dL_law_653 dL_law_655 dL_law_656 ?_
  refine at_callA K 6 (F7 X.l X.D X.E X.a1 X.a2) gL_law_X7_meet rfl (by decide +kernel) ⟨rfl, rfl⟩ rfl rfl (Nat.le_of_ble_eq_true rfl) dL_law_657 ?_
  refine at_aload_n K dL_law_660 rfl (j := 2) rfl ?_
  refine at_arg K hX 1 rfl (by omega) dL_law_661 dL_law_662 dL_law_663 dL_law_664 dL_law_665 ?_
  refine at_arg K hX 2 rfl (by omega) dL_law_666 dL_law_667 dL_law_668 dL_law_669 dL_law_670 ?_
  refine at_arg K hX 3 rfl (by omega) dL_law_671 dL_law_672 dL_law_673 dL_law_674 dL_law_675 ?_
  refine at_arg K hX 4 rfl (by omega) dL_law_676 dL_law_677 dL_law_678 dL_law_679 dL_law_680 ?_
  refine at_arg K hX 5 rfl (by omega) dL_law_681 dL_law_682 dL_law_683 dL_law_684 dL_law_685 ?_
  refine at_arg6 K hX 6 rfl (by omega) dL_law_686 dL_law_687 dL_law_688 dL_law_690 dL_law_691 ?_
  refine at_callB K 6 (F8 X.l X.D X.E X.a1 X.a2) gL_law_X8_meet rfl (by decide +kernel) ⟨rfl, rfl⟩ rfl rfl (Nat.le_of_ble_eq_true rfl) dL_law_692 ?_
  exact at_icmp_eq K dL_law_695 (tgt := 1296) (by decide) (fun _ => next C' M' hR') (fun h => absurd rfl h)
set_option maxRecDepth 100000 in
theorem law_14 {X : Bn} {b L j : Nat} {xs : Nat → Int32} {ad ad' : Nat → Nat} {C M : MS} (K : Cx X cL_law 4 RL wsL_law 9 346) (hX : LX X b L xs) (hj : j + 7 ≤ L) (hR : Rel C M) (next : ∀ C' M', Rel C' M' → At X 4 (cW X.E ad C' ++ mW X.E ad' M') 1296 (LV b ad ad' j) []) : At X 4 (cW X.E ad C ++ mW X.E ad' M) 700 (LV b ad ad' j) [] := by
  obtain ⟨r, C', M', hR', F7, F8⟩ := pr_seen (xs (j + 1)) (xs (j + 2)) C M hR ad ad'
  refine at_aload_n K dL_law_700 rfl (j := 1) rfl ?_
  refine at_arg K hX 1 rfl (by omega) dL_law_701 dL_law_702 dL_law_703 dL_law_704 dL_law_705 ?_
  refine at_arg K hX 2 rfl (by omega) dL_law_706 dL_law_707 dL_law_708 dL_law_709 dL_law_710 ?_
  refine at_callA K 2 (F7 X.l X.D X.E X.a1 X.a2) gL_law_X7_seen rfl (by decide +kernel) ⟨rfl, rfl⟩ rfl rfl (Nat.le_of_ble_eq_true rfl) dL_law_711 ?_
  refine at_aload_n K dL_law_714 rfl (j := 2) rfl ?_
  refine at_arg K hX 1 rfl (by omega) dL_law_715 dL_law_716 dL_law_717 dL_law_718 dL_law_719 ?_
  refine at_arg K hX 2 rfl (by omega) dL_law_720 dL_law_721 dL_law_722 dL_law_723 dL_law_724 ?_
  refine at_callB K 2 (F8 X.l X.D X.E X.a1 X.a2) gL_law_X8_seen rfl (by decide +kernel) ⟨rfl, rfl⟩ rfl rfl (Nat.le_of_ble_eq_true rfl) dL_law_725 ?_
  exact at_icmp_eq K dL_law_728 (tgt := 1296) (by decide) (fun _ => next C' M' hR') (fun h => absurd rfl h)
set_option maxRecDepth 100000 in
theorem law_15 {X : Bn} {b L j : Nat} {xs : Nat → Int32} {ad ad' : Nat → Nat} {C M : MS} (K : Cx X cL_law 4 RL wsL_law 9 346) (hX : LX X b L xs) (hj : j + 7 ≤ L) (hR : Rel C M) (next : ∀ C' M', Rel C' M' → At X 4 (cW X.E ad C' ++ mW X.E ad' M') 1296 (LV b ad ad' j) []) : At X 4 (cW X.E ad C ++ mW X.E ad' M) 733 (LV b ad ad' j) [] := by
  obtain ⟨r, C', M', hR', F7, F8⟩ := pr_forget C M hR ad ad'
  refine at_aload_n K dL_law_733 rfl (j := 1) rfl ?_
  refine at_callA K 0 (F7 X.l X.D X.E X.a1 X.a2) gL_law_X7_forget rfl (by decide +kernel) ⟨rfl, rfl⟩ rfl rfl (Nat.le_of_ble_eq_true rfl) dL_law_734 ?_
  refine at_aload_n K dL_law_737 rfl (j := 2) rfl ?_
  refine at_callB K 0 (F8 X.l X.D X.E X.a1 X.a2) gL_law_X8_forget rfl (by decide +kernel) ⟨rfl, rfl⟩ rfl rfl (Nat.le_of_ble_eq_true rfl) dL_law_738 ?_
  exact at_icmp_eq K dL_law_741 (tgt := 1296) (by decide) (fun _ => next C' M' hR') (fun h => absurd rfl h)
set_option maxRecDepth 100000 in
theorem law_16 {X : Bn} {b L j : Nat} {xs : Nat → Int32} {ad ad' : Nat → Nat} {C M : MS} (K : Cx X cL_law 4 RL wsL_law 9 346) (hX : LX X b L xs) (hj : j + 7 ≤ L) (hR : Rel C M) (next : ∀ C' M', Rel C' M' → At X 4 (cW X.E ad C' ++ mW X.E ad' M') 1296 (LV b ad ad' j) []) : At X 4 (cW X.E ad C ++ mW X.E ad' M) 746 (LV b ad ad' j) [] := by
  obtain ⟨r, C', M', hR', F7, F8⟩ := pr_fits (xs (j + 1)) C M hR ad ad'
  refine at_aload_n K dL_law_746 rfl (j := 1) rfl ?_
  refine at_arg K hX 1 rfl (by omega) dL_law_747 dL_law_748 dL_law_749 dL_law_750 dL_law_751 ?_
  refine at_callA K 1 (F7 X.l X.D X.E X.a1 X.a2) gL_law_X7_fits rfl (by decide +kernel) ⟨rfl, rfl⟩ rfl rfl (Nat.le_of_ble_eq_true rfl) dL_law_752 ?_
  refine at_aload_n K dL_law_755 rfl (j := 2) rfl ?_
  refine at_arg K hX 1 rfl (by omega) dL_law_756 dL_law_757 dL_law_758 dL_law_759 dL_law_760 ?_
  refine at_callB K 1 (F8 X.l X.D X.E X.a1 X.a2) gL_law_X8_fits rfl (by decide +kernel) ⟨rfl, rfl⟩ rfl rfl (Nat.le_of_ble_eq_true rfl) dL_law_761 ?_
  exact at_icmp_eq K dL_law_764 (tgt := 1296) (by decide) (fun _ => next C' M' hR') (fun h => absurd rfl h)
set_option maxRecDepth 100000 in
theorem law_17 {X : Bn} {b L j : Nat} {xs : Nat → Int32} {ad ad' : Nat → Nat} {C M : MS} (K : Cx X cL_law 4 RL wsL_law 9 346) (hX : LX X b L xs) (hj : j + 7 ≤ L) (hR : Rel C M) (next : ∀ C' M', Rel C' M' → At X 4 (cW X.E ad C' ++ mW X.E ad' M') 1296 (LV b ad ad' j) []) : At X 4 (cW X.E ad C ++ mW X.E ad' M) 769 (LV b ad ad' j) [] := by
  obtain ⟨r, C', M', hR', F7, F8⟩ := pr_look (xs (j + 1)) C M hR ad ad'
  refine at_aload_n K dL_law_769 rfl (j := 1) rfl ?_
  refine at_arg K hX 1 rfl (by omega) dL_law_770 dL_law_771 dL_law_772 dL_law_773 dL_law_774 ?_
  refine at_callA K 1 (F7 X.l X.D X.E X.a1 X.a2) gL_law_X7_look rfl (by decide +kernel) ⟨rfl, rfl⟩ rfl rfl (Nat.le_of_ble_eq_true rfl) dL_law_775 ?_
  refine at_aload_n K dL_law_778 rfl (j := 2) rfl ?_
  refine at_arg K hX 1 rfl (by omega) dL_law_779 dL_law_780 dL_law_781 dL_law_782 dL_law_783 ?_
  refine at_callB K 1 (F8 X.l X.D X.E X.a1 X.a2) gL_law_X8_look rfl (by decide +kernel) ⟨rfl, rfl⟩ rfl rfl (Nat.le_of_ble_eq_true rfl) dL_law_784 ?_
  exact at_icmp_eq K dL_law_787 (tgt := 1296) (by decide) (fun _ => next C' M' hR') (fun h => absurd rfl h)
set_option maxRecDepth 100000 in
theorem law_18 {X : Bn} {b L j : Nat} {xs : Nat → Int32} {ad ad' : Nat → Nat} {C M : MS} (K : Cx X cL_law 4 RL wsL_law 9 346) (hX : LX X b L xs) (hj : j + 7 ≤ L) (hR : Rel C M) (next : ∀ C' M', Rel C' M' → At X 4 (cW X.E ad C' ++ mW X.E ad' M') 1296 (LV b ad ad' j) []) : At X 4 (cW X.E ad C ++ mW X.E ad' M) 792 (LV b ad ad' j) [] := by
  obtain ⟨r, C', M', hR', F7, F8⟩ := pr_view (xs (j + 1)) C M hR ad ad'
  refine at_aload_n K dL_law_792 rfl (j := 1) rfl ?_
  refine at_arg K hX 1 rfl (by omega) dL_law_793 dL_law_794 dL_law_795 dL_law_796 dL_law_797 ?_
  refine at_callA K 1 (F7 X.l X.D X.E X.a1 X.a2) gL_law_X7_view rfl (by decide +kernel) ⟨rfl, rfl⟩ rfl rfl (Nat.le_of_ble_eq_true rfl) dL_law_798 ?_
  refine at_aload_n K dL_law_801 rfl (j := 2) rfl ?_
  refine at_arg K hX 1 rfl (by omega) dL_law_802 dL_law_803 dL_law_804 dL_law_805 dL_law_806 ?_
  refine at_callB K 1 (F8 X.l X.D X.E X.a1 X.a2) gL_law_X8_view rfl (by decide +kernel) ⟨rfl, rfl⟩ rfl rfl (Nat.le_of_ble_eq_true rfl) dL_law_807 ?_
  exact at_icmp_eq K dL_law_810 (tgt := 1296) (by decide) (fun _ => next C' M' hR') (fun h => absurd rfl h)
set_option maxRecDepth 100000 in
theorem law_19 {X : Bn} {b L j : Nat} {xs : Nat → Int32} {ad ad' : Nat → Nat} {C M : MS} (K : Cx X cL_law 4 RL wsL_law 9 346) (hX : LX X b L xs) (hj : j + 7 ≤ L) (hR : Rel C M) (next : ∀ C' M', Rel C' M' → At X 4 (cW X.E ad C' ++ mW X.E ad' M') 1296 (LV b ad ad' j) []) : At X 4 (cW X.E ad C ++ mW X.E ad' M) 815 (LV b ad ad' j) [] := by
  obtain ⟨r, C', M', hR', F7, F8⟩ := pr_sees (xs (j + 1)) (xs (j + 2)) C M hR ad ad'
  refine at_aload_n K dL_law_815 rfl (j := 1) rfl ?_
  refine at_arg K hX 1 rfl (by omega) dL_law_816 dL_law_817 dL_law_818 dL_law_819 dL_law_820 ?_
  refine at_arg K hX 2 rfl (by omega) dL_law_821 dL_law_822 dL_law_823 dL_law_824 dL_law_825 ?_
  refine at_callA K 2 (F7 X.l X.D X.E X.a1 X.a2) gL_law_X7_sees rfl (by decide +kernel) ⟨rfl, rfl⟩ rfl rfl (Nat.le_of_ble_eq_true rfl) dL_law_826 ?_
  refine at_aload_n K dL_law_829 rfl (j := 2) rfl ?_
  refine at_arg K hX 1 rfl (by omega) dL_law_830 dL_law_831 dL_law_832 dL_law_833 dL_law_834 ?_
  refine at_arg K hX 2 rfl (by omega) dL_law_835 dL_law_836 dL_law_837 dL_law_838 dL_law_839 ?_
  refine at_callB K 2 (F8 X.l X.D X.E X.a1 X.a2) gL_law_X8_sees rfl (by decide +kernel) ⟨rfl, rfl⟩ rfl rfl (Nat.le_of_ble_eq_true rfl) dL_law_840 ?_
  exact at_icmp_eq K dL_law_843 (tgt := 1296) (by decide) (fun _ => next C' M' hR') (fun h => absurd rfl h)
set_option maxRecDepth 100000 in
theorem law_20 {X : Bn} {b L j : Nat} {xs : Nat → Int32} {ad ad' : Nat → Nat} {C M : MS} (K : Cx X cL_law 4 RL wsL_law 9 346) (hX : LX X b L xs) (hj : j + 7 ≤ L) (hR : Rel C M) (next : ∀ C' M', Rel C' M' → At X 4 (cW X.E ad C' ++ mW X.E ad' M') 1296 (LV b ad ad' j) []) : At X 4 (cW X.E ad C ++ mW X.E ad' M) 848 (LV b ad ad' j) [] := by
  obtain ⟨r, C', M', hR', F7, F8⟩ := pr_watchers (xs (j + 1)) C M hR ad ad'
  refine at_aload_n K dL_law_848 rfl (j := 1) rfl ?_
  refine at_arg K hX 1 rfl (by omega) dL_law_849 dL_law_850 dL_law_851 dL_law_852 dL_law_853 ?_
  refine at_callA K 1 (F7 X.l X.D X.E X.a1 X.a2) gL_law_X7_watchers rfl (by decide +kernel) ⟨rfl, rfl⟩ rfl rfl (Nat.le_of_ble_eq_true rfl) dL_law_854 ?_
  refine at_aload_n K dL_law_857 rfl (j := 2) rfl ?_
  refine at_arg K hX 1 rfl (by omega) dL_law_858 dL_law_859 dL_law_860 dL_law_861 dL_law_862 ?_
  refine at_callB K 1 (F8 X.l X.D X.E X.a1 X.a2) gL_law_X8_watchers rfl (by decide +kernel) ⟨rfl, rfl⟩ rfl rfl (Nat.le_of_ble_eq_true rfl) dL_law_863 ?_
  exact at_icmp_eq K dL_law_866 (tgt := 1296) (by decide) (fun _ => next C' M' hR') (fun h => absurd rfl h)
set_option maxRecDepth 100000 in
theorem law_21 {X : Bn} {b L j : Nat} {xs : Nat → Int32} {ad ad' : Nat → Nat} {C M : MS} (K : Cx X cL_law 4 RL wsL_law 9 346) (hX : LX X b L xs) (hj : j + 7 ≤ L) (hR : Rel C M) (next : ∀ C' M', Rel C' M' → At X 4 (cW X.E ad C' ++ mW X.E ad' M') 1296 (LV b ad ad' j) []) : At X 4 (cW X.E ad C ++ mW X.E ad' M) 871 (LV b ad ad' j) [] := by
  obtain ⟨r, C', M', hR', F7, F8⟩ := pr_echoes (xs (j + 1)) (xs (j + 2)) (xs (j + 3)) (xs (j + 4)) (xs (j + 5)) C M hR ad ad'
  refine at_aload_n K dL_law_871 rfl (j := 1) rfl ?_
  refine at_arg K hX 1 rfl (by omega) dL_law_872 dL_law_873 dL_law_874 dL_law_875 dL_law_876 ?_
  refine at_arg K hX 2 rfl (by omega) dL_law_877 dL_law_878 dL_law_879 dL_law_880 dL_law_881 ?_
  refine at_arg K hX 3 rfl (by omega) dL_law_882 dL_law_883 dL_law_884 dL_law_885 dL_law_886 ?_
  refine at_arg K hX 4 rfl (by omega) dL_law_887 dL_law_888 dL_law_889 dL_law_890 dL_law_891 ?_
  refine at_arg K hX 5 rfl (by omega) dL_law_892 dL_law_893 dL_law_894 dL_law_895 dL_law_896 ?_
  refine at_callA K 5 (F7 X.l X.D X.E X.a1 X.a2) gL_law_X7_echoes rfl (by decide +kernel) ⟨rfl, rfl⟩ rfl rfl (Nat.le_of_ble_eq_true rfl) dL_law_897 ?_
  refine at_aload_n K dL_law_900 rfl (j := 2) rfl ?_
  refine at_arg K hX 1 rfl (by omega) dL_law_901 dL_law_902 dL_law_903 dL_law_904 dL_law_905 ?_
  refine at_arg K hX 2 rfl (by omega) dL_law_906 dL_law_907 dL_law_908 dL_law_909 dL_law_910 ?_
  refine at_arg K hX 3 rfl (by omega) dL_law_911 dL_law_912 dL_law_913 dL_law_914 dL_law_915 ?_
  refine at_arg K hX 4 rfl (by omega) dL_law_916 dL_law_917 dL_law_918 dL_law_919 dL_law_920 ?_
  refine at_arg K hX 5 rfl (by omega) dL_law_921 dL_law_922 dL_law_923 dL_law_924 dL_law_925 ?_
  refine at_callB K 5 (F8 X.l X.D X.E X.a1 X.a2) gL_law_X8_echoes rfl (by decide +kernel) ⟨rfl, rfl⟩ rfl rfl (Nat.le_of_ble_eq_true rfl) dL_law_926 ?_
  exact at_icmp_eq K dL_law_929 (tgt := 1296) (by decide) (fun _ => next C' M' hR') (fun h => absurd rfl h)
set_option maxRecDepth 100000 in
theorem law_22 {X : Bn} {b L j : Nat} {xs : Nat → Int32} {ad ad' : Nat → Nat} {C M : MS} (K : Cx X cL_law 4 RL wsL_law 9 346) (hX : LX X b L xs) (hj : j + 7 ≤ L) (hR : Rel C M) (next : ∀ C' M', Rel C' M' → At X 4 (cW X.E ad C' ++ mW X.E ad' M') 1296 (LV b ad ad' j) []) : At X 4 (cW X.E ad C ++ mW X.E ad' M) 934 (LV b ad ad' j) [] := by
  obtain ⟨r, C', M', hR', F7, F8⟩ := pr_fog (xs (j + 1)) (xs (j + 2)) (xs (j + 3)) (xs (j + 4)) C M hR ad ad'
  refine at_aload_n K dL_law_934 rfl (j := 1) rfl ?_
  refine at_arg K hX 1 rfl (by omega) dL_law_935 dL_law_936 dL_law_937 dL_law_938 dL_law_939 ?_
  refine at_arg K hX 2 rfl (by omega) dL_law_940 dL_law_941 dL_law_942 dL_law_943 dL_law_944 ?_
  refine at_arg K hX 3 rfl (by omega) dL_law_945 dL_law_946 dL_law_947 dL_law_948 dL_law_949 ?_
  refine at_arg K hX 4 rfl (by omega) dL_law_950 dL_law_951 dL_law_952 dL_law_953 dL_law_954 ?_
  refine at_callA K 4 (F7 X.l X.D X.E X.a1 X.a2) gL_law_X7_fog rfl (by decide +kernel) ⟨rfl, rfl⟩ rfl rfl (Nat.le_of_ble_eq_true rfl) dL_law_955 ?_
  refine at_aload_n K dL_law_958 rfl (j := 2) rfl ?_
  refine at_arg K hX 1 rfl (by omega) dL_law_959 dL_law_960 dL_law_961 dL_law_962 dL_law_963 ?_
  refine at_arg K hX 2 rfl (by omega) dL_law_964 dL_law_965 dL_law_966 dL_law_967 dL_law_968 ?_
  refine at_arg K hX 3 rfl (by omega) dL_law_969 dL_law_970 dL_law_971 dL_law_972 dL_law_973 ?_
  refine at_arg K hX 4 rfl (by omega) dL_law_974 dL_law_975 dL_law_976 dL_law_977 dL_law_978 ?_
  refine at_callB K 4 (F8 X.l X.D X.E X.a1 X.a2) gL_law_X8_fog rfl (by decide +kernel) ⟨rfl, rfl⟩ rfl rfl (Nat.le_of_ble_eq_true rfl) dL_law_979 ?_
  refine at_lcmp K dL_law_982 ?_
  exact at_if_eq K dL_law_983 (tgt := 1296) (by decide) (fun _ => next C' M' hR') (fun h => absurd (lcmp_self r) h)
set_option maxRecDepth 100000 in
theorem law_23 {X : Bn} {b L j : Nat} {xs : Nat → Int32} {ad ad' : Nat → Nat} {C M : MS} (K : Cx X cL_law 4 RL wsL_law 9 346) (hX : LX X b L xs) (hj : j + 7 ≤ L) (hR : Rel C M) (next : ∀ C' M', Rel C' M' → At X 4 (cW X.E ad C' ++ mW X.E ad' M') 1296 (LV b ad ad' j) []) : At X 4 (cW X.E ad C ++ mW X.E ad' M) 988 (LV b ad ad' j) [] := by
  obtain ⟨r, C', M', hR', F7, F8⟩ := pr_sheet (xs (j + 1)) (xs (j + 2)) (xs (j + 3)) C M hR ad ad'
  refine at_aload_n K dL_law_988 rfl (j := 1) rfl ?_
  refine at_arg K hX 1 rfl (by omega) dL_law_989 dL_law_990 dL_law_991 dL_law_992 dL_law_993 ?_
  refine at_arg K hX 2 rfl (by omega) dL_law_994 dL_law_995 dL_law_996 dL_law_997 dL_law_998 ?_
  refine at_arg K hX 3 rfl (by omega) dL_law_999 dL_law_1000 dL_law_1001 dL_law_1002 dL_law_1003 ?_
  refine at_callA K 3 (F7 X.l X.D X.E X.a1 X.a2) gL_law_X7_sheet rfl (by decide +kernel) ⟨rfl, rfl⟩ rfl rfl (Nat.le_of_ble_eq_true rfl) dL_law_1004 ?_
  refine at_aload_n K dL_law_1007 rfl (j := 2) rfl ?_
  refine at_arg K hX 1 rfl (by omega) dL_law_1008 dL_law_1009 dL_law_1010 dL_law_1011 dL_law_1012 ?_
  refine at_arg K hX 2 rfl (by omega) dL_law_1013 dL_law_1014 dL_law_1015 dL_law_1016 dL_law_1017 ?_
  refine at_arg K hX 3 rfl (by omega) dL_law_1018 dL_law_1019 dL_law_1020 dL_law_1021 dL_law_1022 ?_
  refine at_callB K 3 (F8 X.l X.D X.E X.a1 X.a2) gL_law_X8_sheet rfl (by decide +kernel) ⟨rfl, rfl⟩ rfl rfl (Nat.le_of_ble_eq_true rfl) dL_law_1023 ?_
  exact at_icmp_eq K dL_law_1026 (tgt := 1296) (by decide) (fun _ => next C' M' hR') (fun h => absurd rfl h)
set_option maxRecDepth 100000 in
theorem law_24 {X : Bn} {b L j : Nat} {xs : Nat → Int32} {ad ad' : Nat → Nat} {C M : MS} (K : Cx X cL_law 4 RL wsL_law 9 346) (hX : LX X b L xs) (hj : j + 7 ≤ L) (hR : Rel C M) (next : ∀ C' M', Rel C' M' → At X 4 (cW X.E ad C' ++ mW X.E ad' M') 1296 (LV b ad ad' j) []) : At X 4 (cW X.E ad C ++ mW X.E ad' M) 1031 (LV b ad ad' j) [] := by
  obtain ⟨r, C', M', hR', F7, F8⟩ := pr_lose (xs (j + 1)) C M hR ad ad'
  refine at_aload_n K dL_law_1031 rfl (j := 1) rfl ?_
  refine at_arg K hX 1 rfl (by omega) dL_law_1032 dL_law_1033 dL_law_1034 dL_law_1035 dL_law_1036 ?_
  refine at_callA K 1 (F7 X.l X.D X.E X.a1 X.a2) gL_law_X7_lose rfl (by decide +kernel) ⟨rfl, rfl⟩ rfl rfl (Nat.le_of_ble_eq_true rfl) dL_law_1037 ?_
  refine at_aload_n K dL_law_1040 rfl (j := 2) rfl ?_
  refine at_arg K hX 1 rfl (by omega) dL_law_1041 dL_law_1042 dL_law_1043 dL_law_1044 dL_law_1045 ?_
  refine at_callB K 1 (F8 X.l X.D X.E X.a1 X.a2) gL_law_X8_lose rfl (by decide +kernel) ⟨rfl, rfl⟩ rfl rfl (Nat.le_of_ble_eq_true rfl) dL_law_1046 ?_
  exact at_icmp_eq K dL_law_1049 (tgt := 1296) (by decide) (fun _ => next C' M' hR') (fun h => absurd rfl h)
set_option maxRecDepth 100000 in
theorem law_25 {X : Bn} {b L j : Nat} {xs : Nat → Int32} {ad ad' : Nat → Nat} {C M : MS} (K : Cx X cL_law 4 RL wsL_law 9 346) (hX : LX X b L xs) (hj : j + 7 ≤ L) (hR : Rel C M) (next : ∀ C' M', Rel C' M' → At X 4 (cW X.E ad C' ++ mW X.E ad' M') 1296 (LV b ad ad' j) []) : At X 4 (cW X.E ad C ++ mW X.E ad' M) 1054 (LV b ad ad' j) [] := by
  obtain ⟨r, C', M', hR', F7, F8⟩ := pr_lay (xs (j + 1)) (xs (j + 2)) (xs (j + 3)) (xs (j + 4)) C M hR ad ad'
  refine at_aload_n K dL_law_1054 rfl (j := 1) rfl ?_
  refine at_arg K hX 1 rfl (by omega) dL_law_1055 dL_law_1056 dL_law_1057 dL_law_1058 dL_law_1059 ?_
  refine at_arg K hX 2 rfl (by omega) dL_law_1060 dL_law_1061 dL_law_1062 dL_law_1063 dL_law_1064 ?_
  refine at_arg K hX 3 rfl (by omega) dL_law_1065 dL_law_1066 dL_law_1067 dL_law_1068 dL_law_1069 ?_
  refine at_arg K hX 4 rfl (by omega) dL_law_1070 dL_law_1071 dL_law_1072 dL_law_1073 dL_law_1074 ?_
  refine at_callA K 4 (F7 X.l X.D X.E X.a1 X.a2) gL_law_X7_lay rfl (by decide +kernel) ⟨rfl, rfl⟩ rfl rfl (Nat.le_of_ble_eq_true rfl) dL_law_1075 ?_
  refine at_aload_n K dL_law_1078 rfl (j := 2) rfl ?_
  refine at_arg K hX 1 rfl (by omega) dL_law_1079 dL_law_1080 dL_law_1081 dL_law_1082 dL_law_1083 ?_
  refine at_arg K hX 2 rfl (by omega) dL_law_1084 dL_law_1085 dL_law_1086 dL_law_1087 dL_law_1088 ?_
  refine at_arg K hX 3 rfl (by omega) dL_law_1089 dL_law_1090 dL_law_1091 dL_law_1092 dL_law_1093 ?_
  refine at_arg K hX 4 rfl (by omega) dL_law_1094 dL_law_1095 dL_law_1096 dL_law_1097 dL_law_1098 ?_
  refine at_callB K 4 (F8 X.l X.D X.E X.a1 X.a2) gL_law_X8_lay rfl (by decide +kernel) ⟨rfl, rfl⟩ rfl rfl (Nat.le_of_ble_eq_true rfl) dL_law_1099 ?_
  exact at_icmp_eq K dL_law_1102 (tgt := 1296) (by decide) (fun _ => next C' M' hR') (fun h => absurd rfl h)
set_option maxRecDepth 100000 in
theorem law_26 {X : Bn} {b L j : Nat} {xs : Nat → Int32} {ad ad' : Nat → Nat} {C M : MS} (K : Cx X cL_law 4 RL wsL_law 9 346) (hX : LX X b L xs) (hj : j + 7 ≤ L) (hR : Rel C M) (next : ∀ C' M', Rel C' M' → At X 4 (cW X.E ad C' ++ mW X.E ad' M') 1296 (LV b ad ad' j) []) : At X 4 (cW X.E ad C ++ mW X.E ad' M) 1107 (LV b ad ad' j) [] := by
  obtain ⟨r, C', M', hR', F7, F8⟩ := pr_get (xs (j + 1)) (xs (j + 2)) (xs (j + 3)) C M hR ad ad'
  refine at_aload_n K dL_law_1107 rfl (j := 1) rfl ?_
  refine at_arg K hX 1 rfl (by omega) dL_law_1108 dL_law_1109 dL_law_1110 dL_law_1111 dL_law_1112 ?_
  refine at_arg K hX 2 rfl (by omega) dL_law_1113 dL_law_1114 dL_law_1115 dL_law_1116 dL_law_1117 ?_
  refine at_arg K hX 3 rfl (by omega) dL_law_1118 dL_law_1119 dL_law_1120 dL_law_1121 dL_law_1122 ?_
  refine at_callA K 3 (F7 X.l X.D X.E X.a1 X.a2) gL_law_X7_get rfl (by decide +kernel) ⟨rfl, rfl⟩ rfl rfl (Nat.le_of_ble_eq_true rfl) dL_law_1123 ?_
  refine at_aload_n K dL_law_1126 rfl (j := 2) rfl ?_
  refine at_arg K hX 1 rfl (by omega) dL_law_1127 dL_law_1128 dL_law_1129 dL_law_1130 dL_law_1131 ?_
  refine at_arg K hX 2 rfl (by omega) dL_law_1132 dL_law_1133 dL_law_1134 dL_law_1135 dL_law_1136 ?_
  refine at_arg K hX 3 rfl (by omega) dL_law_1137 dL_law_1138 dL_law_1139 dL_law_1140 dL_law_1141 ?_
  refine at_callB K 3 (F8 X.l X.D X.E X.a1 X.a2) gL_law_X8_get rfl (by decide +kernel) ⟨rfl, rfl⟩ rfl rfl (Nat.le_of_ble_eq_true rfl) dL_law_1142 ?_
  exact at_icmp_eq K dL_law_1145 (tgt := 1296) (by decide) (fun _ => next C' M' hR') (fun h => absurd rfl h)
set_option maxRecDepth 100000 in
theorem law_27 {X : Bn} {b L j : Nat} {xs : Nat → Int32} {ad ad' : Nat → Nat} {C M : MS} (K : Cx X cL_law 4 RL wsL_law 9 346) (hX : LX X b L xs) (hj : j + 7 ≤ L) (hR : Rel C M) (next : ∀ C' M', Rel C' M' → At X 4 (cW X.E ad C' ++ mW X.E ad' M') 1296 (LV b ad ad' j) []) : At X 4 (cW X.E ad C ++ mW X.E ad' M) 1150 (LV b ad ad' j) [] := by
  obtain ⟨r, C', M', hR', F7, F8⟩ := pr_copy (xs (j + 1)) (xs (j + 2)) (xs (j + 3)) (xs (j + 4)) (xs (j + 5)) C M hR ad ad'
  refine at_aload_n K dL_law_1150 rfl (j := 1) rfl ?_
  refine at_arg K hX 1 rfl (by omega) dL_law_1151 dL_law_1152 dL_law_1153 dL_law_1154 dL_law_1155 ?_
  refine at_arg K hX 2 rfl (by omega) dL_law_1156 dL_law_1157 dL_law_1158 dL_law_1159 dL_law_1160 ?_
  refine at_arg K hX 3 rfl (by omega) dL_law_1161 dL_law_1162 dL_law_1163 dL_law_1164 dL_law_1165 ?_
  refine at_arg K hX 4 rfl (by omega) dL_law_1166 dL_law_1167 dL_law_1168 dL_law_1169 dL_law_1170 ?_
  refine at_arg K hX 5 rfl (by omega) dL_law_1171 dL_law_1172 dL_law_1173 dL_law_1174 dL_law_1175 ?_
  refine at_callA K 5 (F7 X.l X.D X.E X.a1 X.a2) gL_law_X7_copy rfl (by decide +kernel) ⟨rfl, rfl⟩ rfl rfl (Nat.le_of_ble_eq_true rfl) dL_law_1176 ?_
  refine at_aload_n K dL_law_1179 rfl (j := 2) rfl ?_
  refine at_arg K hX 1 rfl (by omega) dL_law_1180 dL_law_1181 dL_law_1182 dL_law_1183 dL_law_1184 ?_
  refine at_arg K hX 2 rfl (by omega) dL_law_1185 dL_law_1186 dL_law_1187 dL_law_1188 dL_law_1189 ?_
  refine at_arg K hX 3 rfl (by omega) dL_law_1190 dL_law_1191 dL_law_1192 dL_law_1193 dL_law_1194 ?_
  refine at_arg K hX 4 rfl (by omega) dL_law_1195 dL_law_1196 dL_law_1197 dL_law_1198 dL_law_1199 ?_
  refine at_arg K hX 5 rfl (by omega) dL_law_1200 dL_law_1201 dL_law_1202 dL_law_1203 dL_law_1204 ?_
  refine at_callB K 5 (F8 X.l X.D X.E X.a1 X.a2) gL_law_X8_copy rfl (by decide +kernel) ⟨rfl, rfl⟩ rfl rfl (Nat.le_of_ble_eq_true rfl) dL_law_1205 ?_
  exact at_icmp_eq K dL_law_1208 (tgt := 1296) (by decide) (fun _ => next C' M' hR') (fun h => absurd rfl h)
set_option maxRecDepth 100000 in
theorem law_28 {X : Bn} {b L j : Nat} {xs : Nat → Int32} {ad ad' : Nat → Nat} {C M : MS} (K : Cx X cL_law 4 RL wsL_law 9 346) (hX : LX X b L xs) (hj : j + 7 ≤ L) (hR : Rel C M) (next : ∀ C' M', Rel C' M' → At X 4 (cW X.E ad C' ++ mW X.E ad' M') 1296 (LV b ad ad' j) []) : At X 4 (cW X.E ad C ++ mW X.E ad' M) 1213 (LV b ad ad' j) [] := by
  obtain ⟨r, C', M', hR', F7, F8⟩ := pr_write (xs (j + 1)) C M hR ad ad'
  refine at_aload_n K dL_law_1213 rfl (j := 1) rfl ?_
  refine at_arg K hX 1 rfl (by omega) dL_law_1214 dL_law_1215 dL_law_1216 dL_law_1217 dL_law_1218 ?_
  refine at_callA K 1 (F7 X.l X.D X.E X.a1 X.a2) gL_law_X7_write rfl (by decide +kernel) ⟨rfl, rfl⟩ rfl rfl (Nat.le_of_ble_eq_true rfl) dL_law_1219 ?_
  refine at_aload_n K dL_law_1222 rfl (j := 2) rfl ?_
  refine at_arg K hX 1 rfl (by omega) dL_law_1223 dL_law_1224 dL_law_1225 dL_law_1226 dL_law_1227 ?_
  refine at_callB K 1 (F8 X.l X.D X.E X.a1 X.a2) gL_law_X8_write rfl (by decide +kernel) ⟨rfl, rfl⟩ rfl rfl (Nat.le_of_ble_eq_true rfl) dL_law_1228 ?_
  exact at_icmp_eq K dL_law_1231 (tgt := 1296) (by decide) (fun _ => next C' M' hR') (fun h => absurd rfl h)
set_option maxRecDepth 100000 in
theorem law_29 {X : Bn} {b L j : Nat} {xs : Nat → Int32} {ad ad' : Nat → Nat} {C M : MS} (K : Cx X cL_law 4 RL wsL_law 9 346) (hX : LX X b L xs) (hj : j + 7 ≤ L) (hR : Rel C M) (next : ∀ C' M', Rel C' M' → At X 4 (cW X.E ad C' ++ mW X.E ad' M') 1296 (LV b ad ad' j) []) : At X 4 (cW X.E ad C ++ mW X.E ad' M) 1236 (LV b ad ad' j) [] := by
  obtain ⟨r, C', M', hR', F7, F8⟩ := pr_read (xs (j + 1)) C M hR ad ad'
  refine at_aload_n K dL_law_1236 rfl (j := 1) rfl ?_
  refine at_arg K hX 1 rfl (by omega) dL_law_1237 dL_law_1238 dL_law_1239 dL_law_1240 dL_law_1241 ?_
  refine at_callA K 1 (F7 X.l X.D X.E X.a1 X.a2) gL_law_X7_read rfl (by decide +kernel) ⟨rfl, rfl⟩ rfl rfl (Nat.le_of_ble_eq_true rfl) dL_law_1242 ?_
  refine at_aload_n K dL_law_1245 rfl (j := 2) rfl ?_
  refine at_arg K hX 1 rfl (by omega) dL_law_1246 dL_law_1247 dL_law_1248 dL_law_1249 dL_law_1250 ?_
  refine at_callB K 1 (F8 X.l X.D X.E X.a1 X.a2) gL_law_X8_read rfl (by decide +kernel) ⟨rfl, rfl⟩ rfl rfl (Nat.le_of_ble_eq_true rfl) dL_law_1251 ?_
  exact at_icmp_eq K dL_law_1254 (tgt := 1296) (by decide) (fun _ => next C' M' hR') (fun h => absurd rfl h)
set_option maxRecDepth 100000 in
theorem law_30 {X : Bn} {b L j : Nat} {xs : Nat → Int32} {ad ad' : Nat → Nat} {C M : MS} (K : Cx X cL_law 4 RL wsL_law 9 346) (hX : LX X b L xs) (hj : j + 7 ≤ L) (hR : Rel C M) (next : ∀ C' M', Rel C' M' → At X 4 (cW X.E ad C' ++ mW X.E ad' M') 1296 (LV b ad ad' j) []) : At X 4 (cW X.E ad C ++ mW X.E ad' M) 1259 (LV b ad ad' j) [] := by
  obtain ⟨r, C', M', hR', F7, F8⟩ := pr_count (xs (j + 1)) C M hR ad ad'
  refine at_aload_n K dL_law_1259 rfl (j := 1) rfl ?_
  refine at_arg K hX 1 rfl (by omega) dL_law_1260 dL_law_1261 dL_law_1262 dL_law_1263 dL_law_1264 ?_
  refine at_callA K 1 (F7 X.l X.D X.E X.a1 X.a2) gL_law_X7_count rfl (by decide +kernel) ⟨rfl, rfl⟩ rfl rfl (Nat.le_of_ble_eq_true rfl) dL_law_1265 ?_
  refine at_aload_n K dL_law_1268 rfl (j := 2) rfl ?_
  refine at_arg K hX 1 rfl (by omega) dL_law_1269 dL_law_1270 dL_law_1271 dL_law_1272 dL_law_1273 ?_
  refine at_callB K 1 (F8 X.l X.D X.E X.a1 X.a2) gL_law_X8_count rfl (by decide +kernel) ⟨rfl, rfl⟩ rfl rfl (Nat.le_of_ble_eq_true rfl) dL_law_1274 ?_
  exact at_icmp_eq K dL_law_1277 (tgt := 1296) (by decide) (fun _ => next C' M' hR') (fun h => absurd rfl h)
set_option maxRecDepth 100000 in
theorem law_31 {X : Bn} {b L j : Nat} {xs : Nat → Int32} {ad ad' : Nat → Nat} {C M : MS} (K : Cx X cL_law 4 RL wsL_law 9 346) (hX : LX X b L xs) (hj : j + 7 ≤ L) (hR : Rel C M) (next : ∀ C' M', Rel C' M' → At X 4 (cW X.E ad C' ++ mW X.E ad' M') 1296 (LV b ad ad' j) []) : At X 4 (cW X.E ad C ++ mW X.E ad' M) 1282 (LV b ad ad' j) [] := by
  obtain ⟨r, C', M', hR', F7, F8⟩ := pr_digest C M hR ad ad'
  refine at_aload_n K dL_law_1282 rfl (j := 1) rfl ?_
  refine at_callA K 0 (F7 X.l X.D X.E X.a1 X.a2) gL_law_X7_digest rfl (by decide +kernel) ⟨rfl, rfl⟩ rfl rfl (Nat.le_of_ble_eq_true rfl) dL_law_1283 ?_
  refine at_aload_n K dL_law_1286 rfl (j := 2) rfl ?_
  refine at_callB K 0 (F8 X.l X.D X.E X.a1 X.a2) gL_law_X8_digest rfl (by decide +kernel) ⟨rfl, rfl⟩ rfl rfl (Nat.le_of_ble_eq_true rfl) dL_law_1287 ?_
  refine at_lcmp K dL_law_1290 ?_
  exact at_if_eq K dL_law_1291 (tgt := 1296) (by decide) (fun _ => next C' M' hR') (fun h => absurd (lcmp_self r) h)
end
