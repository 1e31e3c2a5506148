/-! THE LAW'S CASES -/
abbrev LO (a r b i : Nat) : List (Option Value) := [some (.ref b), some (.ref a), some (.ref r), some (.int (nI i)), none, none, none, none]
section ZCASE
variable {p : Program} {l : Launch} {e : Env} {s : State} {m : MethodId} {args : Array Value} {below : List Frame} {meth : Method} {c : Code} {G : GG} {A : Nat → Prop} {Q : State → Prop} {b L a r i : Nat} {xs : Nat → Int32} {wc wm : va_W}
theorem zj_mat {R : Room} {cells slots : Nat} {bs : List va_W} {lo : List (Option Value)} {pc tgt out : Nat} {st : List Value} {off off2 : Int} {v : Int32} {own : String} {nL : Nat} {cc : ByteArray} (C : zC p s m args c cc own nL G A) (d0 : decode cc pc = .ok (.ifCond .eq off, 3)) (ht : (pc : Int) + off = (tgt : Int)) (d1 : decode cc (pc + 3) = .ok (.iconst 1, 1)) (d2 : decode cc (pc + 3 + 1) = .ok (.goto off2, 3)) (ht2 : ((pc + 3 + 1 : Nat) : Int) + off2 = (out : Int)) (d3 : decode cc tgt = .ok (.iconst 0, 1)) (ho : tgt + 1 = out) (k : Zj p l e R s m args below meth c G A cells slots Q bs lo out (.int (bI (!decide (v = 0))) :: st)) : Zj p l e R s m args below meth c G A cells slots Q bs lo pc (.int v :: st) := by
  subst ho
  refine zj_if_eq tgt C d0 ht (fun h => ?_) (fun h => ?_)
  · refine zj_iconst (v := 0) C d3 rfl ?_
    rw [show bI (!decide (v = 0)) = 0 by rw [decide_eq_true h]; rfl] at k
    exact k
  · refine zj_iconst (v := 1) C d1 rfl ?_
    refine zj_goto C d2 ht2 ?_
    rw [show bI (!decide (v = 0)) = 1 by rw [decide_eq_false h]; rfl] at k
    exact k
abbrev NX (p : Program) (l : Launch) (e : Env) (s : State) (m : MethodId) (args : Array Value) (below : List Frame) (meth : Method) (c : Code) (G : GG) (A : Nat → Prop) (Q : State → Prop) (a r b i : Nat) : Prop := ∀ wc' wm' : va_W, IV G a r wc' wm' → Zj p l e room_1 s m args below meth c G A 88 6878 Q [wc', wm'] (LO a r b (i + 5)) 18 []
theorem lk_next {w w' : va_W} (C : zC p s m args c cL_law RL 8 G A) (hN : NX p l e s m args below meth c G A Q a r b i) (hI : IV G a r w w') : Zj p l e room_1 s m args below meth c G A 88 6878 Q [w, w'] (LO a r b i) 901 [] := by
  refine zj_iinc (pc := 901) (x := nI i) (v := nI (i + 5)) C dL_law_901 rfl (nI_add i 5) ?_
  refine zj_goto (pc := 904) (tgt := 18) C dL_law_904 (by decide) ?_
  exact hN w w' hI
theorem zl_aload {R : Room} {cells slots : Nat} {bs : List va_W} {ls : Array Slot} {pc : Nat} {st : List Value} {own : String} {nL : Nat} {cc : ByteArray} {k0 : Fin 4} {i x : Nat} (C : zC p s m args c cc own nL G A) (hd : decode cc pc = .ok (.aload_n k0, 1)) (hk : (k0 : Nat) = i) (hi : ls[i]? = some (.val (.ref x))) (k : ZL p l e R s m args below meth c G A cells slots Q bs ls (pc + 1) (.ref x :: st)) : ZL p l e R s m args below meth c G A cells slots Q bs ls pc st := fun H locs hP hD hS => lv_aload_n C.1 C.2.1 hd hk hi (k H locs hP hD hS)

set_option maxRecDepth 100000 in
set_option maxHeartbeats 4000000 in
theorem lk_0 (C : zC p s m args c cL_law RL 8 G A) (hX : va_X b L xs s s.heap) (hbl : b < s.heap.size) (hbA : ¬ A b) (hL : L ≤ 2560) (hi : i + 5 ≤ L) (hN : NX p l e s m args below meth c G A Q a r b i) (hI : IV G a r wc wm) : Zj p l e room_1 s m args below meth c G A 88 6878 Q [wc, wm] (LO a r b i) 148 [] := by
  obtain ⟨z, Q1, Q2, h6, h7, hz, hq⟩ := pr_lane (l := l) (x := xs (i + 1)) (y := xs (i + 2)) (ln := xs (i + 3)) (d := xs (i + 4)) hI
  obtain ⟨f6, k6, e6⟩ := IV_6 hI
  obtain ⟨f7, k7, e7⟩ := IV_7 hI
  refine zj_aload_n (pc := 148) C dL_law_148 rfl ?_
  refine zj_sarg (pc := 149) 1 C hX hbl hbA hL hi (by decide) rfl rfl rfl dL_law_149 dL_law_150 dL_law_151 dL_law_152 dL_law_153 ?_
  refine zj_sarg (pc := 154) 2 C hX hbl hbA hL hi (by decide) rfl rfl rfl dL_law_154 dL_law_155 dL_law_156 dL_law_157 dL_law_158 ?_
  refine zj_sarg (pc := 159) 3 C hX hbl hbA hL hi (by decide) rfl rfl rfl dL_law_159 dL_law_160 dL_law_161 dL_law_162 dL_law_163 ?_
  refine zj_sarg (pc := 164) 4 C hX hbl hbA hL hi (by decide) rfl rfl rfl dL_law_164 dL_law_165 dL_law_166 dL_law_167 dL_law_168 ?_
  refine zj_callA (pc := 169) C kv_L_13 h6 dL_law_169 [0] [1] rfl (by simp [zpk]) rfl rfl rfl rfl rfl rfl ⟨k6, e6⟩ rfl rfl (fun v w1 hv1 => ?_)
  obtain rfl := hz v w1 hv1
  refine zj_eq (bs' := [w1, wm]) (st' := [.int z]) rfl rfl rfl ?_
  refine zj_aload_n (pc := 172) C dL_law_172 rfl ?_
  refine zj_sarg (pc := 173) 1 C hX hbl hbA hL hi (by decide) rfl rfl rfl dL_law_173 dL_law_174 dL_law_175 dL_law_176 dL_law_177 ?_
  refine zj_sarg (pc := 178) 2 C hX hbl hbA hL hi (by decide) rfl rfl rfl dL_law_178 dL_law_179 dL_law_180 dL_law_181 dL_law_182 ?_
  refine zj_sarg (pc := 183) 3 C hX hbl hbA hL hi (by decide) rfl rfl rfl dL_law_183 dL_law_184 dL_law_185 dL_law_186 dL_law_187 ?_
  refine zj_sarg (pc := 188) 4 C hX hbl hbA hL hi (by decide) rfl rfl rfl dL_law_188 dL_law_189 dL_law_190 dL_law_191 dL_law_192 ?_
  refine zj_callA (pc := 193) C kv_L_17 h7 dL_law_193 [1] [0] rfl (by simp [zpk]) rfl rfl rfl rfl rfl rfl ⟨k7, e7⟩ rfl rfl (fun v2 w2 hv2 => ?_)
  obtain ⟨rfl, hI2⟩ := hq _ w1 v2 w2 hv1 hv2
  refine zj_swap (w1 := w1) (w2 := w2) ?_
  refine zj_stk (st' := [.int z, .int z]) rfl ?_
  exact zj_icmp_eq (pc := 196) 901 C dL_law_196 (by decide) (fun _ => lk_next C hN hI2) (fun h => absurd rfl h)
set_option maxRecDepth 100000 in
set_option maxHeartbeats 4000000 in
theorem lk_1 (C : zC p s m args c cL_law RL 8 G A) (hX : va_X b L xs s s.heap) (hbl : b < s.heap.size) (hbA : ¬ A b) (hL : L ≤ 2560) (hi : i + 5 ≤ L) (hN : NX p l e s m args below meth c G A Q a r b i) (hI : IV G a r wc wm) : Zj p l e room_1 s m args below meth c G A 88 6878 Q [wc, wm] (LO a r b i) 201 [] := by
  obtain ⟨z, Q1, Q2, h6, h7, hz, hq⟩ := pr_takeLane (l := l) (x := xs (i + 1)) hI
  obtain ⟨f6, k6, e6⟩ := IV_6 hI
  obtain ⟨f7, k7, e7⟩ := IV_7 hI
  refine zj_aload_n (pc := 201) C dL_law_201 rfl ?_
  refine zj_sarg (pc := 202) 1 C hX hbl hbA hL hi (by decide) rfl rfl rfl dL_law_202 dL_law_203 dL_law_204 dL_law_205 dL_law_206 ?_
  refine zj_callA (pc := 207) C kv_L_18 h6 dL_law_207 [0] [1] rfl (by simp [zpk]) rfl rfl rfl rfl rfl rfl ⟨k6, e6⟩ rfl rfl (fun v w1 hv1 => ?_)
  obtain rfl := hz v w1 hv1
  refine zj_eq (bs' := [w1, wm]) (st' := [.int z]) rfl rfl rfl ?_
  refine zj_aload_n (pc := 210) C dL_law_210 rfl ?_
  refine zj_sarg (pc := 211) 1 C hX hbl hbA hL hi (by decide) rfl rfl rfl dL_law_211 dL_law_212 dL_law_213 dL_law_214 dL_law_215 ?_
  refine zj_callA (pc := 216) C kv_L_22 h7 dL_law_216 [1] [0] rfl (by simp [zpk]) rfl rfl rfl rfl rfl rfl ⟨k7, e7⟩ rfl rfl (fun v2 w2 hv2 => ?_)
  obtain ⟨rfl, hI2⟩ := hq _ w1 v2 w2 hv1 hv2
  refine zj_swap (w1 := w1) (w2 := w2) ?_
  refine zj_stk (st' := [.int z, .int z]) rfl ?_
  exact zj_icmp_eq (pc := 219) 901 C dL_law_219 (by decide) (fun _ => lk_next C hN hI2) (fun h => absurd rfl h)
set_option maxRecDepth 100000 in
set_option maxHeartbeats 4000000 in
theorem lk_2 (C : zC p s m args c cL_law RL 8 G A) (hX : va_X b L xs s s.heap) (hbl : b < s.heap.size) (hbA : ¬ A b) (hL : L ≤ 2560) (hi : i + 5 ≤ L) (hN : NX p l e s m args below meth c G A Q a r b i) (hI : IV G a r wc wm) : Zj p l e room_1 s m args below meth c G A 88 6878 Q [wc, wm] (LO a r b i) 224 [] := by
  obtain ⟨z, Q1, Q2, h6, h7, hz, hq⟩ := pr_close (l := l) (x := xs (i + 1)) (b := !decide (xs (i + 2) = 0)) hI
  obtain ⟨f6, k6, e6⟩ := IV_6 hI
  obtain ⟨f7, k7, e7⟩ := IV_7 hI
  refine zj_aload_n (pc := 224) C dL_law_224 rfl ?_
  refine zj_sarg (pc := 225) 1 C hX hbl hbA hL hi (by decide) rfl rfl rfl dL_law_225 dL_law_226 dL_law_227 dL_law_228 dL_law_229 ?_
  refine zj_sarg (pc := 230) 2 C hX hbl hbA hL hi (by decide) rfl rfl rfl dL_law_230 dL_law_231 dL_law_232 dL_law_233 dL_law_234 ?_
  refine zj_mat (pc := 235) (tgt := 242) (out := 243) C dL_law_235 (by decide) dL_law_238 dL_law_239 (by decide) dL_law_242 rfl ?_
  refine zj_callA (pc := 243) C kv_L_23 h6 dL_law_243 [0] [1] rfl (by simp [zpk]) rfl rfl rfl rfl rfl rfl ⟨k6, e6⟩ rfl rfl (fun v w1 hv1 => ?_)
  obtain rfl := hz v w1 hv1
  refine zj_eq (bs' := [w1, wm]) (st' := [.int z]) rfl rfl rfl ?_
  refine zj_aload_n (pc := 246) C dL_law_246 rfl ?_
  refine zj_sarg (pc := 247) 1 C hX hbl hbA hL hi (by decide) rfl rfl rfl dL_law_247 dL_law_248 dL_law_249 dL_law_250 dL_law_251 ?_
  refine zj_sarg (pc := 252) 2 C hX hbl hbA hL hi (by decide) rfl rfl rfl dL_law_252 dL_law_253 dL_law_254 dL_law_255 dL_law_256 ?_
  refine zj_mat (pc := 257) (tgt := 264) (out := 265) C dL_law_257 (by decide) dL_law_260 dL_law_261 (by decide) dL_law_264 rfl ?_
  refine zj_callA (pc := 265) C kv_L_27 h7 dL_law_265 [1] [0] rfl (by simp [zpk]) rfl rfl rfl rfl rfl rfl ⟨k7, e7⟩ rfl rfl (fun v2 w2 hv2 => ?_)
  obtain ⟨rfl, hI2⟩ := hq _ w1 v2 w2 hv1 hv2
  refine zj_swap (w1 := w1) (w2 := w2) ?_
  refine zj_stk (st' := [.int z, .int z]) rfl ?_
  exact zj_icmp_eq (pc := 268) 901 C dL_law_268 (by decide) (fun _ => lk_next C hN hI2) (fun h => absurd rfl h)
set_option maxRecDepth 100000 in
set_option maxHeartbeats 4000000 in
theorem lk_3 (C : zC p s m args c cL_law RL 8 G A) (hX : va_X b L xs s s.heap) (hbl : b < s.heap.size) (hbA : ¬ A b) (hL : L ≤ 2560) (hi : i + 5 ≤ L) (hN : NX p l e s m args below meth c G A Q a r b i) (hI : IV G a r wc wm) : Zj p l e room_1 s m args below meth c G A 88 6878 Q [wc, wm] (LO a r b i) 273 [] := by
  obtain ⟨z, Q1, Q2, h6, h7, hz, hq⟩ := pr_rank (l := l) (x := xs (i + 1)) (r1 := xs (i + 2)) hI
  obtain ⟨f6, k6, e6⟩ := IV_6 hI
  obtain ⟨f7, k7, e7⟩ := IV_7 hI
  refine zj_aload_n (pc := 273) C dL_law_273 rfl ?_
  refine zj_sarg (pc := 274) 1 C hX hbl hbA hL hi (by decide) rfl rfl rfl dL_law_274 dL_law_275 dL_law_276 dL_law_277 dL_law_278 ?_
  refine zj_sarg (pc := 279) 2 C hX hbl hbA hL hi (by decide) rfl rfl rfl dL_law_279 dL_law_280 dL_law_281 dL_law_282 dL_law_283 ?_
  refine zj_callA (pc := 284) C kv_L_28 h6 dL_law_284 [0] [1] rfl (by simp [zpk]) rfl rfl rfl rfl rfl rfl ⟨k6, e6⟩ rfl rfl (fun v w1 hv1 => ?_)
  obtain rfl := hz v w1 hv1
  refine zj_eq (bs' := [w1, wm]) (st' := [.int z]) rfl rfl rfl ?_
  refine zj_aload_n (pc := 287) C dL_law_287 rfl ?_
  refine zj_sarg (pc := 288) 1 C hX hbl hbA hL hi (by decide) rfl rfl rfl dL_law_288 dL_law_289 dL_law_290 dL_law_291 dL_law_292 ?_
  refine zj_sarg (pc := 293) 2 C hX hbl hbA hL hi (by decide) rfl rfl rfl dL_law_293 dL_law_294 dL_law_295 dL_law_296 dL_law_297 ?_
  refine zj_callA (pc := 298) C kv_L_32 h7 dL_law_298 [1] [0] rfl (by simp [zpk]) rfl rfl rfl rfl rfl rfl ⟨k7, e7⟩ rfl rfl (fun v2 w2 hv2 => ?_)
  obtain ⟨rfl, hI2⟩ := hq _ w1 v2 w2 hv1 hv2
  refine zj_swap (w1 := w1) (w2 := w2) ?_
  refine zj_stk (st' := [.int z, .int z]) rfl ?_
  exact zj_icmp_eq (pc := 301) 901 C dL_law_301 (by decide) (fun _ => lk_next C hN hI2) (fun h => absurd rfl h)
set_option maxRecDepth 100000 in
set_option maxHeartbeats 4000000 in
theorem lk_4 (C : zC p s m args c cL_law RL 8 G A) (hX : va_X b L xs s s.heap) (hbl : b < s.heap.size) (hbA : ¬ A b) (hL : L ≤ 2560) (hi : i + 5 ≤ L) (hN : NX p l e s m args below meth c G A Q a r b i) (hI : IV G a r wc wm) : Zj p l e room_1 s m args below meth c G A 88 6878 Q [wc, wm] (LO a r b i) 306 [] := by
  obtain ⟨z, Q1, Q2, h6, h7, hz, hq⟩ := pr_alley (l := l) (x := xs (i + 1)) (ln := xs (i + 2)) (d := xs (i + 3)) hI
  obtain ⟨f6, k6, e6⟩ := IV_6 hI
  obtain ⟨f7, k7, e7⟩ := IV_7 hI
  refine zj_aload_n (pc := 306) C dL_law_306 rfl ?_
  refine zj_sarg (pc := 307) 1 C hX hbl hbA hL hi (by decide) rfl rfl rfl dL_law_307 dL_law_308 dL_law_309 dL_law_310 dL_law_311 ?_
  refine zj_sarg (pc := 312) 2 C hX hbl hbA hL hi (by decide) rfl rfl rfl dL_law_312 dL_law_313 dL_law_314 dL_law_315 dL_law_316 ?_
  refine zj_sarg (pc := 317) 3 C hX hbl hbA hL hi (by decide) rfl rfl rfl dL_law_317 dL_law_318 dL_law_319 dL_law_320 dL_law_321 ?_
  refine zj_callA (pc := 322) C kv_L_33 h6 dL_law_322 [0] [1] rfl (by simp [zpk]) rfl rfl rfl rfl rfl rfl ⟨k6, e6⟩ rfl rfl (fun v w1 hv1 => ?_)
  obtain rfl := hz v w1 hv1
  refine zj_eq (bs' := [w1, wm]) (st' := [.int z]) rfl rfl rfl ?_
  refine zj_aload_n (pc := 325) C dL_law_325 rfl ?_
  refine zj_sarg (pc := 326) 1 C hX hbl hbA hL hi (by decide) rfl rfl rfl dL_law_326 dL_law_327 dL_law_328 dL_law_329 dL_law_330 ?_
  refine zj_sarg (pc := 331) 2 C hX hbl hbA hL hi (by decide) rfl rfl rfl dL_law_331 dL_law_332 dL_law_333 dL_law_334 dL_law_335 ?_
  refine zj_sarg (pc := 336) 3 C hX hbl hbA hL hi (by decide) rfl rfl rfl dL_law_336 dL_law_337 dL_law_338 dL_law_339 dL_law_340 ?_
  refine zj_callA (pc := 341) C kv_L_37 h7 dL_law_341 [1] [0] rfl (by simp [zpk]) rfl rfl rfl rfl rfl rfl ⟨k7, e7⟩ rfl rfl (fun v2 w2 hv2 => ?_)
  obtain ⟨rfl, hI2⟩ := hq _ w1 v2 w2 hv1 hv2
  refine zj_swap (w1 := w1) (w2 := w2) ?_
  refine zj_stk (st' := [.int z, .int z]) rfl ?_
  exact zj_icmp_eq (pc := 344) 901 C dL_law_344 (by decide) (fun _ => lk_next C hN hI2) (fun h => absurd rfl h)
set_option maxRecDepth 100000 in
set_option maxHeartbeats 4000000 in
theorem lk_5 (C : zC p s m args c cL_law RL 8 G A) (hX : va_X b L xs s s.heap) (hbl : b < s.heap.size) (hbA : ¬ A b) (hL : L ≤ 2560) (hi : i + 5 ≤ L) (hN : NX p l e s m args below meth c G A Q a r b i) (hI : IV G a r wc wm) : Zj p l e room_1 s m args below meth c G A 88 6878 Q [wc, wm] (LO a r b i) 349 [] := by
  obtain ⟨z, Q1, Q2, h6, h7, hz, hq⟩ := pr_takeAlley (l := l) (x := xs (i + 1)) hI
  obtain ⟨f6, k6, e6⟩ := IV_6 hI
  obtain ⟨f7, k7, e7⟩ := IV_7 hI
  refine zj_aload_n (pc := 349) C dL_law_349 rfl ?_
  refine zj_sarg (pc := 350) 1 C hX hbl hbA hL hi (by decide) rfl rfl rfl dL_law_350 dL_law_351 dL_law_352 dL_law_353 dL_law_354 ?_
  refine zj_callA (pc := 355) C kv_L_38 h6 dL_law_355 [0] [1] rfl (by simp [zpk]) rfl rfl rfl rfl rfl rfl ⟨k6, e6⟩ rfl rfl (fun v w1 hv1 => ?_)
  obtain rfl := hz v w1 hv1
  refine zj_eq (bs' := [w1, wm]) (st' := [.int z]) rfl rfl rfl ?_
  refine zj_aload_n (pc := 358) C dL_law_358 rfl ?_
  refine zj_sarg (pc := 359) 1 C hX hbl hbA hL hi (by decide) rfl rfl rfl dL_law_359 dL_law_360 dL_law_361 dL_law_362 dL_law_363 ?_
  refine zj_callA (pc := 364) C kv_L_41 h7 dL_law_364 [1] [0] rfl (by simp [zpk]) rfl rfl rfl rfl rfl rfl ⟨k7, e7⟩ rfl rfl (fun v2 w2 hv2 => ?_)
  obtain ⟨rfl, hI2⟩ := hq _ w1 v2 w2 hv1 hv2
  refine zj_swap (w1 := w1) (w2 := w2) ?_
  refine zj_stk (st' := [.int z, .int z]) rfl ?_
  exact zj_icmp_eq (pc := 367) 901 C dL_law_367 (by decide) (fun _ => lk_next C hN hI2) (fun h => absurd rfl h)
set_option maxRecDepth 100000 in
set_option maxHeartbeats 4000000 in
theorem lk_6 (C : zC p s m args c cL_law RL 8 G A) (hX : va_X b L xs s s.heap) (hbl : b < s.heap.size) (hbA : ¬ A b) (hL : L ≤ 2560) (hi : i + 5 ≤ L) (hN : NX p l e s m args below meth c G A Q a r b i) (hI : IV G a r wc wm) : Zj p l e room_1 s m args below meth c G A 88 6878 Q [wc, wm] (LO a r b i) 372 [] := by
  obtain ⟨z, Q1, Q2, h6, h7, hz, hq⟩ := pr_tellAll (l := l)  hI
  obtain ⟨f6, k6, e6⟩ := IV_6 hI
  obtain ⟨f7, k7, e7⟩ := IV_7 hI
  refine zj_aload_n (pc := 372) C dL_law_372 rfl ?_
  refine zj_callA (pc := 373) C kv_L_42 h6 dL_law_373 [0] [1] rfl (by simp [zpk]) rfl rfl rfl rfl rfl rfl ⟨k6, e6⟩ rfl rfl (fun v w1 hv1 => ?_)
  obtain rfl := hz v w1 hv1
  refine zj_eq (bs' := [w1, wm]) (st' := [.int z]) rfl rfl rfl ?_
  refine zj_aload_n (pc := 376) C dL_law_376 rfl ?_
  refine zj_callA (pc := 377) C kv_L_46 h7 dL_law_377 [1] [0] rfl (by simp [zpk]) rfl rfl rfl rfl rfl rfl ⟨k7, e7⟩ rfl rfl (fun v2 w2 hv2 => ?_)
  obtain ⟨rfl, hI2⟩ := hq _ w1 v2 w2 hv1 hv2
  refine zj_swap (w1 := w1) (w2 := w2) ?_
  refine zj_stk (st' := [.int z, .int z]) rfl ?_
  exact zj_icmp_eq (pc := 380) 901 C dL_law_380 (by decide) (fun _ => lk_next C hN hI2) (fun h => absurd rfl h)
set_option maxRecDepth 100000 in
set_option maxHeartbeats 4000000 in
theorem lk_7 (C : zC p s m args c cL_law RL 8 G A) (hX : va_X b L xs s s.heap) (hbl : b < s.heap.size) (hbA : ¬ A b) (hL : L ≤ 2560) (hi : i + 5 ≤ L) (hN : NX p l e s m args below meth c G A Q a r b i) (hI : IV G a r wc wm) : Zj p l e room_1 s m args below meth c G A 88 6878 Q [wc, wm] (LO a r b i) 385 [] := by
  have hcv : ((xs (i + 1)).toUInt32 % 65536).toNat < 65536 := by rw [UInt32.toNat_mod]; exact Nat.mod_lt _ (by decide)
  have ecv : ((xs (i + 1)).toUInt32 % 65536).toInt32 = nI ((xs (i + 1)).toUInt32 % 65536).toNat := by
    apply Int32.toBitVec_inj.mp
    apply BitVec.eq_of_toNat_eq
    show _ = (BitVec.ofNat 32 _).toNat
    rw [BitVec.toNat_ofNat]
    exact (Nat.mod_eq_of_lt (UInt32.toNat_lt _)).symm
  obtain ⟨z, Q1, Q2, h6, h7, hz, hq⟩ := pr_type (l := l) hcv hI
  obtain ⟨f6, k6, e6⟩ := IV_6 hI
  obtain ⟨f7, k7, e7⟩ := IV_7 hI
  refine zj_aload_n (pc := 385) C dL_law_385 rfl ?_
  refine zj_sarg (pc := 386) 1 C hX hbl hbA hL hi (by decide) rfl rfl rfl dL_law_386 dL_law_387 dL_law_388 dL_law_389 dL_law_390 ?_
  refine zj_i2c (pc := 391) C dL_law_391 ?_
  refine zj_top ecv ?_
  refine zj_callA (pc := 392) C kv_L_47 h6 dL_law_392 [0] [1] rfl (by simp [zpk]) rfl rfl rfl rfl rfl rfl ⟨k6, e6⟩ rfl rfl (fun v w1 hv1 => ?_)
  obtain rfl := hz v w1 hv1
  refine zj_eq (bs' := [w1, wm]) (st' := [.int z]) rfl rfl rfl ?_
  refine zj_aload_n (pc := 395) C dL_law_395 rfl ?_
  refine zj_sarg (pc := 396) 1 C hX hbl hbA hL hi (by decide) rfl rfl rfl dL_law_396 dL_law_397 dL_law_398 dL_law_399 dL_law_400 ?_
  refine zj_i2c (pc := 401) C dL_law_401 ?_
  refine zj_top ecv ?_
  refine zj_callA (pc := 402) C kv_L_51 h7 dL_law_402 [1] [0] rfl (by simp [zpk]) rfl rfl rfl rfl rfl rfl ⟨k7, e7⟩ rfl rfl (fun v2 w2 hv2 => ?_)
  obtain ⟨rfl, hI2⟩ := hq _ w1 v2 w2 hv1 hv2
  refine zj_swap (w1 := w1) (w2 := w2) ?_
  refine zj_stk (st' := [.int z, .int z]) rfl ?_
  exact zj_icmp_eq (pc := 405) 901 C dL_law_405 (by decide) (fun _ => lk_next C hN hI2) (fun h => absurd rfl h)
set_option maxRecDepth 100000 in
set_option maxHeartbeats 4000000 in
theorem lk_8 (C : zC p s m args c cL_law RL 8 G A) (hX : va_X b L xs s s.heap) (hbl : b < s.heap.size) (hbA : ¬ A b) (hL : L ≤ 2560) (hi : i + 5 ≤ L) (hN : NX p l e s m args below meth c G A Q a r b i) (hI : IV G a r wc wm) : Zj p l e room_1 s m args below meth c G A 88 6878 Q [wc, wm] (LO a r b i) 410 [] := by
  obtain ⟨z, Q1, Q2, h6, h7, hz, hq⟩ := pr_clearText (l := l)  hI
  obtain ⟨f6, k6, e6⟩ := IV_6 hI
  obtain ⟨f7, k7, e7⟩ := IV_7 hI
  refine zj_aload_n (pc := 410) C dL_law_410 rfl ?_
  refine zj_callA (pc := 411) C kv_L_52 h6 dL_law_411 [0] [1] rfl (by simp [zpk]) rfl rfl rfl rfl rfl rfl ⟨k6, e6⟩ rfl rfl (fun v w1 hv1 => ?_)
  obtain rfl := hz v w1 hv1
  refine zj_eq (bs' := [w1, wm]) (st' := [.int z]) rfl rfl rfl ?_
  refine zj_aload_n (pc := 414) C dL_law_414 rfl ?_
  refine zj_callA (pc := 415) C kv_L_55 h7 dL_law_415 [1] [0] rfl (by simp [zpk]) rfl rfl rfl rfl rfl rfl ⟨k7, e7⟩ rfl rfl (fun v2 w2 hv2 => ?_)
  obtain ⟨rfl, hI2⟩ := hq _ w1 v2 w2 hv1 hv2
  refine zj_swap (w1 := w1) (w2 := w2) ?_
  refine zj_stk (st' := [.int z, .int z]) rfl ?_
  exact zj_icmp_eq (pc := 418) 901 C dL_law_418 (by decide) (fun _ => lk_next C hN hI2) (fun h => absurd rfl h)
set_option maxRecDepth 100000 in
set_option maxHeartbeats 4000000 in
theorem lk_9 (C : zC p s m args c cL_law RL 8 G A) (hX : va_X b L xs s s.heap) (hbl : b < s.heap.size) (hbA : ¬ A b) (hL : L ≤ 2560) (hi : i + 5 ≤ L) (hN : NX p l e s m args below meth c G A Q a r b i) (hI : IV G a r wc wm) : Zj p l e room_1 s m args below meth c G A 88 6878 Q [wc, wm] (LO a r b i) 423 [] := by
  obtain ⟨z, Q1, Q2, h6, h7, hz, hq⟩ := pr_fault (l := l)  hI
  obtain ⟨f6, k6, e6⟩ := IV_6 hI
  obtain ⟨f7, k7, e7⟩ := IV_7 hI
  refine zj_aload_n (pc := 423) C dL_law_423 rfl ?_
  refine zj_callA (pc := 424) C kv_L_56 h6 dL_law_424 [0] [1] rfl (by simp [zpk]) rfl rfl rfl rfl rfl rfl ⟨k6, e6⟩ rfl rfl (fun v w1 hv1 => ?_)
  obtain rfl := hz v w1 hv1
  refine zj_eq (bs' := [w1, wm]) (st' := [.int z]) rfl rfl rfl ?_
  refine zj_aload_n (pc := 427) C dL_law_427 rfl ?_
  refine zj_callA (pc := 428) C kv_L_59 h7 dL_law_428 [1] [0] rfl (by simp [zpk]) rfl rfl rfl rfl rfl rfl ⟨k7, e7⟩ rfl rfl (fun v2 w2 hv2 => ?_)
  obtain ⟨rfl, hI2⟩ := hq _ w1 v2 w2 hv1 hv2
  refine zj_swap (w1 := w1) (w2 := w2) ?_
  refine zj_stk (st' := [.int z, .int z]) rfl ?_
  exact zj_icmp_eq (pc := 431) 901 C dL_law_431 (by decide) (fun _ => lk_next C hN hI2) (fun h => absurd rfl h)
set_option maxRecDepth 100000 in
set_option maxHeartbeats 4000000 in
theorem lk_10 (C : zC p s m args c cL_law RL 8 G A) (hX : va_X b L xs s s.heap) (hbl : b < s.heap.size) (hbA : ¬ A b) (hL : L ≤ 2560) (hi : i + 5 ≤ L) (hN : NX p l e s m args below meth c G A Q a r b i) (hI : IV G a r wc wm) : Zj p l e room_1 s m args below meth c G A 88 6878 Q [wc, wm] (LO a r b i) 436 [] := by
  obtain ⟨z, Q1, Q2, h6, h7, hz, hq⟩ := pr_undo (l := l)  hI
  obtain ⟨f6, k6, e6⟩ := IV_6 hI
  obtain ⟨f7, k7, e7⟩ := IV_7 hI
  refine zj_aload_n (pc := 436) C dL_law_436 rfl ?_
  refine zj_callA (pc := 437) C kv_L_60 h6 dL_law_437 [0] [1] rfl (by simp [zpk]) rfl rfl rfl rfl rfl rfl ⟨k6, e6⟩ rfl rfl (fun v w1 hv1 => ?_)
  obtain rfl := hz v w1 hv1
  refine zj_eq (bs' := [w1, wm]) (st' := [.int z]) rfl rfl rfl ?_
  refine zj_aload_n (pc := 440) C dL_law_440 rfl ?_
  refine zj_callA (pc := 441) C kv_L_63 h7 dL_law_441 [1] [0] rfl (by simp [zpk]) rfl rfl rfl rfl rfl rfl ⟨k7, e7⟩ rfl rfl (fun v2 w2 hv2 => ?_)
  obtain ⟨rfl, hI2⟩ := hq _ w1 v2 w2 hv1 hv2
  refine zj_swap (w1 := w1) (w2 := w2) ?_
  refine zj_stk (st' := [.int z, .int z]) rfl ?_
  exact zj_icmp_eq (pc := 444) 901 C dL_law_444 (by decide) (fun _ => lk_next C hN hI2) (fun h => absurd rfl h)
set_option maxRecDepth 100000 in
set_option maxHeartbeats 4000000 in
theorem lk_11 (C : zC p s m args c cL_law RL 8 G A) (hX : va_X b L xs s s.heap) (hbl : b < s.heap.size) (hbA : ¬ A b) (hL : L ≤ 2560) (hi : i + 5 ≤ L) (hN : NX p l e s m args below meth c G A Q a r b i) (hI : IV G a r wc wm) : Zj p l e room_1 s m args below meth c G A 88 6878 Q [wc, wm] (LO a r b i) 449 [] := by
  obtain ⟨z, Q1, Q2, h6, h7, hz, hq⟩ := pr_keep (l := l)  hI
  obtain ⟨f6, k6, e6⟩ := IV_6 hI
  obtain ⟨f7, k7, e7⟩ := IV_7 hI
  refine zj_aload_n (pc := 449) C dL_law_449 rfl ?_
  refine zj_callA (pc := 450) C kv_L_64 h6 dL_law_450 [0] [1] rfl (by simp [zpk]) rfl rfl rfl rfl rfl rfl ⟨k6, e6⟩ rfl rfl (fun v w1 hv1 => ?_)
  obtain rfl := hz v w1 hv1
  refine zj_eq (bs' := [w1, wm]) (st' := [.int z]) rfl rfl rfl ?_
  refine zj_aload_n (pc := 453) C dL_law_453 rfl ?_
  refine zj_callA (pc := 454) C kv_L_67 h7 dL_law_454 [1] [0] rfl (by simp [zpk]) rfl rfl rfl rfl rfl rfl ⟨k7, e7⟩ rfl rfl (fun v2 w2 hv2 => ?_)
  obtain ⟨rfl, hI2⟩ := hq _ w1 v2 w2 hv1 hv2
  refine zj_swap (w1 := w1) (w2 := w2) ?_
  refine zj_stk (st' := [.int z, .int z]) rfl ?_
  exact zj_icmp_eq (pc := 457) 901 C dL_law_457 (by decide) (fun _ => lk_next C hN hI2) (fun h => absurd rfl h)
set_option maxRecDepth 100000 in
set_option maxHeartbeats 4000000 in
theorem lk_12 (C : zC p s m args c cL_law RL 8 G A) (hX : va_X b L xs s s.heap) (hbl : b < s.heap.size) (hbA : ¬ A b) (hL : L ≤ 2560) (hi : i + 5 ≤ L) (hN : NX p l e s m args below meth c G A Q a r b i) (hI : IV G a r wc wm) : Zj p l e room_1 s m args below meth c G A 88 6878 Q [wc, wm] (LO a r b i) 462 [] := by
  obtain ⟨z, Q1, Q2, h6, h7, hz, hq⟩ := pr_restore (l := l)  hI
  obtain ⟨f6, k6, e6⟩ := IV_6 hI
  obtain ⟨f7, k7, e7⟩ := IV_7 hI
  refine zj_aload_n (pc := 462) C dL_law_462 rfl ?_
  refine zj_callA (pc := 463) C kv_L_68 h6 dL_law_463 [0] [1] rfl (by simp [zpk]) rfl rfl rfl rfl rfl rfl ⟨k6, e6⟩ rfl rfl (fun v w1 hv1 => ?_)
  obtain rfl := hz v w1 hv1
  refine zj_eq (bs' := [w1, wm]) (st' := [.int z]) rfl rfl rfl ?_
  refine zj_aload_n (pc := 466) C dL_law_466 rfl ?_
  refine zj_callA (pc := 467) C kv_L_71 h7 dL_law_467 [1] [0] rfl (by simp [zpk]) rfl rfl rfl rfl rfl rfl ⟨k7, e7⟩ rfl rfl (fun v2 w2 hv2 => ?_)
  obtain ⟨rfl, hI2⟩ := hq _ w1 v2 w2 hv1 hv2
  refine zj_swap (w1 := w1) (w2 := w2) ?_
  refine zj_stk (st' := [.int z, .int z]) rfl ?_
  exact zj_icmp_eq (pc := 470) 901 C dL_law_470 (by decide) (fun _ => lk_next C hN hI2) (fun h => absurd rfl h)
set_option maxRecDepth 100000 in
set_option maxHeartbeats 4000000 in
theorem lk_13 (C : zC p s m args c cL_law RL 8 G A) (hX : va_X b L xs s s.heap) (hbl : b < s.heap.size) (hbA : ¬ A b) (hL : L ≤ 2560) (hi : i + 5 ≤ L) (hN : NX p l e s m args below meth c G A Q a r b i) (hI : IV G a r wc wm) : Zj p l e room_1 s m args below meth c G A 88 6878 Q [wc, wm] (LO a r b i) 475 [] := by
  obtain ⟨z, Q1, Q2, h6, h7, hz, hq⟩ := pr_laneOf (l := l) (x := xs (i + 1)) (w := xs (i + 2)) hI
  obtain ⟨f6, k6, e6⟩ := IV_6 hI
  obtain ⟨f7, k7, e7⟩ := IV_7 hI
  refine zj_aload_n (pc := 475) C dL_law_475 rfl ?_
  refine zj_sarg (pc := 476) 1 C hX hbl hbA hL hi (by decide) rfl rfl rfl dL_law_476 dL_law_477 dL_law_478 dL_law_479 dL_law_480 ?_
  refine zj_sarg (pc := 481) 2 C hX hbl hbA hL hi (by decide) rfl rfl rfl dL_law_481 dL_law_482 dL_law_483 dL_law_484 dL_law_485 ?_
  refine zj_callA (pc := 486) C kv_L_72 h6 dL_law_486 [0] [1] rfl (by simp [zpk]) rfl rfl rfl rfl rfl rfl ⟨k6, e6⟩ rfl rfl (fun v w1 hv1 => ?_)
  obtain rfl := hz v w1 hv1
  refine zj_eq (bs' := [w1, wm]) (st' := [.int z]) rfl rfl rfl ?_
  refine zj_aload_n (pc := 489) C dL_law_489 rfl ?_
  refine zj_sarg (pc := 490) 1 C hX hbl hbA hL hi (by decide) rfl rfl rfl dL_law_490 dL_law_491 dL_law_492 dL_law_493 dL_law_494 ?_
  refine zj_sarg (pc := 495) 2 C hX hbl hbA hL hi (by decide) rfl rfl rfl dL_law_495 dL_law_496 dL_law_497 dL_law_498 dL_law_499 ?_
  refine zj_callA (pc := 500) C kv_L_75 h7 dL_law_500 [1] [0] rfl (by simp [zpk]) rfl rfl rfl rfl rfl rfl ⟨k7, e7⟩ rfl rfl (fun v2 w2 hv2 => ?_)
  obtain ⟨rfl, hI2⟩ := hq _ w1 v2 w2 hv1 hv2
  refine zj_swap (w1 := w1) (w2 := w2) ?_
  refine zj_stk (st' := [.int z, .int z]) rfl ?_
  exact zj_icmp_eq (pc := 503) 901 C dL_law_503 (by decide) (fun _ => lk_next C hN hI2) (fun h => absurd rfl h)
set_option maxRecDepth 100000 in
set_option maxHeartbeats 4000000 in
theorem lk_14 (C : zC p s m args c cL_law RL 8 G A) (hX : va_X b L xs s s.heap) (hbl : b < s.heap.size) (hbA : ¬ A b) (hL : L ≤ 2560) (hi : i + 5 ≤ L) (hN : NX p l e s m args below meth c G A Q a r b i) (hI : IV G a r wc wm) : Zj p l e room_1 s m args below meth c G A 88 6878 Q [wc, wm] (LO a r b i) 508 [] := by
  obtain ⟨z, Q1, Q2, h6, h7, hz, hq⟩ := pr_alleyOf (l := l) (x := xs (i + 1)) (w := xs (i + 2)) hI
  obtain ⟨f6, k6, e6⟩ := IV_6 hI
  obtain ⟨f7, k7, e7⟩ := IV_7 hI
  refine zj_aload_n (pc := 508) C dL_law_508 rfl ?_
  refine zj_sarg (pc := 509) 1 C hX hbl hbA hL hi (by decide) rfl rfl rfl dL_law_509 dL_law_510 dL_law_511 dL_law_512 dL_law_513 ?_
  refine zj_sarg (pc := 514) 2 C hX hbl hbA hL hi (by decide) rfl rfl rfl dL_law_514 dL_law_515 dL_law_516 dL_law_517 dL_law_518 ?_
  refine zj_callA (pc := 519) C kv_L_76 h6 dL_law_519 [0] [1] rfl (by simp [zpk]) rfl rfl rfl rfl rfl rfl ⟨k6, e6⟩ rfl rfl (fun v w1 hv1 => ?_)
  obtain rfl := hz v w1 hv1
  refine zj_eq (bs' := [w1, wm]) (st' := [.int z]) rfl rfl rfl ?_
  refine zj_aload_n (pc := 522) C dL_law_522 rfl ?_
  refine zj_sarg (pc := 523) 1 C hX hbl hbA hL hi (by decide) rfl rfl rfl dL_law_523 dL_law_524 dL_law_525 dL_law_526 dL_law_527 ?_
  refine zj_sarg (pc := 528) 2 C hX hbl hbA hL hi (by decide) rfl rfl rfl dL_law_528 dL_law_529 dL_law_530 dL_law_531 dL_law_532 ?_
  refine zj_callA (pc := 533) C kv_L_79 h7 dL_law_533 [1] [0] rfl (by simp [zpk]) rfl rfl rfl rfl rfl rfl ⟨k7, e7⟩ rfl rfl (fun v2 w2 hv2 => ?_)
  obtain ⟨rfl, hI2⟩ := hq _ w1 v2 w2 hv1 hv2
  refine zj_swap (w1 := w1) (w2 := w2) ?_
  refine zj_stk (st' := [.int z, .int z]) rfl ?_
  exact zj_icmp_eq (pc := 536) 901 C dL_law_536 (by decide) (fun _ => lk_next C hN hI2) (fun h => absurd rfl h)
set_option maxRecDepth 100000 in
set_option maxHeartbeats 4000000 in
theorem lk_15 (C : zC p s m args c cL_law RL 8 G A) (hX : va_X b L xs s s.heap) (hbl : b < s.heap.size) (hbA : ¬ A b) (hL : L ≤ 2560) (hi : i + 5 ≤ L) (hN : NX p l e s m args below meth c G A Q a r b i) (hI : IV G a r wc wm) : Zj p l e room_1 s m args below meth c G A 88 6878 Q [wc, wm] (LO a r b i) 541 [] := by
  obtain ⟨z, Q1, Q2, h6, h7, hz, hq⟩ := pr_crossingOf (l := l) (x := xs (i + 1)) (w := xs (i + 2)) hI
  obtain ⟨f6, k6, e6⟩ := IV_6 hI
  obtain ⟨f7, k7, e7⟩ := IV_7 hI
  refine zj_aload_n (pc := 541) C dL_law_541 rfl ?_
  refine zj_sarg (pc := 542) 1 C hX hbl hbA hL hi (by decide) rfl rfl rfl dL_law_542 dL_law_543 dL_law_544 dL_law_545 dL_law_546 ?_
  refine zj_sarg (pc := 547) 2 C hX hbl hbA hL hi (by decide) rfl rfl rfl dL_law_547 dL_law_548 dL_law_549 dL_law_550 dL_law_551 ?_
  refine zj_callA (pc := 552) C kv_L_80 h6 dL_law_552 [0] [1] rfl (by simp [zpk]) rfl rfl rfl rfl rfl rfl ⟨k6, e6⟩ rfl rfl (fun v w1 hv1 => ?_)
  obtain rfl := hz v w1 hv1
  refine zj_eq (bs' := [w1, wm]) (st' := [.int z]) rfl rfl rfl ?_
  refine zj_aload_n (pc := 555) C dL_law_555 rfl ?_
  refine zj_sarg (pc := 556) 1 C hX hbl hbA hL hi (by decide) rfl rfl rfl dL_law_556 dL_law_557 dL_law_558 dL_law_559 dL_law_560 ?_
  refine zj_sarg (pc := 561) 2 C hX hbl hbA hL hi (by decide) rfl rfl rfl dL_law_561 dL_law_562 dL_law_563 dL_law_564 dL_law_565 ?_
  refine zj_callA (pc := 566) C kv_L_83 h7 dL_law_566 [1] [0] rfl (by simp [zpk]) rfl rfl rfl rfl rfl rfl ⟨k7, e7⟩ rfl rfl (fun v2 w2 hv2 => ?_)
  obtain ⟨rfl, hI2⟩ := hq _ w1 v2 w2 hv1 hv2
  refine zj_swap (w1 := w1) (w2 := w2) ?_
  refine zj_stk (st' := [.int z, .int z]) rfl ?_
  exact zj_icmp_eq (pc := 569) 901 C dL_law_569 (by decide) (fun _ => lk_next C hN hI2) (fun h => absurd rfl h)
set_option maxRecDepth 100000 in
set_option maxHeartbeats 4000000 in
theorem lk_16 (C : zC p s m args c cL_law RL 8 G A) (hX : va_X b L xs s s.heap) (hbl : b < s.heap.size) (hbA : ¬ A b) (hL : L ≤ 2560) (hi : i + 5 ≤ L) (hN : NX p l e s m args below meth c G A Q a r b i) (hI : IV G a r wc wm) : Zj p l e room_1 s m args below meth c G A 88 6878 Q [wc, wm] (LO a r b i) 574 [] := by
  obtain ⟨z, Q1, Q2, h6, h7, hz, hq⟩ := pr_within (l := l) (d := xs (i + 1)) (x := xs (i + 2)) (y := xs (i + 3)) hI
  obtain ⟨f6, k6, e6⟩ := IV_6 hI
  obtain ⟨f7, k7, e7⟩ := IV_7 hI
  refine zj_aload_n (pc := 574) C dL_law_574 rfl ?_
  refine zj_sarg (pc := 575) 1 C hX hbl hbA hL hi (by decide) rfl rfl rfl dL_law_575 dL_law_576 dL_law_577 dL_law_578 dL_law_579 ?_
  refine zj_sarg (pc := 580) 2 C hX hbl hbA hL hi (by decide) rfl rfl rfl dL_law_580 dL_law_581 dL_law_582 dL_law_583 dL_law_584 ?_
  refine zj_sarg (pc := 585) 3 C hX hbl hbA hL hi (by decide) rfl rfl rfl dL_law_585 dL_law_586 dL_law_587 dL_law_588 dL_law_589 ?_
  refine zj_callA (pc := 590) C kv_L_84 h6 dL_law_590 [0] [1] rfl (by simp [zpk]) rfl rfl rfl rfl rfl rfl ⟨k6, e6⟩ rfl rfl (fun v w1 hv1 => ?_)
  obtain rfl := hz v w1 hv1
  refine zj_eq (bs' := [w1, wm]) (st' := [.int z]) rfl rfl rfl ?_
  refine zj_aload_n (pc := 593) C dL_law_593 rfl ?_
  refine zj_sarg (pc := 594) 1 C hX hbl hbA hL hi (by decide) rfl rfl rfl dL_law_594 dL_law_595 dL_law_596 dL_law_597 dL_law_598 ?_
  refine zj_sarg (pc := 599) 2 C hX hbl hbA hL hi (by decide) rfl rfl rfl dL_law_599 dL_law_600 dL_law_601 dL_law_602 dL_law_603 ?_
  refine zj_sarg (pc := 604) 3 C hX hbl hbA hL hi (by decide) rfl rfl rfl dL_law_604 dL_law_605 dL_law_606 dL_law_607 dL_law_608 ?_
  refine zj_callA (pc := 609) C kv_L_87 h7 dL_law_609 [1] [0] rfl (by simp [zpk]) rfl rfl rfl rfl rfl rfl ⟨k7, e7⟩ rfl rfl (fun v2 w2 hv2 => ?_)
  obtain ⟨rfl, hI2⟩ := hq _ w1 v2 w2 hv1 hv2
  refine zj_swap (w1 := w1) (w2 := w2) ?_
  refine zj_stk (st' := [.int z, .int z]) rfl ?_
  exact zj_icmp_eq (pc := 612) 901 C dL_law_612 (by decide) (fun _ => lk_next C hN hI2) (fun h => absurd rfl h)
set_option maxRecDepth 100000 in
set_option maxHeartbeats 4000000 in
theorem lk_17 (C : zC p s m args c cL_law RL 8 G A) (hX : va_X b L xs s s.heap) (hbl : b < s.heap.size) (hbA : ¬ A b) (hL : L ≤ 2560) (hi : i + 5 ≤ L) (hN : NX p l e s m args below meth c G A Q a r b i) (hI : IV G a r wc wm) : Zj p l e room_1 s m args below meth c G A 88 6878 Q [wc, wm] (LO a r b i) 617 [] := by
  obtain ⟨z, Q1, Q2, h6, h7, hz, hq⟩ := pr_total (l := l) (x := xs (i + 1)) (al := xs (i + 2)) (w := xs (i + 3)) hI
  obtain ⟨f6, k6, e6⟩ := IV_6 hI
  obtain ⟨f7, k7, e7⟩ := IV_7 hI
  refine zj_aload_n (pc := 617) C dL_law_617 rfl ?_
  refine zj_sarg (pc := 618) 1 C hX hbl hbA hL hi (by decide) rfl rfl rfl dL_law_618 dL_law_619 dL_law_620 dL_law_621 dL_law_622 ?_
  refine zj_sarg (pc := 623) 2 C hX hbl hbA hL hi (by decide) rfl rfl rfl dL_law_623 dL_law_624 dL_law_625 dL_law_626 dL_law_627 ?_
  refine zj_sarg (pc := 628) 3 C hX hbl hbA hL hi (by decide) rfl rfl rfl dL_law_628 dL_law_629 dL_law_630 dL_law_631 dL_law_632 ?_
  refine zj_callA (pc := 633) C kv_L_88 h6 dL_law_633 [0] [1] rfl (by simp [zpk]) rfl rfl rfl rfl rfl rfl ⟨k6, e6⟩ rfl rfl (fun v w1 hv1 => ?_)
  obtain rfl := hz v w1 hv1
  refine zj_eq (bs' := [w1, wm]) (st' := [.int z]) rfl rfl rfl ?_
  refine zj_aload_n (pc := 636) C dL_law_636 rfl ?_
  refine zj_sarg (pc := 637) 1 C hX hbl hbA hL hi (by decide) rfl rfl rfl dL_law_637 dL_law_638 dL_law_639 dL_law_640 dL_law_641 ?_
  refine zj_sarg (pc := 642) 2 C hX hbl hbA hL hi (by decide) rfl rfl rfl dL_law_642 dL_law_643 dL_law_644 dL_law_645 dL_law_646 ?_
  refine zj_sarg (pc := 647) 3 C hX hbl hbA hL hi (by decide) rfl rfl rfl dL_law_647 dL_law_648 dL_law_649 dL_law_650 dL_law_651 ?_
  refine zj_callA (pc := 652) C kv_L_91 h7 dL_law_652 [1] [0] rfl (by simp [zpk]) rfl rfl rfl rfl rfl rfl ⟨k7, e7⟩ rfl rfl (fun v2 w2 hv2 => ?_)
  obtain ⟨rfl, hI2⟩ := hq _ w1 v2 w2 hv1 hv2
  refine zj_swap (w1 := w1) (w2 := w2) ?_
  refine zj_stk (st' := [.int z, .int z]) rfl ?_
  exact zj_icmp_eq (pc := 655) 901 C dL_law_655 (by decide) (fun _ => lk_next C hN hI2) (fun h => absurd rfl h)
set_option maxRecDepth 100000 in
set_option maxHeartbeats 4000000 in
theorem lk_18 (C : zC p s m args c cL_law RL 8 G A) (hX : va_X b L xs s s.heap) (hbl : b < s.heap.size) (hbA : ¬ A b) (hL : L ≤ 2560) (hi : i + 5 ≤ L) (hN : NX p l e s m args below meth c G A Q a r b i) (hI : IV G a r wc wm) : Zj p l e room_1 s m args below meth c G A 88 6878 Q [wc, wm] (LO a r b i) 660 [] := by
  obtain ⟨z, Q1, Q2, h6, h7, hz, hq⟩ := pr_walk (l := l) (x := xs (i + 1)) (al := xs (i + 2)) (w := xs (i + 3)) hI
  obtain ⟨f6, k6, e6⟩ := IV_6 hI
  obtain ⟨f7, k7, e7⟩ := IV_7 hI
  refine zj_aload_n (pc := 660) C dL_law_660 rfl ?_
  refine zj_sarg (pc := 661) 1 C hX hbl hbA hL hi (by decide) rfl rfl rfl dL_law_661 dL_law_662 dL_law_663 dL_law_664 dL_law_665 ?_
  refine zj_sarg (pc := 666) 2 C hX hbl hbA hL hi (by decide) rfl rfl rfl dL_law_666 dL_law_667 dL_law_668 dL_law_669 dL_law_670 ?_
  refine zj_sarg (pc := 671) 3 C hX hbl hbA hL hi (by decide) rfl rfl rfl dL_law_671 dL_law_672 dL_law_673 dL_law_674 dL_law_675 ?_
  refine zj_callA (pc := 676) C kv_L_92 h6 dL_law_676 [0] [1] rfl (by simp [zpk]) rfl rfl rfl rfl rfl rfl ⟨k6, e6⟩ rfl rfl (fun v w1 hv1 => ?_)
  obtain rfl := hz v w1 hv1
  refine zj_eq (bs' := [w1, wm]) (st' := [.int z]) rfl rfl rfl ?_
  refine zj_aload_n (pc := 679) C dL_law_679 rfl ?_
  refine zj_sarg (pc := 680) 1 C hX hbl hbA hL hi (by decide) rfl rfl rfl dL_law_680 dL_law_681 dL_law_682 dL_law_683 dL_law_684 ?_
  refine zj_sarg (pc := 685) 2 C hX hbl hbA hL hi (by decide) rfl rfl rfl dL_law_685 dL_law_686 dL_law_687 dL_law_688 dL_law_689 ?_
  refine zj_sarg (pc := 690) 3 C hX hbl hbA hL hi (by decide) rfl rfl rfl dL_law_690 dL_law_691 dL_law_692 dL_law_693 dL_law_694 ?_
  refine zj_callA (pc := 695) C kv_L_95 h7 dL_law_695 [1] [0] rfl (by simp [zpk]) rfl rfl rfl rfl rfl rfl ⟨k7, e7⟩ rfl rfl (fun v2 w2 hv2 => ?_)
  obtain ⟨rfl, hI2⟩ := hq _ w1 v2 w2 hv1 hv2
  refine zj_swap (w1 := w1) (w2 := w2) ?_
  refine zj_stk (st' := [.int z, .int z]) rfl ?_
  exact zj_icmp_eq (pc := 698) 901 C dL_law_698 (by decide) (fun _ => lk_next C hN hI2) (fun h => absurd rfl h)
set_option maxRecDepth 100000 in
set_option maxHeartbeats 4000000 in
theorem lk_19 (C : zC p s m args c cL_law RL 8 G A) (hX : va_X b L xs s s.heap) (hbl : b < s.heap.size) (hbA : ¬ A b) (hL : L ≤ 2560) (hi : i + 5 ≤ L) (hN : NX p l e s m args below meth c G A Q a r b i) (hI : IV G a r wc wm) : Zj p l e room_1 s m args below meth c G A 88 6878 Q [wc, wm] (LO a r b i) 703 [] := by
  obtain ⟨z, Q1, Q2, h6, h7, hz, hq⟩ := pr_shortest (l := l) (x := xs (i + 1)) (w := xs (i + 2)) hI
  obtain ⟨f6, k6, e6⟩ := IV_6 hI
  obtain ⟨f7, k7, e7⟩ := IV_7 hI
  refine zj_aload_n (pc := 703) C dL_law_703 rfl ?_
  refine zj_sarg (pc := 704) 1 C hX hbl hbA hL hi (by decide) rfl rfl rfl dL_law_704 dL_law_705 dL_law_706 dL_law_707 dL_law_708 ?_
  refine zj_sarg (pc := 709) 2 C hX hbl hbA hL hi (by decide) rfl rfl rfl dL_law_709 dL_law_710 dL_law_711 dL_law_712 dL_law_713 ?_
  refine zj_callA (pc := 714) C kv_L_96 h6 dL_law_714 [0] [1] rfl (by simp [zpk]) rfl rfl rfl rfl rfl rfl ⟨k6, e6⟩ rfl rfl (fun v w1 hv1 => ?_)
  obtain rfl := hz v w1 hv1
  refine zj_eq (bs' := [w1, wm]) (st' := [.int z]) rfl rfl rfl ?_
  refine zj_aload_n (pc := 717) C dL_law_717 rfl ?_
  refine zj_sarg (pc := 718) 1 C hX hbl hbA hL hi (by decide) rfl rfl rfl dL_law_718 dL_law_719 dL_law_720 dL_law_721 dL_law_722 ?_
  refine zj_sarg (pc := 723) 2 C hX hbl hbA hL hi (by decide) rfl rfl rfl dL_law_723 dL_law_724 dL_law_725 dL_law_726 dL_law_727 ?_
  refine zj_callA (pc := 728) C kv_L_99 h7 dL_law_728 [1] [0] rfl (by simp [zpk]) rfl rfl rfl rfl rfl rfl ⟨k7, e7⟩ rfl rfl (fun v2 w2 hv2 => ?_)
  obtain ⟨rfl, hI2⟩ := hq _ w1 v2 w2 hv1 hv2
  refine zj_swap (w1 := w1) (w2 := w2) ?_
  refine zj_stk (st' := [.int z, .int z]) rfl ?_
  exact zj_icmp_eq (pc := 731) 901 C dL_law_731 (by decide) (fun _ => lk_next C hN hI2) (fun h => absurd rfl h)
set_option maxRecDepth 100000 in
set_option maxHeartbeats 4000000 in
theorem lk_20 (C : zC p s m args c cL_law RL 8 G A) (hX : va_X b L xs s s.heap) (hbl : b < s.heap.size) (hbA : ¬ A b) (hL : L ≤ 2560) (hi : i + 5 ≤ L) (hN : NX p l e s m args below meth c G A Q a r b i) (hI : IV G a r wc wm) : Zj p l e room_1 s m args below meth c G A 88 6878 Q [wc, wm] (LO a r b i) 736 [] := by
  obtain ⟨z, Q1, Q2, hz0, h6, h7, hz, hq⟩ := pr_stretch (l := l) (x := xs (i + 1)) (al := xs (i + 2)) hI
  obtain ⟨f6, k6, e6⟩ := IV_6 hI
  obtain ⟨f7, k7, e7⟩ := IV_7 hI
  refine zj_aload_n (pc := 736) C dL_law_736 rfl ?_
  refine zj_sarg (pc := 737) 1 C hX hbl hbA hL hi (by decide) rfl rfl rfl dL_law_737 dL_law_738 dL_law_739 dL_law_740 dL_law_741 ?_
  refine zj_sarg (pc := 742) 2 C hX hbl hbA hL hi (by decide) rfl rfl rfl dL_law_742 dL_law_743 dL_law_744 dL_law_745 dL_law_746 ?_
  refine zj_callA (pc := 747) C kv_L_100 h6 dL_law_747 [0] [1] rfl (by simp [zpk]) rfl rfl rfl rfl rfl rfl ⟨k6, e6⟩ rfl rfl (fun v w1 hv1 => ?_)
  obtain rfl := hz v w1 hv1
  refine zj_eq (bs' := [w1, wm]) (st' := [.float z]) rfl rfl rfl ?_
  intro H locs ls hP hD hS hl
  refine lv_f2d C.1 C.2.1 dL_law_750 (f2d_ok hz0) ?_
  have hl0 : lv_has ls 8 [(0, .ref b), (1, .ref a), (2, .ref r), (3, .int (nI i))] := zl_has hl
  refine lv_dstore (lv' := [(4, .double (FP.f2d z)), (0, .ref b), (1, .ref a), (2, .ref r), (3, .int (nI i))]) C.1 C.2.1 dL_law_751 hl0 (by decide) rfl (fun ls1 hl1 => ?_)
  have hls0 : ls1[0]? = some (.val (.ref b)) := hl1.2.2 (0, .ref b) (by simp)
  have hls2 : ls1[2]? = some (.val (.ref r)) := hl1.2.2 (2, .ref r) (by simp)
  have hls3 : ls1[3]? = some (.val (.int (nI i))) := hl1.2.2 (3, .int (nI i)) (by simp)
  have hls4 : ls1[4]? = some (.val (.double (FP.f2d z))) := hl1.2.2 (4, .double (FP.f2d z)) (by simp)
  have hsz1 : ls1.size = 8 := hl1.1
  suffices K : ZL p l e room_1 s m args below meth c G A 88 6878 Q [w1, wm] ls1 753 [] from K H locs hP hD hS
  clear hP hD hS
  clear H locs
  refine zl_aload (pc := 753) C dL_law_753 rfl hls2 ?_
  refine zl_sarg (pc := 754) 1 C hX hbl hbA hL hi (by decide) rfl hls0 hls3 dL_law_754 dL_law_755 dL_law_756 dL_law_757 dL_law_758 ?_
  refine zl_sarg (pc := 759) 2 C hX hbl hbA hL hi (by decide) rfl hls0 hls3 dL_law_759 dL_law_760 dL_law_761 dL_law_762 dL_law_763 ?_
  refine zl_callV (pc := 764) (st := []) C kv_L_104 h7 dL_law_764 ⟨by decide, by decide⟩ rfl (Nat.le_of_ble_eq_true rfl) ⟨by decide, by decide⟩ hsz1 [1] [0] rfl (by simp [zpk]) e7 rfl rfl (fun v2 w2 hv2 => ?_) rfl
  obtain ⟨rfl, hI2⟩ := hq _ w1 v2 w2 hv1 hv2
  intro H locs hP hD hS
  refine lv_f2d C.1 C.2.1 dL_law_767 (f2d_ok hz0) ?_
  refine lv_dstore (lv' := [(6, .double (FP.f2d z)), (4, .double (FP.f2d z)), (0, .ref b), (1, .ref a), (2, .ref r), (3, .int (nI i))]) C.1 C.2.1 dL_law_768 hl1 (by decide) rfl (fun ls2 hl2 => ?_)
  have hd4 : ls2[4]? = some (.val (.double (FP.f2d z))) := hl2.2.2 (4, .double (FP.f2d z)) (by simp)
  have hd6 : ls2[6]? = some (.val (.double (FP.f2d z))) := hl2.2.2 (6, .double (FP.f2d z)) (by simp)
  have hlo : zlo ls2 (LO a r b i) := by
    refine ⟨hl2.1, hl2.2.1, fun j v hj => ?_⟩
    have hj8 : j < 8 := (List.getElem?_eq_some_iff.mp hj).1
    rcases (show j = 0 ∨ j = 1 ∨ j = 2 ∨ j = 3 ∨ 4 ≤ j by omega) with rfl | rfl | rfl | rfl | hj4
    · cases hj; exact ⟨hl2.2.2 (0, .ref b) (by simp), rfl⟩
    · cases hj; exact ⟨hl2.2.2 (1, .ref a) (by simp), rfl⟩
    · cases hj; exact ⟨hl2.2.2 (2, .ref r) (by simp), rfl⟩
    · cases hj; exact ⟨hl2.2.2 (3, .int (nI i)) (by simp), rfl⟩
    · rcases (show j = 4 ∨ j = 5 ∨ j = 6 ∨ j = 7 by omega) with rfl | rfl | rfl | rfl <;> cases hj
  have hEnd : W p l e room_1 s m args below meth c H locs 88 6878 Q (F0 m 901 ls2 []) := zj_swap (w1 := w1) (w2 := w2) (lk_next C hN hI2) H locs ls2 hP hD hS hlo
  refine lv_dload C.1 C.2.1 dL_law_770 hd4 ?_
  refine lv_dload C.1 C.2.1 dL_law_772 hd6 ?_
  refine lv_dcmp C.1 C.2.1 dL_law_774 ?_
  obtain ⟨v, hv0⟩ : ∃ v, v = Op.cmpValue (FP.dcmp (FP.f2d z) (FP.f2d z)) CmpOp.l := ⟨_, rfl⟩
  rw [← hv0]
  refine lv_if_eq (tgt := 796) C.1 C.2.1 dL_law_775 (by decide) (fun hv => ?_) (fun hv => ?_)
  · exact lv_goto (tgt := 901) C.1 C.2.1 dL_law_796 (by decide) hEnd
  · refine lv_dload C.1 C.2.1 dL_law_778 hd4 ?_
    refine lv_dload C.1 C.2.1 dL_law_780 hd4 ?_
    refine lv_dcmp C.1 C.2.1 dL_law_782 ?_
    rw [← hv0]
    refine lv_if_eq (tgt := 794) C.1 C.2.1 dL_law_783 (by decide) (fun h0 => absurd h0 hv) (fun _ => ?_)
    refine lv_dload C.1 C.2.1 dL_law_786 hd6 ?_
    refine lv_dload C.1 C.2.1 dL_law_788 hd6 ?_
    refine lv_dcmp C.1 C.2.1 dL_law_790 ?_
    rw [← hv0]
    refine lv_if_ne (tgt := 796) C.1 C.2.1 dL_law_791 (by decide) (fun _ => ?_) (fun h0 => absurd h0 hv)
    exact lv_goto (tgt := 901) C.1 C.2.1 dL_law_796 (by decide) hEnd
set_option maxRecDepth 100000 in
set_option maxHeartbeats 4000000 in
theorem lk_21 (C : zC p s m args c cL_law RL 8 G A) (hX : va_X b L xs s s.heap) (hbl : b < s.heap.size) (hbA : ¬ A b) (hL : L ≤ 2560) (hi : i + 5 ≤ L) (hN : NX p l e s m args below meth c G A Q a r b i) (hI : IV G a r wc wm) : Zj p l e room_1 s m args below meth c G A 88 6878 Q [wc, wm] (LO a r b i) 799 [] := by
  obtain ⟨z, Q1, Q2, h6, h7, hz, hq⟩ := pr_count (l := l) (w := xs (i + 1)) hI
  obtain ⟨f6, k6, e6⟩ := IV_6 hI
  obtain ⟨f7, k7, e7⟩ := IV_7 hI
  refine zj_aload_n (pc := 799) C dL_law_799 rfl ?_
  refine zj_sarg (pc := 800) 1 C hX hbl hbA hL hi (by decide) rfl rfl rfl dL_law_800 dL_law_801 dL_law_802 dL_law_803 dL_law_804 ?_
  refine zj_callA (pc := 805) C kv_L_105 h6 dL_law_805 [0] [1] rfl (by simp [zpk]) rfl rfl rfl rfl rfl rfl ⟨k6, e6⟩ rfl rfl (fun v w1 hv1 => ?_)
  obtain rfl := hz v w1 hv1
  refine zj_eq (bs' := [w1, wm]) (st' := [.int z]) rfl rfl rfl ?_
  refine zj_aload_n (pc := 808) C dL_law_808 rfl ?_
  refine zj_sarg (pc := 809) 1 C hX hbl hbA hL hi (by decide) rfl rfl rfl dL_law_809 dL_law_810 dL_law_811 dL_law_812 dL_law_813 ?_
  refine zj_callA (pc := 814) C kv_L_108 h7 dL_law_814 [1] [0] rfl (by simp [zpk]) rfl rfl rfl rfl rfl rfl ⟨k7, e7⟩ rfl rfl (fun v2 w2 hv2 => ?_)
  obtain ⟨rfl, hI2⟩ := hq _ w1 v2 w2 hv1 hv2
  refine zj_swap (w1 := w1) (w2 := w2) ?_
  refine zj_stk (st' := [.int z, .int z]) rfl ?_
  exact zj_icmp_eq (pc := 817) 901 C dL_law_817 (by decide) (fun _ => lk_next C hN hI2) (fun h => absurd rfl h)
set_option maxRecDepth 100000 in
set_option maxHeartbeats 4000000 in
theorem lk_22 (C : zC p s m args c cL_law RL 8 G A) (hX : va_X b L xs s s.heap) (hbl : b < s.heap.size) (hbA : ¬ A b) (hL : L ≤ 2560) (hi : i + 5 ≤ L) (hN : NX p l e s m args below meth c G A Q a r b i) (hI : IV G a r wc wm) : Zj p l e room_1 s m args below meth c G A 88 6878 Q [wc, wm] (LO a r b i) 822 [] := by
  obtain ⟨z, Q1, Q2, h6, h7, hz, hq⟩ := pr_ifClosed (l := l) (x := xs (i + 1)) (w := xs (i + 2)) hI
  obtain ⟨f6, k6, e6⟩ := IV_6 hI
  obtain ⟨f7, k7, e7⟩ := IV_7 hI
  refine zj_aload_n (pc := 822) C dL_law_822 rfl ?_
  refine zj_sarg (pc := 823) 1 C hX hbl hbA hL hi (by decide) rfl rfl rfl dL_law_823 dL_law_824 dL_law_825 dL_law_826 dL_law_827 ?_
  refine zj_sarg (pc := 828) 2 C hX hbl hbA hL hi (by decide) rfl rfl rfl dL_law_828 dL_law_829 dL_law_830 dL_law_831 dL_law_832 ?_
  refine zj_callA (pc := 833) C kv_L_109 h6 dL_law_833 [0] [1] rfl (by simp [zpk]) rfl rfl rfl rfl rfl rfl ⟨k6, e6⟩ rfl rfl (fun v w1 hv1 => ?_)
  obtain rfl := hz v w1 hv1
  refine zj_eq (bs' := [w1, wm]) (st' := [.int z]) rfl rfl rfl ?_
  refine zj_aload_n (pc := 836) C dL_law_836 rfl ?_
  refine zj_sarg (pc := 837) 1 C hX hbl hbA hL hi (by decide) rfl rfl rfl dL_law_837 dL_law_838 dL_law_839 dL_law_840 dL_law_841 ?_
  refine zj_sarg (pc := 842) 2 C hX hbl hbA hL hi (by decide) rfl rfl rfl dL_law_842 dL_law_843 dL_law_844 dL_law_845 dL_law_846 ?_
  refine zj_callA (pc := 847) C kv_L_112 h7 dL_law_847 [1] [0] rfl (by simp [zpk]) rfl rfl rfl rfl rfl rfl ⟨k7, e7⟩ rfl rfl (fun v2 w2 hv2 => ?_)
  obtain ⟨rfl, hI2⟩ := hq _ w1 v2 w2 hv1 hv2
  refine zj_swap (w1 := w1) (w2 := w2) ?_
  refine zj_stk (st' := [.int z, .int z]) rfl ?_
  exact zj_icmp_eq (pc := 850) 901 C dL_law_850 (by decide) (fun _ => lk_next C hN hI2) (fun h => absurd rfl h)
set_option maxRecDepth 100000 in
set_option maxHeartbeats 4000000 in
theorem lk_23 (C : zC p s m args c cL_law RL 8 G A) (hX : va_X b L xs s s.heap) (hbl : b < s.heap.size) (hbA : ¬ A b) (hL : L ≤ 2560) (hi : i + 5 ≤ L) (hN : NX p l e s m args below meth c G A Q a r b i) (hI : IV G a r wc wm) : Zj p l e room_1 s m args below meth c G A 88 6878 Q [wc, wm] (LO a r b i) 855 [] := by
  obtain ⟨z, Q1, Q2, h6, h7, hz, hq⟩ := pr_weakest (l := l)  hI
  obtain ⟨f6, k6, e6⟩ := IV_6 hI
  obtain ⟨f7, k7, e7⟩ := IV_7 hI
  refine zj_aload_n (pc := 855) C dL_law_855 rfl ?_
  refine zj_callA (pc := 856) C kv_L_113 h6 dL_law_856 [0] [1] rfl (by simp [zpk]) rfl rfl rfl rfl rfl rfl ⟨k6, e6⟩ rfl rfl (fun v w1 hv1 => ?_)
  obtain rfl := hz v w1 hv1
  refine zj_eq (bs' := [w1, wm]) (st' := [.int z]) rfl rfl rfl ?_
  refine zj_aload_n (pc := 859) C dL_law_859 rfl ?_
  refine zj_callA (pc := 860) C kv_L_116 h7 dL_law_860 [1] [0] rfl (by simp [zpk]) rfl rfl rfl rfl rfl rfl ⟨k7, e7⟩ rfl rfl (fun v2 w2 hv2 => ?_)
  obtain ⟨rfl, hI2⟩ := hq _ w1 v2 w2 hv1 hv2
  refine zj_swap (w1 := w1) (w2 := w2) ?_
  refine zj_stk (st' := [.int z, .int z]) rfl ?_
  exact zj_icmp_eq (pc := 863) 901 C dL_law_863 (by decide) (fun _ => lk_next C hN hI2) (fun h => absurd rfl h)
set_option maxRecDepth 100000 in
set_option maxHeartbeats 4000000 in
theorem lk_24 (C : zC p s m args c cL_law RL 8 G A) (hX : va_X b L xs s s.heap) (hbl : b < s.heap.size) (hbA : ¬ A b) (hL : L ≤ 2560) (hi : i + 5 ≤ L) (hN : NX p l e s m args below meth c G A Q a r b i) (hI : IV G a r wc wm) : Zj p l e room_1 s m args below meth c G A 88 6878 Q [wc, wm] (LO a r b i) 868 [] := by
  obtain ⟨z, Q1, Q2, h6, h7, hz, hq⟩ := pr_bestGate (l := l) (d := xs (i + 1)) (w := xs (i + 2)) hI
  obtain ⟨f6, k6, e6⟩ := IV_6 hI
  obtain ⟨f7, k7, e7⟩ := IV_7 hI
  refine zj_aload_n (pc := 868) C dL_law_868 rfl ?_
  refine zj_sarg (pc := 869) 1 C hX hbl hbA hL hi (by decide) rfl rfl rfl dL_law_869 dL_law_870 dL_law_871 dL_law_872 dL_law_873 ?_
  refine zj_sarg (pc := 874) 2 C hX hbl hbA hL hi (by decide) rfl rfl rfl dL_law_874 dL_law_875 dL_law_876 dL_law_877 dL_law_878 ?_
  refine zj_callA (pc := 879) C kv_L_117 h6 dL_law_879 [0] [1] rfl (by simp [zpk]) rfl rfl rfl rfl rfl rfl ⟨k6, e6⟩ rfl rfl (fun v w1 hv1 => ?_)
  obtain rfl := hz v w1 hv1
  refine zj_eq (bs' := [w1, wm]) (st' := [.int z]) rfl rfl rfl ?_
  refine zj_aload_n (pc := 882) C dL_law_882 rfl ?_
  refine zj_sarg (pc := 883) 1 C hX hbl hbA hL hi (by decide) rfl rfl rfl dL_law_883 dL_law_884 dL_law_885 dL_law_886 dL_law_887 ?_
  refine zj_sarg (pc := 888) 2 C hX hbl hbA hL hi (by decide) rfl rfl rfl dL_law_888 dL_law_889 dL_law_890 dL_law_891 dL_law_892 ?_
  refine zj_callA (pc := 893) C kv_L_120 h7 dL_law_893 [1] [0] rfl (by simp [zpk]) rfl rfl rfl rfl rfl rfl ⟨k7, e7⟩ rfl rfl (fun v2 w2 hv2 => ?_)
  obtain ⟨rfl, hI2⟩ := hq _ w1 v2 w2 hv1 hv2
  refine zj_swap (w1 := w1) (w2 := w2) ?_
  refine zj_stk (st' := [.int z, .int z]) rfl ?_
  exact zj_icmp_eq (pc := 896) 901 C dL_law_896 (by decide) (fun _ => lk_next C hN hI2) (fun h => absurd rfl h)
end ZCASE
