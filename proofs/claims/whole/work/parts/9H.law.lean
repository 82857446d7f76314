def R_law : String := "CandleEndsLaw"
def lw_P (b : Addr) (xs : List Int32) (args : Array Value) (s : State) : Prop := args = #[.ref b] ∧ s.IntsAt b xs ∧ xs.length ≤ 3072 ∧ (Jvm.Cond.and given_1 narrow_1).before args s = true
def lw_Q (_ : Array Value) (s : State) (o : Outcome) (t : State) : Prop := o = .returned (some (.int 1)) ∧ Framed s o t [] 600000 7302250
def lw_Z (below : List Frame) (a : Array Value) (s : State) : State → Prop := fun t => ∃ o, t.status = .running ∧ Ended t below o ∧ lw_Q a s o t
/-- the law's own end, with 1 on the stack, nothing written that was there before, its room as the claim has it -/
theorem lw_ret {p : Program} {l : Launch} {e : Env} {s : State} {m : MethodId} {below : List Frame} {meth : Method} {c : Code} {b : Nat} (hx : p.tables.exec = Jvm.exec) (hb : c.code = code) (hr : meth.sig.returnType = ret) (hlocks : meth.locks = false) {pc : Nat} {H : Heap} {ls : Array Slot} (hdg : decode code pc = .ok (.ireturn, 1)) : W p l e room_1 s m #[Value.ref b] below meth c H [] 600000 7302250 (lw_Z below #[Value.ref b] s) (F0 m pc ls [.int 1]) := by
  intro T hT X
  obtain ⟨fs, hret, hrun, hended, hW, hframe⟩ := X.leave (v := some (.int 1)) (hlocks := hlocks) (fun h => by rw [hr] at h; cases h)
  have hmeth' : T.vm.method? m = some meth := X.method'
  refine ⟨T.setFrames fs, ?_, .returned (some (.int 1)), hrun, hended, rfl, ⟨_, rfl⟩, hW, hframe⟩
  jvm_step X.here [X.here.top, hx, hb, hdg, hmeth', hr, ret, narrow_b1]
  (try refine ⟨rfl, ?_⟩); (try refine ⟨rfl, ?_⟩)
  first | (intro acts; rw [hret _ acts rfl rfl rfl]) | rw [hret _ _ rfl rfl rfl]
  exact Steps.refl _
/-- what holds at the law's entry: the machine, the code, the tables' words (any of lw_tbl by 'hts w (by decide +kernel)'), the script of L ints xs at the cell b, what the Statement gives of the start (any of its parts by flat_of_before) -/
def lw_At (p : Program) (s : State) (m : MethodId) (meth : Method) (c : Code) (b L : Nat) (xs : Nat → Int32) : Prop :=
  p.tables.exec = Jvm.exec ∧ c.code = code ∧ meth.sig.returnType = ret ∧ c.maxLocals = 4 ∧ s.vm.findClass R_law = some m.cls ∧ (∀ w ∈ lw_tbl, w.before #[Value.ref b] s = true) ∧ va_X b L xs s s.heap ∧ b < s.heap.size ∧ meth.locks = false ∧ (Jvm.Cond.and given_1 narrow_1).before #[Value.ref b] s = true
abbrev XL (w : Wd) (b L : Nat) (xs : Nat → Int32) : State → Array Value → Method → Prop := fun s args meth => args = #[.ref b] ∧ w.1 167 = b ∧ va_X b L xs s s.heap ∧ b < s.heap.size ∧ meth.sig.returnType = ret ∧ meth.locks = false
abbrev AL : State → Nat → Prop := fun s q => s.heap.size ≤ q
/-- the judgement inside the law, behind its two constructors -/
abbrev WL (l : Launch) (w : Wd) (b L : Nat) (xs : Nat → Int32) (pc : Nat) (Lc : List (Option MV)) (st : List MV) (M : Mem) : Prop :=
  WW l w RL cL_law 4 room_1 167 41211 AL (fun below args s => lw_Z below args s) (XL w b L xs) pc Lc st M
section LAW
variable {l : Launch} {w : Wd} {b L : Nat} {xs : Nat → Int32} {pc : Nat} {Lc : List (Option MV)} {st : List MV} {M : Mem} {i : Int}
theorem l_sld {i : Int} (hi : 0 ≤ i ∧ i < (L : Int)) (hd : decode cL_law pc = .ok (.iaload, 1)) (k : WL l w b L xs (pc + 1) Lc (vI (xs i.toNat).toInt :: st) M) : WL l w b L xs pc Lc (vI i :: vR 167 :: st) M := by
  intro p e s m args below meth c H locs ls hF hE hS hA hP hSS hM hL hst
  have h1 := k p e s m args below meth c H locs ls hF hE hS hA hP hSS hM hL (List.forall_mem_cons.mpr ⟨i32_r _, fun v hv => hst v (List.mem_cons_of_mem _ (List.mem_cons_of_mem _ hv))⟩)
  have hx : inR (vI i) := hst _ List.mem_cons_self
  obtain ⟨ha, hb, hX, hbl, hr, hlk⟩ := hE
  subst hb
  refine va_sld hF.1 hF.2.1 hX hbl (fun q => absurd q (Nat.not_le.mpr hbl)) hSS (i32_nn hi.1 hi.2 hx) hd ?_
  rw [i32_cl hi.1 hx]
  simp only [List.map_cons, tv, Int32.ofInt_toInt] at h1
  exact h1
theorem l_len (hL3 : L ≤ 3072) (hd : decode cL_law pc = .ok (.arraylength, 1)) (k : WL l w b L xs (pc + 1) Lc (vI (L : Int) :: st) M) : WL l w b L xs pc Lc (vR 167 :: st) M := by
  intro p e s m args below meth c H locs ls hF hE hS hA hP hSS hM hL hst
  have h1 := k p e s m args below meth c H locs ls hF hE hS hA hP hSS hM hL (List.forall_mem_cons.mpr ⟨⟨by omega, by omega⟩, fun v hv => hst v (List.mem_cons_of_mem _ hv)⟩)
  obtain ⟨ha, hb, hX, hbl, hr, hlk⟩ := hE
  subst hb
  refine va_slen hF.1 hF.2.1 hX hbl (fun q => absurd q (Nat.not_le.mpr hbl)) hSS hd ?_
  exact h1
theorem l_end : WL l w b L xs 1098 Lc [] M := by
  refine e_iconst (x := 1) dL_law_1098 rfl ⟨by decide, by decide⟩ ?_
  intro p e s m args below meth c H locs ls hF hE hS hA hP hSS hM hL hst
  obtain ⟨ha, hb, hX, hbl, hr, hlk⟩ := hE
  subst ha
  refine va_forget (fun q hq => hSS.2.2 q hq) ?_
  refine W.widen (k := 600000) (n := 7302250) (by decide) (by decide) ?_
  exact lw_ret hF.1 hF.2.1 hr hlk dL_law_1099
abbrev ag (xs : Nat → Int32) (i j : Int) : Int := (xs (i + j).toNat).toInt
abbrev LC (i : Int) : List (Option MV) := [some (vR 167), some (vR 0), some (vR 134), some (vI i)]
theorem l_arg (j : Int) (hj : 1 ≤ j ∧ j ≤ 5) (hi : 0 ≤ i ∧ i + 6 ≤ (L : Int)) (hL3 : L ≤ 3072) (d1 : decode cL_law pc = .ok (.aload_n 0, 1)) (d2 : decode cL_law (pc + 1) = .ok (.iload_n 3, 1)) (d3 : decode cL_law (pc + 1 + 1) = .ok (.iconst j, 1)) (d4 : decode cL_law (pc + 1 + 1 + 1) = .ok (.iadd, 1)) (d5 : decode cL_law (pc + 1 + 1 + 1 + 1) = .ok (.iaload, 1))
    (k : WL l w b L xs (pc + 1 + 1 + 1 + 1 + 1) (LC i) (vI (ag xs i j) :: st) M) : WL l w b L xs pc (LC i) st M := by
  refine e_aload0 d1 ?_
  refine e_iload3 d2 ?_
  refine e_iconst (x := j) d3 rfl ⟨by omega, by omega⟩ ?_
  refine e_iadd d4 ⟨by omega, by omega⟩ ?_
  refine l_sld ⟨by omega, by omega⟩ d5 ?_
  exact k
theorem rokL (maxL : Nat) (h : maxL ≤ 64) : ROk room_1 167 41211 40 maxL := ⟨⟨by show 41 ≤ 2048; omega, by show _ ≤ 84000; omega⟩, by show _ ≤ 600000; omega, by show _ ≤ 7302250; omega⟩
theorem lc_house (hR : REL M) (hi : 0 ≤ i ∧ i + 6 ≤ (L : Int)) (hL3 : L ≤ 3072) (kk : ∀ M2, REL M2 → WL l w b L xs 1092 (LC i) [] M2) : WL l w b L xs 168 (LC i) [] M := by
  refine e_aload1 dL_law_168 ?_
  refine l_arg 1 (by decide) hi hL3 dL_law_169 dL_law_170 dL_law_171 dL_law_172 dL_law_173 ?_
  refine l_arg 2 (by decide) hi hL3 dL_law_174 dL_law_175 dL_law_176 dL_law_177 dL_law_178 ?_
  obtain ⟨Q, hM, hQ⟩ := pr_house (l := l) (w := w) (d := 40) (Nat.le_refl 40) hR (a := ag xs i 1) (b := ag xs i 2)
  refine e_callV hM cy_X8_house cv_X8_house ml_L_13 la_0 rfl rfl rfl (rokL _ (by decide)) (Nat.le_of_ble_eq_true rfl) dL_law_179 fun r M1 hq => ?_
  obtain ⟨x, rfl, Q2, hM2, hQ2⟩ := hQ r M1 hq
  refine e_aload2 dL_law_182 ?_
  refine l_arg 1 (by decide) hi hL3 dL_law_183 dL_law_184 dL_law_185 dL_law_186 dL_law_187 ?_
  refine l_arg 2 (by decide) hi hL3 dL_law_188 dL_law_189 dL_law_190 dL_law_191 dL_law_192 ?_
  refine e_callV hM2 cy_X9_house cv_X9_house ml_L_17 la_134 rfl rfl rfl (rokL _ (by decide)) (Nat.le_of_ble_eq_true rfl) dL_law_193 fun r2 M2 hq2 => ?_
  obtain ⟨rfl, hR2⟩ := hQ2 r2 M2 hq2
  exact e_icmp_eq (tgt := 1092) dL_law_196 (by decide) (fun _ => kk _ hR2) (fun h => absurd rfl h)
theorem lc_candle (hR : REL M) (hi : 0 ≤ i ∧ i + 6 ≤ (L : Int)) (hL3 : L ≤ 3072) (kk : ∀ M2, REL M2 → WL l w b L xs 1092 (LC i) [] M2) : WL l w b L xs 201 (LC i) [] M := by
  refine e_aload1 dL_law_201 ?_
  refine l_arg 1 (by decide) hi hL3 dL_law_202 dL_law_203 dL_law_204 dL_law_205 dL_law_206 ?_
  refine l_arg 2 (by decide) hi hL3 dL_law_207 dL_law_208 dL_law_209 dL_law_210 dL_law_211 ?_
  obtain ⟨Q, hM, hQ⟩ := pr_candle (l := l) (w := w) (d := 40) (Nat.le_refl 40) hR (a := ag xs i 1) (b := ag xs i 2)
  refine e_callV hM cy_X8_candle cv_X8_candle ml_L_18 la_0 rfl rfl rfl (rokL _ (by decide)) (Nat.le_of_ble_eq_true rfl) dL_law_212 fun r M1 hq => ?_
  obtain ⟨x, rfl, Q2, hM2, hQ2⟩ := hQ r M1 hq
  refine e_aload2 dL_law_215 ?_
  refine l_arg 1 (by decide) hi hL3 dL_law_216 dL_law_217 dL_law_218 dL_law_219 dL_law_220 ?_
  refine l_arg 2 (by decide) hi hL3 dL_law_221 dL_law_222 dL_law_223 dL_law_224 dL_law_225 ?_
  refine e_callV hM2 cy_X9_candle cv_X9_candle ml_L_21 la_134 rfl rfl rfl (rokL _ (by decide)) (Nat.le_of_ble_eq_true rfl) dL_law_226 fun r2 M2 hq2 => ?_
  obtain ⟨rfl, hR2⟩ := hQ2 r2 M2 hq2
  exact e_icmp_eq (tgt := 1092) dL_law_229 (by decide) (fun _ => kk _ hR2) (fun h => absurd rfl h)
theorem lc_seed (hR : REL M) (hi : 0 ≤ i ∧ i + 6 ≤ (L : Int)) (hL3 : L ≤ 3072) (kk : ∀ M2, REL M2 → WL l w b L xs 1092 (LC i) [] M2) : WL l w b L xs 234 (LC i) [] M := by
  refine e_aload1 dL_law_234 ?_
  refine l_arg 1 (by decide) hi hL3 dL_law_235 dL_law_236 dL_law_237 dL_law_238 dL_law_239 ?_
  obtain ⟨Q, hM, hQ⟩ := pr_seed (l := l) (w := w) (d := 40) (Nat.le_refl 40) hR (a := ag xs i 1)
  refine e_callV hM cy_X8_seed cv_X8_seed ml_L_22 la_0 rfl rfl rfl (rokL _ (by decide)) (Nat.le_of_ble_eq_true rfl) dL_law_240 fun r M1 hq => ?_
  obtain ⟨x, rfl, Q2, hM2, hQ2⟩ := hQ r M1 hq
  refine e_aload2 dL_law_243 ?_
  refine l_arg 1 (by decide) hi hL3 dL_law_244 dL_law_245 dL_law_246 dL_law_247 dL_law_248 ?_
  refine e_callV hM2 cy_X9_seed cv_X9_seed ml_L_26 la_134 rfl rfl rfl (rokL _ (by decide)) (Nat.le_of_ble_eq_true rfl) dL_law_249 fun r2 M2 hq2 => ?_
  obtain ⟨rfl, hR2⟩ := hQ2 r2 M2 hq2
  exact e_icmp_eq (tgt := 1092) dL_law_252 (by decide) (fun _ => kk _ hR2) (fun h => absurd rfl h)
theorem lc_buy (hR : REL M) (hi : 0 ≤ i ∧ i + 6 ≤ (L : Int)) (hL3 : L ≤ 3072) (kk : ∀ M2, REL M2 → WL l w b L xs 1092 (LC i) [] M2) : WL l w b L xs 257 (LC i) [] M := by
  refine e_aload1 dL_law_257 ?_
  refine l_arg 1 (by decide) hi hL3 dL_law_258 dL_law_259 dL_law_260 dL_law_261 dL_law_262 ?_
  refine l_arg 2 (by decide) hi hL3 dL_law_263 dL_law_264 dL_law_265 dL_law_266 dL_law_267 ?_
  refine l_arg 3 (by decide) hi hL3 dL_law_268 dL_law_269 dL_law_270 dL_law_271 dL_law_272 ?_
  obtain ⟨Q, hM, hQ⟩ := pr_buy (l := l) (w := w) (d := 40) (Nat.le_refl 40) hR (a := ag xs i 1) (b := ag xs i 2) (c := ag xs i 3)
  refine e_callV hM cy_X8_buy cv_X8_buy ml_L_27 la_0 rfl rfl rfl (rokL _ (by decide)) (Nat.le_of_ble_eq_true rfl) dL_law_273 fun r M1 hq => ?_
  obtain ⟨x, rfl, Q2, hM2, hQ2⟩ := hQ r M1 hq
  refine e_aload2 dL_law_276 ?_
  refine l_arg 1 (by decide) hi hL3 dL_law_277 dL_law_278 dL_law_279 dL_law_280 dL_law_281 ?_
  refine l_arg 2 (by decide) hi hL3 dL_law_282 dL_law_283 dL_law_284 dL_law_285 dL_law_286 ?_
  refine l_arg 3 (by decide) hi hL3 dL_law_287 dL_law_288 dL_law_289 dL_law_290 dL_law_291 ?_
  refine e_callV hM2 cy_X9_buy cv_X9_buy ml_L_31 la_134 rfl rfl rfl (rokL _ (by decide)) (Nat.le_of_ble_eq_true rfl) dL_law_292 fun r2 M2 hq2 => ?_
  obtain ⟨rfl, hR2⟩ := hQ2 r2 M2 hq2
  exact e_icmp_eq (tgt := 1092) dL_law_295 (by decide) (fun _ => kk _ hR2) (fun h => absurd rfl h)
theorem lc_light (hR : REL M) (hi : 0 ≤ i ∧ i + 6 ≤ (L : Int)) (hL3 : L ≤ 3072) (kk : ∀ M2, REL M2 → WL l w b L xs 1092 (LC i) [] M2) : WL l w b L xs 300 (LC i) [] M := by
  refine e_aload1 dL_law_300 ?_
  refine l_arg 1 (by decide) hi hL3 dL_law_301 dL_law_302 dL_law_303 dL_law_304 dL_law_305 ?_
  obtain ⟨Q, hM, hQ⟩ := pr_light (l := l) (w := w) (d := 40) (Nat.le_refl 40) hR (a := ag xs i 1)
  refine e_callV hM cy_X8_light cv_X8_light ml_L_32 la_0 rfl rfl rfl (rokL _ (by decide)) (Nat.le_of_ble_eq_true rfl) dL_law_306 fun r M1 hq => ?_
  obtain ⟨x, rfl, Q2, hM2, hQ2⟩ := hQ r M1 hq
  refine e_aload2 dL_law_309 ?_
  refine l_arg 1 (by decide) hi hL3 dL_law_310 dL_law_311 dL_law_312 dL_law_313 dL_law_314 ?_
  refine e_callV hM2 cy_X9_light cv_X9_light ml_L_36 la_134 rfl rfl rfl (rokL _ (by decide)) (Nat.le_of_ble_eq_true rfl) dL_law_315 fun r2 M2 hq2 => ?_
  obtain ⟨rfl, hR2⟩ := hQ2 r2 M2 hq2
  exact e_icmp_eq (tgt := 1092) dL_law_318 (by decide) (fun _ => kk _ hR2) (fun h => absurd rfl h)
theorem lc_burn (hR : REL M) (hi : 0 ≤ i ∧ i + 6 ≤ (L : Int)) (hL3 : L ≤ 3072) (kk : ∀ M2, REL M2 → WL l w b L xs 1092 (LC i) [] M2) : WL l w b L xs 323 (LC i) [] M := by
  refine e_aload1 dL_law_323 ?_
  refine l_arg 1 (by decide) hi hL3 dL_law_324 dL_law_325 dL_law_326 dL_law_327 dL_law_328 ?_
  obtain ⟨Q, hM, hQ⟩ := pr_burn (l := l) (w := w) (d := 40) (Nat.le_refl 40) hR (a := ag xs i 1)
  refine e_callV hM cy_X8_burn cv_X8_burn ml_L_37 la_0 rfl rfl rfl (rokL _ (by decide)) (Nat.le_of_ble_eq_true rfl) dL_law_329 fun r M1 hq => ?_
  obtain ⟨x, rfl, Q2, hM2, hQ2⟩ := hQ r M1 hq
  refine e_aload2 dL_law_332 ?_
  refine l_arg 1 (by decide) hi hL3 dL_law_333 dL_law_334 dL_law_335 dL_law_336 dL_law_337 ?_
  refine e_callV hM2 cy_X9_burn cv_X9_burn ml_L_40 la_134 rfl rfl rfl (rokL _ (by decide)) (Nat.le_of_ble_eq_true rfl) dL_law_338 fun r2 M2 hq2 => ?_
  obtain ⟨rfl, hR2⟩ := hQ2 r2 M2 hq2
  exact e_icmp_eq (tgt := 1092) dL_law_341 (by decide) (fun _ => kk _ hR2) (fun h => absurd rfl h)
theorem lc_repay (hR : REL M) (hi : 0 ≤ i ∧ i + 6 ≤ (L : Int)) (hL3 : L ≤ 3072) (kk : ∀ M2, REL M2 → WL l w b L xs 1092 (LC i) [] M2) : WL l w b L xs 346 (LC i) [] M := by
  refine e_aload1 dL_law_346 ?_
  refine l_arg 1 (by decide) hi hL3 dL_law_347 dL_law_348 dL_law_349 dL_law_350 dL_law_351 ?_
  refine l_arg 2 (by decide) hi hL3 dL_law_352 dL_law_353 dL_law_354 dL_law_355 dL_law_356 ?_
  obtain ⟨Q, hM, hQ⟩ := pr_repay (l := l) (w := w) (d := 40) (Nat.le_refl 40) hR (a := ag xs i 1) (b := ag xs i 2)
  refine e_callV hM cy_X8_repay cv_X8_repay ml_L_41 la_0 rfl rfl rfl (rokL _ (by decide)) (Nat.le_of_ble_eq_true rfl) dL_law_357 fun r M1 hq => ?_
  obtain ⟨x, rfl, Q2, hM2, hQ2⟩ := hQ r M1 hq
  refine e_aload2 dL_law_360 ?_
  refine l_arg 1 (by decide) hi hL3 dL_law_361 dL_law_362 dL_law_363 dL_law_364 dL_law_365 ?_
  refine l_arg 2 (by decide) hi hL3 dL_law_366 dL_law_367 dL_law_368 dL_law_369 dL_law_370 ?_
  refine e_callV hM2 cy_X9_repay cv_X9_repay ml_L_44 la_134 rfl rfl rfl (rokL _ (by decide)) (Nat.le_of_ble_eq_true rfl) dL_law_371 fun r2 M2 hq2 => ?_
  obtain ⟨rfl, hR2⟩ := hQ2 r2 M2 hq2
  exact e_icmp_eq (tgt := 1092) dL_law_374 (by decide) (fun _ => kk _ hR2) (fun h => absurd rfl h)
theorem lc_moths (hR : REL M) (hi : 0 ≤ i ∧ i + 6 ≤ (L : Int)) (hL3 : L ≤ 3072) (kk : ∀ M2, REL M2 → WL l w b L xs 1092 (LC i) [] M2) : WL l w b L xs 379 (LC i) [] M := by
  refine e_aload1 dL_law_379 ?_
  refine l_arg 1 (by decide) hi hL3 dL_law_380 dL_law_381 dL_law_382 dL_law_383 dL_law_384 ?_
  obtain ⟨Q, hM, hQ⟩ := pr_moths (l := l) (w := w) (d := 40) (Nat.le_refl 40) hR (a := ag xs i 1)
  refine e_callV hM cy_X8_moths cv_X8_moths ml_L_45 la_0 rfl rfl rfl (rokL _ (by decide)) (Nat.le_of_ble_eq_true rfl) dL_law_385 fun r M1 hq => ?_
  obtain ⟨x, rfl, Q2, hM2, hQ2⟩ := hQ r M1 hq
  refine e_aload2 dL_law_388 ?_
  refine l_arg 1 (by decide) hi hL3 dL_law_389 dL_law_390 dL_law_391 dL_law_392 dL_law_393 ?_
  refine e_callV hM2 cy_X9_moths cv_X9_moths ml_L_48 la_134 rfl rfl rfl (rokL _ (by decide)) (Nat.le_of_ble_eq_true rfl) dL_law_394 fun r2 M2 hq2 => ?_
  obtain ⟨rfl, hR2⟩ := hQ2 r2 M2 hq2
  exact e_icmp_eq (tgt := 1092) dL_law_397 (by decide) (fun _ => kk _ hR2) (fun h => absurd rfl h)
theorem lc_feed (hR : REL M) (hi : 0 ≤ i ∧ i + 6 ≤ (L : Int)) (hL3 : L ≤ 3072) (kk : ∀ M2, REL M2 → WL l w b L xs 1092 (LC i) [] M2) : WL l w b L xs 402 (LC i) [] M := by
  refine e_aload1 dL_law_402 ?_
  refine l_arg 1 (by decide) hi hL3 dL_law_403 dL_law_404 dL_law_405 dL_law_406 dL_law_407 ?_
  refine l_arg 2 (by decide) hi hL3 dL_law_408 dL_law_409 dL_law_410 dL_law_411 dL_law_412 ?_
  refine l_arg 3 (by decide) hi hL3 dL_law_413 dL_law_414 dL_law_415 dL_law_416 dL_law_417 ?_
  refine l_arg 4 (by decide) hi hL3 dL_law_418 dL_law_419 dL_law_420 dL_law_421 dL_law_422 ?_
  refine l_arg 5 (by decide) hi hL3 dL_law_423 dL_law_424 dL_law_425 dL_law_426 dL_law_427 ?_
  obtain ⟨Q, hM, hQ⟩ := pr_feed (l := l) (w := w) (d := 40) (Nat.le_refl 40) hR (a := ag xs i 1) (b := ag xs i 2) (c := ag xs i 3) (e := ag xs i 4) (f := ag xs i 5)
  refine e_callV hM cy_X8_feed cv_X8_feed ml_L_49 la_0 rfl rfl rfl (rokL _ (by decide)) (Nat.le_of_ble_eq_true rfl) dL_law_428 fun r M1 hq => ?_
  obtain ⟨x, rfl, Q2, hM2, hQ2⟩ := hQ r M1 hq
  refine e_aload2 dL_law_431 ?_
  refine l_arg 1 (by decide) hi hL3 dL_law_432 dL_law_433 dL_law_434 dL_law_435 dL_law_436 ?_
  refine l_arg 2 (by decide) hi hL3 dL_law_437 dL_law_438 dL_law_439 dL_law_440 dL_law_441 ?_
  refine l_arg 3 (by decide) hi hL3 dL_law_442 dL_law_443 dL_law_444 dL_law_445 dL_law_446 ?_
  refine l_arg 4 (by decide) hi hL3 dL_law_447 dL_law_448 dL_law_449 dL_law_450 dL_law_451 ?_
  refine l_arg 5 (by decide) hi hL3 dL_law_452 dL_law_453 dL_law_454 dL_law_455 dL_law_456 ?_
  refine e_callV hM2 cy_X9_feed cv_X9_feed ml_L_53 la_134 rfl rfl rfl (rokL _ (by decide)) (Nat.le_of_ble_eq_true rfl) dL_law_457 fun r2 M2 hq2 => ?_
  obtain ⟨rfl, hR2⟩ := hQ2 r2 M2 hq2
  exact e_icmp_eq (tgt := 1092) dL_law_460 (by decide) (fun _ => kk _ hR2) (fun h => absurd rfl h)
theorem lc_end (hR : REL M) (hi : 0 ≤ i ∧ i + 6 ≤ (L : Int)) (hL3 : L ≤ 3072) (kk : ∀ M2, REL M2 → WL l w b L xs 1092 (LC i) [] M2) : WL l w b L xs 465 (LC i) [] M := by
  refine e_aload1 dL_law_465 ?_
  refine l_arg 1 (by decide) hi hL3 dL_law_466 dL_law_467 dL_law_468 dL_law_469 dL_law_470 ?_
  obtain ⟨Q, hM, hQ⟩ := pr_end (l := l) (w := w) (d := 40) (Nat.le_refl 40) hR (a := ag xs i 1)
  refine e_callV hM cy_X8_end cv_X8_end ml_L_54 la_0 rfl rfl rfl (rokL _ (by decide)) (Nat.le_of_ble_eq_true rfl) dL_law_471 fun r M1 hq => ?_
  obtain ⟨x, rfl, Q2, hM2, hQ2⟩ := hQ r M1 hq
  refine e_aload2 dL_law_474 ?_
  refine l_arg 1 (by decide) hi hL3 dL_law_475 dL_law_476 dL_law_477 dL_law_478 dL_law_479 ?_
  refine e_callV hM2 cy_X9_end cv_X9_end ml_L_57 la_134 rfl rfl rfl (rokL _ (by decide)) (Nat.le_of_ble_eq_true rfl) dL_law_480 fun r2 M2 hq2 => ?_
  obtain ⟨rfl, hR2⟩ := hQ2 r2 M2 hq2
  exact e_icmp_eq (tgt := 1092) dL_law_483 (by decide) (fun _ => kk _ hR2) (fun h => absurd rfl h)
theorem lc_text (hR : REL M) (hi : 0 ≤ i ∧ i + 6 ≤ (L : Int)) (hL3 : L ≤ 3072) (kk : ∀ M2, REL M2 → WL l w b L xs 1092 (LC i) [] M2) : WL l w b L xs 488 (LC i) [] M := by
  refine e_aload1 dL_law_488 ?_
  obtain ⟨Q, hM, hQ⟩ := pr_text (l := l) (w := w) (d := 40) (Nat.le_refl 40) hR
  refine e_callV hM cy_X8_text cv_X8_text ml_L_58 la_0 rfl rfl rfl (rokL _ (by decide)) (Nat.le_of_ble_eq_true rfl) dL_law_489 fun r M1 hq => ?_
  obtain ⟨x, rfl, Q2, hM2, hQ2⟩ := hQ r M1 hq
  refine e_aload2 dL_law_492 ?_
  refine e_callV hM2 cy_X9_text cv_X9_text ml_L_62 la_134 rfl rfl rfl (rokL _ (by decide)) (Nat.le_of_ble_eq_true rfl) dL_law_493 fun r2 M2 hq2 => ?_
  obtain ⟨rfl, hR2⟩ := hQ2 r2 M2 hq2
  exact e_icmp_eq (tgt := 1092) dL_law_496 (by decide) (fun _ => kk _ hR2) (fun h => absurd rfl h)
theorem lc_fault (hR : REL M) (hi : 0 ≤ i ∧ i + 6 ≤ (L : Int)) (hL3 : L ≤ 3072) (kk : ∀ M2, REL M2 → WL l w b L xs 1092 (LC i) [] M2) : WL l w b L xs 501 (LC i) [] M := by
  refine e_aload1 dL_law_501 ?_
  refine l_arg 1 (by decide) hi hL3 dL_law_502 dL_law_503 dL_law_504 dL_law_505 dL_law_506 ?_
  obtain ⟨Q, hM, hQ⟩ := pr_fault (l := l) (w := w) (d := 40) (Nat.le_refl 40) hR (a := ag xs i 1)
  refine e_callV hM cy_X8_fault cv_X8_fault ml_L_63 la_0 rfl rfl rfl (rokL _ (by decide)) (Nat.le_of_ble_eq_true rfl) dL_law_507 fun r M1 hq => ?_
  obtain ⟨x, rfl, Q2, hM2, hQ2⟩ := hQ r M1 hq
  refine e_aload2 dL_law_510 ?_
  refine l_arg 1 (by decide) hi hL3 dL_law_511 dL_law_512 dL_law_513 dL_law_514 dL_law_515 ?_
  refine e_callV hM2 cy_X9_fault cv_X9_fault ml_L_66 la_134 rfl rfl rfl (rokL _ (by decide)) (Nat.le_of_ble_eq_true rfl) dL_law_516 fun r2 M2 hq2 => ?_
  obtain ⟨rfl, hR2⟩ := hQ2 r2 M2 hq2
  exact e_icmp_eq (tgt := 1092) dL_law_519 (by decide) (fun _ => kk _ hR2) (fun h => absurd rfl h)
theorem lc_by (hR : REL M) (hi : 0 ≤ i ∧ i + 6 ≤ (L : Int)) (hL3 : L ≤ 3072) (kk : ∀ M2, REL M2 → WL l w b L xs 1092 (LC i) [] M2) : WL l w b L xs 524 (LC i) [] M := by
  refine e_aload1 dL_law_524 ?_
  refine l_arg 1 (by decide) hi hL3 dL_law_525 dL_law_526 dL_law_527 dL_law_528 dL_law_529 ?_
  obtain ⟨Q, hM, hQ⟩ := pr_by (l := l) (w := w) (d := 40) (Nat.le_refl 40) hR (a := ag xs i 1)
  refine e_callV hM cy_X8_by cv_X8_by ml_L_67 la_0 rfl rfl rfl (rokL _ (by decide)) (Nat.le_of_ble_eq_true rfl) dL_law_530 fun r M1 hq => ?_
  obtain ⟨x, rfl, Q2, hM2, hQ2⟩ := hQ r M1 hq
  refine e_aload2 dL_law_533 ?_
  refine l_arg 1 (by decide) hi hL3 dL_law_534 dL_law_535 dL_law_536 dL_law_537 dL_law_538 ?_
  refine e_callV hM2 cy_X9_by cv_X9_by ml_L_70 la_134 rfl rfl rfl (rokL _ (by decide)) (Nat.le_of_ble_eq_true rfl) dL_law_539 fun r2 M2 hq2 => ?_
  obtain ⟨rfl, hR2⟩ := hQ2 r2 M2 hq2
  exact e_icmp_eq (tgt := 1092) dL_law_542 (by decide) (fun _ => kk _ hR2) (fun h => absurd rfl h)
theorem lc_played (hR : REL M) (hi : 0 ≤ i ∧ i + 6 ≤ (L : Int)) (hL3 : L ≤ 3072) (kk : ∀ M2, REL M2 → WL l w b L xs 1092 (LC i) [] M2) : WL l w b L xs 547 (LC i) [] M := by
  refine e_aload1 dL_law_547 ?_
  refine l_arg 1 (by decide) hi hL3 dL_law_548 dL_law_549 dL_law_550 dL_law_551 dL_law_552 ?_
  obtain ⟨Q, hM, hQ⟩ := pr_played (l := l) (w := w) (d := 40) (Nat.le_refl 40) hR (a := ag xs i 1)
  refine e_callV hM cy_X8_played cv_X8_played ml_L_71 la_0 rfl rfl rfl (rokL _ (by decide)) (Nat.le_of_ble_eq_true rfl) dL_law_553 fun r M1 hq => ?_
  obtain ⟨x, rfl, Q2, hM2, hQ2⟩ := hQ r M1 hq
  refine e_aload2 dL_law_556 ?_
  refine l_arg 1 (by decide) hi hL3 dL_law_557 dL_law_558 dL_law_559 dL_law_560 dL_law_561 ?_
  refine e_callV hM2 cy_X9_played cv_X9_played ml_L_74 la_134 rfl rfl rfl (rokL _ (by decide)) (Nat.le_of_ble_eq_true rfl) dL_law_562 fun r2 M2 hq2 => ?_
  obtain ⟨rfl, hR2⟩ := hQ2 r2 M2 hq2
  exact e_icmp_eq (tgt := 1092) dL_law_565 (by decide) (fun _ => kk _ hR2) (fun h => absurd rfl h)
theorem lc_undo (hR : REL M) (hi : 0 ≤ i ∧ i + 6 ≤ (L : Int)) (hL3 : L ≤ 3072) (kk : ∀ M2, REL M2 → WL l w b L xs 1092 (LC i) [] M2) : WL l w b L xs 570 (LC i) [] M := by
  refine e_aload1 dL_law_570 ?_
  obtain ⟨Q, hM, hQ⟩ := pr_undo (l := l) (w := w) (d := 40) (Nat.le_refl 40) hR
  refine e_callV hM cy_X8_undo cv_X8_undo ml_L_75 la_0 rfl rfl rfl (rokL _ (by decide)) (Nat.le_of_ble_eq_true rfl) dL_law_571 fun r M1 hq => ?_
  obtain ⟨x, rfl, Q2, hM2, hQ2⟩ := hQ r M1 hq
  refine e_aload2 dL_law_574 ?_
  refine e_callV hM2 cy_X9_undo cv_X9_undo ml_L_78 la_134 rfl rfl rfl (rokL _ (by decide)) (Nat.le_of_ble_eq_true rfl) dL_law_575 fun r2 M2 hq2 => ?_
  obtain ⟨rfl, hR2⟩ := hQ2 r2 M2 hq2
  exact e_icmp_eq (tgt := 1092) dL_law_578 (by decide) (fun _ => kk _ hR2) (fun h => absurd rfl h)
theorem lc_houseOf (hR : REL M) (hi : 0 ≤ i ∧ i + 6 ≤ (L : Int)) (hL3 : L ≤ 3072) (kk : ∀ M2, REL M2 → WL l w b L xs 1092 (LC i) [] M2) : WL l w b L xs 583 (LC i) [] M := by
  refine e_aload1 dL_law_583 ?_
  refine l_arg 1 (by decide) hi hL3 dL_law_584 dL_law_585 dL_law_586 dL_law_587 dL_law_588 ?_
  refine l_arg 2 (by decide) hi hL3 dL_law_589 dL_law_590 dL_law_591 dL_law_592 dL_law_593 ?_
  obtain ⟨Q, hM, hQ⟩ := pr_houseOf (l := l) (w := w) (d := 40) (Nat.le_refl 40) hR (a := ag xs i 1) (b := ag xs i 2)
  refine e_callV hM cy_X8_houseOf cv_X8_houseOf ml_L_79 la_0 rfl rfl rfl (rokL _ (by decide)) (Nat.le_of_ble_eq_true rfl) dL_law_594 fun r M1 hq => ?_
  obtain ⟨x, rfl, Q2, hM2, hQ2⟩ := hQ r M1 hq
  refine e_aload2 dL_law_597 ?_
  refine l_arg 1 (by decide) hi hL3 dL_law_598 dL_law_599 dL_law_600 dL_law_601 dL_law_602 ?_
  refine l_arg 2 (by decide) hi hL3 dL_law_603 dL_law_604 dL_law_605 dL_law_606 dL_law_607 ?_
  refine e_callV hM2 cy_X9_houseOf cv_X9_houseOf ml_L_82 la_134 rfl rfl rfl (rokL _ (by decide)) (Nat.le_of_ble_eq_true rfl) dL_law_608 fun r2 M2 hq2 => ?_
  obtain ⟨rfl, hR2⟩ := hQ2 r2 M2 hq2
  exact e_icmp_eq (tgt := 1092) dL_law_611 (by decide) (fun _ => kk _ hR2) (fun h => absurd rfl h)
theorem lc_candleOf (hR : REL M) (hi : 0 ≤ i ∧ i + 6 ≤ (L : Int)) (hL3 : L ≤ 3072) (kk : ∀ M2, REL M2 → WL l w b L xs 1092 (LC i) [] M2) : WL l w b L xs 616 (LC i) [] M := by
  refine e_aload1 dL_law_616 ?_
  refine l_arg 1 (by decide) hi hL3 dL_law_617 dL_law_618 dL_law_619 dL_law_620 dL_law_621 ?_
  refine l_arg 2 (by decide) hi hL3 dL_law_622 dL_law_623 dL_law_624 dL_law_625 dL_law_626 ?_
  obtain ⟨Q, hM, hQ⟩ := pr_candleOf (l := l) (w := w) (d := 40) (Nat.le_refl 40) hR (a := ag xs i 1) (b := ag xs i 2)
  refine e_callV hM cy_X8_candleOf cv_X8_candleOf ml_L_83 la_0 rfl rfl rfl (rokL _ (by decide)) (Nat.le_of_ble_eq_true rfl) dL_law_627 fun r M1 hq => ?_
  obtain ⟨x, rfl, Q2, hM2, hQ2⟩ := hQ r M1 hq
  refine e_aload2 dL_law_630 ?_
  refine l_arg 1 (by decide) hi hL3 dL_law_631 dL_law_632 dL_law_633 dL_law_634 dL_law_635 ?_
  refine l_arg 2 (by decide) hi hL3 dL_law_636 dL_law_637 dL_law_638 dL_law_639 dL_law_640 ?_
  refine e_callV hM2 cy_X9_candleOf cv_X9_candleOf ml_L_86 la_134 rfl rfl rfl (rokL _ (by decide)) (Nat.le_of_ble_eq_true rfl) dL_law_641 fun r2 M2 hq2 => ?_
  obtain ⟨rfl, hR2⟩ := hQ2 r2 M2 hq2
  exact e_icmp_eq (tgt := 1092) dL_law_644 (by decide) (fun _ => kk _ hR2) (fun h => absurd rfl h)
theorem lc_says (hR : REL M) (hi : 0 ≤ i ∧ i + 6 ≤ (L : Int)) (hL3 : L ≤ 3072) (kk : ∀ M2, REL M2 → WL l w b L xs 1092 (LC i) [] M2) : WL l w b L xs 649 (LC i) [] M := by
  refine e_aload1 dL_law_649 ?_
  refine l_arg 1 (by decide) hi hL3 dL_law_650 dL_law_651 dL_law_652 dL_law_653 dL_law_654 ?_
  refine l_arg 2 (by decide) hi hL3 dL_law_655 dL_law_656 dL_law_657 dL_law_658 dL_law_659 ?_
  refine l_arg 3 (by decide) hi hL3 dL_law_660 dL_law_661 dL_law_662 dL_law_663 dL_law_664 ?_
  refine l_arg 4 (by decide) hi hL3 dL_law_665 dL_law_666 dL_law_667 dL_law_668 dL_law_669 ?_
  obtain ⟨Q, hM, hQ⟩ := pr_says (l := l) (w := w) (d := 40) (Nat.le_refl 40) hR (a := ag xs i 1) (b := ag xs i 2) (c := ag xs i 3) (e := ag xs i 4)
  refine e_callV hM cy_X8_says cv_X8_says ml_L_87 la_0 rfl rfl rfl (rokL _ (by decide)) (Nat.le_of_ble_eq_true rfl) dL_law_670 fun r M1 hq => ?_
  obtain ⟨x, rfl, Q2, hM2, hQ2⟩ := hQ r M1 hq
  refine e_aload2 dL_law_673 ?_
  refine l_arg 1 (by decide) hi hL3 dL_law_674 dL_law_675 dL_law_676 dL_law_677 dL_law_678 ?_
  refine l_arg 2 (by decide) hi hL3 dL_law_679 dL_law_680 dL_law_681 dL_law_682 dL_law_683 ?_
  refine l_arg 3 (by decide) hi hL3 dL_law_684 dL_law_685 dL_law_686 dL_law_687 dL_law_688 ?_
  refine l_arg 4 (by decide) hi hL3 dL_law_689 dL_law_690 dL_law_691 dL_law_692 dL_law_693 ?_
  refine e_callV hM2 cy_X9_says cv_X9_says ml_L_91 la_134 rfl rfl rfl (rokL _ (by decide)) (Nat.le_of_ble_eq_true rfl) dL_law_694 fun r2 M2 hq2 => ?_
  obtain ⟨rfl, hR2⟩ := hQ2 r2 M2 hq2
  exact e_icmp_eq (tgt := 1092) dL_law_697 (by decide) (fun _ => kk _ hR2) (fun h => absurd rfl h)
theorem lc_drip (hR : REL M) (hi : 0 ≤ i ∧ i + 6 ≤ (L : Int)) (hL3 : L ≤ 3072) (kk : ∀ M2, REL M2 → WL l w b L xs 1092 (LC i) [] M2) : WL l w b L xs 702 (LC i) [] M := by
  refine e_aload1 dL_law_702 ?_
  refine l_arg 1 (by decide) hi hL3 dL_law_703 dL_law_704 dL_law_705 dL_law_706 dL_law_707 ?_
  refine l_arg 2 (by decide) hi hL3 dL_law_708 dL_law_709 dL_law_710 dL_law_711 dL_law_712 ?_
  obtain ⟨Q, hM, hQ⟩ := pr_drip (l := l) (w := w) (d := 40) (Nat.le_refl 40) hR (a := ag xs i 1) (b := ag xs i 2)
  refine e_callV hM cy_X8_drip cv_X8_drip ml_L_92 la_0 rfl rfl rfl (rokL _ (by decide)) (Nat.le_of_ble_eq_true rfl) dL_law_713 fun r M1 hq => ?_
  obtain ⟨x, rfl, Q2, hM2, hQ2⟩ := hQ r M1 hq
  refine e_aload2 dL_law_716 ?_
  refine l_arg 1 (by decide) hi hL3 dL_law_717 dL_law_718 dL_law_719 dL_law_720 dL_law_721 ?_
  refine l_arg 2 (by decide) hi hL3 dL_law_722 dL_law_723 dL_law_724 dL_law_725 dL_law_726 ?_
  refine e_callV hM2 cy_X9_drip cv_X9_drip ml_L_95 la_134 rfl rfl rfl (rokL _ (by decide)) (Nat.le_of_ble_eq_true rfl) dL_law_727 fun r2 M2 hq2 => ?_
  obtain ⟨rfl, hR2⟩ := hQ2 r2 M2 hq2
  exact e_icmp_eq (tgt := 1092) dL_law_730 (by decide) (fun _ => kk _ hR2) (fun h => absurd rfl h)
theorem lc_whose (hR : REL M) (hi : 0 ≤ i ∧ i + 6 ≤ (L : Int)) (hL3 : L ≤ 3072) (kk : ∀ M2, REL M2 → WL l w b L xs 1092 (LC i) [] M2) : WL l w b L xs 735 (LC i) [] M := by
  refine e_aload1 dL_law_735 ?_
  refine l_arg 1 (by decide) hi hL3 dL_law_736 dL_law_737 dL_law_738 dL_law_739 dL_law_740 ?_
  refine l_arg 2 (by decide) hi hL3 dL_law_741 dL_law_742 dL_law_743 dL_law_744 dL_law_745 ?_
  obtain ⟨Q, hM, hQ⟩ := pr_whose (l := l) (w := w) (d := 40) (Nat.le_refl 40) hR (a := ag xs i 1) (b := ag xs i 2)
  refine e_callV hM cy_X8_whose cv_X8_whose ml_L_96 la_0 rfl rfl rfl (rokL _ (by decide)) (Nat.le_of_ble_eq_true rfl) dL_law_746 fun r M1 hq => ?_
  obtain ⟨x, rfl, Q2, hM2, hQ2⟩ := hQ r M1 hq
  refine e_aload2 dL_law_749 ?_
  refine l_arg 1 (by decide) hi hL3 dL_law_750 dL_law_751 dL_law_752 dL_law_753 dL_law_754 ?_
  refine l_arg 2 (by decide) hi hL3 dL_law_755 dL_law_756 dL_law_757 dL_law_758 dL_law_759 ?_
  refine e_callV hM2 cy_X9_whose cv_X9_whose ml_L_99 la_134 rfl rfl rfl (rokL _ (by decide)) (Nat.le_of_ble_eq_true rfl) dL_law_760 fun r2 M2 hq2 => ?_
  obtain ⟨rfl, hR2⟩ := hQ2 r2 M2 hq2
  exact e_icmp_eq (tgt := 1092) dL_law_763 (by decide) (fun _ => kk _ hR2) (fun h => absurd rfl h)
theorem lc_odds (hR : REL M) (hi : 0 ≤ i ∧ i + 6 ≤ (L : Int)) (hL3 : L ≤ 3072) (kk : ∀ M2, REL M2 → WL l w b L xs 1092 (LC i) [] M2) : WL l w b L xs 768 (LC i) [] M := by
  by_cases h3 : ag xs i 3 = 0
  · refine e_aload1 dL_law_768 ?_
    refine l_arg 1 (by decide) hi hL3 dL_law_769 dL_law_770 dL_law_771 dL_law_772 dL_law_773 ?_
    refine l_arg 2 (by decide) hi hL3 dL_law_774 dL_law_775 dL_law_776 dL_law_777 dL_law_778 ?_
    refine l_arg 3 (by decide) hi hL3 dL_law_779 dL_law_780 dL_law_781 dL_law_782 dL_law_783 ?_
    refine e_if_eq (tgt := 791) dL_law_784 (by decide) (fun _ => ?_) (fun h => absurd h3 h)
    refine e_iconst (x := 0) dL_law_791 rfl ⟨by decide, by decide⟩ ?_
    obtain ⟨Q, hM, hQ⟩ := pr_odds (l := l) (w := w) (d := 40) (Nat.le_refl 40) hR (a := ag xs i 1) (b := ag xs i 2) (c := 0)
    refine e_callV hM cy_X8_odds cv_X8_odds ml_L_100 la_0 rfl rfl rfl (rokL _ (by decide)) (Nat.le_of_ble_eq_true rfl) dL_law_792 fun r M1 hq => ?_
    obtain ⟨x, rfl, Q2, hM2, hQ2⟩ := hQ r M1 hq
    refine e_aload2 dL_law_795 ?_
    refine l_arg 1 (by decide) hi hL3 dL_law_796 dL_law_797 dL_law_798 dL_law_799 dL_law_800 ?_
    refine l_arg 2 (by decide) hi hL3 dL_law_801 dL_law_802 dL_law_803 dL_law_804 dL_law_805 ?_
    refine l_arg 3 (by decide) hi hL3 dL_law_806 dL_law_807 dL_law_808 dL_law_809 dL_law_810 ?_
    refine e_if_eq (tgt := 818) dL_law_811 (by decide) (fun _ => ?_) (fun h => absurd h3 h)
    refine e_iconst (x := 0) dL_law_818 rfl ⟨by decide, by decide⟩ ?_
    refine e_callV hM2 cy_X9_odds cv_X9_odds ml_L_104 la_134 rfl rfl rfl (rokL _ (by decide)) (Nat.le_of_ble_eq_true rfl) dL_law_819 fun r2 M2 hq2 => ?_
    obtain ⟨rfl, hR2⟩ := hQ2 r2 M2 hq2
    refine e_lcmp dL_law_822 ?_
    exact e_if_eq (tgt := 1092) dL_law_823 (by decide) (fun _ => kk _ hR2) (fun h => absurd (by simp [cmpL]) h)
  · refine e_aload1 dL_law_768 ?_
    refine l_arg 1 (by decide) hi hL3 dL_law_769 dL_law_770 dL_law_771 dL_law_772 dL_law_773 ?_
    refine l_arg 2 (by decide) hi hL3 dL_law_774 dL_law_775 dL_law_776 dL_law_777 dL_law_778 ?_
    refine l_arg 3 (by decide) hi hL3 dL_law_779 dL_law_780 dL_law_781 dL_law_782 dL_law_783 ?_
    refine e_if_eq (tgt := 791) dL_law_784 (by decide) (fun h => absurd h h3) (fun _ => ?_)
    refine e_iconst (x := 1) dL_law_787 rfl ⟨by decide, by decide⟩ ?_
    refine e_goto (tgt := 792) dL_law_788 (by decide) ?_
    obtain ⟨Q, hM, hQ⟩ := pr_odds (l := l) (w := w) (d := 40) (Nat.le_refl 40) hR (a := ag xs i 1) (b := ag xs i 2) (c := 1)
    refine e_callV hM cy_X8_odds cv_X8_odds ml_L_100 la_0 rfl rfl rfl (rokL _ (by decide)) (Nat.le_of_ble_eq_true rfl) dL_law_792 fun r M1 hq => ?_
    obtain ⟨x, rfl, Q2, hM2, hQ2⟩ := hQ r M1 hq
    refine e_aload2 dL_law_795 ?_
    refine l_arg 1 (by decide) hi hL3 dL_law_796 dL_law_797 dL_law_798 dL_law_799 dL_law_800 ?_
    refine l_arg 2 (by decide) hi hL3 dL_law_801 dL_law_802 dL_law_803 dL_law_804 dL_law_805 ?_
    refine l_arg 3 (by decide) hi hL3 dL_law_806 dL_law_807 dL_law_808 dL_law_809 dL_law_810 ?_
    refine e_if_eq (tgt := 818) dL_law_811 (by decide) (fun h => absurd h h3) (fun _ => ?_)
    refine e_iconst (x := 1) dL_law_814 rfl ⟨by decide, by decide⟩ ?_
    refine e_goto (tgt := 819) dL_law_815 (by decide) ?_
    refine e_callV hM2 cy_X9_odds cv_X9_odds ml_L_104 la_134 rfl rfl rfl (rokL _ (by decide)) (Nat.le_of_ble_eq_true rfl) dL_law_819 fun r2 M2 hq2 => ?_
    obtain ⟨rfl, hR2⟩ := hQ2 r2 M2 hq2
    refine e_lcmp dL_law_822 ?_
    exact e_if_eq (tgt := 1092) dL_law_823 (by decide) (fun _ => kk _ hR2) (fun h => absurd (by simp [cmpL]) h)
theorem lc_blame (hR : REL M) (hi : 0 ≤ i ∧ i + 6 ≤ (L : Int)) (hL3 : L ≤ 3072) (kk : ∀ M2, REL M2 → WL l w b L xs 1092 (LC i) [] M2) : WL l w b L xs 828 (LC i) [] M := by
  by_cases h3 : ag xs i 3 = 0
  · refine e_aload1 dL_law_828 ?_
    refine l_arg 1 (by decide) hi hL3 dL_law_829 dL_law_830 dL_law_831 dL_law_832 dL_law_833 ?_
    refine l_arg 2 (by decide) hi hL3 dL_law_834 dL_law_835 dL_law_836 dL_law_837 dL_law_838 ?_
    refine l_arg 3 (by decide) hi hL3 dL_law_839 dL_law_840 dL_law_841 dL_law_842 dL_law_843 ?_
    refine e_if_eq (tgt := 851) dL_law_844 (by decide) (fun _ => ?_) (fun h => absurd h3 h)
    refine e_iconst (x := 0) dL_law_851 rfl ⟨by decide, by decide⟩ ?_
    obtain ⟨Q, hM, hQ⟩ := pr_blame (l := l) (w := w) (d := 40) (Nat.le_refl 40) hR (a := ag xs i 1) (b := ag xs i 2) (c := 0)
    refine e_callV hM cy_X8_blame cv_X8_blame ml_L_105 la_0 rfl rfl rfl (rokL _ (by decide)) (Nat.le_of_ble_eq_true rfl) dL_law_852 fun r M1 hq => ?_
    obtain ⟨x, rfl, Q2, hM2, hQ2⟩ := hQ r M1 hq
    refine e_aload2 dL_law_855 ?_
    refine l_arg 1 (by decide) hi hL3 dL_law_856 dL_law_857 dL_law_858 dL_law_859 dL_law_860 ?_
    refine l_arg 2 (by decide) hi hL3 dL_law_861 dL_law_862 dL_law_863 dL_law_864 dL_law_865 ?_
    refine l_arg 3 (by decide) hi hL3 dL_law_866 dL_law_867 dL_law_868 dL_law_869 dL_law_870 ?_
    refine e_if_eq (tgt := 878) dL_law_871 (by decide) (fun _ => ?_) (fun h => absurd h3 h)
    refine e_iconst (x := 0) dL_law_878 rfl ⟨by decide, by decide⟩ ?_
    refine e_callV hM2 cy_X9_blame cv_X9_blame ml_L_108 la_134 rfl rfl rfl (rokL _ (by decide)) (Nat.le_of_ble_eq_true rfl) dL_law_879 fun r2 M2 hq2 => ?_
    obtain ⟨rfl, hR2⟩ := hQ2 r2 M2 hq2
    refine e_lcmp dL_law_882 ?_
    exact e_if_eq (tgt := 1092) dL_law_883 (by decide) (fun _ => kk _ hR2) (fun h => absurd (by simp [cmpL]) h)
  · refine e_aload1 dL_law_828 ?_
    refine l_arg 1 (by decide) hi hL3 dL_law_829 dL_law_830 dL_law_831 dL_law_832 dL_law_833 ?_
    refine l_arg 2 (by decide) hi hL3 dL_law_834 dL_law_835 dL_law_836 dL_law_837 dL_law_838 ?_
    refine l_arg 3 (by decide) hi hL3 dL_law_839 dL_law_840 dL_law_841 dL_law_842 dL_law_843 ?_
    refine e_if_eq (tgt := 851) dL_law_844 (by decide) (fun h => absurd h h3) (fun _ => ?_)
    refine e_iconst (x := 1) dL_law_847 rfl ⟨by decide, by decide⟩ ?_
    refine e_goto (tgt := 852) dL_law_848 (by decide) ?_
    obtain ⟨Q, hM, hQ⟩ := pr_blame (l := l) (w := w) (d := 40) (Nat.le_refl 40) hR (a := ag xs i 1) (b := ag xs i 2) (c := 1)
    refine e_callV hM cy_X8_blame cv_X8_blame ml_L_105 la_0 rfl rfl rfl (rokL _ (by decide)) (Nat.le_of_ble_eq_true rfl) dL_law_852 fun r M1 hq => ?_
    obtain ⟨x, rfl, Q2, hM2, hQ2⟩ := hQ r M1 hq
    refine e_aload2 dL_law_855 ?_
    refine l_arg 1 (by decide) hi hL3 dL_law_856 dL_law_857 dL_law_858 dL_law_859 dL_law_860 ?_
    refine l_arg 2 (by decide) hi hL3 dL_law_861 dL_law_862 dL_law_863 dL_law_864 dL_law_865 ?_
    refine l_arg 3 (by decide) hi hL3 dL_law_866 dL_law_867 dL_law_868 dL_law_869 dL_law_870 ?_
    refine e_if_eq (tgt := 878) dL_law_871 (by decide) (fun h => absurd h h3) (fun _ => ?_)
    refine e_iconst (x := 1) dL_law_874 rfl ⟨by decide, by decide⟩ ?_
    refine e_goto (tgt := 879) dL_law_875 (by decide) ?_
    refine e_callV hM2 cy_X9_blame cv_X9_blame ml_L_108 la_134 rfl rfl rfl (rokL _ (by decide)) (Nat.le_of_ble_eq_true rfl) dL_law_879 fun r2 M2 hq2 => ?_
    obtain ⟨rfl, hR2⟩ := hQ2 r2 M2 hq2
    refine e_lcmp dL_law_882 ?_
    exact e_if_eq (tgt := 1092) dL_law_883 (by decide) (fun _ => kk _ hR2) (fun h => absurd (by simp [cmpL]) h)
theorem lc_supper (hR : REL M) (hi : 0 ≤ i ∧ i + 6 ≤ (L : Int)) (hL3 : L ≤ 3072) (kk : ∀ M2, REL M2 → WL l w b L xs 1092 (LC i) [] M2) : WL l w b L xs 888 (LC i) [] M := by
  refine e_aload1 dL_law_888 ?_
  refine l_arg 1 (by decide) hi hL3 dL_law_889 dL_law_890 dL_law_891 dL_law_892 dL_law_893 ?_
  refine l_arg 2 (by decide) hi hL3 dL_law_894 dL_law_895 dL_law_896 dL_law_897 dL_law_898 ?_
  refine l_arg 3 (by decide) hi hL3 dL_law_899 dL_law_900 dL_law_901 dL_law_902 dL_law_903 ?_
  obtain ⟨Q, hM, hQ⟩ := pr_supper (l := l) (w := w) (d := 40) (Nat.le_refl 40) hR (a := ag xs i 1) (b := ag xs i 2) (c := ag xs i 3)
  refine e_callV hM cy_X8_supper cv_X8_supper ml_L_109 la_0 rfl rfl rfl (rokL _ (by decide)) (Nat.le_of_ble_eq_true rfl) dL_law_904 fun r M1 hq => ?_
  obtain ⟨x, rfl, Q2, hM2, hQ2⟩ := hQ r M1 hq
  refine e_aload2 dL_law_907 ?_
  refine l_arg 1 (by decide) hi hL3 dL_law_908 dL_law_909 dL_law_910 dL_law_911 dL_law_912 ?_
  refine l_arg 2 (by decide) hi hL3 dL_law_913 dL_law_914 dL_law_915 dL_law_916 dL_law_917 ?_
  refine l_arg 3 (by decide) hi hL3 dL_law_918 dL_law_919 dL_law_920 dL_law_921 dL_law_922 ?_
  refine e_callV hM2 cy_X9_supper cv_X9_supper ml_L_112 la_134 rfl rfl rfl (rokL _ (by decide)) (Nat.le_of_ble_eq_true rfl) dL_law_923 fun r2 M2 hq2 => ?_
  obtain ⟨rfl, hR2⟩ := hQ2 r2 M2 hq2
  exact e_icmp_eq (tgt := 1092) dL_law_926 (by decide) (fun _ => kk _ hR2) (fun h => absurd rfl h)
theorem lc_married (hR : REL M) (hi : 0 ≤ i ∧ i + 6 ≤ (L : Int)) (hL3 : L ≤ 3072) (kk : ∀ M2, REL M2 → WL l w b L xs 1092 (LC i) [] M2) : WL l w b L xs 931 (LC i) [] M := by
  refine e_aload1 dL_law_931 ?_
  refine l_arg 1 (by decide) hi hL3 dL_law_932 dL_law_933 dL_law_934 dL_law_935 dL_law_936 ?_
  obtain ⟨Q, hM, hQ⟩ := pr_married (l := l) (w := w) (d := 40) (Nat.le_refl 40) hR (a := ag xs i 1)
  refine e_callV hM cy_X8_married cv_X8_married ml_L_113 la_0 rfl rfl rfl (rokL _ (by decide)) (Nat.le_of_ble_eq_true rfl) dL_law_937 fun r M1 hq => ?_
  obtain ⟨x, rfl, Q2, hM2, hQ2⟩ := hQ r M1 hq
  refine e_aload2 dL_law_940 ?_
  refine l_arg 1 (by decide) hi hL3 dL_law_941 dL_law_942 dL_law_943 dL_law_944 dL_law_945 ?_
  refine e_callV hM2 cy_X9_married cv_X9_married ml_L_116 la_134 rfl rfl rfl (rokL _ (by decide)) (Nat.le_of_ble_eq_true rfl) dL_law_946 fun r2 M2 hq2 => ?_
  obtain ⟨rfl, hR2⟩ := hQ2 r2 M2 hq2
  exact e_icmp_eq (tgt := 1092) dL_law_949 (by decide) (fun _ => kk _ hR2) (fun h => absurd rfl h)
theorem lc_worth (hR : REL M) (hi : 0 ≤ i ∧ i + 6 ≤ (L : Int)) (hL3 : L ≤ 3072) (kk : ∀ M2, REL M2 → WL l w b L xs 1092 (LC i) [] M2) : WL l w b L xs 954 (LC i) [] M := by
  refine e_aload1 dL_law_954 ?_
  refine l_arg 1 (by decide) hi hL3 dL_law_955 dL_law_956 dL_law_957 dL_law_958 dL_law_959 ?_
  obtain ⟨Q, hM, hQ⟩ := pr_worth (l := l) (w := w) (d := 40) (Nat.le_refl 40) hR (a := ag xs i 1)
  refine e_callV hM cy_X8_worth cv_X8_worth ml_L_117 la_0 rfl rfl rfl (rokL _ (by decide)) (Nat.le_of_ble_eq_true rfl) dL_law_960 fun r M1 hq => ?_
  obtain ⟨x, rfl, Q2, hM2, hQ2⟩ := hQ r M1 hq
  refine e_aload2 dL_law_963 ?_
  refine l_arg 1 (by decide) hi hL3 dL_law_964 dL_law_965 dL_law_966 dL_law_967 dL_law_968 ?_
  refine e_callV hM2 cy_X9_worth cv_X9_worth ml_L_120 la_134 rfl rfl rfl (rokL _ (by decide)) (Nat.le_of_ble_eq_true rfl) dL_law_969 fun r2 M2 hq2 => ?_
  obtain ⟨rfl, hR2⟩ := hQ2 r2 M2 hq2
  exact e_icmp_eq (tgt := 1092) dL_law_972 (by decide) (fun _ => kk _ hR2) (fun h => absurd rfl h)
theorem lc_club (hR : REL M) (hi : 0 ≤ i ∧ i + 6 ≤ (L : Int)) (hL3 : L ≤ 3072) (kk : ∀ M2, REL M2 → WL l w b L xs 1092 (LC i) [] M2) : WL l w b L xs 977 (LC i) [] M := by
  refine e_aload1 dL_law_977 ?_
  refine l_arg 1 (by decide) hi hL3 dL_law_978 dL_law_979 dL_law_980 dL_law_981 dL_law_982 ?_
  obtain ⟨Q, hM, hQ⟩ := pr_club (l := l) (w := w) (d := 40) (Nat.le_refl 40) hR (a := ag xs i 1)
  refine e_callV hM cy_X8_club cv_X8_club ml_L_121 la_0 rfl rfl rfl (rokL _ (by decide)) (Nat.le_of_ble_eq_true rfl) dL_law_983 fun r M1 hq => ?_
  obtain ⟨x, rfl, Q2, hM2, hQ2⟩ := hQ r M1 hq
  refine e_aload2 dL_law_986 ?_
  refine l_arg 1 (by decide) hi hL3 dL_law_987 dL_law_988 dL_law_989 dL_law_990 dL_law_991 ?_
  refine e_callV hM2 cy_X9_club cv_X9_club ml_L_124 la_134 rfl rfl rfl (rokL _ (by decide)) (Nat.le_of_ble_eq_true rfl) dL_law_992 fun r2 M2 hq2 => ?_
  obtain ⟨rfl, hR2⟩ := hQ2 r2 M2 hq2
  exact e_icmp_eq (tgt := 1092) dL_law_995 (by decide) (fun _ => kk _ hR2) (fun h => absurd rfl h)
theorem lc_settles (hR : REL M) (hi : 0 ≤ i ∧ i + 6 ≤ (L : Int)) (hL3 : L ≤ 3072) (kk : ∀ M2, REL M2 → WL l w b L xs 1092 (LC i) [] M2) : WL l w b L xs 1000 (LC i) [] M := by
  refine e_aload1 dL_law_1000 ?_
  refine l_arg 1 (by decide) hi hL3 dL_law_1001 dL_law_1002 dL_law_1003 dL_law_1004 dL_law_1005 ?_
  refine l_arg 2 (by decide) hi hL3 dL_law_1006 dL_law_1007 dL_law_1008 dL_law_1009 dL_law_1010 ?_
  refine l_arg 3 (by decide) hi hL3 dL_law_1011 dL_law_1012 dL_law_1013 dL_law_1014 dL_law_1015 ?_
  obtain ⟨Q, hM, hQ⟩ := pr_settles (l := l) (w := w) (d := 40) (Nat.le_refl 40) hR (a := ag xs i 1) (b := ag xs i 2) (c := ag xs i 3)
  refine e_callV hM cy_X8_settles cv_X8_settles ml_L_125 la_0 rfl rfl rfl (rokL _ (by decide)) (Nat.le_of_ble_eq_true rfl) dL_law_1016 fun r M1 hq => ?_
  obtain ⟨x, rfl, Q2, hM2, hQ2⟩ := hQ r M1 hq
  refine e_aload2 dL_law_1019 ?_
  refine l_arg 1 (by decide) hi hL3 dL_law_1020 dL_law_1021 dL_law_1022 dL_law_1023 dL_law_1024 ?_
  refine l_arg 2 (by decide) hi hL3 dL_law_1025 dL_law_1026 dL_law_1027 dL_law_1028 dL_law_1029 ?_
  refine l_arg 3 (by decide) hi hL3 dL_law_1030 dL_law_1031 dL_law_1032 dL_law_1033 dL_law_1034 ?_
  refine e_callV hM2 cy_X9_settles cv_X9_settles ml_L_128 la_134 rfl rfl rfl (rokL _ (by decide)) (Nat.le_of_ble_eq_true rfl) dL_law_1035 fun r2 M2 hq2 => ?_
  obtain ⟨rfl, hR2⟩ := hQ2 r2 M2 hq2
  exact e_icmp_eq (tgt := 1092) dL_law_1038 (by decide) (fun _ => kk _ hR2) (fun h => absurd rfl h)
theorem lc_image (hR : REL M) (hi : 0 ≤ i ∧ i + 6 ≤ (L : Int)) (hL3 : L ≤ 3072) (kk : ∀ M2, REL M2 → WL l w b L xs 1092 (LC i) [] M2) : WL l w b L xs 1043 (LC i) [] M := by
  refine e_aload1 dL_law_1043 ?_
  obtain ⟨Q, hM, hQ⟩ := pr_image (l := l) (w := w) (d := 40) (Nat.le_refl 40) hR
  refine e_callV hM cy_X8_image cv_X8_image ml_L_129 la_0 rfl rfl rfl (rokL _ (by decide)) (Nat.le_of_ble_eq_true rfl) dL_law_1044 fun r M1 hq => ?_
  obtain ⟨x, rfl, Q2, hM2, hQ2⟩ := hQ r M1 hq
  refine e_aload2 dL_law_1047 ?_
  refine e_callV hM2 cy_X9_image cv_X9_image ml_L_132 la_134 rfl rfl rfl (rokL _ (by decide)) (Nat.le_of_ble_eq_true rfl) dL_law_1048 fun r2 M2 hq2 => ?_
  obtain ⟨rfl, hR2⟩ := hQ2 r2 M2 hq2
  exact e_icmp_eq (tgt := 1092) dL_law_1051 (by decide) (fun _ => kk _ hR2) (fun h => absurd rfl h)
theorem lc_back (hR : REL M) (hi : 0 ≤ i ∧ i + 6 ≤ (L : Int)) (hL3 : L ≤ 3072) (kk : ∀ M2, REL M2 → WL l w b L xs 1092 (LC i) [] M2) : WL l w b L xs 1056 (LC i) [] M := by
  refine e_aload1 dL_law_1056 ?_
  obtain ⟨Q, hM, hQ⟩ := pr_back (l := l) (w := w) (d := 40) (Nat.le_refl 40) hR
  refine e_callV hM cy_X8_back cv_X8_back ml_L_133 la_0 rfl rfl rfl (rokL _ (by decide)) (Nat.le_of_ble_eq_true rfl) dL_law_1057 fun r M1 hq => ?_
  obtain ⟨x, rfl, Q2, hM2, hQ2⟩ := hQ r M1 hq
  refine e_aload2 dL_law_1060 ?_
  refine e_callV hM2 cy_X9_back cv_X9_back ml_L_136 la_134 rfl rfl rfl (rokL _ (by decide)) (Nat.le_of_ble_eq_true rfl) dL_law_1061 fun r2 M2 hq2 => ?_
  obtain ⟨rfl, hR2⟩ := hQ2 r2 M2 hq2
  exact e_icmp_eq (tgt := 1092) dL_law_1064 (by decide) (fun _ => kk _ hR2) (fun h => absurd rfl h)
theorem lc_about (hR : REL M) (hi : 0 ≤ i ∧ i + 6 ≤ (L : Int)) (hL3 : L ≤ 3072) (kk : ∀ M2, REL M2 → WL l w b L xs 1092 (LC i) [] M2) : WL l w b L xs 1069 (LC i) [] M := by
  refine e_aload1 dL_law_1069 ?_
  refine l_arg 1 (by decide) hi hL3 dL_law_1070 dL_law_1071 dL_law_1072 dL_law_1073 dL_law_1074 ?_
  obtain ⟨Q, hM, hQ⟩ := pr_about (l := l) (w := w) (d := 40) (Nat.le_refl 40) hR (a := ag xs i 1)
  refine e_callV hM cy_X8_about cv_X8_about ml_L_137 la_0 rfl rfl rfl (rokL _ (by decide)) (Nat.le_of_ble_eq_true rfl) dL_law_1075 fun r M1 hq => ?_
  obtain ⟨x, rfl, Q2, hM2, hQ2⟩ := hQ r M1 hq
  refine e_aload2 dL_law_1078 ?_
  refine l_arg 1 (by decide) hi hL3 dL_law_1079 dL_law_1080 dL_law_1081 dL_law_1082 dL_law_1083 ?_
  refine e_callV hM2 cy_X9_about cv_X9_about ml_L_140 la_134 rfl rfl rfl (rokL _ (by decide)) (Nat.le_of_ble_eq_true rfl) dL_law_1084 fun r2 M2 hq2 => ?_
  obtain ⟨rfl, hR2⟩ := hQ2 r2 M2 hq2
  exact e_icmp_eq (tgt := 1092) dL_law_1087 (by decide) (fun _ => kk _ hR2) (fun h => absurd rfl h)
theorem l_switch {x : Int} (hR : REL M) (hi : 0 ≤ i ∧ i + 6 ≤ (L : Int)) (hL3 : L ≤ 3072) (kk : ∀ M2, REL M2 → WL l w b L xs 1092 (LC i) [] M2) : WL l w b L xs 33 (LC i) [vI x] M := by
  refine e_table (tgt := 1092) dL_law_33 (by decide) (fun h1 h2 => ?_) (fun _ => kk _ hR)
  rcases (show x = 0 ∨ x = 1 ∨ x = 2 ∨ x = 3 ∨ x = 4 ∨ x = 5 ∨ x = 6 ∨ x = 7 ∨ x = 8 ∨ x = 9 ∨ x = 10 ∨ x = 11 ∨ x = 12 ∨ x = 13 ∨ x = 14 ∨ x = 15 ∨ x = 16 ∨ x = 17 ∨ x = 18 ∨ x = 19 ∨ x = 20 ∨ x = 21 ∨ x = 22 ∨ x = 23 ∨ x = 24 ∨ x = 25 ∨ x = 26 ∨ x = 27 ∨ x = 28 ∨ x = 29 by omega) with rfl | rfl | rfl | rfl | rfl | rfl | rfl | rfl | rfl | rfl | rfl | rfl | rfl | rfl | rfl | rfl | rfl | rfl | rfl | rfl | rfl | rfl | rfl | rfl | rfl | rfl | rfl | rfl | rfl | rfl
  · exact ⟨135, 168, rfl, by decide, lc_house hR hi hL3 kk⟩
  · exact ⟨168, 201, rfl, by decide, lc_candle hR hi hL3 kk⟩
  · exact ⟨201, 234, rfl, by decide, lc_seed hR hi hL3 kk⟩
  · exact ⟨224, 257, rfl, by decide, lc_buy hR hi hL3 kk⟩
  · exact ⟨267, 300, rfl, by decide, lc_light hR hi hL3 kk⟩
  · exact ⟨290, 323, rfl, by decide, lc_burn hR hi hL3 kk⟩
  · exact ⟨313, 346, rfl, by decide, lc_repay hR hi hL3 kk⟩
  · exact ⟨346, 379, rfl, by decide, lc_moths hR hi hL3 kk⟩
  · exact ⟨369, 402, rfl, by decide, lc_feed hR hi hL3 kk⟩
  · exact ⟨432, 465, rfl, by decide, lc_end hR hi hL3 kk⟩
  · exact ⟨455, 488, rfl, by decide, lc_text hR hi hL3 kk⟩
  · exact ⟨468, 501, rfl, by decide, lc_fault hR hi hL3 kk⟩
  · exact ⟨491, 524, rfl, by decide, lc_by hR hi hL3 kk⟩
  · exact ⟨514, 547, rfl, by decide, lc_played hR hi hL3 kk⟩
  · exact ⟨537, 570, rfl, by decide, lc_undo hR hi hL3 kk⟩
  · exact ⟨550, 583, rfl, by decide, lc_houseOf hR hi hL3 kk⟩
  · exact ⟨583, 616, rfl, by decide, lc_candleOf hR hi hL3 kk⟩
  · exact ⟨616, 649, rfl, by decide, lc_says hR hi hL3 kk⟩
  · exact ⟨669, 702, rfl, by decide, lc_drip hR hi hL3 kk⟩
  · exact ⟨702, 735, rfl, by decide, lc_whose hR hi hL3 kk⟩
  · exact ⟨735, 768, rfl, by decide, lc_odds hR hi hL3 kk⟩
  · exact ⟨795, 828, rfl, by decide, lc_blame hR hi hL3 kk⟩
  · exact ⟨855, 888, rfl, by decide, lc_supper hR hi hL3 kk⟩
  · exact ⟨898, 931, rfl, by decide, lc_married hR hi hL3 kk⟩
  · exact ⟨921, 954, rfl, by decide, lc_worth hR hi hL3 kk⟩
  · exact ⟨944, 977, rfl, by decide, lc_club hR hi hL3 kk⟩
  · exact ⟨967, 1000, rfl, by decide, lc_settles hR hi hL3 kk⟩
  · exact ⟨1010, 1043, rfl, by decide, lc_image hR hi hL3 kk⟩
  · exact ⟨1023, 1056, rfl, by decide, lc_back hR hi hL3 kk⟩
  · exact ⟨1036, 1069, rfl, by decide, lc_about hR hi hL3 kk⟩
theorem l_loop (hL3 : L ≤ 3072) : ∀ (n : Nat) (i : Int) (M : Mem), 0 ≤ i → (L : Int) - i < (n : Int) → REL M → WL l w b L xs 18 (LC i) [] M := by
  intro n
  induction n with
  | zero =>
    intro i M h0 hn hR
    refine e_iload3 dL_law_18 ?_
    refine e_aload0 dL_law_19 ?_
    refine l_len hL3 dL_law_20 ?_
    refine e_bipush (x := 6) dL_law_21 rfl ⟨by decide, by decide, by decide⟩ ?_
    refine e_isub dL_law_23 ⟨by omega, by omega⟩ ?_
    exact e_icmp_gt (tgt := 1098) dL_law_24 (by decide) (fun _ => l_end) (fun h => absurd (show (L : Int) - 6 < i by omega) h)
  | succ n ih =>
    intro i M h0 hn hR
    refine e_iload3 dL_law_18 ?_
    refine e_aload0 dL_law_19 ?_
    refine l_len hL3 dL_law_20 ?_
    refine e_bipush (x := 6) dL_law_21 rfl ⟨by decide, by decide, by decide⟩ ?_
    refine e_isub dL_law_23 ⟨by omega, by omega⟩ ?_
    refine e_icmp_gt (tgt := 1098) dL_law_24 (by decide) (fun _ => l_end) (fun h => ?_)
    have hi : 0 ≤ i ∧ i + 6 ≤ (L : Int) := ⟨h0, by omega⟩
    refine e_aload0 dL_law_27 ?_
    refine e_iload3 dL_law_28 ?_
    refine l_sld ⟨h0, by omega⟩ dL_law_29 ?_
    refine e_bipush (x := 31) dL_law_30 rfl ⟨by decide, by decide, by decide⟩ ?_
    refine e_iand dL_law_32 ?_
    refine l_switch hR hi hL3 (fun M2 hR2 => ?_)
    refine e_iinc3 (y := i + 6) dL_law_1092 rfl ⟨by omega, by omega⟩ rfl ?_
    refine e_goto (tgt := 18) dL_law_1095 (by decide) ?_
    exact ih (i + 6) M2 (by omega) (by omega) hR2
end LAW
