/-! THE CLAIM OUT OF ONE WALK OF THE LAW'S BODY. Your part is whole_start (and what it stands on); all else here is the same for every law, but numbers. -/
def R_law : String := "BracketSweepLaw"
def lw_P (b : Addr) (xs : List Int32) (args : Array Value) (s : State) : Prop := args = #[.ref b] ∧ s.IntsAt b xs ∧ xs.length ≤ 3072 ∧ (Jvm.Cond.and given_1 narrow_1).before args s = true
def lw_Q (_ : Array Value) (s : State) (o : Outcome) (t : State) : Prop := o = .returned (some (.int 1)) ∧ Framed s o t [] 600000 7302250
def lw_Z (below : List Frame) (a : Array Value) (s : State) : State → Prop := fun t => ∃ o, t.status = .running ∧ Ended t below o ∧ lw_Q a s o t
/-- the law's own end, with 1 on the stack, nothing written that was there before, its room as the claim has it -/
theorem lw_ret {p : Program} {l : Launch} {e : Env} {s : State} {m : MethodId} {below : List Frame} {meth : Method} {c : Code} {b : Nat} (hx : p.tables.exec = Jvm.exec) (hb : c.code = code) (hr : meth.sig.returnType = ret) (hlocks : meth.locks = false) {pc : Nat} {H : Heap} {ls : Array Slot} (hdg : decode code pc = .ok (.ireturn, 1)) : W p l e room_1 s m #[Value.ref b] below meth c H [] 600000 7302250 (lw_Z below #[Value.ref b] s) (F0 m pc ls [.int 1]) := by
  intro T hT X
  obtain ⟨fs, hret, hrun, hended, hW, hframe⟩ := X.leave (v := some (.int 1)) (hlocks := hlocks) (fun h => by rw [hr] at h; cases h)
  have hmeth' : T.vm.method? m = some meth := X.method'
  refine ⟨T.setFrames fs, ?_, .returned (some (.int 1)), hrun, hended, rfl, ⟨_, rfl⟩, hW, hframe⟩
  jvm_step X.here [X.here.top, hx, hb, hdg, hmeth', hr, ret, narrow_b1]
  (try refine ⟨rfl, ?_⟩); (try refine ⟨rfl, ?_⟩)
  first | (intro acts; rw [hret _ acts rfl rfl rfl]) | rw [hret _ _ rfl rfl rfl]
  exact Steps.refl _
/-- what holds at the law's entry: the machine, the code, the tables' words (any of lw_tbl by 'hts w (by decide +kernel)'), the script of L ints xs at the cell b, what the Statement gives of the start (any of its parts by flat_of_before) -/
def lw_At (p : Program) (s : State) (m : MethodId) (meth : Method) (c : Code) (b L : Nat) (xs : Nat → Int32) : Prop :=
  p.tables.exec = Jvm.exec ∧ c.code = code ∧ meth.sig.returnType = ret ∧ c.maxLocals = 4 ∧ s.vm.findClass R_law = some m.cls ∧ (∀ w ∈ lw_tbl, w.before #[Value.ref b] s = true) ∧ va_X b L xs s s.heap ∧ b < s.heap.size ∧ meth.locks = false ∧ (Jvm.Cond.and given_1 narrow_1).before #[Value.ref b] s = true
theorem ix_259 : Cond.methodLink R_law 13 y_B_crossing ∈ lw_g := lg_in (List.mem_of_getElem? (i := 113) (by decide +kernel)) rfl
theorem ix_260 : Cond.code y_B_crossing b_B_crossing 7 (some .int) ∈ lw_g := lg_in (List.mem_of_getElem? (i := 116) (by decide +kernel)) rfl
theorem ix_261 : Cond.instanceMethod y_B_crossing ∈ lw_g := lg_in (List.mem_of_getElem? (i := 114) (by decide +kernel)) rfl
theorem ix_262 : Cond.selects R_B y_B_crossing y_B_crossing ∈ lw_g := lg_in (List.mem_of_getElem? (i := 115) (by decide +kernel)) rfl
theorem ix_263 : Cond.methodLink R_law 17 y_M_crossing ∈ lw_g := lg_in (List.mem_of_getElem? (i := 346) (by decide +kernel)) rfl
theorem ix_264 : Cond.code y_M_crossing b_M_crossing 7 (some .int) ∈ lw_g := lg_in (List.mem_of_getElem? (i := 349) (by decide +kernel)) rfl
theorem ix_265 : Cond.instanceMethod y_M_crossing ∈ lw_g := lg_in (List.mem_of_getElem? (i := 347) (by decide +kernel)) rfl
theorem ix_266 : Cond.selects R_M y_M_crossing y_M_crossing ∈ lw_g := lg_in (List.mem_of_getElem? (i := 348) (by decide +kernel)) rfl
theorem ix_267 : Cond.methodLink R_law 18 y_B_circles ∈ lw_g := lg_in (List.mem_of_getElem? (i := 120) (by decide +kernel)) rfl
theorem ix_268 : Cond.code y_B_circles b_B_circles 3 (some .int) ∈ lw_g := lg_in (List.mem_of_getElem? (i := 123) (by decide +kernel)) rfl
theorem ix_269 : Cond.instanceMethod y_B_circles ∈ lw_g := lg_in (List.mem_of_getElem? (i := 121) (by decide +kernel)) rfl
theorem ix_270 : Cond.selects R_B y_B_circles y_B_circles ∈ lw_g := lg_in (List.mem_of_getElem? (i := 122) (by decide +kernel)) rfl
theorem ix_271 : Cond.methodLink R_law 22 y_M_circles ∈ lw_g := lg_in (List.mem_of_getElem? (i := 350) (by decide +kernel)) rfl
theorem ix_272 : Cond.code y_M_circles b_M_circles 3 (some .int) ∈ lw_g := lg_in (List.mem_of_getElem? (i := 353) (by decide +kernel)) rfl
theorem ix_273 : Cond.instanceMethod y_M_circles ∈ lw_g := lg_in (List.mem_of_getElem? (i := 351) (by decide +kernel)) rfl
theorem ix_274 : Cond.selects R_M y_M_circles y_M_circles ∈ lw_g := lg_in (List.mem_of_getElem? (i := 352) (by decide +kernel)) rfl
theorem ix_275 : Cond.methodLink R_law 23 y_B_clear ∈ lw_g := lg_in (List.mem_of_getElem? (i := 124) (by decide +kernel)) rfl
theorem ix_276 : Cond.code y_B_clear b_B_clear 2 (some .int) ∈ lw_g := lg_in (List.mem_of_getElem? (i := 127) (by decide +kernel)) rfl
theorem ix_277 : Cond.instanceMethod y_B_clear ∈ lw_g := lg_in (List.mem_of_getElem? (i := 125) (by decide +kernel)) rfl
theorem ix_278 : Cond.selects R_B y_B_clear y_B_clear ∈ lw_g := lg_in (List.mem_of_getElem? (i := 126) (by decide +kernel)) rfl
theorem ix_279 : Cond.methodLink R_law 27 y_M_clear ∈ lw_g := lg_in (List.mem_of_getElem? (i := 354) (by decide +kernel)) rfl
theorem ix_280 : Cond.code y_M_clear b_M_clear 2 (some .int) ∈ lw_g := lg_in (List.mem_of_getElem? (i := 357) (by decide +kernel)) rfl
theorem ix_281 : Cond.instanceMethod y_M_clear ∈ lw_g := lg_in (List.mem_of_getElem? (i := 355) (by decide +kernel)) rfl
theorem ix_282 : Cond.selects R_M y_M_clear y_M_clear ∈ lw_g := lg_in (List.mem_of_getElem? (i := 356) (by decide +kernel)) rfl
theorem ix_283 : Cond.methodLink R_law 28 y_B_fault ∈ lw_g := lg_in (List.mem_of_getElem? (i := 128) (by decide +kernel)) rfl
theorem ix_284 : Cond.methodLink R_law 31 y_M_fault ∈ lw_g := lg_in (List.mem_of_getElem? (i := 358) (by decide +kernel)) rfl
theorem ix_285 : Cond.methodLink R_law 32 y_B_sweep ∈ lw_g := lg_in (List.mem_of_getElem? (i := 139) (by decide +kernel)) rfl
theorem ix_286 : Cond.code y_B_sweep b_B_sweep 6 (some .int) ∈ lw_g := lg_in (List.mem_of_getElem? (i := 142) (by decide +kernel)) rfl
theorem ix_287 : Cond.instanceMethod y_B_sweep ∈ lw_g := lg_in (List.mem_of_getElem? (i := 140) (by decide +kernel)) rfl
theorem ix_288 : Cond.selects R_B y_B_sweep y_B_sweep ∈ lw_g := lg_in (List.mem_of_getElem? (i := 141) (by decide +kernel)) rfl
theorem ix_289 : Cond.methodLink R_law 35 y_M_sweep ∈ lw_g := lg_in (List.mem_of_getElem? (i := 410) (by decide +kernel)) rfl
theorem ix_290 : Cond.code y_M_sweep b_M_sweep 8 (some .int) ∈ lw_g := lg_in (List.mem_of_getElem? (i := 413) (by decide +kernel)) rfl
theorem ix_291 : Cond.instanceMethod y_M_sweep ∈ lw_g := lg_in (List.mem_of_getElem? (i := 411) (by decide +kernel)) rfl
theorem ix_292 : Cond.selects R_M y_M_sweep y_M_sweep ∈ lw_g := lg_in (List.mem_of_getElem? (i := 412) (by decide +kernel)) rfl
theorem ix_293 : Cond.methodLink R_law 36 y_B_bracket ∈ lw_g := lg_in (List.mem_of_getElem? (i := 171) (by decide +kernel)) rfl
theorem ix_294 : Cond.code y_B_bracket b_B_bracket 2 (some .long) ∈ lw_g := lg_in (List.mem_of_getElem? (i := 174) (by decide +kernel)) rfl
theorem ix_295 : Cond.instanceMethod y_B_bracket ∈ lw_g := lg_in (List.mem_of_getElem? (i := 172) (by decide +kernel)) rfl
theorem ix_296 : Cond.selects R_B y_B_bracket y_B_bracket ∈ lw_g := lg_in (List.mem_of_getElem? (i := 173) (by decide +kernel)) rfl
theorem ix_297 : Cond.methodLink R_law 40 y_M_bracket ∈ lw_g := lg_in (List.mem_of_getElem? (i := 382) (by decide +kernel)) rfl
theorem ix_298 : Cond.methodLink R_law 41 y_B_jones ∈ lw_g := lg_in (List.mem_of_getElem? (i := 241) (by decide +kernel)) rfl
theorem ix_299 : Cond.code y_B_jones b_B_jones 5 (some .long) ∈ lw_g := lg_in (List.mem_of_getElem? (i := 244) (by decide +kernel)) rfl
theorem ix_300 : Cond.instanceMethod y_B_jones ∈ lw_g := lg_in (List.mem_of_getElem? (i := 242) (by decide +kernel)) rfl
theorem ix_301 : Cond.selects R_B y_B_jones y_B_jones ∈ lw_g := lg_in (List.mem_of_getElem? (i := 243) (by decide +kernel)) rfl
theorem ix_302 : Cond.methodLink R_law 44 y_M_jones ∈ lw_g := lg_in (List.mem_of_getElem? (i := 397) (by decide +kernel)) rfl
theorem ix_303 : Cond.code y_M_jones b_M_jones 3 (some .long) ∈ lw_g := lg_in (List.mem_of_getElem? (i := 400) (by decide +kernel)) rfl
theorem ix_304 : Cond.instanceMethod y_M_jones ∈ lw_g := lg_in (List.mem_of_getElem? (i := 398) (by decide +kernel)) rfl
theorem ix_305 : Cond.selects R_M y_M_jones y_M_jones ∈ lw_g := lg_in (List.mem_of_getElem? (i := 399) (by decide +kernel)) rfl
theorem ix_306 : Cond.methodLink R_law 50 y_B_state ∈ lw_g := lg_in (List.mem_of_getElem? (i := 259) (by decide +kernel)) rfl
theorem ix_307 : Cond.code y_B_state b_B_state 5 (some .int) ∈ lw_g := lg_in (List.mem_of_getElem? (i := 262) (by decide +kernel)) rfl
theorem ix_308 : Cond.instanceMethod y_B_state ∈ lw_g := lg_in (List.mem_of_getElem? (i := 260) (by decide +kernel)) rfl
theorem ix_309 : Cond.selects R_B y_B_state y_B_state ∈ lw_g := lg_in (List.mem_of_getElem? (i := 261) (by decide +kernel)) rfl
theorem ix_310 : Cond.methodLink R_law 53 y_M_state ∈ lw_g := lg_in (List.mem_of_getElem? (i := 366) (by decide +kernel)) rfl
theorem ix_311 : Cond.code y_M_state b_M_state 2 (some .int) ∈ lw_g := lg_in (List.mem_of_getElem? (i := 369) (by decide +kernel)) rfl
theorem ix_312 : Cond.instanceMethod y_M_state ∈ lw_g := lg_in (List.mem_of_getElem? (i := 367) (by decide +kernel)) rfl
theorem ix_313 : Cond.selects R_M y_M_state y_M_state ∈ lw_g := lg_in (List.mem_of_getElem? (i := 368) (by decide +kernel)) rfl
theorem ix_314 : Cond.methodLink R_law 54 y_B_look ∈ lw_g := lg_in (List.mem_of_getElem? (i := 263) (by decide +kernel)) rfl
theorem ix_315 : Cond.code y_B_look b_B_look 3 (some .int) ∈ lw_g := lg_in (List.mem_of_getElem? (i := 266) (by decide +kernel)) rfl
theorem ix_316 : Cond.instanceMethod y_B_look ∈ lw_g := lg_in (List.mem_of_getElem? (i := 264) (by decide +kernel)) rfl
theorem ix_317 : Cond.selects R_B y_B_look y_B_look ∈ lw_g := lg_in (List.mem_of_getElem? (i := 265) (by decide +kernel)) rfl
theorem ix_318 : Cond.methodLink R_law 58 y_M_look ∈ lw_g := lg_in (List.mem_of_getElem? (i := 426) (by decide +kernel)) rfl
theorem ix_319 : Cond.code y_M_look b_M_look 3 (some .int) ∈ lw_g := lg_in (List.mem_of_getElem? (i := 429) (by decide +kernel)) rfl
theorem ix_320 : Cond.instanceMethod y_M_look ∈ lw_g := lg_in (List.mem_of_getElem? (i := 427) (by decide +kernel)) rfl
theorem ix_321 : Cond.selects R_M y_M_look y_M_look ∈ lw_g := lg_in (List.mem_of_getElem? (i := 428) (by decide +kernel)) rfl
theorem ix_322 : Cond.methodLink R_law 64 y_B_change ∈ lw_g := lg_in (List.mem_of_getElem? (i := 293) (by decide +kernel)) rfl
theorem ix_323 : Cond.code y_B_change b_B_change 4 (some .boolean) ∈ lw_g := lg_in (List.mem_of_getElem? (i := 296) (by decide +kernel)) rfl
theorem ix_324 : Cond.instanceMethod y_B_change ∈ lw_g := lg_in (List.mem_of_getElem? (i := 294) (by decide +kernel)) rfl
theorem ix_325 : Cond.selects R_B y_B_change y_B_change ∈ lw_g := lg_in (List.mem_of_getElem? (i := 295) (by decide +kernel)) rfl
theorem ix_326 : Cond.methodLink R_law 68 y_M_change ∈ lw_g := lg_in (List.mem_of_getElem? (i := 446) (by decide +kernel)) rfl
theorem ix_327 : Cond.code y_M_change b_M_change 4 (some .boolean) ∈ lw_g := lg_in (List.mem_of_getElem? (i := 449) (by decide +kernel)) rfl
theorem ix_328 : Cond.instanceMethod y_M_change ∈ lw_g := lg_in (List.mem_of_getElem? (i := 447) (by decide +kernel)) rfl
theorem ix_329 : Cond.selects R_M y_M_change y_M_change ∈ lw_g := lg_in (List.mem_of_getElem? (i := 448) (by decide +kernel)) rfl
theorem ix_330 : Cond.methodLink R_law 69 y_B_move ∈ lw_g := lg_in (List.mem_of_getElem? (i := 297) (by decide +kernel)) rfl
theorem ix_331 : Cond.code y_B_move b_B_move 3 (some .boolean) ∈ lw_g := lg_in (List.mem_of_getElem? (i := 300) (by decide +kernel)) rfl
theorem ix_332 : Cond.instanceMethod y_B_move ∈ lw_g := lg_in (List.mem_of_getElem? (i := 298) (by decide +kernel)) rfl
theorem ix_333 : Cond.selects R_B y_B_move y_B_move ∈ lw_g := lg_in (List.mem_of_getElem? (i := 299) (by decide +kernel)) rfl
theorem ix_334 : Cond.methodLink R_law 73 y_M_move ∈ lw_g := lg_in (List.mem_of_getElem? (i := 450) (by decide +kernel)) rfl
theorem ix_335 : Cond.code y_M_move b_M_move 4 (some .boolean) ∈ lw_g := lg_in (List.mem_of_getElem? (i := 453) (by decide +kernel)) rfl
theorem ix_336 : Cond.instanceMethod y_M_move ∈ lw_g := lg_in (List.mem_of_getElem? (i := 451) (by decide +kernel)) rfl
theorem ix_337 : Cond.selects R_M y_M_move y_M_move ∈ lw_g := lg_in (List.mem_of_getElem? (i := 452) (by decide +kernel)) rfl
theorem ix_338 : Cond.methodLink R_law 59 y_B_resolve ∈ lw_g := lg_in (List.mem_of_getElem? (i := 271) (by decide +kernel)) rfl
theorem ix_339 : Cond.code y_B_resolve b_B_resolve 10 (some .boolean) ∈ lw_g := lg_in (List.mem_of_getElem? (i := 274) (by decide +kernel)) rfl
theorem ix_340 : Cond.instanceMethod y_B_resolve ∈ lw_g := lg_in (List.mem_of_getElem? (i := 272) (by decide +kernel)) rfl
theorem ix_341 : Cond.selects R_B y_B_resolve y_B_resolve ∈ lw_g := lg_in (List.mem_of_getElem? (i := 273) (by decide +kernel)) rfl
theorem ix_342 : Cond.methodLink R_law 45 y_B_span ∈ lw_g := lg_in (List.mem_of_getElem? (i := 250) (by decide +kernel)) rfl
theorem ix_343 : Cond.code y_B_span b_B_span 4 (some .int) ∈ lw_g := lg_in (List.mem_of_getElem? (i := 253) (by decide +kernel)) rfl
theorem ix_344 : Cond.instanceMethod y_B_span ∈ lw_g := lg_in (List.mem_of_getElem? (i := 251) (by decide +kernel)) rfl
theorem ix_345 : Cond.selects R_B y_B_span y_B_span ∈ lw_g := lg_in (List.mem_of_getElem? (i := 252) (by decide +kernel)) rfl
theorem ix_346 : Cond.methodLink R_law 63 y_M_resolve ∈ lw_g := lg_in (List.mem_of_getElem? (i := 430) (by decide +kernel)) rfl
theorem ix_347 : Cond.code y_M_resolve b_M_resolve 5 (some .boolean) ∈ lw_g := lg_in (List.mem_of_getElem? (i := 433) (by decide +kernel)) rfl
theorem ix_348 : Cond.instanceMethod y_M_resolve ∈ lw_g := lg_in (List.mem_of_getElem? (i := 431) (by decide +kernel)) rfl
theorem ix_349 : Cond.selects R_M y_M_resolve y_M_resolve ∈ lw_g := lg_in (List.mem_of_getElem? (i := 432) (by decide +kernel)) rfl
theorem ix_350 : Cond.methodLink R_law 49 y_M_span ∈ lw_g := lg_in (List.mem_of_getElem? (i := 406) (by decide +kernel)) rfl
theorem ix_351 : Cond.code y_M_span b_M_span 7 (some .int) ∈ lw_g := lg_in (List.mem_of_getElem? (i := 409) (by decide +kernel)) rfl
theorem ix_352 : Cond.instanceMethod y_M_span ∈ lw_g := lg_in (List.mem_of_getElem? (i := 407) (by decide +kernel)) rfl
theorem ix_353 : Cond.selects R_M y_M_span y_M_span ∈ lw_g := lg_in (List.mem_of_getElem? (i := 408) (by decide +kernel)) rfl
theorem g_law_13 : GoodIn lw_g (wsV R_law 13 R_B y_B_crossing (Cond.code y_B_crossing b_B_crossing 7 (some .int) :: lw_g)) := gd_V ix_259 ix_261 ix_262 ix_46 ix_260
theorem g_law_17 : GoodIn lw_g (wsV R_law 17 R_M y_M_crossing (Cond.code y_M_crossing b_M_crossing 7 (some .int) :: lw_g)) := gd_V ix_263 ix_265 ix_266 ix_167 ix_264
theorem g_law_18 : GoodIn lw_g (wsV R_law 18 R_B y_B_circles (Cond.code y_B_circles b_B_circles 3 (some .int) :: lw_g)) := gd_V ix_267 ix_269 ix_270 ix_46 ix_268
theorem g_law_22 : GoodIn lw_g (wsV R_law 22 R_M y_M_circles (Cond.code y_M_circles b_M_circles 3 (some .int) :: lw_g)) := gd_V ix_271 ix_273 ix_274 ix_167 ix_272
theorem g_law_23 : GoodIn lw_g (wsV R_law 23 R_B y_B_clear (Cond.code y_B_clear b_B_clear 2 (some .int) :: lw_g)) := gd_V ix_275 ix_277 ix_278 ix_46 ix_276
theorem g_law_27 : GoodIn lw_g (wsV R_law 27 R_M y_M_clear (Cond.code y_M_clear b_M_clear 2 (some .int) :: lw_g)) := gd_V ix_279 ix_281 ix_282 ix_167 ix_280
theorem g_law_28 : GoodIn lw_g (wsV R_law 28 R_B y_B_fault (Cond.code y_B_fault b_B_fault 2 (some .int) :: lw_g)) := gd_V ix_283 ix_51 ix_52 ix_46 ix_50
theorem g_law_31 : GoodIn lw_g (wsV R_law 31 R_M y_M_fault (Cond.code y_M_fault b_M_fault 3 (some .int) :: lw_g)) := gd_V ix_284 ix_178 ix_179 ix_167 ix_177
theorem g_law_32 : GoodIn lw_g (wsV R_law 32 R_B y_B_sweep (Cond.code y_B_sweep b_B_sweep 6 (some .int) :: lw_g)) := gd_V ix_285 ix_287 ix_288 ix_46 ix_286
theorem g_law_35 : GoodIn lw_g (wsV R_law 35 R_M y_M_sweep (Cond.code y_M_sweep b_M_sweep 8 (some .int) :: lw_g)) := gd_V ix_289 ix_291 ix_292 ix_167 ix_290
theorem g_law_36 : GoodIn lw_g (wsV R_law 36 R_B y_B_bracket (Cond.code y_B_bracket b_B_bracket 2 (some .long) :: lw_g)) := gd_V ix_293 ix_295 ix_296 ix_46 ix_294
theorem g_law_40 : GoodIn lw_g (wsV R_law 40 R_M y_M_bracket (Cond.code y_M_bracket b_M_bracket 2 (some .long) :: lw_g)) := gd_V ix_297 ix_210 ix_211 ix_167 ix_209
theorem g_law_41 : GoodIn lw_g (wsV R_law 41 R_B y_B_jones (Cond.code y_B_jones b_B_jones 5 (some .long) :: lw_g)) := gd_V ix_298 ix_300 ix_301 ix_46 ix_299
theorem g_law_44 : GoodIn lw_g (wsV R_law 44 R_M y_M_jones (Cond.code y_M_jones b_M_jones 3 (some .long) :: lw_g)) := gd_V ix_302 ix_304 ix_305 ix_167 ix_303
theorem g_law_50 : GoodIn lw_g (wsV R_law 50 R_B y_B_state (Cond.code y_B_state b_B_state 5 (some .int) :: lw_g)) := gd_V ix_306 ix_308 ix_309 ix_46 ix_307
theorem g_law_53 : GoodIn lw_g (wsV R_law 53 R_M y_M_state (Cond.code y_M_state b_M_state 2 (some .int) :: lw_g)) := gd_V ix_310 ix_312 ix_313 ix_167 ix_311
theorem g_law_54 : GoodIn lw_g (wsV R_law 54 R_B y_B_look (Cond.code y_B_look b_B_look 3 (some .int) :: lw_g)) := gd_V ix_314 ix_316 ix_317 ix_46 ix_315
theorem g_law_58 : GoodIn lw_g (wsV R_law 58 R_M y_M_look (Cond.code y_M_look b_M_look 3 (some .int) :: lw_g)) := gd_V ix_318 ix_320 ix_321 ix_167 ix_319
theorem g_law_64 : GoodIn lw_g (wsV R_law 64 R_B y_B_change (Cond.code y_B_change b_B_change 4 (some .boolean) :: lw_g)) := gd_V ix_322 ix_324 ix_325 ix_46 ix_323
theorem g_law_68 : GoodIn lw_g (wsV R_law 68 R_M y_M_change (Cond.code y_M_change b_M_change 4 (some .boolean) :: lw_g)) := gd_V ix_326 ix_328 ix_329 ix_167 ix_327
theorem g_law_69 : GoodIn lw_g (wsV R_law 69 R_B y_B_move (Cond.code y_B_move b_B_move 3 (some .boolean) :: lw_g)) := gd_V ix_330 ix_332 ix_333 ix_46 ix_331
theorem g_law_73 : GoodIn lw_g (wsV R_law 73 R_M y_M_move (Cond.code y_M_move b_M_move 4 (some .boolean) :: lw_g)) := gd_V ix_334 ix_336 ix_337 ix_167 ix_335
theorem g_law_59 : GoodIn lw_g (wsV R_law 59 R_B y_B_resolve (Cond.code y_B_resolve b_B_resolve 10 (some .boolean) :: lw_g)) := gd_V ix_338 ix_340 ix_341 ix_46 ix_339
theorem g_law_45 : GoodIn lw_g (wsV R_law 45 R_B y_B_span (Cond.code y_B_span b_B_span 4 (some .int) :: lw_g)) := gd_V ix_342 ix_344 ix_345 ix_46 ix_343
theorem g_law_63 : GoodIn lw_g (wsV R_law 63 R_M y_M_resolve (Cond.code y_M_resolve b_M_resolve 5 (some .boolean) :: lw_g)) := gd_V ix_346 ix_348 ix_349 ix_167 ix_347
theorem g_law_49 : GoodIn lw_g (wsV R_law 49 R_M y_M_span (Cond.code y_M_span b_M_span 7 (some .int) :: lw_g)) := gd_V ix_350 ix_352 ix_353 ix_167 ix_351
theorem d_law_0 : decode code 0 = .ok (.new 7, 3) := by decide +kernel
theorem d_law_3 : decode code 3 = .ok (.dup, 1) := by decide +kernel
theorem d_law_4 : decode code 4 = .ok (.invokespecial 9, 3) := by decide +kernel
theorem d_law_7 : decode code 7 = .ok (.astore_n 1, 1) := by decide +kernel
theorem d_law_8 : decode code 8 = .ok (.new 10, 3) := by decide +kernel
theorem d_law_11 : decode code 11 = .ok (.dup, 1) := by decide +kernel
theorem d_law_12 : decode code 12 = .ok (.invokespecial 12, 3) := by decide +kernel
theorem d_law_15 : decode code 15 = .ok (.astore_n 2, 1) := by decide +kernel
theorem d_law_16 : decode code 16 = .ok (.iconst 0, 1) := by decide +kernel
theorem d_law_17 : decode code 17 = .ok (.istore_n 3, 1) := by decide +kernel
theorem d_law_18 : decode code 18 = .ok (.iload_n 3, 1) := by decide +kernel
theorem d_law_19 : decode code 19 = .ok (.aload_n 0, 1) := by decide +kernel
theorem d_law_20 : decode code 20 = .ok (.arraylength, 1) := by decide +kernel
theorem d_law_21 : decode code 21 = .ok (.bipush 6, 2) := by decide +kernel
theorem d_law_23 : decode code 23 = .ok (.isub, 1) := by decide +kernel
theorem d_law_24 : decode code 24 = .ok (.if_icmp .gt 491, 3) := by decide +kernel
theorem d_law_27 : decode code 27 = .ok (.aload_n 0, 1) := by decide +kernel
theorem d_law_28 : decode code 28 = .ok (.iload_n 3, 1) := by decide +kernel
theorem d_law_29 : decode code 29 = .ok (.iaload, 1) := by decide +kernel
theorem d_law_30 : decode code 30 = .ok (.bipush 15, 2) := by decide +kernel
theorem d_law_32 : decode code 32 = .ok (.iand, 1) := by decide +kernel
theorem d_law_33 : decode code 33 = .ok (.tableswitch 476 0 12 #[67, 130, 153, 166, 179, 202, 226, 250, 315, 338, 371, 420, 443], 67) := by decide +kernel
theorem d_law_100 : decode code 100 = .ok (.aload_n 1, 1) := by decide +kernel
theorem d_law_101 : decode code 101 = .ok (.aload_n 0, 1) := by decide +kernel
theorem d_law_102 : decode code 102 = .ok (.iload_n 3, 1) := by decide +kernel
theorem d_law_103 : decode code 103 = .ok (.iconst 1, 1) := by decide +kernel
theorem d_law_104 : decode code 104 = .ok (.iadd, 1) := by decide +kernel
theorem d_law_105 : decode code 105 = .ok (.iaload, 1) := by decide +kernel
theorem d_law_106 : decode code 106 = .ok (.aload_n 0, 1) := by decide +kernel
theorem d_law_107 : decode code 107 = .ok (.iload_n 3, 1) := by decide +kernel
theorem d_law_108 : decode code 108 = .ok (.iconst 2, 1) := by decide +kernel
theorem d_law_109 : decode code 109 = .ok (.iadd, 1) := by decide +kernel
theorem d_law_110 : decode code 110 = .ok (.iaload, 1) := by decide +kernel
theorem d_law_111 : decode code 111 = .ok (.aload_n 0, 1) := by decide +kernel
theorem d_law_112 : decode code 112 = .ok (.iload_n 3, 1) := by decide +kernel
theorem d_law_113 : decode code 113 = .ok (.iconst 3, 1) := by decide +kernel
theorem d_law_114 : decode code 114 = .ok (.iadd, 1) := by decide +kernel
theorem d_law_115 : decode code 115 = .ok (.iaload, 1) := by decide +kernel
theorem d_law_116 : decode code 116 = .ok (.aload_n 0, 1) := by decide +kernel
theorem d_law_117 : decode code 117 = .ok (.iload_n 3, 1) := by decide +kernel
theorem d_law_118 : decode code 118 = .ok (.iconst 4, 1) := by decide +kernel
theorem d_law_119 : decode code 119 = .ok (.iadd, 1) := by decide +kernel
theorem d_law_120 : decode code 120 = .ok (.iaload, 1) := by decide +kernel
theorem d_law_121 : decode code 121 = .ok (.aload_n 0, 1) := by decide +kernel
theorem d_law_122 : decode code 122 = .ok (.iload_n 3, 1) := by decide +kernel
theorem d_law_123 : decode code 123 = .ok (.iconst 5, 1) := by decide +kernel
theorem d_law_124 : decode code 124 = .ok (.iadd, 1) := by decide +kernel
theorem d_law_125 : decode code 125 = .ok (.iaload, 1) := by decide +kernel
theorem d_law_126 : decode code 126 = .ok (.invokevirtual 13, 3) := by decide +kernel
theorem d_law_129 : decode code 129 = .ok (.aload_n 2, 1) := by decide +kernel
theorem d_law_130 : decode code 130 = .ok (.aload_n 0, 1) := by decide +kernel
theorem d_law_131 : decode code 131 = .ok (.iload_n 3, 1) := by decide +kernel
theorem d_law_132 : decode code 132 = .ok (.iconst 1, 1) := by decide +kernel
theorem d_law_133 : decode code 133 = .ok (.iadd, 1) := by decide +kernel
theorem d_law_134 : decode code 134 = .ok (.iaload, 1) := by decide +kernel
theorem d_law_135 : decode code 135 = .ok (.aload_n 0, 1) := by decide +kernel
theorem d_law_136 : decode code 136 = .ok (.iload_n 3, 1) := by decide +kernel
theorem d_law_137 : decode code 137 = .ok (.iconst 2, 1) := by decide +kernel
theorem d_law_138 : decode code 138 = .ok (.iadd, 1) := by decide +kernel
theorem d_law_139 : decode code 139 = .ok (.iaload, 1) := by decide +kernel
theorem d_law_140 : decode code 140 = .ok (.aload_n 0, 1) := by decide +kernel
theorem d_law_141 : decode code 141 = .ok (.iload_n 3, 1) := by decide +kernel
theorem d_law_142 : decode code 142 = .ok (.iconst 3, 1) := by decide +kernel
theorem d_law_143 : decode code 143 = .ok (.iadd, 1) := by decide +kernel
theorem d_law_144 : decode code 144 = .ok (.iaload, 1) := by decide +kernel
theorem d_law_145 : decode code 145 = .ok (.aload_n 0, 1) := by decide +kernel
theorem d_law_146 : decode code 146 = .ok (.iload_n 3, 1) := by decide +kernel
theorem d_law_147 : decode code 147 = .ok (.iconst 4, 1) := by decide +kernel
theorem d_law_148 : decode code 148 = .ok (.iadd, 1) := by decide +kernel
theorem d_law_149 : decode code 149 = .ok (.iaload, 1) := by decide +kernel
theorem d_law_150 : decode code 150 = .ok (.aload_n 0, 1) := by decide +kernel
theorem d_law_151 : decode code 151 = .ok (.iload_n 3, 1) := by decide +kernel
theorem d_law_152 : decode code 152 = .ok (.iconst 5, 1) := by decide +kernel
theorem d_law_153 : decode code 153 = .ok (.iadd, 1) := by decide +kernel
theorem d_law_154 : decode code 154 = .ok (.iaload, 1) := by decide +kernel
theorem d_law_155 : decode code 155 = .ok (.invokevirtual 17, 3) := by decide +kernel
theorem d_law_158 : decode code 158 = .ok (.if_icmp .eq 351, 3) := by decide +kernel
theorem d_law_161 : decode code 161 = .ok (.iconst 0, 1) := by decide +kernel
theorem d_law_162 : decode code 162 = .ok (.ireturn, 1) := by decide +kernel
theorem d_law_163 : decode code 163 = .ok (.aload_n 1, 1) := by decide +kernel
theorem d_law_164 : decode code 164 = .ok (.aload_n 0, 1) := by decide +kernel
theorem d_law_165 : decode code 165 = .ok (.iload_n 3, 1) := by decide +kernel
theorem d_law_166 : decode code 166 = .ok (.iconst 1, 1) := by decide +kernel
theorem d_law_167 : decode code 167 = .ok (.iadd, 1) := by decide +kernel
theorem d_law_168 : decode code 168 = .ok (.iaload, 1) := by decide +kernel
theorem d_law_169 : decode code 169 = .ok (.invokevirtual 18, 3) := by decide +kernel
theorem d_law_172 : decode code 172 = .ok (.aload_n 2, 1) := by decide +kernel
theorem d_law_173 : decode code 173 = .ok (.aload_n 0, 1) := by decide +kernel
theorem d_law_174 : decode code 174 = .ok (.iload_n 3, 1) := by decide +kernel
theorem d_law_175 : decode code 175 = .ok (.iconst 1, 1) := by decide +kernel
theorem d_law_176 : decode code 176 = .ok (.iadd, 1) := by decide +kernel
theorem d_law_177 : decode code 177 = .ok (.iaload, 1) := by decide +kernel
theorem d_law_178 : decode code 178 = .ok (.invokevirtual 22, 3) := by decide +kernel
theorem d_law_181 : decode code 181 = .ok (.if_icmp .eq 328, 3) := by decide +kernel
theorem d_law_184 : decode code 184 = .ok (.iconst 0, 1) := by decide +kernel
theorem d_law_185 : decode code 185 = .ok (.ireturn, 1) := by decide +kernel
theorem d_law_186 : decode code 186 = .ok (.aload_n 1, 1) := by decide +kernel
theorem d_law_187 : decode code 187 = .ok (.invokevirtual 23, 3) := by decide +kernel
theorem d_law_190 : decode code 190 = .ok (.aload_n 2, 1) := by decide +kernel
theorem d_law_191 : decode code 191 = .ok (.invokevirtual 27, 3) := by decide +kernel
theorem d_law_194 : decode code 194 = .ok (.if_icmp .eq 315, 3) := by decide +kernel
theorem d_law_197 : decode code 197 = .ok (.iconst 0, 1) := by decide +kernel
theorem d_law_198 : decode code 198 = .ok (.ireturn, 1) := by decide +kernel
theorem d_law_199 : decode code 199 = .ok (.aload_n 1, 1) := by decide +kernel
theorem d_law_200 : decode code 200 = .ok (.invokevirtual 28, 3) := by decide +kernel
theorem d_law_203 : decode code 203 = .ok (.aload_n 2, 1) := by decide +kernel
theorem d_law_204 : decode code 204 = .ok (.invokevirtual 31, 3) := by decide +kernel
theorem d_law_207 : decode code 207 = .ok (.if_icmp .eq 302, 3) := by decide +kernel
theorem d_law_210 : decode code 210 = .ok (.iconst 0, 1) := by decide +kernel
theorem d_law_211 : decode code 211 = .ok (.ireturn, 1) := by decide +kernel
theorem d_law_212 : decode code 212 = .ok (.aload_n 1, 1) := by decide +kernel
theorem d_law_213 : decode code 213 = .ok (.aload_n 0, 1) := by decide +kernel
theorem d_law_214 : decode code 214 = .ok (.iload_n 3, 1) := by decide +kernel
theorem d_law_215 : decode code 215 = .ok (.iconst 1, 1) := by decide +kernel
theorem d_law_216 : decode code 216 = .ok (.iadd, 1) := by decide +kernel
theorem d_law_217 : decode code 217 = .ok (.iaload, 1) := by decide +kernel
theorem d_law_218 : decode code 218 = .ok (.invokevirtual 32, 3) := by decide +kernel
theorem d_law_221 : decode code 221 = .ok (.aload_n 2, 1) := by decide +kernel
theorem d_law_222 : decode code 222 = .ok (.aload_n 0, 1) := by decide +kernel
theorem d_law_223 : decode code 223 = .ok (.iload_n 3, 1) := by decide +kernel
theorem d_law_224 : decode code 224 = .ok (.iconst 1, 1) := by decide +kernel
theorem d_law_225 : decode code 225 = .ok (.iadd, 1) := by decide +kernel
theorem d_law_226 : decode code 226 = .ok (.iaload, 1) := by decide +kernel
theorem d_law_227 : decode code 227 = .ok (.invokevirtual 35, 3) := by decide +kernel
theorem d_law_230 : decode code 230 = .ok (.if_icmp .eq 279, 3) := by decide +kernel
theorem d_law_233 : decode code 233 = .ok (.iconst 0, 1) := by decide +kernel
theorem d_law_234 : decode code 234 = .ok (.ireturn, 1) := by decide +kernel
theorem d_law_235 : decode code 235 = .ok (.aload_n 1, 1) := by decide +kernel
theorem d_law_236 : decode code 236 = .ok (.aload_n 0, 1) := by decide +kernel
theorem d_law_237 : decode code 237 = .ok (.iload_n 3, 1) := by decide +kernel
theorem d_law_238 : decode code 238 = .ok (.iconst 1, 1) := by decide +kernel
theorem d_law_239 : decode code 239 = .ok (.iadd, 1) := by decide +kernel
theorem d_law_240 : decode code 240 = .ok (.iaload, 1) := by decide +kernel
theorem d_law_241 : decode code 241 = .ok (.invokevirtual 36, 3) := by decide +kernel
theorem d_law_244 : decode code 244 = .ok (.aload_n 2, 1) := by decide +kernel
theorem d_law_245 : decode code 245 = .ok (.aload_n 0, 1) := by decide +kernel
theorem d_law_246 : decode code 246 = .ok (.iload_n 3, 1) := by decide +kernel
theorem d_law_247 : decode code 247 = .ok (.iconst 1, 1) := by decide +kernel
theorem d_law_248 : decode code 248 = .ok (.iadd, 1) := by decide +kernel
theorem d_law_249 : decode code 249 = .ok (.iaload, 1) := by decide +kernel
theorem d_law_250 : decode code 250 = .ok (.invokevirtual 40, 3) := by decide +kernel
theorem d_law_253 : decode code 253 = .ok (.lcmp, 1) := by decide +kernel
theorem d_law_254 : decode code 254 = .ok (.ifCond .eq 255, 3) := by decide +kernel
theorem d_law_257 : decode code 257 = .ok (.iconst 0, 1) := by decide +kernel
theorem d_law_258 : decode code 258 = .ok (.ireturn, 1) := by decide +kernel
theorem d_law_259 : decode code 259 = .ok (.aload_n 1, 1) := by decide +kernel
theorem d_law_260 : decode code 260 = .ok (.aload_n 0, 1) := by decide +kernel
theorem d_law_261 : decode code 261 = .ok (.iload_n 3, 1) := by decide +kernel
theorem d_law_262 : decode code 262 = .ok (.iconst 1, 1) := by decide +kernel
theorem d_law_263 : decode code 263 = .ok (.iadd, 1) := by decide +kernel
theorem d_law_264 : decode code 264 = .ok (.iaload, 1) := by decide +kernel
theorem d_law_265 : decode code 265 = .ok (.invokevirtual 41, 3) := by decide +kernel
theorem d_law_268 : decode code 268 = .ok (.aload_n 2, 1) := by decide +kernel
theorem d_law_269 : decode code 269 = .ok (.aload_n 0, 1) := by decide +kernel
theorem d_law_270 : decode code 270 = .ok (.iload_n 3, 1) := by decide +kernel
theorem d_law_271 : decode code 271 = .ok (.iconst 1, 1) := by decide +kernel
theorem d_law_272 : decode code 272 = .ok (.iadd, 1) := by decide +kernel
theorem d_law_273 : decode code 273 = .ok (.iaload, 1) := by decide +kernel
theorem d_law_274 : decode code 274 = .ok (.invokevirtual 44, 3) := by decide +kernel
theorem d_law_277 : decode code 277 = .ok (.lcmp, 1) := by decide +kernel
theorem d_law_278 : decode code 278 = .ok (.ifCond .eq 231, 3) := by decide +kernel
theorem d_law_281 : decode code 281 = .ok (.iconst 0, 1) := by decide +kernel
theorem d_law_282 : decode code 282 = .ok (.ireturn, 1) := by decide +kernel
theorem d_law_283 : decode code 283 = .ok (.aload_n 1, 1) := by decide +kernel
theorem d_law_284 : decode code 284 = .ok (.aload_n 0, 1) := by decide +kernel
theorem d_law_285 : decode code 285 = .ok (.iload_n 3, 1) := by decide +kernel
theorem d_law_286 : decode code 286 = .ok (.iconst 1, 1) := by decide +kernel
theorem d_law_287 : decode code 287 = .ok (.iadd, 1) := by decide +kernel
theorem d_law_288 : decode code 288 = .ok (.iaload, 1) := by decide +kernel
theorem d_law_289 : decode code 289 = .ok (.ifCond .eq 7, 3) := by decide +kernel
theorem d_law_292 : decode code 292 = .ok (.iconst 1, 1) := by decide +kernel
theorem d_law_293 : decode code 293 = .ok (.goto 4, 3) := by decide +kernel
theorem d_law_296 : decode code 296 = .ok (.iconst 0, 1) := by decide +kernel
theorem d_law_297 : decode code 297 = .ok (.aload_n 0, 1) := by decide +kernel
theorem d_law_298 : decode code 298 = .ok (.iload_n 3, 1) := by decide +kernel
theorem d_law_299 : decode code 299 = .ok (.iconst 2, 1) := by decide +kernel
theorem d_law_300 : decode code 300 = .ok (.iadd, 1) := by decide +kernel
theorem d_law_301 : decode code 301 = .ok (.iaload, 1) := by decide +kernel
theorem d_law_302 : decode code 302 = .ok (.ifCond .eq 7, 3) := by decide +kernel
theorem d_law_305 : decode code 305 = .ok (.iconst 1, 1) := by decide +kernel
theorem d_law_306 : decode code 306 = .ok (.goto 4, 3) := by decide +kernel
theorem d_law_309 : decode code 309 = .ok (.iconst 0, 1) := by decide +kernel
theorem d_law_310 : decode code 310 = .ok (.invokevirtual 45, 3) := by decide +kernel
theorem d_law_313 : decode code 313 = .ok (.aload_n 2, 1) := by decide +kernel
theorem d_law_314 : decode code 314 = .ok (.aload_n 0, 1) := by decide +kernel
theorem d_law_315 : decode code 315 = .ok (.iload_n 3, 1) := by decide +kernel
theorem d_law_316 : decode code 316 = .ok (.iconst 1, 1) := by decide +kernel
theorem d_law_317 : decode code 317 = .ok (.iadd, 1) := by decide +kernel
theorem d_law_318 : decode code 318 = .ok (.iaload, 1) := by decide +kernel
theorem d_law_319 : decode code 319 = .ok (.ifCond .eq 7, 3) := by decide +kernel
theorem d_law_322 : decode code 322 = .ok (.iconst 1, 1) := by decide +kernel
theorem d_law_323 : decode code 323 = .ok (.goto 4, 3) := by decide +kernel
theorem d_law_326 : decode code 326 = .ok (.iconst 0, 1) := by decide +kernel
theorem d_law_327 : decode code 327 = .ok (.aload_n 0, 1) := by decide +kernel
theorem d_law_328 : decode code 328 = .ok (.iload_n 3, 1) := by decide +kernel
theorem d_law_329 : decode code 329 = .ok (.iconst 2, 1) := by decide +kernel
theorem d_law_330 : decode code 330 = .ok (.iadd, 1) := by decide +kernel
theorem d_law_331 : decode code 331 = .ok (.iaload, 1) := by decide +kernel
theorem d_law_332 : decode code 332 = .ok (.ifCond .eq 7, 3) := by decide +kernel
theorem d_law_335 : decode code 335 = .ok (.iconst 1, 1) := by decide +kernel
theorem d_law_336 : decode code 336 = .ok (.goto 4, 3) := by decide +kernel
theorem d_law_339 : decode code 339 = .ok (.iconst 0, 1) := by decide +kernel
theorem d_law_340 : decode code 340 = .ok (.invokevirtual 49, 3) := by decide +kernel
theorem d_law_343 : decode code 343 = .ok (.if_icmp .eq 166, 3) := by decide +kernel
theorem d_law_346 : decode code 346 = .ok (.iconst 0, 1) := by decide +kernel
theorem d_law_347 : decode code 347 = .ok (.ireturn, 1) := by decide +kernel
theorem d_law_348 : decode code 348 = .ok (.aload_n 1, 1) := by decide +kernel
theorem d_law_349 : decode code 349 = .ok (.aload_n 0, 1) := by decide +kernel
theorem d_law_350 : decode code 350 = .ok (.iload_n 3, 1) := by decide +kernel
theorem d_law_351 : decode code 351 = .ok (.iconst 1, 1) := by decide +kernel
theorem d_law_352 : decode code 352 = .ok (.iadd, 1) := by decide +kernel
theorem d_law_353 : decode code 353 = .ok (.iaload, 1) := by decide +kernel
theorem d_law_354 : decode code 354 = .ok (.invokevirtual 50, 3) := by decide +kernel
theorem d_law_357 : decode code 357 = .ok (.aload_n 2, 1) := by decide +kernel
theorem d_law_358 : decode code 358 = .ok (.aload_n 0, 1) := by decide +kernel
theorem d_law_359 : decode code 359 = .ok (.iload_n 3, 1) := by decide +kernel
theorem d_law_360 : decode code 360 = .ok (.iconst 1, 1) := by decide +kernel
theorem d_law_361 : decode code 361 = .ok (.iadd, 1) := by decide +kernel
theorem d_law_362 : decode code 362 = .ok (.iaload, 1) := by decide +kernel
theorem d_law_363 : decode code 363 = .ok (.invokevirtual 53, 3) := by decide +kernel
theorem d_law_366 : decode code 366 = .ok (.if_icmp .eq 143, 3) := by decide +kernel
theorem d_law_369 : decode code 369 = .ok (.iconst 0, 1) := by decide +kernel
theorem d_law_370 : decode code 370 = .ok (.ireturn, 1) := by decide +kernel
theorem d_law_371 : decode code 371 = .ok (.aload_n 1, 1) := by decide +kernel
theorem d_law_372 : decode code 372 = .ok (.aload_n 0, 1) := by decide +kernel
theorem d_law_373 : decode code 373 = .ok (.iload_n 3, 1) := by decide +kernel
theorem d_law_374 : decode code 374 = .ok (.iconst 1, 1) := by decide +kernel
theorem d_law_375 : decode code 375 = .ok (.iadd, 1) := by decide +kernel
theorem d_law_376 : decode code 376 = .ok (.iaload, 1) := by decide +kernel
theorem d_law_377 : decode code 377 = .ok (.aload_n 0, 1) := by decide +kernel
theorem d_law_378 : decode code 378 = .ok (.iload_n 3, 1) := by decide +kernel
theorem d_law_379 : decode code 379 = .ok (.iconst 2, 1) := by decide +kernel
theorem d_law_380 : decode code 380 = .ok (.iadd, 1) := by decide +kernel
theorem d_law_381 : decode code 381 = .ok (.iaload, 1) := by decide +kernel
theorem d_law_382 : decode code 382 = .ok (.invokevirtual 54, 3) := by decide +kernel
theorem d_law_385 : decode code 385 = .ok (.aload_n 2, 1) := by decide +kernel
theorem d_law_386 : decode code 386 = .ok (.aload_n 0, 1) := by decide +kernel
theorem d_law_387 : decode code 387 = .ok (.iload_n 3, 1) := by decide +kernel
theorem d_law_388 : decode code 388 = .ok (.iconst 1, 1) := by decide +kernel
theorem d_law_389 : decode code 389 = .ok (.iadd, 1) := by decide +kernel
theorem d_law_390 : decode code 390 = .ok (.iaload, 1) := by decide +kernel
theorem d_law_391 : decode code 391 = .ok (.aload_n 0, 1) := by decide +kernel
theorem d_law_392 : decode code 392 = .ok (.iload_n 3, 1) := by decide +kernel
theorem d_law_393 : decode code 393 = .ok (.iconst 2, 1) := by decide +kernel
theorem d_law_394 : decode code 394 = .ok (.iadd, 1) := by decide +kernel
theorem d_law_395 : decode code 395 = .ok (.iaload, 1) := by decide +kernel
theorem d_law_396 : decode code 396 = .ok (.invokevirtual 58, 3) := by decide +kernel
theorem d_law_399 : decode code 399 = .ok (.if_icmp .eq 110, 3) := by decide +kernel
theorem d_law_402 : decode code 402 = .ok (.iconst 0, 1) := by decide +kernel
theorem d_law_403 : decode code 403 = .ok (.ireturn, 1) := by decide +kernel
theorem d_law_404 : decode code 404 = .ok (.aload_n 1, 1) := by decide +kernel
theorem d_law_405 : decode code 405 = .ok (.aload_n 0, 1) := by decide +kernel
theorem d_law_406 : decode code 406 = .ok (.iload_n 3, 1) := by decide +kernel
theorem d_law_407 : decode code 407 = .ok (.iconst 1, 1) := by decide +kernel
theorem d_law_408 : decode code 408 = .ok (.iadd, 1) := by decide +kernel
theorem d_law_409 : decode code 409 = .ok (.iaload, 1) := by decide +kernel
theorem d_law_410 : decode code 410 = .ok (.aload_n 0, 1) := by decide +kernel
theorem d_law_411 : decode code 411 = .ok (.iload_n 3, 1) := by decide +kernel
theorem d_law_412 : decode code 412 = .ok (.iconst 2, 1) := by decide +kernel
theorem d_law_413 : decode code 413 = .ok (.iadd, 1) := by decide +kernel
theorem d_law_414 : decode code 414 = .ok (.iaload, 1) := by decide +kernel
theorem d_law_415 : decode code 415 = .ok (.ifCond .eq 7, 3) := by decide +kernel
theorem d_law_418 : decode code 418 = .ok (.iconst 1, 1) := by decide +kernel
theorem d_law_419 : decode code 419 = .ok (.goto 4, 3) := by decide +kernel
theorem d_law_422 : decode code 422 = .ok (.iconst 0, 1) := by decide +kernel
theorem d_law_423 : decode code 423 = .ok (.invokevirtual 59, 3) := by decide +kernel
theorem d_law_426 : decode code 426 = .ok (.aload_n 2, 1) := by decide +kernel
theorem d_law_427 : decode code 427 = .ok (.aload_n 0, 1) := by decide +kernel
theorem d_law_428 : decode code 428 = .ok (.iload_n 3, 1) := by decide +kernel
theorem d_law_429 : decode code 429 = .ok (.iconst 1, 1) := by decide +kernel
theorem d_law_430 : decode code 430 = .ok (.iadd, 1) := by decide +kernel
theorem d_law_431 : decode code 431 = .ok (.iaload, 1) := by decide +kernel
theorem d_law_432 : decode code 432 = .ok (.aload_n 0, 1) := by decide +kernel
theorem d_law_433 : decode code 433 = .ok (.iload_n 3, 1) := by decide +kernel
theorem d_law_434 : decode code 434 = .ok (.iconst 2, 1) := by decide +kernel
theorem d_law_435 : decode code 435 = .ok (.iadd, 1) := by decide +kernel
theorem d_law_436 : decode code 436 = .ok (.iaload, 1) := by decide +kernel
theorem d_law_437 : decode code 437 = .ok (.ifCond .eq 7, 3) := by decide +kernel
theorem d_law_440 : decode code 440 = .ok (.iconst 1, 1) := by decide +kernel
theorem d_law_441 : decode code 441 = .ok (.goto 4, 3) := by decide +kernel
theorem d_law_444 : decode code 444 = .ok (.iconst 0, 1) := by decide +kernel
theorem d_law_445 : decode code 445 = .ok (.invokevirtual 63, 3) := by decide +kernel
theorem d_law_448 : decode code 448 = .ok (.if_icmp .eq 61, 3) := by decide +kernel
theorem d_law_451 : decode code 451 = .ok (.iconst 0, 1) := by decide +kernel
theorem d_law_452 : decode code 452 = .ok (.ireturn, 1) := by decide +kernel
theorem d_law_453 : decode code 453 = .ok (.aload_n 1, 1) := by decide +kernel
theorem d_law_454 : decode code 454 = .ok (.aload_n 0, 1) := by decide +kernel
theorem d_law_455 : decode code 455 = .ok (.iload_n 3, 1) := by decide +kernel
theorem d_law_456 : decode code 456 = .ok (.iconst 1, 1) := by decide +kernel
theorem d_law_457 : decode code 457 = .ok (.iadd, 1) := by decide +kernel
theorem d_law_458 : decode code 458 = .ok (.iaload, 1) := by decide +kernel
theorem d_law_459 : decode code 459 = .ok (.invokevirtual 64, 3) := by decide +kernel
theorem d_law_462 : decode code 462 = .ok (.aload_n 2, 1) := by decide +kernel
theorem d_law_463 : decode code 463 = .ok (.aload_n 0, 1) := by decide +kernel
theorem d_law_464 : decode code 464 = .ok (.iload_n 3, 1) := by decide +kernel
theorem d_law_465 : decode code 465 = .ok (.iconst 1, 1) := by decide +kernel
theorem d_law_466 : decode code 466 = .ok (.iadd, 1) := by decide +kernel
theorem d_law_467 : decode code 467 = .ok (.iaload, 1) := by decide +kernel
theorem d_law_468 : decode code 468 = .ok (.invokevirtual 68, 3) := by decide +kernel
theorem d_law_471 : decode code 471 = .ok (.if_icmp .eq 38, 3) := by decide +kernel
theorem d_law_474 : decode code 474 = .ok (.iconst 0, 1) := by decide +kernel
theorem d_law_475 : decode code 475 = .ok (.ireturn, 1) := by decide +kernel
theorem d_law_476 : decode code 476 = .ok (.aload_n 1, 1) := by decide +kernel
theorem d_law_477 : decode code 477 = .ok (.aload_n 0, 1) := by decide +kernel
theorem d_law_478 : decode code 478 = .ok (.iload_n 3, 1) := by decide +kernel
theorem d_law_479 : decode code 479 = .ok (.iconst 1, 1) := by decide +kernel
theorem d_law_480 : decode code 480 = .ok (.iadd, 1) := by decide +kernel
theorem d_law_481 : decode code 481 = .ok (.iaload, 1) := by decide +kernel
theorem d_law_482 : decode code 482 = .ok (.aload_n 0, 1) := by decide +kernel
theorem d_law_483 : decode code 483 = .ok (.iload_n 3, 1) := by decide +kernel
theorem d_law_484 : decode code 484 = .ok (.iconst 2, 1) := by decide +kernel
theorem d_law_485 : decode code 485 = .ok (.iadd, 1) := by decide +kernel
theorem d_law_486 : decode code 486 = .ok (.iaload, 1) := by decide +kernel
theorem d_law_487 : decode code 487 = .ok (.invokevirtual 69, 3) := by decide +kernel
theorem d_law_490 : decode code 490 = .ok (.aload_n 2, 1) := by decide +kernel
theorem d_law_491 : decode code 491 = .ok (.aload_n 0, 1) := by decide +kernel
theorem d_law_492 : decode code 492 = .ok (.iload_n 3, 1) := by decide +kernel
theorem d_law_493 : decode code 493 = .ok (.iconst 1, 1) := by decide +kernel
theorem d_law_494 : decode code 494 = .ok (.iadd, 1) := by decide +kernel
theorem d_law_495 : decode code 495 = .ok (.iaload, 1) := by decide +kernel
theorem d_law_496 : decode code 496 = .ok (.aload_n 0, 1) := by decide +kernel
theorem d_law_497 : decode code 497 = .ok (.iload_n 3, 1) := by decide +kernel
theorem d_law_498 : decode code 498 = .ok (.iconst 2, 1) := by decide +kernel
theorem d_law_499 : decode code 499 = .ok (.iadd, 1) := by decide +kernel
theorem d_law_500 : decode code 500 = .ok (.iaload, 1) := by decide +kernel
theorem d_law_501 : decode code 501 = .ok (.invokevirtual 73, 3) := by decide +kernel
theorem d_law_504 : decode code 504 = .ok (.if_icmp .eq 5, 3) := by decide +kernel
theorem d_law_507 : decode code 507 = .ok (.iconst 0, 1) := by decide +kernel
theorem d_law_508 : decode code 508 = .ok (.ireturn, 1) := by decide +kernel
theorem d_law_509 : decode code 509 = .ok (.iinc 3 6, 3) := by decide +kernel
theorem d_law_512 : decode code 512 = .ok (.goto (-494), 3) := by decide +kernel
theorem d_law_515 : decode code 515 = .ok (.iconst 1, 1) := by decide +kernel
theorem d_law_516 : decode code 516 = .ok (.ireturn, 1) := by decide +kernel
def wX (a : Nat → Nat) (k : Nat → ClassId) (lab : Nat → Int32) (sg : Nat → Int32) (cc : Int32) (ci : Int32) (od : Nat → Int32) (sd : Nat → Int32) (go : Nat → Int32) (ta : Nat → Int32) (we : Int32) (oe : Nat → Int32) (fp : Nat → Int32) (ro : Nat → Int64) (sp : Nat → Int64) (qr : Nat) (qs : Nat) (mh : Int32) (mn : Int32) (mc : Int32) (ms : Nat → Int32) (ml : Nat → Int32) (mm : Nat → Int32) (mt : Nat → Int32) (mo : Nat → Int32) (mk : Int32) (mr : Nat → Int64) (my : Nat → Int32) (mb : Nat → Int64) (mf : Nat → Int32) : va_W := [((a 0), .inr (0, [.ref (a 1), .ref (a 2), .int cc, .int ci, .ref (a 3), .ref (a 4), .ref (a 5), .ref (a 6), .ref (a 7), .ref (a 10), .int we])), ((a 1), .inl (k 1, 40, .inl lab)), ((a 2), .inl (k 2, 10, .inl sg)), ((a 3), .inl (k 3, 10, .inl od)), ((a 4), .inl (k 4, 100, .inl sd)), ((a 5), .inl (k 5, 10, .inl go)), ((a 6), .inl (k 6, 330, .inl ta)), ((a 7), .inr (1, [.ref (a 8), .ref (a 9)])), ((a 8), .inl (k 8, 40, .inl oe)), ((a 9), .inl (k 9, 100, .inl fp)), ((a 10), .inr (2, [.ref qr, .ref qs])), (qr, .inl (k 11, 133, .inr (.inl ro))), (qs, .inl (k 11, 133, .inr (.inl sp))), ((a 20), .inr (3, [.int mh, .int mn, .int mc, .ref (a 21), .ref (a 22), .ref (a 23), .ref (a 24), .ref (a 25), .int mk, .ref (a 26), .ref (a 27), .ref (a 28), .ref (a 29)])), ((a 21), .inl (k 21, 10, .inl ms)), ((a 22), .inl (k 22, 40, .inl ml)), ((a 23), .inl (k 23, 40, .inl mm)), ((a 24), .inl (k 24, 40, .inl mt)), ((a 25), .inl (k 25, 10, .inl mo)), ((a 26), .inl (k 26, 260, .inr (.inl mr))), ((a 27), .inl (k 27, 672, .inl my)), ((a 28), .inl (k 28, 40, .inr (.inl mb))), ((a 29), .inl (k 29, 4, .inl mf))]
