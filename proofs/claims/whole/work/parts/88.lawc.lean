/-! ===== The law's cases ===== -/
def LC (X : AX) (s : State) (L : Nat) (xs : Nat → Int32) : Prop := va_X (gK (GG X) 13) L xs s s.heap ∧ gK (GG X) 13 < s.heap.size ∧ ¬ am_A (GG X) s.heap.size (gK (GG X) 13) ∧ L ≤ 3072
abbrev lsL (i : Int) : List AV := [(3, 13), (2, 0), (2, 45), (2, 74), (0, i), (9, 0), (9, 0)]
theorem g_arg {X : AX} {M : AMeth} {R : Room} {p : Program} {e : Env} {s : State} {m : MethodId} {args : Array Value} {below : List Frame} {meth : Method} {c : Code} {Q : State → Prop} {cells slots pc : Nat} {st : List AV} {μ : Mu} {L n j : Nat} {jz : Int} {xs : Nat → Int32}
    (d0 : decode M.2.1 pc = .ok (.aload_n 0, 1)) (d1 : decode M.2.1 (pc + 1) = .ok (.iload 4, 2)) (d3 : decode M.2.1 (pc + 3) = .ok (.iconst jz, 1)) (d4 : decode M.2.1 (pc + 4) = .ok (.iadd, 1)) (d5 : decode M.2.1 (pc + 5) = .ok (.iaload, 1))
    (hC : LC X s L xs) (hj : jz = (j : Int)) (hn : n + j < L) (kk : Gv (GG X) M R p e s m args below meth c Q cells slots (pc + 6) (lsL n) ((0, (xs (n + j)).toInt) :: st) μ) : Gv (GG X) M R p e s m args below meth c Q cells slots pc (lsL n) st μ := by
  subst hj
  refine g_aload_nS d0 rfl rfl ?_
  refine g_iload d1 rfl ?_
  refine g_iconst d3 ?_
  refine g_iadd d4 ?_
  exact g_sld hC.1 hC.2.1 hC.2.2.1 (by have := hC.2.2.2; omega) (by omega) hn d5 kk
theorem lc_feed {X : AX} {p : Program} {e : Env} {s : State} {m : MethodId} {args : Array Value} {below : List Frame} {meth : Method} {c : Code} {Q : State → Prop} {cells slots : Nat} {μ : Mu} {p9 : Int} {L n : Nat} {xs : Nat → Int32} (hC : LC X s L xs) (hr : cells ≤ room_1.cells ∧ slots ≤ room_1.slots) (hn : n + 6 ≤ L) (h : INV μ p9) (hk : ∀ (μ' : Mu) (p' : Int), INV μ' p' → Gv (GG X) M_LL room_1 p e s m args below meth c Q cells slots 1575 (lsL n) [] μ') : Gv (GG X) M_LL room_1 p e s m args below meth c Q cells slots 204 (lsL n) [] μ := by
  obtain ⟨z, μ1, μ2, e7, e8, p', h2⟩ := pr_feed X h (xs (n + 1)).toInt (xs (n + 2)).toInt (xs (n + 3)).toInt (xs (n + 4)).toInt (xs (n + 5)).toInt (am_toInt_r _) (am_toInt_r _) (am_toInt_r _) (am_toInt_r _) (am_toInt_r _)
  refine g_aload_n dL_law_204 rfl rfl (by omega) ?_
  refine g_arg (j := 1) dL_law_205 dL_law_206 dL_law_208 dL_law_209 dL_law_210 hC rfl (by omega) ?_
  refine g_arg (j := 2) dL_law_211 dL_law_212 dL_law_214 dL_law_215 dL_law_216 hC rfl (by omega) ?_
  refine g_arg (j := 3) dL_law_217 dL_law_218 dL_law_220 dL_law_221 dL_law_222 hC rfl (by omega) ?_
  refine g_arg (j := 4) dL_law_223 dL_law_224 dL_law_226 dL_law_227 dL_law_228 hC rfl (by omega) ?_
  refine g_arg (j := 5) dL_law_229 dL_law_230 dL_law_232 dL_law_233 dL_law_234 hC rfl (by omega) ?_
  refine g_callV (o := 0) (ci := 7) (as := [(0, (xs (n + 1)).toInt), (0, (xs (n + 2)).toInt), (0, (xs (n + 3)).toInt), (0, (xs (n + 4)).toInt), (0, (xs (n + 5)).toInt)]) (rest := []) (k := 0) gL_law_235 ⟨Nat.le_of_ble_eq_true rfl, Nat.le_of_ble_eq_true rfl⟩ hr rfl rfl rfl rfl rfl rfl rfl rfl (Nat.le_of_ble_eq_true rfl) e7 ?_
  refine g_aload_n dL_law_238 rfl rfl (by omega) ?_
  refine g_arg (j := 1) dL_law_239 dL_law_240 dL_law_242 dL_law_243 dL_law_244 hC rfl (by omega) ?_
  refine g_arg (j := 2) dL_law_245 dL_law_246 dL_law_248 dL_law_249 dL_law_250 hC rfl (by omega) ?_
  refine g_arg (j := 3) dL_law_251 dL_law_252 dL_law_254 dL_law_255 dL_law_256 hC rfl (by omega) ?_
  refine g_arg (j := 4) dL_law_257 dL_law_258 dL_law_260 dL_law_261 dL_law_262 hC rfl (by omega) ?_
  refine g_arg (j := 5) dL_law_263 dL_law_264 dL_law_266 dL_law_267 dL_law_268 hC rfl (by omega) ?_
  refine g_callV (o := 45) (ci := 8) (as := [(0, (xs (n + 1)).toInt), (0, (xs (n + 2)).toInt), (0, (xs (n + 3)).toInt), (0, (xs (n + 4)).toInt), (0, (xs (n + 5)).toInt)]) (rest := [(0, z)]) (k := 0) gL_law_269 ⟨Nat.le_of_ble_eq_true rfl, Nat.le_of_ble_eq_true rfl⟩ hr rfl rfl rfl rfl rfl rfl rfl rfl (Nat.le_of_ble_eq_true rfl) e8 ?_
  exact g_icmp_eq dL_law_272 rfl rfl (hk μ2 p' h2)
theorem lc_text {X : AX} {p : Program} {e : Env} {s : State} {m : MethodId} {args : Array Value} {below : List Frame} {meth : Method} {c : Code} {Q : State → Prop} {cells slots : Nat} {μ : Mu} {p9 : Int} {L n : Nat} {xs : Nat → Int32} (hC : LC X s L xs) (hr : cells ≤ room_1.cells ∧ slots ≤ room_1.slots) (hn : n + 6 ≤ L) (h : INV μ p9) (hk : ∀ (μ' : Mu) (p' : Int), INV μ' p' → Gv (GG X) M_LL room_1 p e s m args below meth c Q cells slots 1575 (lsL n) [] μ') : Gv (GG X) M_LL room_1 p e s m args below meth c Q cells slots 277 (lsL n) [] μ := by
  obtain ⟨z, μ1, μ2, e7, e8, p', h2⟩ := pr_text X h (xs (n + 1)).toInt (am_toInt_r _)
  refine g_aload_n dL_law_277 rfl rfl (by omega) ?_
  refine g_arg (j := 1) dL_law_278 dL_law_279 dL_law_281 dL_law_282 dL_law_283 hC rfl (by omega) ?_
  refine g_callV (o := 0) (ci := 7) (as := [(0, (xs (n + 1)).toInt)]) (rest := []) (k := 1) gL_law_284 ⟨Nat.le_of_ble_eq_true rfl, Nat.le_of_ble_eq_true rfl⟩ hr rfl rfl rfl rfl rfl rfl rfl rfl (Nat.le_of_ble_eq_true rfl) e7 ?_
  refine g_aload_n dL_law_287 rfl rfl (by omega) ?_
  refine g_arg (j := 1) dL_law_288 dL_law_289 dL_law_291 dL_law_292 dL_law_293 hC rfl (by omega) ?_
  refine g_callV (o := 45) (ci := 8) (as := [(0, (xs (n + 1)).toInt)]) (rest := [(0, z)]) (k := 2) gL_law_294 ⟨Nat.le_of_ble_eq_true rfl, Nat.le_of_ble_eq_true rfl⟩ hr rfl rfl rfl rfl rfl rfl rfl rfl (Nat.le_of_ble_eq_true rfl) e8 ?_
  exact g_icmp_eq dL_law_297 rfl rfl (hk μ2 p' h2)
theorem lc_fault {X : AX} {p : Program} {e : Env} {s : State} {m : MethodId} {args : Array Value} {below : List Frame} {meth : Method} {c : Code} {Q : State → Prop} {cells slots : Nat} {μ : Mu} {p9 : Int} {L n : Nat} {xs : Nat → Int32} (hC : LC X s L xs) (hr : cells ≤ room_1.cells ∧ slots ≤ room_1.slots) (hn : n + 6 ≤ L) (h : INV μ p9) (hk : ∀ (μ' : Mu) (p' : Int), INV μ' p' → Gv (GG X) M_LL room_1 p e s m args below meth c Q cells slots 1575 (lsL n) [] μ') : Gv (GG X) M_LL room_1 p e s m args below meth c Q cells slots 302 (lsL n) [] μ := by
  obtain ⟨z, μ1, μ2, e7, e8, p', h2⟩ := pr_fault X h (xs (n + 1)).toInt (am_toInt_r _)
  refine g_aload_n dL_law_302 rfl rfl (by omega) ?_
  refine g_arg (j := 1) dL_law_303 dL_law_304 dL_law_306 dL_law_307 dL_law_308 hC rfl (by omega) ?_
  refine g_callV (o := 0) (ci := 7) (as := [(0, (xs (n + 1)).toInt)]) (rest := []) (k := 0) gL_law_309 ⟨Nat.le_of_ble_eq_true rfl, Nat.le_of_ble_eq_true rfl⟩ hr rfl rfl rfl rfl rfl rfl rfl rfl (Nat.le_of_ble_eq_true rfl) e7 ?_
  refine g_aload_n dL_law_312 rfl rfl (by omega) ?_
  refine g_arg (j := 1) dL_law_313 dL_law_314 dL_law_316 dL_law_317 dL_law_318 hC rfl (by omega) ?_
  refine g_callV (o := 45) (ci := 8) (as := [(0, (xs (n + 1)).toInt)]) (rest := [(0, z)]) (k := 0) gL_law_319 ⟨Nat.le_of_ble_eq_true rfl, Nat.le_of_ble_eq_true rfl⟩ hr rfl rfl rfl rfl rfl rfl rfl rfl (Nat.le_of_ble_eq_true rfl) e8 ?_
  exact g_icmp_eq dL_law_322 rfl rfl (hk μ2 p' h2)
theorem lc_position {X : AX} {p : Program} {e : Env} {s : State} {m : MethodId} {args : Array Value} {below : List Frame} {meth : Method} {c : Code} {Q : State → Prop} {cells slots : Nat} {μ : Mu} {p9 : Int} {L n : Nat} {xs : Nat → Int32} (hC : LC X s L xs) (hr : cells ≤ room_1.cells ∧ slots ≤ room_1.slots) (hn : n + 6 ≤ L) (h : INV μ p9) (hk : ∀ (μ' : Mu) (p' : Int), INV μ' p' → Gv (GG X) M_LL room_1 p e s m args below meth c Q cells slots 1575 (lsL n) [] μ') : Gv (GG X) M_LL room_1 p e s m args below meth c Q cells slots 395 (lsL n) [] μ := by
  obtain ⟨z, μ1, μ2, e7, e8, p', h2⟩ := pr_position X h (xs (n + 1)).toInt (am_toInt_r _)
  refine g_aload_n dL_law_395 rfl rfl (by omega) ?_
  refine g_arg (j := 1) dL_law_396 dL_law_397 dL_law_399 dL_law_400 dL_law_401 hC rfl (by omega) ?_
  refine g_callV (o := 0) (ci := 7) (as := [(0, (xs (n + 1)).toInt)]) (rest := []) (k := 0) gL_law_402 ⟨Nat.le_of_ble_eq_true rfl, Nat.le_of_ble_eq_true rfl⟩ hr rfl rfl rfl rfl rfl rfl rfl rfl (Nat.le_of_ble_eq_true rfl) e7 ?_
  refine g_aload_n dL_law_405 rfl rfl (by omega) ?_
  refine g_arg (j := 1) dL_law_406 dL_law_407 dL_law_409 dL_law_410 dL_law_411 hC rfl (by omega) ?_
  refine g_callV (o := 45) (ci := 8) (as := [(0, (xs (n + 1)).toInt)]) (rest := [(0, z)]) (k := 0) gL_law_412 ⟨Nat.le_of_ble_eq_true rfl, Nat.le_of_ble_eq_true rfl⟩ hr rfl rfl rfl rfl rfl rfl rfl rfl (Nat.le_of_ble_eq_true rfl) e8 ?_
  exact g_icmp_eq dL_law_415 rfl rfl (hk μ2 p' h2)
theorem lc_direction {X : AX} {p : Program} {e : Env} {s : State} {m : MethodId} {args : Array Value} {below : List Frame} {meth : Method} {c : Code} {Q : State → Prop} {cells slots : Nat} {μ : Mu} {p9 : Int} {L n : Nat} {xs : Nat → Int32} (hC : LC X s L xs) (hr : cells ≤ room_1.cells ∧ slots ≤ room_1.slots) (hn : n + 6 ≤ L) (h : INV μ p9) (hk : ∀ (μ' : Mu) (p' : Int), INV μ' p' → Gv (GG X) M_LL room_1 p e s m args below meth c Q cells slots 1575 (lsL n) [] μ') : Gv (GG X) M_LL room_1 p e s m args below meth c Q cells slots 420 (lsL n) [] μ := by
  obtain ⟨z, μ1, μ2, e7, e8, p', h2⟩ := pr_direction X h (xs (n + 1)).toInt (am_toInt_r _)
  refine g_aload_n dL_law_420 rfl rfl (by omega) ?_
  refine g_arg (j := 1) dL_law_421 dL_law_422 dL_law_424 dL_law_425 dL_law_426 hC rfl (by omega) ?_
  refine g_callV (o := 0) (ci := 7) (as := [(0, (xs (n + 1)).toInt)]) (rest := []) (k := 0) gL_law_427 ⟨Nat.le_of_ble_eq_true rfl, Nat.le_of_ble_eq_true rfl⟩ hr rfl rfl rfl rfl rfl rfl rfl rfl (Nat.le_of_ble_eq_true rfl) e7 ?_
  refine g_aload_n dL_law_430 rfl rfl (by omega) ?_
  refine g_arg (j := 1) dL_law_431 dL_law_432 dL_law_434 dL_law_435 dL_law_436 hC rfl (by omega) ?_
  refine g_callV (o := 45) (ci := 8) (as := [(0, (xs (n + 1)).toInt)]) (rest := [(0, z)]) (k := 0) gL_law_437 ⟨Nat.le_of_ble_eq_true rfl, Nat.le_of_ble_eq_true rfl⟩ hr rfl rfl rfl rfl rfl rfl rfl rfl (Nat.le_of_ble_eq_true rfl) e8 ?_
  exact g_icmp_eq dL_law_440 rfl rfl (hk μ2 p' h2)
theorem lc_put {X : AX} {p : Program} {e : Env} {s : State} {m : MethodId} {args : Array Value} {below : List Frame} {meth : Method} {c : Code} {Q : State → Prop} {cells slots : Nat} {μ : Mu} {p9 : Int} {L n : Nat} {xs : Nat → Int32} (hC : LC X s L xs) (hr : cells ≤ room_1.cells ∧ slots ≤ room_1.slots) (hn : n + 6 ≤ L) (h : INV μ p9) (hk : ∀ (μ' : Mu) (p' : Int), INV μ' p' → Gv (GG X) M_LL room_1 p e s m args below meth c Q cells slots 1575 (lsL n) [] μ') : Gv (GG X) M_LL room_1 p e s m args below meth c Q cells slots 445 (lsL n) [] μ := by
  obtain ⟨z, μ1, μ2, e7, e8, p', h2⟩ := pr_put X h (xs (n + 1)).toInt (xs (n + 2)).toInt (am_toInt_r _) (am_toInt_r _)
  refine g_aload_n dL_law_445 rfl rfl (by omega) ?_
  refine g_arg (j := 1) dL_law_446 dL_law_447 dL_law_449 dL_law_450 dL_law_451 hC rfl (by omega) ?_
  refine g_arg (j := 2) dL_law_452 dL_law_453 dL_law_455 dL_law_456 dL_law_457 hC rfl (by omega) ?_
  refine g_callV (o := 0) (ci := 7) (as := [(0, (xs (n + 1)).toInt), (0, (xs (n + 2)).toInt)]) (rest := []) (k := 1) gL_law_458 ⟨Nat.le_of_ble_eq_true rfl, Nat.le_of_ble_eq_true rfl⟩ hr rfl rfl rfl rfl rfl rfl rfl rfl (Nat.le_of_ble_eq_true rfl) e7 ?_
  refine g_aload_n dL_law_461 rfl rfl (by omega) ?_
  refine g_arg (j := 1) dL_law_462 dL_law_463 dL_law_465 dL_law_466 dL_law_467 hC rfl (by omega) ?_
  refine g_arg (j := 2) dL_law_468 dL_law_469 dL_law_471 dL_law_472 dL_law_473 hC rfl (by omega) ?_
  refine g_callV (o := 45) (ci := 8) (as := [(0, (xs (n + 1)).toInt), (0, (xs (n + 2)).toInt)]) (rest := [(0, z)]) (k := 1) gL_law_474 ⟨Nat.le_of_ble_eq_true rfl, Nat.le_of_ble_eq_true rfl⟩ hr rfl rfl rfl rfl rfl rfl rfl rfl (Nat.le_of_ble_eq_true rfl) e8 ?_
  exact g_icmp_eq dL_law_477 rfl rfl (hk μ2 p' h2)
theorem lc_undo {X : AX} {p : Program} {e : Env} {s : State} {m : MethodId} {args : Array Value} {below : List Frame} {meth : Method} {c : Code} {Q : State → Prop} {cells slots : Nat} {μ : Mu} {p9 : Int} {L n : Nat} {xs : Nat → Int32} (hC : LC X s L xs) (hr : cells ≤ room_1.cells ∧ slots ≤ room_1.slots) (hn : n + 6 ≤ L) (h : INV μ p9) (hk : ∀ (μ' : Mu) (p' : Int), INV μ' p' → Gv (GG X) M_LL room_1 p e s m args below meth c Q cells slots 1575 (lsL n) [] μ') : Gv (GG X) M_LL room_1 p e s m args below meth c Q cells slots 482 (lsL n) [] μ := by
  obtain ⟨z, μ1, μ2, e7, e8, p', h2⟩ := pr_undo X h  
  refine g_aload_n dL_law_482 rfl rfl (by omega) ?_
  refine g_callV (o := 0) (ci := 7) (as := []) (rest := []) (k := 1) gL_law_483 ⟨Nat.le_of_ble_eq_true rfl, Nat.le_of_ble_eq_true rfl⟩ hr rfl rfl rfl rfl rfl rfl rfl rfl (Nat.le_of_ble_eq_true rfl) e7 ?_
  refine g_aload_n dL_law_486 rfl rfl (by omega) ?_
  refine g_callV (o := 45) (ci := 8) (as := []) (rest := [(0, z)]) (k := 0) gL_law_487 ⟨Nat.le_of_ble_eq_true rfl, Nat.le_of_ble_eq_true rfl⟩ hr rfl rfl rfl rfl rfl rfl rfl rfl (Nat.le_of_ble_eq_true rfl) e8 ?_
  exact g_icmp_eq dL_law_490 rfl rfl (hk μ2 p' h2)
theorem lc_want {X : AX} {p : Program} {e : Env} {s : State} {m : MethodId} {args : Array Value} {below : List Frame} {meth : Method} {c : Code} {Q : State → Prop} {cells slots : Nat} {μ : Mu} {p9 : Int} {L n : Nat} {xs : Nat → Int32} (hC : LC X s L xs) (hr : cells ≤ room_1.cells ∧ slots ≤ room_1.slots) (hn : n + 6 ≤ L) (h : INV μ p9) (hk : ∀ (μ' : Mu) (p' : Int), INV μ' p' → Gv (GG X) M_LL room_1 p e s m args below meth c Q cells slots 1575 (lsL n) [] μ') : Gv (GG X) M_LL room_1 p e s m args below meth c Q cells slots 563 (lsL n) [] μ := by
  obtain ⟨z, μ1, μ2, e7, e8, p', h2⟩ := pr_want X h (xs (n + 1)).toInt (am_toInt_r _)
  refine g_aload_n dL_law_563 rfl rfl (by omega) ?_
  refine g_arg (j := 1) dL_law_564 dL_law_565 dL_law_567 dL_law_568 dL_law_569 hC rfl (by omega) ?_
  refine g_callV (o := 0) (ci := 7) (as := [(0, (xs (n + 1)).toInt)]) (rest := []) (k := 0) gL_law_570 ⟨Nat.le_of_ble_eq_true rfl, Nat.le_of_ble_eq_true rfl⟩ hr rfl rfl rfl rfl rfl rfl rfl rfl (Nat.le_of_ble_eq_true rfl) e7 ?_
  refine g_aload_n dL_law_573 rfl rfl (by omega) ?_
  refine g_arg (j := 1) dL_law_574 dL_law_575 dL_law_577 dL_law_578 dL_law_579 hC rfl (by omega) ?_
  refine g_callV (o := 45) (ci := 8) (as := [(0, (xs (n + 1)).toInt)]) (rest := [(0, z)]) (k := 0) gL_law_580 ⟨Nat.le_of_ble_eq_true rfl, Nat.le_of_ble_eq_true rfl⟩ hr rfl rfl rfl rfl rfl rfl rfl rfl (Nat.le_of_ble_eq_true rfl) e8 ?_
  exact g_icmp_eq dL_law_583 rfl rfl (hk μ2 p' h2)
theorem lc_ideal {X : AX} {p : Program} {e : Env} {s : State} {m : MethodId} {args : Array Value} {below : List Frame} {meth : Method} {c : Code} {Q : State → Prop} {cells slots : Nat} {μ : Mu} {p9 : Int} {L n : Nat} {xs : Nat → Int32} (hC : LC X s L xs) (hr : cells ≤ room_1.cells ∧ slots ≤ room_1.slots) (hn : n + 6 ≤ L) (h : INV μ p9) (hk : ∀ (μ' : Mu) (p' : Int), INV μ' p' → Gv (GG X) M_LL room_1 p e s m args below meth c Q cells slots 1575 (lsL n) [] μ') : Gv (GG X) M_LL room_1 p e s m args below meth c Q cells slots 588 (lsL n) [] μ := by
  obtain ⟨z, μ1, μ2, e7, e8, p', h2⟩ := pr_ideal X h (xs (n + 1)).toInt (am_toInt_r _)
  refine g_aload_n dL_law_588 rfl rfl (by omega) ?_
  refine g_arg (j := 1) dL_law_589 dL_law_590 dL_law_592 dL_law_593 dL_law_594 hC rfl (by omega) ?_
  refine g_callV (o := 0) (ci := 7) (as := [(0, (xs (n + 1)).toInt)]) (rest := []) (k := 0) gL_law_595 ⟨Nat.le_of_ble_eq_true rfl, Nat.le_of_ble_eq_true rfl⟩ hr rfl rfl rfl rfl rfl rfl rfl rfl (Nat.le_of_ble_eq_true rfl) e7 ?_
  refine g_aload_n dL_law_598 rfl rfl (by omega) ?_
  refine g_arg (j := 1) dL_law_599 dL_law_600 dL_law_602 dL_law_603 dL_law_604 hC rfl (by omega) ?_
  refine g_callV (o := 45) (ci := 8) (as := [(0, (xs (n + 1)).toInt)]) (rest := [(0, z)]) (k := 0) gL_law_605 ⟨Nat.le_of_ble_eq_true rfl, Nat.le_of_ble_eq_true rfl⟩ hr rfl rfl rfl rfl rfl rfl rfl rfl (Nat.le_of_ble_eq_true rfl) e8 ?_
  exact g_icmp_eq dL_law_608 rfl rfl (hk μ2 p' h2)
theorem lc_ugliness {X : AX} {p : Program} {e : Env} {s : State} {m : MethodId} {args : Array Value} {below : List Frame} {meth : Method} {c : Code} {Q : State → Prop} {cells slots : Nat} {μ : Mu} {p9 : Int} {L n : Nat} {xs : Nat → Int32} (hC : LC X s L xs) (hr : cells ≤ room_1.cells ∧ slots ≤ room_1.slots) (hn : n + 6 ≤ L) (h : INV μ p9) (hk : ∀ (μ' : Mu) (p' : Int), INV μ' p' → Gv (GG X) M_LL room_1 p e s m args below meth c Q cells slots 1575 (lsL n) [] μ') : Gv (GG X) M_LL room_1 p e s m args below meth c Q cells slots 613 (lsL n) [] μ := by
  obtain ⟨z, μ1, μ2, e7, e8, p', h2⟩ := pr_ugliness X h (xs (n + 1)).toInt (xs (n + 2)).toInt (xs (n + 3)).toInt (xs (n + 4)).toInt (am_toInt_r _) (am_toInt_r _) (am_toInt_r _) (am_toInt_r _)
  refine g_aload_n dL_law_613 rfl rfl (by omega) ?_
  refine g_arg (j := 1) dL_law_614 dL_law_615 dL_law_617 dL_law_618 dL_law_619 hC rfl (by omega) ?_
  refine g_arg (j := 2) dL_law_620 dL_law_621 dL_law_623 dL_law_624 dL_law_625 hC rfl (by omega) ?_
  refine g_arg (j := 3) dL_law_626 dL_law_627 dL_law_629 dL_law_630 dL_law_631 hC rfl (by omega) ?_
  refine g_arg (j := 4) dL_law_632 dL_law_633 dL_law_635 dL_law_636 dL_law_637 hC rfl (by omega) ?_
  refine g_callV (o := 0) (ci := 7) (as := [(0, (xs (n + 1)).toInt), (0, (xs (n + 2)).toInt), (0, (xs (n + 3)).toInt), (0, (xs (n + 4)).toInt)]) (rest := []) (k := 0) gL_law_638 ⟨Nat.le_of_ble_eq_true rfl, Nat.le_of_ble_eq_true rfl⟩ hr rfl rfl rfl rfl rfl rfl rfl rfl (Nat.le_of_ble_eq_true rfl) e7 ?_
  refine g_aload_n dL_law_641 rfl rfl (by omega) ?_
  refine g_arg (j := 1) dL_law_642 dL_law_643 dL_law_645 dL_law_646 dL_law_647 hC rfl (by omega) ?_
  refine g_arg (j := 2) dL_law_648 dL_law_649 dL_law_651 dL_law_652 dL_law_653 hC rfl (by omega) ?_
  refine g_arg (j := 3) dL_law_654 dL_law_655 dL_law_657 dL_law_658 dL_law_659 hC rfl (by omega) ?_
  refine g_arg (j := 4) dL_law_660 dL_law_661 dL_law_663 dL_law_664 dL_law_665 hC rfl (by omega) ?_
  refine g_callV (o := 45) (ci := 8) (as := [(0, (xs (n + 1)).toInt), (0, (xs (n + 2)).toInt), (0, (xs (n + 3)).toInt), (0, (xs (n + 4)).toInt)]) (rest := [(0, z)]) (k := 0) gL_law_666 ⟨Nat.le_of_ble_eq_true rfl, Nat.le_of_ble_eq_true rfl⟩ hr rfl rfl rfl rfl rfl rfl rfl rfl (Nat.le_of_ble_eq_true rfl) e8 ?_
  exact g_icmp_eq dL_law_669 rfl rfl (hk μ2 p' h2)
theorem lc_best {X : AX} {p : Program} {e : Env} {s : State} {m : MethodId} {args : Array Value} {below : List Frame} {meth : Method} {c : Code} {Q : State → Prop} {cells slots : Nat} {μ : Mu} {p9 : Int} {L n : Nat} {xs : Nat → Int32} (hC : LC X s L xs) (hr : cells ≤ room_1.cells ∧ slots ≤ room_1.slots) (hn : n + 6 ≤ L) (h : INV μ p9) (hk : ∀ (μ' : Mu) (p' : Int), INV μ' p' → Gv (GG X) M_LL room_1 p e s m args below meth c Q cells slots 1575 (lsL n) [] μ') : Gv (GG X) M_LL room_1 p e s m args below meth c Q cells slots 674 (lsL n) [] μ := by
  obtain ⟨z, μ1, μ2, e7, e8, p', h2⟩ := pr_best X h (xs (n + 1)).toInt (xs (n + 2)).toInt (am_toInt_r _) (am_toInt_r _)
  refine g_aload_n dL_law_674 rfl rfl (by omega) ?_
  refine g_arg (j := 1) dL_law_675 dL_law_676 dL_law_678 dL_law_679 dL_law_680 hC rfl (by omega) ?_
  refine g_arg (j := 2) dL_law_681 dL_law_682 dL_law_684 dL_law_685 dL_law_686 hC rfl (by omega) ?_
  refine g_callV (o := 0) (ci := 7) (as := [(0, (xs (n + 1)).toInt), (0, (xs (n + 2)).toInt)]) (rest := []) (k := 0) gL_law_687 ⟨Nat.le_of_ble_eq_true rfl, Nat.le_of_ble_eq_true rfl⟩ hr rfl rfl rfl rfl rfl rfl rfl rfl (Nat.le_of_ble_eq_true rfl) e7 ?_
  refine g_aload_n dL_law_690 rfl rfl (by omega) ?_
  refine g_arg (j := 1) dL_law_691 dL_law_692 dL_law_694 dL_law_695 dL_law_696 hC rfl (by omega) ?_
  refine g_arg (j := 2) dL_law_697 dL_law_698 dL_law_700 dL_law_701 dL_law_702 hC rfl (by omega) ?_
  refine g_callV (o := 45) (ci := 8) (as := [(0, (xs (n + 1)).toInt), (0, (xs (n + 2)).toInt)]) (rest := [(0, z)]) (k := 0) gL_law_703 ⟨Nat.le_of_ble_eq_true rfl, Nat.le_of_ble_eq_true rfl⟩ hr rfl rfl rfl rfl rfl rfl rfl rfl (Nat.le_of_ble_eq_true rfl) e8 ?_
  exact g_icmp_eq dL_law_706 rfl rfl (hk μ2 p' h2)
theorem lc_ranked {X : AX} {p : Program} {e : Env} {s : State} {m : MethodId} {args : Array Value} {below : List Frame} {meth : Method} {c : Code} {Q : State → Prop} {cells slots : Nat} {μ : Mu} {p9 : Int} {L n : Nat} {xs : Nat → Int32} (hC : LC X s L xs) (hr : cells ≤ room_1.cells ∧ slots ≤ room_1.slots) (hn : n + 6 ≤ L) (h : INV μ p9) (hk : ∀ (μ' : Mu) (p' : Int), INV μ' p' → Gv (GG X) M_LL room_1 p e s m args below meth c Q cells slots 1575 (lsL n) [] μ') : Gv (GG X) M_LL room_1 p e s m args below meth c Q cells slots 711 (lsL n) [] μ := by
  obtain ⟨z, μ1, μ2, e7, e8, p', h2⟩ := pr_ranked X h (xs (n + 1)).toInt (xs (n + 2)).toInt (xs (n + 3)).toInt (am_toInt_r _) (am_toInt_r _) (am_toInt_r _)
  refine g_aload_n dL_law_711 rfl rfl (by omega) ?_
  refine g_arg (j := 1) dL_law_712 dL_law_713 dL_law_715 dL_law_716 dL_law_717 hC rfl (by omega) ?_
  refine g_arg (j := 2) dL_law_718 dL_law_719 dL_law_721 dL_law_722 dL_law_723 hC rfl (by omega) ?_
  refine g_arg (j := 3) dL_law_724 dL_law_725 dL_law_727 dL_law_728 dL_law_729 hC rfl (by omega) ?_
  refine g_callV (o := 0) (ci := 7) (as := [(0, (xs (n + 1)).toInt), (0, (xs (n + 2)).toInt), (0, (xs (n + 3)).toInt)]) (rest := []) (k := 0) gL_law_730 ⟨Nat.le_of_ble_eq_true rfl, Nat.le_of_ble_eq_true rfl⟩ hr rfl rfl rfl rfl rfl rfl rfl rfl (Nat.le_of_ble_eq_true rfl) e7 ?_
  refine g_aload_n dL_law_733 rfl rfl (by omega) ?_
  refine g_arg (j := 1) dL_law_734 dL_law_735 dL_law_737 dL_law_738 dL_law_739 hC rfl (by omega) ?_
  refine g_arg (j := 2) dL_law_740 dL_law_741 dL_law_743 dL_law_744 dL_law_745 hC rfl (by omega) ?_
  refine g_arg (j := 3) dL_law_746 dL_law_747 dL_law_749 dL_law_750 dL_law_751 hC rfl (by omega) ?_
  refine g_callV (o := 45) (ci := 8) (as := [(0, (xs (n + 1)).toInt), (0, (xs (n + 2)).toInt), (0, (xs (n + 3)).toInt)]) (rest := [(0, z)]) (k := 1) gL_law_752 ⟨Nat.le_of_ble_eq_true rfl, Nat.le_of_ble_eq_true rfl⟩ hr rfl rfl rfl rfl rfl rfl rfl rfl (Nat.le_of_ble_eq_true rfl) e8 ?_
  exact g_icmp_eq dL_law_755 rfl rfl (hk μ2 p' h2)
theorem lc_rank {X : AX} {p : Program} {e : Env} {s : State} {m : MethodId} {args : Array Value} {below : List Frame} {meth : Method} {c : Code} {Q : State → Prop} {cells slots : Nat} {μ : Mu} {p9 : Int} {L n : Nat} {xs : Nat → Int32} (hC : LC X s L xs) (hr : cells ≤ room_1.cells ∧ slots ≤ room_1.slots) (hn : n + 6 ≤ L) (h : INV μ p9) (hk : ∀ (μ' : Mu) (p' : Int), INV μ' p' → Gv (GG X) M_LL room_1 p e s m args below meth c Q cells slots 1575 (lsL n) [] μ') : Gv (GG X) M_LL room_1 p e s m args below meth c Q cells slots 760 (lsL n) [] μ := by
  obtain ⟨z, μ1, μ2, e7, e8, p', h2⟩ := pr_rank X h (xs (n + 1)).toInt (xs (n + 2)).toInt (xs (n + 3)).toInt (am_toInt_r _) (am_toInt_r _) (am_toInt_r _)
  refine g_aload_n dL_law_760 rfl rfl (by omega) ?_
  refine g_arg (j := 1) dL_law_761 dL_law_762 dL_law_764 dL_law_765 dL_law_766 hC rfl (by omega) ?_
  refine g_arg (j := 2) dL_law_767 dL_law_768 dL_law_770 dL_law_771 dL_law_772 hC rfl (by omega) ?_
  refine g_arg (j := 3) dL_law_773 dL_law_774 dL_law_776 dL_law_777 dL_law_778 hC rfl (by omega) ?_
  refine g_callV (o := 0) (ci := 7) (as := [(0, (xs (n + 1)).toInt), (0, (xs (n + 2)).toInt), (0, (xs (n + 3)).toInt)]) (rest := []) (k := 0) gL_law_779 ⟨Nat.le_of_ble_eq_true rfl, Nat.le_of_ble_eq_true rfl⟩ hr rfl rfl rfl rfl rfl rfl rfl rfl (Nat.le_of_ble_eq_true rfl) e7 ?_
  refine g_aload_n dL_law_782 rfl rfl (by omega) ?_
  refine g_arg (j := 1) dL_law_783 dL_law_784 dL_law_786 dL_law_787 dL_law_788 hC rfl (by omega) ?_
  refine g_arg (j := 2) dL_law_789 dL_law_790 dL_law_792 dL_law_793 dL_law_794 hC rfl (by omega) ?_
  refine g_arg (j := 3) dL_law_795 dL_law_796 dL_law_798 dL_law_799 dL_law_800 hC rfl (by omega) ?_
  refine g_callV (o := 45) (ci := 8) (as := [(0, (xs (n + 1)).toInt), (0, (xs (n + 2)).toInt), (0, (xs (n + 3)).toInt)]) (rest := [(0, z)]) (k := 1) gL_law_801 ⟨Nat.le_of_ble_eq_true rfl, Nat.le_of_ble_eq_true rfl⟩ hr rfl rfl rfl rfl rfl rfl rfl rfl (Nat.le_of_ble_eq_true rfl) e8 ?_
  exact g_icmp_eq dL_law_804 rfl rfl (hk μ2 p' h2)
theorem lc_stem {X : AX} {p : Program} {e : Env} {s : State} {m : MethodId} {args : Array Value} {below : List Frame} {meth : Method} {c : Code} {Q : State → Prop} {cells slots : Nat} {μ : Mu} {p9 : Int} {L n : Nat} {xs : Nat → Int32} (hC : LC X s L xs) (hr : cells ≤ room_1.cells ∧ slots ≤ room_1.slots) (hn : n + 6 ≤ L) (h : INV μ p9) (hk : ∀ (μ' : Mu) (p' : Int), INV μ' p' → Gv (GG X) M_LL room_1 p e s m args below meth c Q cells slots 1575 (lsL n) [] μ') : Gv (GG X) M_LL room_1 p e s m args below meth c Q cells slots 809 (lsL n) [] μ := by
  obtain ⟨z, μ1, μ2, e7, e8, p', h2⟩ := pr_stem X h (xs (n + 1)).toInt (xs (n + 2)).toInt (am_toInt_r _) (am_toInt_r _)
  refine g_aload_n dL_law_809 rfl rfl (by omega) ?_
  refine g_arg (j := 1) dL_law_810 dL_law_811 dL_law_813 dL_law_814 dL_law_815 hC rfl (by omega) ?_
  refine g_arg (j := 2) dL_law_816 dL_law_817 dL_law_819 dL_law_820 dL_law_821 hC rfl (by omega) ?_
  refine g_callV (o := 0) (ci := 7) (as := [(0, (xs (n + 1)).toInt), (0, (xs (n + 2)).toInt)]) (rest := []) (k := 5) gL_law_822 ⟨Nat.le_of_ble_eq_true rfl, Nat.le_of_ble_eq_true rfl⟩ hr rfl rfl rfl rfl rfl rfl rfl rfl (Nat.le_of_ble_eq_true rfl) e7 ?_
  refine g_aload_n dL_law_825 rfl rfl (by omega) ?_
  refine g_arg (j := 1) dL_law_826 dL_law_827 dL_law_829 dL_law_830 dL_law_831 hC rfl (by omega) ?_
  refine g_arg (j := 2) dL_law_832 dL_law_833 dL_law_835 dL_law_836 dL_law_837 hC rfl (by omega) ?_
  refine g_callV (o := 45) (ci := 8) (as := [(0, (xs (n + 1)).toInt), (0, (xs (n + 2)).toInt)]) (rest := [(0, z)]) (k := 3) gL_law_838 ⟨Nat.le_of_ble_eq_true rfl, Nat.le_of_ble_eq_true rfl⟩ hr rfl rfl rfl rfl rfl rfl rfl rfl (Nat.le_of_ble_eq_true rfl) e8 ?_
  exact g_icmp_eq dL_law_841 rfl rfl (hk μ2 p' h2)
theorem lc_touch {X : AX} {p : Program} {e : Env} {s : State} {m : MethodId} {args : Array Value} {below : List Frame} {meth : Method} {c : Code} {Q : State → Prop} {cells slots : Nat} {μ : Mu} {p9 : Int} {L n : Nat} {xs : Nat → Int32} (hC : LC X s L xs) (hr : cells ≤ room_1.cells ∧ slots ≤ room_1.slots) (hn : n + 6 ≤ L) (h : INV μ p9) (hk : ∀ (μ' : Mu) (p' : Int), INV μ' p' → Gv (GG X) M_LL room_1 p e s m args below meth c Q cells slots 1575 (lsL n) [] μ') : Gv (GG X) M_LL room_1 p e s m args below meth c Q cells slots 846 (lsL n) [] μ := by
  obtain ⟨z, μ1, μ2, e7, e8, p', h2⟩ := pr_touch X h (xs (n + 1)).toInt (xs (n + 2)).toInt (xs (n + 3)).toInt (am_toInt_r _) (am_toInt_r _) (am_toInt_r _)
  refine g_aload_n dL_law_846 rfl rfl (by omega) ?_
  refine g_arg (j := 1) dL_law_847 dL_law_848 dL_law_850 dL_law_851 dL_law_852 hC rfl (by omega) ?_
  refine g_arg (j := 2) dL_law_853 dL_law_854 dL_law_856 dL_law_857 dL_law_858 hC rfl (by omega) ?_
  refine g_arg (j := 3) dL_law_859 dL_law_860 dL_law_862 dL_law_863 dL_law_864 hC rfl (by omega) ?_
  refine g_callV (o := 0) (ci := 7) (as := [(0, (xs (n + 1)).toInt), (0, (xs (n + 2)).toInt), (0, (xs (n + 3)).toInt)]) (rest := []) (k := 3) gL_law_865 ⟨Nat.le_of_ble_eq_true rfl, Nat.le_of_ble_eq_true rfl⟩ hr rfl rfl rfl rfl rfl rfl rfl rfl (Nat.le_of_ble_eq_true rfl) e7 ?_
  refine g_aload_n dL_law_868 rfl rfl (by omega) ?_
  refine g_arg (j := 1) dL_law_869 dL_law_870 dL_law_872 dL_law_873 dL_law_874 hC rfl (by omega) ?_
  refine g_arg (j := 2) dL_law_875 dL_law_876 dL_law_878 dL_law_879 dL_law_880 hC rfl (by omega) ?_
  refine g_arg (j := 3) dL_law_881 dL_law_882 dL_law_884 dL_law_885 dL_law_886 hC rfl (by omega) ?_
  refine g_callV (o := 45) (ci := 8) (as := [(0, (xs (n + 1)).toInt), (0, (xs (n + 2)).toInt), (0, (xs (n + 3)).toInt)]) (rest := [(0, z)]) (k := 3) gL_law_887 ⟨Nat.le_of_ble_eq_true rfl, Nat.le_of_ble_eq_true rfl⟩ hr rfl rfl rfl rfl rfl rfl rfl rfl (Nat.le_of_ble_eq_true rfl) e8 ?_
  exact g_icmp_eq dL_law_890 rfl rfl (hk μ2 p' h2)
theorem lc_beams {X : AX} {p : Program} {e : Env} {s : State} {m : MethodId} {args : Array Value} {below : List Frame} {meth : Method} {c : Code} {Q : State → Prop} {cells slots : Nat} {μ : Mu} {p9 : Int} {L n : Nat} {xs : Nat → Int32} (hC : LC X s L xs) (hr : cells ≤ room_1.cells ∧ slots ≤ room_1.slots) (hn : n + 6 ≤ L) (h : INV μ p9) (hk : ∀ (μ' : Mu) (p' : Int), INV μ' p' → Gv (GG X) M_LL room_1 p e s m args below meth c Q cells slots 1575 (lsL n) [] μ') : Gv (GG X) M_LL room_1 p e s m args below meth c Q cells slots 895 (lsL n) [] μ := by
  obtain ⟨z, μ1, μ2, e7, e8, p', h2⟩ := pr_beams X h (xs (n + 1)).toInt (xs (n + 2)).toInt (am_toInt_r _) (am_toInt_r _)
  refine g_aload_n dL_law_895 rfl rfl (by omega) ?_
  refine g_arg (j := 1) dL_law_896 dL_law_897 dL_law_899 dL_law_900 dL_law_901 hC rfl (by omega) ?_
  refine g_arg (j := 2) dL_law_902 dL_law_903 dL_law_905 dL_law_906 dL_law_907 hC rfl (by omega) ?_
  refine g_callV (o := 0) (ci := 7) (as := [(0, (xs (n + 1)).toInt), (0, (xs (n + 2)).toInt)]) (rest := []) (k := 0) gL_law_908 ⟨Nat.le_of_ble_eq_true rfl, Nat.le_of_ble_eq_true rfl⟩ hr rfl rfl rfl rfl rfl rfl rfl rfl (Nat.le_of_ble_eq_true rfl) e7 ?_
  refine g_aload_n dL_law_911 rfl rfl (by omega) ?_
  refine g_arg (j := 1) dL_law_912 dL_law_913 dL_law_915 dL_law_916 dL_law_917 hC rfl (by omega) ?_
  refine g_arg (j := 2) dL_law_918 dL_law_919 dL_law_921 dL_law_922 dL_law_923 hC rfl (by omega) ?_
  refine g_callV (o := 45) (ci := 8) (as := [(0, (xs (n + 1)).toInt), (0, (xs (n + 2)).toInt)]) (rest := [(0, z)]) (k := 5) gL_law_924 ⟨Nat.le_of_ble_eq_true rfl, Nat.le_of_ble_eq_true rfl⟩ hr rfl rfl rfl rfl rfl rfl rfl rfl (Nat.le_of_ble_eq_true rfl) e8 ?_
  exact g_icmp_eq dL_law_927 rfl rfl (hk μ2 p' h2)
theorem lc_total {X : AX} {p : Program} {e : Env} {s : State} {m : MethodId} {args : Array Value} {below : List Frame} {meth : Method} {c : Code} {Q : State → Prop} {cells slots : Nat} {μ : Mu} {p9 : Int} {L n : Nat} {xs : Nat → Int32} (hC : LC X s L xs) (hr : cells ≤ room_1.cells ∧ slots ≤ room_1.slots) (hn : n + 6 ≤ L) (h : INV μ p9) (hk : ∀ (μ' : Mu) (p' : Int), INV μ' p' → Gv (GG X) M_LL room_1 p e s m args below meth c Q cells slots 1575 (lsL n) [] μ') : Gv (GG X) M_LL room_1 p e s m args below meth c Q cells slots 932 (lsL n) [] μ := by
  obtain ⟨z, μ1, μ2, e7, e8, p', h2⟩ := pr_total X h (xs (n + 1)).toInt (am_toInt_r _)
  refine g_aload_n dL_law_932 rfl rfl (by omega) ?_
  refine g_arg (j := 1) dL_law_933 dL_law_934 dL_law_936 dL_law_937 dL_law_938 hC rfl (by omega) ?_
  refine g_callV (o := 0) (ci := 7) (as := [(0, (xs (n + 1)).toInt)]) (rest := []) (k := 0) gL_law_939 ⟨Nat.le_of_ble_eq_true rfl, Nat.le_of_ble_eq_true rfl⟩ hr rfl rfl rfl rfl rfl rfl rfl rfl (Nat.le_of_ble_eq_true rfl) e7 ?_
  refine g_aload_n dL_law_942 rfl rfl (by omega) ?_
  refine g_arg (j := 1) dL_law_943 dL_law_944 dL_law_946 dL_law_947 dL_law_948 hC rfl (by omega) ?_
  refine g_callV (o := 45) (ci := 8) (as := [(0, (xs (n + 1)).toInt)]) (rest := [(0, z)]) (k := 0) gL_law_949 ⟨Nat.le_of_ble_eq_true rfl, Nat.le_of_ble_eq_true rfl⟩ hr rfl rfl rfl rfl rfl rfl rfl rfl (Nat.le_of_ble_eq_true rfl) e8 ?_
  exact g_icmp_eq dL_law_952 rfl rfl (hk μ2 p' h2)
theorem lc_ifPut {X : AX} {p : Program} {e : Env} {s : State} {m : MethodId} {args : Array Value} {below : List Frame} {meth : Method} {c : Code} {Q : State → Prop} {cells slots : Nat} {μ : Mu} {p9 : Int} {L n : Nat} {xs : Nat → Int32} (hC : LC X s L xs) (hr : cells ≤ room_1.cells ∧ slots ≤ room_1.slots) (hn : n + 6 ≤ L) (h : INV μ p9) (hk : ∀ (μ' : Mu) (p' : Int), INV μ' p' → Gv (GG X) M_LL room_1 p e s m args below meth c Q cells slots 1575 (lsL n) [] μ') : Gv (GG X) M_LL room_1 p e s m args below meth c Q cells slots 957 (lsL n) [] μ := by
  obtain ⟨z, μ1, μ2, e7, e8, p', h2⟩ := pr_ifPut X h (xs (n + 1)).toInt (xs (n + 2)).toInt (xs (n + 3)).toInt (am_toInt_r _) (am_toInt_r _) (am_toInt_r _)
  refine g_aload_n dL_law_957 rfl rfl (by omega) ?_
  refine g_arg (j := 1) dL_law_958 dL_law_959 dL_law_961 dL_law_962 dL_law_963 hC rfl (by omega) ?_
  refine g_arg (j := 2) dL_law_964 dL_law_965 dL_law_967 dL_law_968 dL_law_969 hC rfl (by omega) ?_
  refine g_arg (j := 3) dL_law_970 dL_law_971 dL_law_973 dL_law_974 dL_law_975 hC rfl (by omega) ?_
  refine g_callV (o := 0) (ci := 7) (as := [(0, (xs (n + 1)).toInt), (0, (xs (n + 2)).toInt), (0, (xs (n + 3)).toInt)]) (rest := []) (k := 0) gL_law_976 ⟨Nat.le_of_ble_eq_true rfl, Nat.le_of_ble_eq_true rfl⟩ hr rfl rfl rfl rfl rfl rfl rfl rfl (Nat.le_of_ble_eq_true rfl) e7 ?_
  refine g_aload_n dL_law_979 rfl rfl (by omega) ?_
  refine g_arg (j := 1) dL_law_980 dL_law_981 dL_law_983 dL_law_984 dL_law_985 hC rfl (by omega) ?_
  refine g_arg (j := 2) dL_law_986 dL_law_987 dL_law_989 dL_law_990 dL_law_991 hC rfl (by omega) ?_
  refine g_arg (j := 3) dL_law_992 dL_law_993 dL_law_995 dL_law_996 dL_law_997 hC rfl (by omega) ?_
  refine g_callV (o := 45) (ci := 8) (as := [(0, (xs (n + 1)).toInt), (0, (xs (n + 2)).toInt), (0, (xs (n + 3)).toInt)]) (rest := [(0, z)]) (k := 1) gL_law_998 ⟨Nat.le_of_ble_eq_true rfl, Nat.le_of_ble_eq_true rfl⟩ hr rfl rfl rfl rfl rfl rfl rfl rfl (Nat.le_of_ble_eq_true rfl) e8 ?_
  exact g_icmp_eq dL_law_1001 rfl rfl (hk μ2 p' h2)
theorem lc_wish {X : AX} {p : Program} {e : Env} {s : State} {m : MethodId} {args : Array Value} {below : List Frame} {meth : Method} {c : Code} {Q : State → Prop} {cells slots : Nat} {μ : Mu} {p9 : Int} {L n : Nat} {xs : Nat → Int32} (hC : LC X s L xs) (hr : cells ≤ room_1.cells ∧ slots ≤ room_1.slots) (hn : n + 6 ≤ L) (h : INV μ p9) (hk : ∀ (μ' : Mu) (p' : Int), INV μ' p' → Gv (GG X) M_LL room_1 p e s m args below meth c Q cells slots 1575 (lsL n) [] μ') : Gv (GG X) M_LL room_1 p e s m args below meth c Q cells slots 1006 (lsL n) [] μ := by
  obtain ⟨z, μ1, μ2, e7, e8, p', h2⟩ := pr_wish X h (xs (n + 1)).toInt (am_toInt_r _)
  refine g_aload_n dL_law_1006 rfl rfl (by omega) ?_
  refine g_arg (j := 1) dL_law_1007 dL_law_1008 dL_law_1010 dL_law_1011 dL_law_1012 hC rfl (by omega) ?_
  refine g_callV (o := 0) (ci := 7) (as := [(0, (xs (n + 1)).toInt)]) (rest := []) (k := 7) gL_law_1013 ⟨Nat.le_of_ble_eq_true rfl, Nat.le_of_ble_eq_true rfl⟩ hr rfl rfl rfl rfl rfl rfl rfl rfl (Nat.le_of_ble_eq_true rfl) e7 ?_
  refine g_aload_n dL_law_1016 rfl rfl (by omega) ?_
  refine g_arg (j := 1) dL_law_1017 dL_law_1018 dL_law_1020 dL_law_1021 dL_law_1022 hC rfl (by omega) ?_
  refine g_callV (o := 45) (ci := 8) (as := [(0, (xs (n + 1)).toInt)]) (rest := [(0, z)]) (k := 5) gL_law_1023 ⟨Nat.le_of_ble_eq_true rfl, Nat.le_of_ble_eq_true rfl⟩ hr rfl rfl rfl rfl rfl rfl rfl rfl (Nat.le_of_ble_eq_true rfl) e8 ?_
  exact g_icmp_eq dL_law_1026 rfl rfl (hk μ2 p' h2)
theorem lc_ifShifted {X : AX} {p : Program} {e : Env} {s : State} {m : MethodId} {args : Array Value} {below : List Frame} {meth : Method} {c : Code} {Q : State → Prop} {cells slots : Nat} {μ : Mu} {p9 : Int} {L n : Nat} {xs : Nat → Int32} (hC : LC X s L xs) (hr : cells ≤ room_1.cells ∧ slots ≤ room_1.slots) (hn : n + 6 ≤ L) (h : INV μ p9) (hk : ∀ (μ' : Mu) (p' : Int), INV μ' p' → Gv (GG X) M_LL room_1 p e s m args below meth c Q cells slots 1575 (lsL n) [] μ') : Gv (GG X) M_LL room_1 p e s m args below meth c Q cells slots 1031 (lsL n) [] μ := by
  obtain ⟨z, μ1, μ2, e7, e8, p', h2⟩ := pr_ifShifted X h (xs (n + 1)).toInt (xs (n + 2)).toInt (am_toInt_r _) (am_toInt_r _)
  refine g_aload_n dL_law_1031 rfl rfl (by omega) ?_
  refine g_arg (j := 1) dL_law_1032 dL_law_1033 dL_law_1035 dL_law_1036 dL_law_1037 hC rfl (by omega) ?_
  refine g_arg (j := 2) dL_law_1038 dL_law_1039 dL_law_1041 dL_law_1042 dL_law_1043 hC rfl (by omega) ?_
  refine g_callV (o := 0) (ci := 7) (as := [(0, (xs (n + 1)).toInt), (0, (xs (n + 2)).toInt)]) (rest := []) (k := 0) gL_law_1044 ⟨Nat.le_of_ble_eq_true rfl, Nat.le_of_ble_eq_true rfl⟩ hr rfl rfl rfl rfl rfl rfl rfl rfl (Nat.le_of_ble_eq_true rfl) e7 ?_
  refine g_aload_n dL_law_1047 rfl rfl (by omega) ?_
  refine g_arg (j := 1) dL_law_1048 dL_law_1049 dL_law_1051 dL_law_1052 dL_law_1053 hC rfl (by omega) ?_
  refine g_arg (j := 2) dL_law_1054 dL_law_1055 dL_law_1057 dL_law_1058 dL_law_1059 hC rfl (by omega) ?_
  refine g_callV (o := 45) (ci := 8) (as := [(0, (xs (n + 1)).toInt), (0, (xs (n + 2)).toInt)]) (rest := [(0, z)]) (k := 1) gL_law_1060 ⟨Nat.le_of_ble_eq_true rfl, Nat.le_of_ble_eq_true rfl⟩ hr rfl rfl rfl rfl rfl rfl rfl rfl (Nat.le_of_ble_eq_true rfl) e8 ?_
  exact g_icmp_eq dL_law_1063 rfl rfl (hk μ2 p' h2)
theorem lc_shift {X : AX} {p : Program} {e : Env} {s : State} {m : MethodId} {args : Array Value} {below : List Frame} {meth : Method} {c : Code} {Q : State → Prop} {cells slots : Nat} {μ : Mu} {p9 : Int} {L n : Nat} {xs : Nat → Int32} (hC : LC X s L xs) (hr : cells ≤ room_1.cells ∧ slots ≤ room_1.slots) (hn : n + 6 ≤ L) (h : INV μ p9) (hk : ∀ (μ' : Mu) (p' : Int), INV μ' p' → Gv (GG X) M_LL room_1 p e s m args below meth c Q cells slots 1575 (lsL n) [] μ') : Gv (GG X) M_LL room_1 p e s m args below meth c Q cells slots 1068 (lsL n) [] μ := by
  obtain ⟨z, μ1, μ2, e7, e8, p', h2⟩ := pr_shift X h  
  refine g_aload_n dL_law_1068 rfl rfl (by omega) ?_
  refine g_callV (o := 0) (ci := 7) (as := []) (rest := []) (k := 6) gL_law_1069 ⟨Nat.le_of_ble_eq_true rfl, Nat.le_of_ble_eq_true rfl⟩ hr rfl rfl rfl rfl rfl rfl rfl rfl (Nat.le_of_ble_eq_true rfl) e7 ?_
  refine g_aload_n dL_law_1072 rfl rfl (by omega) ?_
  refine g_callV (o := 45) (ci := 8) (as := []) (rest := [(0, z)]) (k := 6) gL_law_1073 ⟨Nat.le_of_ble_eq_true rfl, Nat.le_of_ble_eq_true rfl⟩ hr rfl rfl rfl rfl rfl rfl rfl rfl (Nat.le_of_ble_eq_true rfl) e8 ?_
  exact g_icmp_eq dL_law_1076 rfl rfl (hk μ2 p' h2)
theorem lc_mirrored {X : AX} {p : Program} {e : Env} {s : State} {m : MethodId} {args : Array Value} {below : List Frame} {meth : Method} {c : Code} {Q : State → Prop} {cells slots : Nat} {μ : Mu} {p9 : Int} {L n : Nat} {xs : Nat → Int32} (hC : LC X s L xs) (hr : cells ≤ room_1.cells ∧ slots ≤ room_1.slots) (hn : n + 6 ≤ L) (h : INV μ p9) (hk : ∀ (μ' : Mu) (p' : Int), INV μ' p' → Gv (GG X) M_LL room_1 p e s m args below meth c Q cells slots 1575 (lsL n) [] μ') : Gv (GG X) M_LL room_1 p e s m args below meth c Q cells slots 1081 (lsL n) [] μ := by
  obtain ⟨z, μ1, μ2, e7, e8, p', h2⟩ := pr_mirrored X h (xs (n + 1)).toInt (am_toInt_r _)
  refine g_aload_n dL_law_1081 rfl rfl (by omega) ?_
  refine g_arg (j := 1) dL_law_1082 dL_law_1083 dL_law_1085 dL_law_1086 dL_law_1087 hC rfl (by omega) ?_
  refine g_callV (o := 0) (ci := 7) (as := [(0, (xs (n + 1)).toInt)]) (rest := []) (k := 5) gL_law_1088 ⟨Nat.le_of_ble_eq_true rfl, Nat.le_of_ble_eq_true rfl⟩ hr rfl rfl rfl rfl rfl rfl rfl rfl (Nat.le_of_ble_eq_true rfl) e7 ?_
  refine g_aload_n dL_law_1091 rfl rfl (by omega) ?_
  refine g_arg (j := 1) dL_law_1092 dL_law_1093 dL_law_1095 dL_law_1096 dL_law_1097 hC rfl (by omega) ?_
  refine g_callV (o := 45) (ci := 8) (as := [(0, (xs (n + 1)).toInt)]) (rest := [(0, z)]) (k := 4) gL_law_1098 ⟨Nat.le_of_ble_eq_true rfl, Nat.le_of_ble_eq_true rfl⟩ hr rfl rfl rfl rfl rfl rfl rfl rfl (Nat.le_of_ble_eq_true rfl) e8 ?_
  exact g_icmp_eq dL_law_1101 rfl rfl (hk μ2 p' h2)
theorem lc_ifKnee {X : AX} {p : Program} {e : Env} {s : State} {m : MethodId} {args : Array Value} {below : List Frame} {meth : Method} {c : Code} {Q : State → Prop} {cells slots : Nat} {μ : Mu} {p9 : Int} {L n : Nat} {xs : Nat → Int32} (hC : LC X s L xs) (hr : cells ≤ room_1.cells ∧ slots ≤ room_1.slots) (hn : n + 6 ≤ L) (h : INV μ p9) (hk : ∀ (μ' : Mu) (p' : Int), INV μ' p' → Gv (GG X) M_LL room_1 p e s m args below meth c Q cells slots 1575 (lsL n) [] μ') : Gv (GG X) M_LL room_1 p e s m args below meth c Q cells slots 1106 (lsL n) [] μ := by
  obtain ⟨z, μ1, μ2, e7, e8, p', h2⟩ := pr_ifKnee X h (xs (n + 1)).toInt (xs (n + 2)).toInt (am_toInt_r _) (am_toInt_r _)
  refine g_aload_n dL_law_1106 rfl rfl (by omega) ?_
  refine g_arg (j := 1) dL_law_1107 dL_law_1108 dL_law_1110 dL_law_1111 dL_law_1112 hC rfl (by omega) ?_
  refine g_arg (j := 2) dL_law_1113 dL_law_1114 dL_law_1116 dL_law_1117 dL_law_1118 hC rfl (by omega) ?_
  refine g_callV (o := 0) (ci := 7) (as := [(0, (xs (n + 1)).toInt), (0, (xs (n + 2)).toInt)]) (rest := []) (k := 0) gL_law_1119 ⟨Nat.le_of_ble_eq_true rfl, Nat.le_of_ble_eq_true rfl⟩ hr rfl rfl rfl rfl rfl rfl rfl rfl (Nat.le_of_ble_eq_true rfl) e7 ?_
  refine g_aload_n dL_law_1122 rfl rfl (by omega) ?_
  refine g_arg (j := 1) dL_law_1123 dL_law_1124 dL_law_1126 dL_law_1127 dL_law_1128 hC rfl (by omega) ?_
  refine g_arg (j := 2) dL_law_1129 dL_law_1130 dL_law_1132 dL_law_1133 dL_law_1134 hC rfl (by omega) ?_
  refine g_callV (o := 45) (ci := 8) (as := [(0, (xs (n + 1)).toInt), (0, (xs (n + 2)).toInt)]) (rest := [(0, z)]) (k := 1) gL_law_1135 ⟨Nat.le_of_ble_eq_true rfl, Nat.le_of_ble_eq_true rfl⟩ hr rfl rfl rfl rfl rfl rfl rfl rfl (Nat.le_of_ble_eq_true rfl) e8 ?_
  exact g_icmp_eq dL_law_1138 rfl rfl (hk μ2 p' h2)
theorem lc_ifParts {X : AX} {p : Program} {e : Env} {s : State} {m : MethodId} {args : Array Value} {below : List Frame} {meth : Method} {c : Code} {Q : State → Prop} {cells slots : Nat} {μ : Mu} {p9 : Int} {L n : Nat} {xs : Nat → Int32} (hC : LC X s L xs) (hr : cells ≤ room_1.cells ∧ slots ≤ room_1.slots) (hn : n + 6 ≤ L) (h : INV μ p9) (hk : ∀ (μ' : Mu) (p' : Int), INV μ' p' → Gv (GG X) M_LL room_1 p e s m args below meth c Q cells slots 1575 (lsL n) [] μ') : Gv (GG X) M_LL room_1 p e s m args below meth c Q cells slots 1143 (lsL n) [] μ := by
  obtain ⟨z, μ1, μ2, e7, e8, p', h2⟩ := pr_ifParts X h (xs (n + 1)).toInt (am_toInt_r _)
  refine g_aload_n dL_law_1143 rfl rfl (by omega) ?_
  refine g_arg (j := 1) dL_law_1144 dL_law_1145 dL_law_1147 dL_law_1148 dL_law_1149 hC rfl (by omega) ?_
  refine g_callV (o := 0) (ci := 7) (as := [(0, (xs (n + 1)).toInt)]) (rest := []) (k := 0) gL_law_1150 ⟨Nat.le_of_ble_eq_true rfl, Nat.le_of_ble_eq_true rfl⟩ hr rfl rfl rfl rfl rfl rfl rfl rfl (Nat.le_of_ble_eq_true rfl) e7 ?_
  refine g_aload_n dL_law_1153 rfl rfl (by omega) ?_
  refine g_arg (j := 1) dL_law_1154 dL_law_1155 dL_law_1157 dL_law_1158 dL_law_1159 hC rfl (by omega) ?_
  refine g_callV (o := 45) (ci := 8) (as := [(0, (xs (n + 1)).toInt)]) (rest := [(0, z)]) (k := 0) gL_law_1160 ⟨Nat.le_of_ble_eq_true rfl, Nat.le_of_ble_eq_true rfl⟩ hr rfl rfl rfl rfl rfl rfl rfl rfl (Nat.le_of_ble_eq_true rfl) e8 ?_
  exact g_icmp_eq dL_law_1163 rfl rfl (hk μ2 p' h2)
theorem lc_alone {X : AX} {p : Program} {e : Env} {s : State} {m : MethodId} {args : Array Value} {below : List Frame} {meth : Method} {c : Code} {Q : State → Prop} {cells slots : Nat} {μ : Mu} {p9 : Int} {L n : Nat} {xs : Nat → Int32} (hC : LC X s L xs) (hr : cells ≤ room_1.cells ∧ slots ≤ room_1.slots) (hn : n + 6 ≤ L) (h : INV μ p9) (hk : ∀ (μ' : Mu) (p' : Int), INV μ' p' → Gv (GG X) M_LL room_1 p e s m args below meth c Q cells slots 1575 (lsL n) [] μ') : Gv (GG X) M_LL room_1 p e s m args below meth c Q cells slots 1168 (lsL n) [] μ := by
  obtain ⟨z, μ1, μ2, e7, e8, p', h2⟩ := pr_alone X h (xs (n + 1)).toInt (am_toInt_r _)
  refine g_aload_n dL_law_1168 rfl rfl (by omega) ?_
  refine g_arg (j := 1) dL_law_1169 dL_law_1170 dL_law_1172 dL_law_1173 dL_law_1174 hC rfl (by omega) ?_
  refine g_callV (o := 0) (ci := 7) (as := [(0, (xs (n + 1)).toInt)]) (rest := []) (k := 3) gL_law_1175 ⟨Nat.le_of_ble_eq_true rfl, Nat.le_of_ble_eq_true rfl⟩ hr rfl rfl rfl rfl rfl rfl rfl rfl (Nat.le_of_ble_eq_true rfl) e7 ?_
  refine g_aload_n dL_law_1178 rfl rfl (by omega) ?_
  refine g_arg (j := 1) dL_law_1179 dL_law_1180 dL_law_1182 dL_law_1183 dL_law_1184 hC rfl (by omega) ?_
  refine g_callV (o := 45) (ci := 8) (as := [(0, (xs (n + 1)).toInt)]) (rest := [(0, z)]) (k := 3) gL_law_1185 ⟨Nat.le_of_ble_eq_true rfl, Nat.le_of_ble_eq_true rfl⟩ hr rfl rfl rfl rfl rfl rfl rfl rfl (Nat.le_of_ble_eq_true rfl) e8 ?_
  exact g_icmp_eq dL_law_1188 rfl rfl (hk μ2 p' h2)
theorem lc_stretches {X : AX} {p : Program} {e : Env} {s : State} {m : MethodId} {args : Array Value} {below : List Frame} {meth : Method} {c : Code} {Q : State → Prop} {cells slots : Nat} {μ : Mu} {p9 : Int} {L n : Nat} {xs : Nat → Int32} (hC : LC X s L xs) (hr : cells ≤ room_1.cells ∧ slots ≤ room_1.slots) (hn : n + 6 ≤ L) (h : INV μ p9) (hk : ∀ (μ' : Mu) (p' : Int), INV μ' p' → Gv (GG X) M_LL room_1 p e s m args below meth c Q cells slots 1575 (lsL n) [] μ') : Gv (GG X) M_LL room_1 p e s m args below meth c Q cells slots 1193 (lsL n) [] μ := by
  obtain ⟨z, μ1, μ2, e7, e8, p', h2⟩ := pr_stretches X h (xs (n + 1)).toInt (xs (n + 2)).toInt (am_toInt_r _) (am_toInt_r _)
  refine g_aload_n dL_law_1193 rfl rfl (by omega) ?_
  refine g_arg (j := 1) dL_law_1194 dL_law_1195 dL_law_1197 dL_law_1198 dL_law_1199 hC rfl (by omega) ?_
  refine g_arg (j := 2) dL_law_1200 dL_law_1201 dL_law_1203 dL_law_1204 dL_law_1205 hC rfl (by omega) ?_
  refine g_callV (o := 0) (ci := 7) (as := [(0, (xs (n + 1)).toInt), (0, (xs (n + 2)).toInt)]) (rest := []) (k := 2) gL_law_1206 ⟨Nat.le_of_ble_eq_true rfl, Nat.le_of_ble_eq_true rfl⟩ hr rfl rfl rfl rfl rfl rfl rfl rfl (Nat.le_of_ble_eq_true rfl) e7 ?_
  refine g_aload_n dL_law_1209 rfl rfl (by omega) ?_
  refine g_arg (j := 1) dL_law_1210 dL_law_1211 dL_law_1213 dL_law_1214 dL_law_1215 hC rfl (by omega) ?_
  refine g_arg (j := 2) dL_law_1216 dL_law_1217 dL_law_1219 dL_law_1220 dL_law_1221 hC rfl (by omega) ?_
  refine g_callV (o := 45) (ci := 8) (as := [(0, (xs (n + 1)).toInt), (0, (xs (n + 2)).toInt)]) (rest := [(0, z)]) (k := 1) gL_law_1222 ⟨Nat.le_of_ble_eq_true rfl, Nat.le_of_ble_eq_true rfl⟩ hr rfl rfl rfl rfl rfl rfl rfl rfl (Nat.le_of_ble_eq_true rfl) e8 ?_
  exact g_icmp_eq dL_law_1225 rfl rfl (hk μ2 p' h2)
theorem lc_stretch {X : AX} {p : Program} {e : Env} {s : State} {m : MethodId} {args : Array Value} {below : List Frame} {meth : Method} {c : Code} {Q : State → Prop} {cells slots : Nat} {μ : Mu} {p9 : Int} {L n : Nat} {xs : Nat → Int32} (hC : LC X s L xs) (hr : cells ≤ room_1.cells ∧ slots ≤ room_1.slots) (hn : n + 6 ≤ L) (h : INV μ p9) (hk : ∀ (μ' : Mu) (p' : Int), INV μ' p' → Gv (GG X) M_LL room_1 p e s m args below meth c Q cells slots 1575 (lsL n) [] μ') : Gv (GG X) M_LL room_1 p e s m args below meth c Q cells slots 1230 (lsL n) [] μ := by
  obtain ⟨z, μ1, μ2, e7, e8, p', h2⟩ := pr_stretch X h (xs (n + 1)).toInt (xs (n + 2)).toInt (xs (n + 3)).toInt (xs (n + 4)).toInt (am_toInt_r _) (am_toInt_r _) (am_toInt_r _) (am_toInt_r _)
  refine g_aload_n dL_law_1230 rfl rfl (by omega) ?_
  refine g_arg (j := 1) dL_law_1231 dL_law_1232 dL_law_1234 dL_law_1235 dL_law_1236 hC rfl (by omega) ?_
  refine g_arg (j := 2) dL_law_1237 dL_law_1238 dL_law_1240 dL_law_1241 dL_law_1242 hC rfl (by omega) ?_
  refine g_arg (j := 3) dL_law_1243 dL_law_1244 dL_law_1246 dL_law_1247 dL_law_1248 hC rfl (by omega) ?_
  refine g_arg (j := 4) dL_law_1249 dL_law_1250 dL_law_1252 dL_law_1253 dL_law_1254 hC rfl (by omega) ?_
  refine g_callV (o := 0) (ci := 7) (as := [(0, (xs (n + 1)).toInt), (0, (xs (n + 2)).toInt), (0, (xs (n + 3)).toInt), (0, (xs (n + 4)).toInt)]) (rest := []) (k := 2) gL_law_1255 ⟨Nat.le_of_ble_eq_true rfl, Nat.le_of_ble_eq_true rfl⟩ hr rfl rfl rfl rfl rfl rfl rfl rfl (Nat.le_of_ble_eq_true rfl) e7 ?_
  refine g_aload_n dL_law_1258 rfl rfl (by omega) ?_
  refine g_arg (j := 1) dL_law_1259 dL_law_1260 dL_law_1262 dL_law_1263 dL_law_1264 hC rfl (by omega) ?_
  refine g_arg (j := 2) dL_law_1265 dL_law_1266 dL_law_1268 dL_law_1269 dL_law_1270 hC rfl (by omega) ?_
  refine g_arg (j := 3) dL_law_1271 dL_law_1272 dL_law_1274 dL_law_1275 dL_law_1276 hC rfl (by omega) ?_
  refine g_arg (j := 4) dL_law_1277 dL_law_1278 dL_law_1280 dL_law_1281 dL_law_1282 hC rfl (by omega) ?_
  refine g_callV (o := 45) (ci := 8) (as := [(0, (xs (n + 1)).toInt), (0, (xs (n + 2)).toInt), (0, (xs (n + 3)).toInt), (0, (xs (n + 4)).toInt)]) (rest := [(0, z)]) (k := 2) gL_law_1283 ⟨Nat.le_of_ble_eq_true rfl, Nat.le_of_ble_eq_true rfl⟩ hr rfl rfl rfl rfl rfl rfl rfl rfl (Nat.le_of_ble_eq_true rfl) e8 ?_
  exact g_icmp_eq dL_law_1286 rfl rfl (hk μ2 p' h2)
theorem lc_level {X : AX} {p : Program} {e : Env} {s : State} {m : MethodId} {args : Array Value} {below : List Frame} {meth : Method} {c : Code} {Q : State → Prop} {cells slots : Nat} {μ : Mu} {p9 : Int} {L n : Nat} {xs : Nat → Int32} (hC : LC X s L xs) (hr : cells ≤ room_1.cells ∧ slots ≤ room_1.slots) (hn : n + 6 ≤ L) (h : INV μ p9) (hk : ∀ (μ' : Mu) (p' : Int), INV μ' p' → Gv (GG X) M_LL room_1 p e s m args below meth c Q cells slots 1575 (lsL n) [] μ') : Gv (GG X) M_LL room_1 p e s m args below meth c Q cells slots 1291 (lsL n) [] μ := by
  obtain ⟨z, μ1, μ2, e7, e8, p', h2⟩ := pr_level X h (xs (n + 1)).toInt (xs (n + 2)).toInt (am_toInt_r _) (am_toInt_r _)
  refine g_aload_n dL_law_1291 rfl rfl (by omega) ?_
  refine g_arg (j := 1) dL_law_1292 dL_law_1293 dL_law_1295 dL_law_1296 dL_law_1297 hC rfl (by omega) ?_
  refine g_arg (j := 2) dL_law_1298 dL_law_1299 dL_law_1301 dL_law_1302 dL_law_1303 hC rfl (by omega) ?_
  refine g_callV (o := 0) (ci := 7) (as := [(0, (xs (n + 1)).toInt), (0, (xs (n + 2)).toInt)]) (rest := []) (k := 2) gL_law_1304 ⟨Nat.le_of_ble_eq_true rfl, Nat.le_of_ble_eq_true rfl⟩ hr rfl rfl rfl rfl rfl rfl rfl rfl (Nat.le_of_ble_eq_true rfl) e7 ?_
  refine g_aload_n dL_law_1307 rfl rfl (by omega) ?_
  refine g_arg (j := 1) dL_law_1308 dL_law_1309 dL_law_1311 dL_law_1312 dL_law_1313 hC rfl (by omega) ?_
  refine g_arg (j := 2) dL_law_1314 dL_law_1315 dL_law_1317 dL_law_1318 dL_law_1319 hC rfl (by omega) ?_
  refine g_callV (o := 45) (ci := 8) (as := [(0, (xs (n + 1)).toInt), (0, (xs (n + 2)).toInt)]) (rest := [(0, z)]) (k := 2) gL_law_1320 ⟨Nat.le_of_ble_eq_true rfl, Nat.le_of_ble_eq_true rfl⟩ hr rfl rfl rfl rfl rfl rfl rfl rfl (Nat.le_of_ble_eq_true rfl) e8 ?_
  exact g_icmp_eq dL_law_1323 rfl rfl (hk μ2 p' h2)
theorem lc_ifCut {X : AX} {p : Program} {e : Env} {s : State} {m : MethodId} {args : Array Value} {below : List Frame} {meth : Method} {c : Code} {Q : State → Prop} {cells slots : Nat} {μ : Mu} {p9 : Int} {L n : Nat} {xs : Nat → Int32} (hC : LC X s L xs) (hr : cells ≤ room_1.cells ∧ slots ≤ room_1.slots) (hn : n + 6 ≤ L) (h : INV μ p9) (hk : ∀ (μ' : Mu) (p' : Int), INV μ' p' → Gv (GG X) M_LL room_1 p e s m args below meth c Q cells slots 1575 (lsL n) [] μ') : Gv (GG X) M_LL room_1 p e s m args below meth c Q cells slots 1328 (lsL n) [] μ := by
  obtain ⟨z, μ1, μ2, e7, e8, p', h2⟩ := pr_ifCut X h (xs (n + 1)).toInt (xs (n + 2)).toInt (am_toInt_r _) (am_toInt_r _)
  refine g_aload_n dL_law_1328 rfl rfl (by omega) ?_
  refine g_arg (j := 1) dL_law_1329 dL_law_1330 dL_law_1332 dL_law_1333 dL_law_1334 hC rfl (by omega) ?_
  refine g_arg (j := 2) dL_law_1335 dL_law_1336 dL_law_1338 dL_law_1339 dL_law_1340 hC rfl (by omega) ?_
  refine g_callV (o := 0) (ci := 7) (as := [(0, (xs (n + 1)).toInt), (0, (xs (n + 2)).toInt)]) (rest := []) (k := 0) gL_law_1341 ⟨Nat.le_of_ble_eq_true rfl, Nat.le_of_ble_eq_true rfl⟩ hr rfl rfl rfl rfl rfl rfl rfl rfl (Nat.le_of_ble_eq_true rfl) e7 ?_
  refine g_aload_n dL_law_1344 rfl rfl (by omega) ?_
  refine g_arg (j := 1) dL_law_1345 dL_law_1346 dL_law_1348 dL_law_1349 dL_law_1350 hC rfl (by omega) ?_
  refine g_arg (j := 2) dL_law_1351 dL_law_1352 dL_law_1354 dL_law_1355 dL_law_1356 hC rfl (by omega) ?_
  refine g_callV (o := 45) (ci := 8) (as := [(0, (xs (n + 1)).toInt), (0, (xs (n + 2)).toInt)]) (rest := [(0, z)]) (k := 0) gL_law_1357 ⟨Nat.le_of_ble_eq_true rfl, Nat.le_of_ble_eq_true rfl⟩ hr rfl rfl rfl rfl rfl rfl rfl rfl (Nat.le_of_ble_eq_true rfl) e8 ?_
  exact g_icmp_eq dL_law_1360 rfl rfl (hk μ2 p' h2)
theorem lc_cut {X : AX} {p : Program} {e : Env} {s : State} {m : MethodId} {args : Array Value} {below : List Frame} {meth : Method} {c : Code} {Q : State → Prop} {cells slots : Nat} {μ : Mu} {p9 : Int} {L n : Nat} {xs : Nat → Int32} (hC : LC X s L xs) (hr : cells ≤ room_1.cells ∧ slots ≤ room_1.slots) (hn : n + 6 ≤ L) (h : INV μ p9) (hk : ∀ (μ' : Mu) (p' : Int), INV μ' p' → Gv (GG X) M_LL room_1 p e s m args below meth c Q cells slots 1575 (lsL n) [] μ') : Gv (GG X) M_LL room_1 p e s m args below meth c Q cells slots 1365 (lsL n) [] μ := by
  obtain ⟨z, μ1, μ2, e7, e8, p', h2⟩ := pr_cut X h (xs (n + 1)).toInt (am_toInt_r _)
  refine g_aload_n dL_law_1365 rfl rfl (by omega) ?_
  refine g_arg (j := 1) dL_law_1366 dL_law_1367 dL_law_1369 dL_law_1370 dL_law_1371 hC rfl (by omega) ?_
  refine g_callV (o := 0) (ci := 7) (as := [(0, (xs (n + 1)).toInt)]) (rest := []) (k := 4) gL_law_1372 ⟨Nat.le_of_ble_eq_true rfl, Nat.le_of_ble_eq_true rfl⟩ hr rfl rfl rfl rfl rfl rfl rfl rfl (Nat.le_of_ble_eq_true rfl) e7 ?_
  refine g_aload_n dL_law_1375 rfl rfl (by omega) ?_
  refine g_arg (j := 1) dL_law_1376 dL_law_1377 dL_law_1379 dL_law_1380 dL_law_1381 hC rfl (by omega) ?_
  refine g_callV (o := 45) (ci := 8) (as := [(0, (xs (n + 1)).toInt)]) (rest := [(0, z)]) (k := 4) gL_law_1382 ⟨Nat.le_of_ble_eq_true rfl, Nat.le_of_ble_eq_true rfl⟩ hr rfl rfl rfl rfl rfl rfl rfl rfl (Nat.le_of_ble_eq_true rfl) e8 ?_
  exact g_icmp_eq dL_law_1385 rfl rfl (hk μ2 p' h2)
theorem lc_smooth {X : AX} {p : Program} {e : Env} {s : State} {m : MethodId} {args : Array Value} {below : List Frame} {meth : Method} {c : Code} {Q : State → Prop} {cells slots : Nat} {μ : Mu} {p9 : Int} {L n : Nat} {xs : Nat → Int32} (hC : LC X s L xs) (hr : cells ≤ room_1.cells ∧ slots ≤ room_1.slots) (hn : n + 6 ≤ L) (h : INV μ p9) (hk : ∀ (μ' : Mu) (p' : Int), INV μ' p' → Gv (GG X) M_LL room_1 p e s m args below meth c Q cells slots 1575 (lsL n) [] μ') : Gv (GG X) M_LL room_1 p e s m args below meth c Q cells slots 1390 (lsL n) [] μ := by
  obtain ⟨z, μ1, μ2, e7, e8, p', h2⟩ := pr_smooth X h (xs (n + 1)).toInt (xs (n + 2)).toInt (am_toInt_r _) (am_toInt_r _)
  refine g_aload_n dL_law_1390 rfl rfl (by omega) ?_
  refine g_arg (j := 1) dL_law_1391 dL_law_1392 dL_law_1394 dL_law_1395 dL_law_1396 hC rfl (by omega) ?_
  refine g_arg (j := 2) dL_law_1397 dL_law_1398 dL_law_1400 dL_law_1401 dL_law_1402 hC rfl (by omega) ?_
  refine g_callV (o := 0) (ci := 7) (as := [(0, (xs (n + 1)).toInt), (0, (xs (n + 2)).toInt)]) (rest := []) (k := 0) gL_law_1403 ⟨Nat.le_of_ble_eq_true rfl, Nat.le_of_ble_eq_true rfl⟩ hr rfl rfl rfl rfl rfl rfl rfl rfl (Nat.le_of_ble_eq_true rfl) e7 ?_
  refine g_aload_n dL_law_1406 rfl rfl (by omega) ?_
  refine g_arg (j := 1) dL_law_1407 dL_law_1408 dL_law_1410 dL_law_1411 dL_law_1412 hC rfl (by omega) ?_
  refine g_arg (j := 2) dL_law_1413 dL_law_1414 dL_law_1416 dL_law_1417 dL_law_1418 hC rfl (by omega) ?_
  refine g_callV (o := 45) (ci := 8) (as := [(0, (xs (n + 1)).toInt), (0, (xs (n + 2)).toInt)]) (rest := [(0, z)]) (k := 1) gL_law_1419 ⟨Nat.le_of_ble_eq_true rfl, Nat.le_of_ble_eq_true rfl⟩ hr rfl rfl rfl rfl rfl rfl rfl rfl (Nat.le_of_ble_eq_true rfl) e8 ?_
  exact g_icmp_eq dL_law_1422 rfl rfl (hk μ2 p' h2)
theorem lc_smoothed {X : AX} {p : Program} {e : Env} {s : State} {m : MethodId} {args : Array Value} {below : List Frame} {meth : Method} {c : Code} {Q : State → Prop} {cells slots : Nat} {μ : Mu} {p9 : Int} {L n : Nat} {xs : Nat → Int32} (hC : LC X s L xs) (hr : cells ≤ room_1.cells ∧ slots ≤ room_1.slots) (hn : n + 6 ≤ L) (h : INV μ p9) (hk : ∀ (μ' : Mu) (p' : Int), INV μ' p' → Gv (GG X) M_LL room_1 p e s m args below meth c Q cells slots 1575 (lsL n) [] μ') : Gv (GG X) M_LL room_1 p e s m args below meth c Q cells slots 1427 (lsL n) [] μ := by
  obtain ⟨z, μ1, μ2, e7, e8, p', h2⟩ := pr_smoothed X h (xs (n + 1)).toInt (xs (n + 2)).toInt (xs (n + 3)).toInt (am_toInt_r _) (am_toInt_r _) (am_toInt_r _)
  refine g_aload_n dL_law_1427 rfl rfl (by omega) ?_
  refine g_arg (j := 1) dL_law_1428 dL_law_1429 dL_law_1431 dL_law_1432 dL_law_1433 hC rfl (by omega) ?_
  refine g_arg (j := 2) dL_law_1434 dL_law_1435 dL_law_1437 dL_law_1438 dL_law_1439 hC rfl (by omega) ?_
  refine g_arg (j := 3) dL_law_1440 dL_law_1441 dL_law_1443 dL_law_1444 dL_law_1445 hC rfl (by omega) ?_
  refine g_callV (o := 0) (ci := 7) (as := [(0, (xs (n + 1)).toInt), (0, (xs (n + 2)).toInt), (0, (xs (n + 3)).toInt)]) (rest := []) (k := 2) gL_law_1446 ⟨Nat.le_of_ble_eq_true rfl, Nat.le_of_ble_eq_true rfl⟩ hr rfl rfl rfl rfl rfl rfl rfl rfl (Nat.le_of_ble_eq_true rfl) e7 ?_
  refine g_aload_n dL_law_1449 rfl rfl (by omega) ?_
  refine g_arg (j := 1) dL_law_1450 dL_law_1451 dL_law_1453 dL_law_1454 dL_law_1455 hC rfl (by omega) ?_
  refine g_arg (j := 2) dL_law_1456 dL_law_1457 dL_law_1459 dL_law_1460 dL_law_1461 hC rfl (by omega) ?_
  refine g_arg (j := 3) dL_law_1462 dL_law_1463 dL_law_1465 dL_law_1466 dL_law_1467 hC rfl (by omega) ?_
  refine g_callV (o := 45) (ci := 8) (as := [(0, (xs (n + 1)).toInt), (0, (xs (n + 2)).toInt), (0, (xs (n + 3)).toInt)]) (rest := [(0, z)]) (k := 1) gL_law_1468 ⟨Nat.le_of_ble_eq_true rfl, Nat.le_of_ble_eq_true rfl⟩ hr rfl rfl rfl rfl rfl rfl rfl rfl (Nat.le_of_ble_eq_true rfl) e8 ?_
  exact g_icmp_eq dL_law_1471 rfl rfl (hk μ2 p' h2)
theorem lc_single {X : AX} {p : Program} {e : Env} {s : State} {m : MethodId} {args : Array Value} {below : List Frame} {meth : Method} {c : Code} {Q : State → Prop} {cells slots : Nat} {μ : Mu} {p9 : Int} {L n : Nat} {xs : Nat → Int32} (hC : LC X s L xs) (hr : cells ≤ room_1.cells ∧ slots ≤ room_1.slots) (hn : n + 6 ≤ L) (h : INV μ p9) (hk : ∀ (μ' : Mu) (p' : Int), INV μ' p' → Gv (GG X) M_LL room_1 p e s m args below meth c Q cells slots 1575 (lsL n) [] μ') : Gv (GG X) M_LL room_1 p e s m args below meth c Q cells slots 1476 (lsL n) [] μ := by
  obtain ⟨z, μ1, μ2, e7, e8, p', h2⟩ := pr_single X h (xs (n + 1)).toInt (xs (n + 2)).toInt (am_toInt_r _) (am_toInt_r _)
  refine g_aload_n dL_law_1476 rfl rfl (by omega) ?_
  refine g_arg (j := 1) dL_law_1477 dL_law_1478 dL_law_1480 dL_law_1481 dL_law_1482 hC rfl (by omega) ?_
  refine g_arg (j := 2) dL_law_1483 dL_law_1484 dL_law_1486 dL_law_1487 dL_law_1488 hC rfl (by omega) ?_
  refine g_callV (o := 0) (ci := 7) (as := [(0, (xs (n + 1)).toInt), (0, (xs (n + 2)).toInt)]) (rest := []) (k := 3) gL_law_1489 ⟨Nat.le_of_ble_eq_true rfl, Nat.le_of_ble_eq_true rfl⟩ hr rfl rfl rfl rfl rfl rfl rfl rfl (Nat.le_of_ble_eq_true rfl) e7 ?_
  refine g_aload_n dL_law_1492 rfl rfl (by omega) ?_
  refine g_arg (j := 1) dL_law_1493 dL_law_1494 dL_law_1496 dL_law_1497 dL_law_1498 hC rfl (by omega) ?_
  refine g_arg (j := 2) dL_law_1499 dL_law_1500 dL_law_1502 dL_law_1503 dL_law_1504 hC rfl (by omega) ?_
  refine g_callV (o := 45) (ci := 8) (as := [(0, (xs (n + 1)).toInt), (0, (xs (n + 2)).toInt)]) (rest := [(0, z)]) (k := 4) gL_law_1505 ⟨Nat.le_of_ble_eq_true rfl, Nat.le_of_ble_eq_true rfl⟩ hr rfl rfl rfl rfl rfl rfl rfl rfl (Nat.le_of_ble_eq_true rfl) e8 ?_
  exact g_icmp_eq dL_law_1508 rfl rfl (hk μ2 p' h2)
theorem lc_extreme {X : AX} {p : Program} {e : Env} {s : State} {m : MethodId} {args : Array Value} {below : List Frame} {meth : Method} {c : Code} {Q : State → Prop} {cells slots : Nat} {μ : Mu} {p9 : Int} {L n : Nat} {xs : Nat → Int32} (hC : LC X s L xs) (hr : cells ≤ room_1.cells ∧ slots ≤ room_1.slots) (hn : n + 6 ≤ L) (h : INV μ p9) (hk : ∀ (μ' : Mu) (p' : Int), INV μ' p' → Gv (GG X) M_LL room_1 p e s m args below meth c Q cells slots 1575 (lsL n) [] μ') : Gv (GG X) M_LL room_1 p e s m args below meth c Q cells slots 1513 (lsL n) [] μ := by
  obtain ⟨z, μ1, μ2, e7, e8, p', h2⟩ := pr_extreme X h (xs (n + 1)).toInt (xs (n + 2)).toInt (am_toInt_r _) (am_toInt_r _)
  refine g_aload_n dL_law_1513 rfl rfl (by omega) ?_
  refine g_arg (j := 1) dL_law_1514 dL_law_1515 dL_law_1517 dL_law_1518 dL_law_1519 hC rfl (by omega) ?_
  refine g_arg (j := 2) dL_law_1520 dL_law_1521 dL_law_1523 dL_law_1524 dL_law_1525 hC rfl (by omega) ?_
  refine g_callV (o := 0) (ci := 7) (as := [(0, (xs (n + 1)).toInt), (0, (xs (n + 2)).toInt)]) (rest := []) (k := 5) gL_law_1526 ⟨Nat.le_of_ble_eq_true rfl, Nat.le_of_ble_eq_true rfl⟩ hr rfl rfl rfl rfl rfl rfl rfl rfl (Nat.le_of_ble_eq_true rfl) e7 ?_
  refine g_aload_n dL_law_1529 rfl rfl (by omega) ?_
  refine g_arg (j := 1) dL_law_1530 dL_law_1531 dL_law_1533 dL_law_1534 dL_law_1535 hC rfl (by omega) ?_
  refine g_arg (j := 2) dL_law_1536 dL_law_1537 dL_law_1539 dL_law_1540 dL_law_1541 hC rfl (by omega) ?_
  refine g_callV (o := 45) (ci := 8) (as := [(0, (xs (n + 1)).toInt), (0, (xs (n + 2)).toInt)]) (rest := [(0, z)]) (k := 4) gL_law_1542 ⟨Nat.le_of_ble_eq_true rfl, Nat.le_of_ble_eq_true rfl⟩ hr rfl rfl rfl rfl rfl rfl rfl rfl (Nat.le_of_ble_eq_true rfl) e8 ?_
  exact g_icmp_eq dL_law_1545 rfl rfl (hk μ2 p' h2)
theorem lc_count {X : AX} {p : Program} {e : Env} {s : State} {m : MethodId} {args : Array Value} {below : List Frame} {meth : Method} {c : Code} {Q : State → Prop} {cells slots : Nat} {μ : Mu} {p9 : Int} {L n : Nat} {xs : Nat → Int32} (hC : LC X s L xs) (hr : cells ≤ room_1.cells ∧ slots ≤ room_1.slots) (hn : n + 6 ≤ L) (h : INV μ p9) (hk : ∀ (μ' : Mu) (p' : Int), INV μ' p' → Gv (GG X) M_LL room_1 p e s m args below meth c Q cells slots 1575 (lsL n) [] μ') : Gv (GG X) M_LL room_1 p e s m args below meth c Q cells slots 1550 (lsL n) [] μ := by
  obtain ⟨z, μ1, μ2, e7, e8, p', h2⟩ := pr_count X h (xs (n + 1)).toInt (am_toInt_r _)
  refine g_aload_n dL_law_1550 rfl rfl (by omega) ?_
  refine g_arg (j := 1) dL_law_1551 dL_law_1552 dL_law_1554 dL_law_1555 dL_law_1556 hC rfl (by omega) ?_
  refine g_callV (o := 0) (ci := 7) (as := [(0, (xs (n + 1)).toInt)]) (rest := []) (k := 0) gL_law_1557 ⟨Nat.le_of_ble_eq_true rfl, Nat.le_of_ble_eq_true rfl⟩ hr rfl rfl rfl rfl rfl rfl rfl rfl (Nat.le_of_ble_eq_true rfl) e7 ?_
  refine g_aload_n dL_law_1560 rfl rfl (by omega) ?_
  refine g_arg (j := 1) dL_law_1561 dL_law_1562 dL_law_1564 dL_law_1565 dL_law_1566 hC rfl (by omega) ?_
  refine g_callV (o := 45) (ci := 8) (as := [(0, (xs (n + 1)).toInt)]) (rest := [(0, z)]) (k := 0) gL_law_1567 ⟨Nat.le_of_ble_eq_true rfl, Nat.le_of_ble_eq_true rfl⟩ hr rfl rfl rfl rfl rfl rfl rfl rfl (Nat.le_of_ble_eq_true rfl) e8 ?_
  exact g_icmp_eq dL_law_1570 rfl rfl (hk μ2 p' h2)
