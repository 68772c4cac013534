/-! ===== The law's cases of element and group ===== -/
theorem g_argB {X : AX} {M : AMeth} {R : Room} {p : Program} {e : Env} {s : State} {m : MethodId} {args : Array Value} {below : List Frame} {meth : Method} {c : Code} {Q : State → Prop} {cells slots pc : Nat} {ls st : List AV} {μ : Mu} {L n j : Nat} {jz : Int} {xs : Nat → Int32}
    (d0 : decode M.2.1 pc = .ok (.aload_n 0, 1)) (d1 : decode M.2.1 (pc + 1) = .ok (.iload 4, 2)) (d3 : decode M.2.1 (pc + 3) = .ok (.iconst jz, 1)) (d4 : decode M.2.1 (pc + 4) = .ok (.iadd, 1)) (d5 : decode M.2.1 (pc + 5) = .ok (.iaload, 1))
    (h0 : ls[0]? = some (3, 13)) (h4 : ls[4]? = some (0, (n : Int)))
    (hC : LC X s L xs) (hj : jz = (j : Int)) (hn : n + j < L) (kk : Gv (GG X) M R p e s m args below meth c Q cells slots (pc + 6) ls ((0, (xs (n + j)).toInt) :: st) μ) : Gv (GG X) M R p e s m args below meth c Q cells slots pc ls st μ := by
  subst hj
  refine g_aload_nS d0 rfl h0 ?_
  refine g_iload d1 h4 ?_
  refine g_iconst d3 ?_
  refine g_iadd d4 ?_
  exact g_sld hC.1 hC.2.1 hC.2.2.1 (by have := hC.2.2.2; omega) (by omega) hn d5 kk
theorem am_cmp_s (a : Int) : am_cmp a a = 0 := by unfold am_cmp; simp
section pes
variable {μ μ1 : Mu} {p9 : Int}
theorem INV.o {v : Int} (h : INV μ p9) : INV (am_up μ 74 0 v) p9 := by
  have hp := h.cj.i.at
  exact h.b (h.rj.cg2 (fun o h1 => am_up_o (by omega)) (fun k h1 => congrFun (am_up_o (by omega)) k)) (fun o h1 => am_up_o (by omega)) (fun k h1 => congrFun (am_up_o (by omega)) k)
theorem elV_cg {i w : Int} (e : ∀ o : Int, p9 ≤ o ∧ o ≤ p9 + 10 → μ1 o = μ o) : elV μ1 p9 i w = elV μ p9 i w := by
  unfold elV
  rw [e (p9 + 3) (by omega), e (p9 + 4) (by omega), e (p9 + 7) (by omega), e (p9 + 8) (by omega), twn_cg e, mof_cg e, pof_cg e, bmz_cg e]
/-- what both sides do, in one row -/
def PE (X : AX) (ML M8 : AMeth) (i w : Int) (μ : Mu) : Prop := ∃ (k : Int) (μ1 : Mu), (∀ sz : Nat, vx_Met (gL (GG X)) ML.1 (xe_ws ML) xe_RL (xe_Pc (GG X) sz [(2, 0), (0, i), (0, w), (2, 74)] μ) (xe_Q (GG X) sz k μ1) (xe_XN X sz) 1 6 (am_A (GG X) sz)) ∧ (0 ≤ k ∧ k ≤ 2) ∧
  ∃ (z : Int) (μ2 : Mu), Ev (GG X) M8 0 [(2, 45), (0, i), (0, w)] [] μ1 (some (0, z)) μ2 ∧ Ev (GG X) M_X8_thrown 0 [(2, 45)] [] μ2 (some (0, k)) μ2 ∧ (k = 0 → μ2 74 0 = (Int32.ofInt z).toInt) ∧ ∃ p, INV μ2 p
theorem pe_el8 (X : AX) {i w : Int} (h1 : INV μ1 p9) (e : ∀ o : Int, p9 ≤ o ∧ o ≤ p9 + 10 → μ1 o = μ o) (hi : -2147483648 ≤ i ∧ i ≤ 2147483647) (hw : -2147483648 ≤ w ∧ w ≤ 2147483647) (h0 : elT μ p9 i w = 0 → μ1 74 0 = (Int32.ofInt (elV μ p9 i w)).toInt) :
    ∃ (z : Int) (μ2 : Mu), Ev (GG X) M_X8_element 0 [(2, 45), (0, i), (0, w)] [] μ1 (some (0, z)) μ2 ∧ Ev (GG X) M_X8_thrown 0 [(2, 45)] [] μ2 (some (0, elT μ p9 i w)) μ2 ∧ (elT μ p9 i w = 0 → μ2 74 0 = (Int32.ofInt z).toInt) ∧ ∃ p, INV μ2 p := by
  have hp := h1.cj.i.at
  obtain ⟨_, μ2, e8, z8, rfl, F8, t8, v8, hJ, f8⟩ := s_X8_element X p9 i w μ1 h1.cj h1.rj h1.rx hi hw
  have hT : elT μ1 p9 i w = elT μ p9 i w := by unfold elT; rw [e p9 (by omega)]
  rw [hT] at t8 v8
  obtain ⟨_, μ3, e3, rfl, e9⟩ := s_X8_thrown X μ2
  rw [e9, t8] at e3
  refine ⟨z8, μ2, e8, e3, fun q => ?_, p9, h1.b hJ (fun o h9 => F8.at (by omega) (by omega)) (fun k9 h9 => f8 k9 (by omega))⟩
  rw [F8.at (o := 74) (by omega) (by omega), h0 q, v8 q, elV_cg e]
theorem pe_element (X : AX) (hl : (gL (GG X)).stackTraces = false) (h : INV μ p9) {i w : Int} (hi : -2147483648 ≤ i ∧ i ≤ 2147483647) (hw : -2147483648 ≤ w ∧ w ≤ 2147483647) : PE X M_L_element M_X8_element i w μ := by
  have hp := h.cj.i.at
  by_cases a : 0 ≤ i ∧ i < μ p9 7
  · by_cases b : 0 ≤ w ∧ w ≤ 7
    · have hT : elT μ p9 i w = 0 := by unfold elT; rw [if_neg (fun q => q a), if_neg (fun q => q b)]
      obtain ⟨_, μ1, e7, rfl, e9⟩ := s_X7_element X p9 i w μ h.cj hi hw hT
      rw [e9] at e7
      have h8 := pe_el8 X (μ := μ) (h.o (v := (Int32.ofInt (elV μ p9 i w)).toInt)) (fun o q => am_up_o (by omega)) hi hw (fun _ => am_up_at)
      rw [hT] at h8
      exact ⟨0, _, fun sz => le_ok_element e7 sz, by omega, h8⟩
    · have hT : elT μ p9 i w = 2 := by unfold elT; rw [if_neg (fun q => q a), if_pos b]
      have h8 := pe_el8 X (μ := μ) h (fun o q => rfl) hi hw (fun q => by rw [hT] at q; exact absurd q (by decide))
      rw [hT] at h8
      exact ⟨2, μ, fun sz => le_t2_element (fun sz => thr_el2 hl h.cj hi hw a b sz) sz, by omega, h8⟩
  · have hT : elT μ p9 i w = 1 := by unfold elT; rw [if_pos a]
    have h8 := pe_el8 X (μ := μ) h (fun o q => rfl) hi hw (fun q => by rw [hT] at q; exact absurd q (by decide))
    rw [hT] at h8
    exact ⟨1, μ, fun sz => le_t1_element (fun sz => thr_el1 hl h.cj hi a sz) sz, by omega, h8⟩
theorem pe_gr8 (X : AX) {i w : Int} (h1 : INV μ1 p9) (e : ∀ o : Int, p9 ≤ o ∧ o ≤ p9 + 10 → μ1 o = μ o) (hi : -2147483648 ≤ i ∧ i ≤ 2147483647) (hw : -2147483648 ≤ w ∧ w ≤ 2147483647) (h0 : grT μ p9 i w = 0 → μ1 74 0 = (Int32.ofInt (grV (ddt μ p9 (p9 + 5) (μ p9 3) i) (μ (p9 + 9) i) w)).toInt) :
    ∃ (z : Int) (μ2 : Mu), Ev (GG X) M_X8_group 0 [(2, 45), (0, i), (0, w)] [] μ1 (some (0, z)) μ2 ∧ Ev (GG X) M_X8_thrown 0 [(2, 45)] [] μ2 (some (0, grT μ p9 i w)) μ2 ∧ (grT μ p9 i w = 0 → μ2 74 0 = (Int32.ofInt z).toInt) ∧ ∃ p, INV μ2 p := by
  have hp := h1.cj.i.at
  obtain ⟨_, μ2, e8, z8, rfl, F8, t8, v8, hJ, f8⟩ := s_X8_group X p9 i w μ1 h1.cj h1.rj h1.rx hi hw
  have hT : grT μ1 p9 i w = grT μ p9 i w := by unfold grT; rw [e p9 (by omega)]
  rw [hT] at t8 v8
  obtain ⟨_, μ3, e3, rfl, e9⟩ := s_X8_thrown X μ2
  rw [e9, t8] at e3
  refine ⟨z8, μ2, e8, e3, fun q => ?_, p9, h1.b hJ (fun o h9 => F8.at (by omega) (by omega)) (fun k9 h9 => f8 k9 (by omega))⟩
  rw [F8.at (o := 74) (by omega) (by omega), h0 q, v8 q, ddt_cg e, e p9 (by omega), e (p9 + 9) (by omega)]
theorem pe_group (X : AX) (hl : (gL (GG X)).stackTraces = false) (h : INV μ p9) {i w : Int} (hi : -2147483648 ≤ i ∧ i ≤ 2147483647) (hw : -2147483648 ≤ w ∧ w ≤ 2147483647) : PE X M_L_group M_X8_group i w μ := by
  have hp := h.cj.i.at
  by_cases a : 0 ≤ i ∧ i < μ p9 14
  · by_cases b : 0 ≤ w ∧ w ≤ 6
    · have hT : grT μ p9 i w = 0 := by unfold grT; rw [if_neg (fun q => q a), if_neg (fun q => q b)]
      obtain ⟨_, μ1, e7, z7, rfl, F7, w7⟩ := s_X7_group X p9 i w μ h.cj hi hw hT
      have F9 : Fr 6 19 1 0 μ1 μ := F7.wd (by omega) (by omega)
      have h8 := pe_gr8 X (μ := μ) ((h.a F9).o (v := (Int32.ofInt z7).toInt)) (fun o q => (am_up_o (by omega)).trans (F9.at (by omega) (by omega))) hi hw (fun _ => by rw [← w7]; exact am_up_at)
      rw [hT] at h8
      exact ⟨0, _, fun sz => le_ok_group e7 sz, by omega, h8⟩
    · have hT : grT μ p9 i w = 2 := by unfold grT; rw [if_neg (fun q => q a), if_pos b]
      obtain ⟨μ1, F7, hM⟩ := thr_gr2 hl h.cj hi hw a b
      have F9 : Fr 6 19 1 0 μ1 μ := F7.wd (by omega) (by omega)
      have h8 := pe_gr8 X (μ := μ) (h.a F9) (fun o q => F9.at (by omega) (by omega)) hi hw (fun q => by rw [hT] at q; exact absurd q (by decide))
      rw [hT] at h8
      exact ⟨2, μ1, fun sz => le_t2_group hM sz, by omega, h8⟩
  · have hT : grT μ p9 i w = 1 := by unfold grT; rw [if_pos a]
    have h8 := pe_gr8 X (μ := μ) h (fun o q => rfl) hi hw (fun q => by rw [hT] at q; exact absurd q (by decide))
    rw [hT] at h8
    exact ⟨1, μ, fun sz => le_t1_group (fun sz => thr_gr1 hl h.cj hi a sz) sz, by omega, h8⟩
end pes
theorem lc_element {X : AX} {p : Program} {e : Env} {s : State} {m : MethodId} {args : Array Value} {below : List Frame} {meth : Method} {c : Code} {Q : State → Prop} {cells slots : Nat} {μ : Mu} {p9 : Int} {L n : Nat} {xs : Nat → Int32} (hC : LC X s L xs) (hx : xe (GG X) s.heap.size s) (hlf : (gL (GG X)).stackTraces = false) (hr : cells + 1 ≤ room_1.cells ∧ slots + 6 ≤ room_1.slots) (hn : n + 6 ≤ L) (h : INV μ p9) (hk : ∀ (μ' : Mu) (p' : Int), INV μ' p' → Gv (GG X) M_LL room_1 p e s m args below meth c Q (cells + 1) (slots + 6) 1575 (lsL n) [] μ') : Gv (GG X) M_LL room_1 p e s m args below meth c Q cells slots 327 (lsL n) [] μ := by
  obtain ⟨k, μ1, hM, hk9, z, μ2, e8, e3, h0, p', h2⟩ := pe_element X hlf h (i := (xs (n + 1)).toInt) (w := (xs (n + 2)).toInt) (am_toInt_r _) (am_toInt_r _)
  have hend : Gv (GG X) M_LL room_1 p e s m args below meth c Q (cells + 1) (slots + 6) 392 [(3, 13), (2, 0), (2, 45), (2, 74), (0, (n : Int)), (0, k), (0, z)] [] μ2 := by
    refine g_goto (tgt := 1575) dL_law_392 rfl ?_
    exact g_forget (ls' := lsL n) (fun q hq => List.mem_append_left [(5, am_c (GG X) (0, k)), (6, am_c (GG X) (0, z))] hq) (hk μ2 p' h2)
  refine g_aload_n dL_law_327 rfl rfl (by omega) ?_
  refine g_arg (j := 1) dL_law_328 dL_law_329 dL_law_331 dL_law_332 dL_law_333 hC rfl (by omega) ?_
  refine g_arg (j := 2) dL_law_334 dL_law_335 dL_law_337 dL_law_338 dL_law_339 hC rfl (by omega) ?_
  refine g_aload_n dL_law_340 rfl rfl (by omega) ?_
  refine g_callL (as := [(2, 0), (0, (xs (n + 1)).toInt), (0, (xs (n + 2)).toInt), (2, 74)]) (rest := []) gL_law_element ⟨Nat.le_of_ble_eq_true rfl, Nat.le_of_ble_eq_true rfl⟩ hr hx rfl rfl (Nat.le_of_ble_eq_true rfl) hM ?_
  refine g_istore dL_law_344 (Nat.le_of_ble_eq_true rfl) rfl ?_
  refine g_aload_n dL_law_346 rfl rfl (by omega) ?_
  refine g_argB (j := 1) dL_law_347 dL_law_348 dL_law_350 dL_law_351 dL_law_352 rfl rfl hC rfl (by omega) ?_
  refine g_argB (j := 2) dL_law_353 dL_law_354 dL_law_356 dL_law_357 dL_law_358 rfl rfl hC rfl (by omega) ?_
  refine g_callV (o := 45) (ci := 8) (as := [(0, (xs (n + 1)).toInt), (0, (xs (n + 2)).toInt)]) (rest := []) (k := 0) gL_law_359 ⟨Nat.le_of_ble_eq_true rfl, Nat.le_of_ble_eq_true rfl⟩ hr rfl rfl rfl rfl rfl rfl rfl rfl (Nat.le_of_ble_eq_true rfl) e8 ?_
  refine g_istore dL_law_362 (Nat.le_of_ble_eq_true rfl) rfl ?_
  refine g_aload_n dL_law_364 rfl rfl (by omega) ?_
  refine g_callV (o := 45) (ci := 8) (as := []) (rest := []) (k := 0) gL_law_365 ⟨Nat.le_of_ble_eq_true rfl, Nat.le_of_ble_eq_true rfl⟩ hr rfl rfl rfl rfl rfl rfl rfl rfl (Nat.le_of_ble_eq_true rfl) e3 ?_
  refine g_iload dL_law_368 rfl ?_
  refine g_icmp_eq (tgt := 375) dL_law_370 rfl rfl ?_
  refine g_iload dL_law_375 rfl ?_
  refine g_if_ne (tgt := 392) dL_law_377 rfl ⟨by omega, by omega⟩ (fun _ => hend) (fun q => ?_)
  refine g_aload_n dL_law_380 rfl rfl (by omega) ?_
  refine g_iconst dL_law_381 ?_
  refine g_lald (o := 74) (n := 1) dL_law_382 rfl rfl (Nat.le_of_ble_eq_true rfl) (by omega) (by omega) ?_
  refine g_iload dL_law_383 rfl ?_
  refine g_i2lW dL_law_385 ?_
  rw [h0 q]
  have hz9 := am_toInt_r (Int32.ofInt z)
  refine g_lcmp dL_law_386 ⟨by have := hz9.1; omega, by have := hz9.2; omega⟩ ⟨by have := hz9.1; omega, by have := hz9.2; omega⟩ ?_
  rw [am_cmp_s]
  exact g_if_eq (tgt := 392) dL_law_387 rfl R32.zero (fun _ => hend) (fun q => absurd rfl q)
theorem lc_group {X : AX} {p : Program} {e : Env} {s : State} {m : MethodId} {args : Array Value} {below : List Frame} {meth : Method} {c : Code} {Q : State → Prop} {cells slots : Nat} {μ : Mu} {p9 : Int} {L n : Nat} {xs : Nat → Int32} (hC : LC X s L xs) (hx : xe (GG X) s.heap.size s) (hlf : (gL (GG X)).stackTraces = false) (hr : cells + 1 ≤ room_1.cells ∧ slots + 6 ≤ room_1.slots) (hn : n + 6 ≤ L) (h : INV μ p9) (hk : ∀ (μ' : Mu) (p' : Int), INV μ' p' → Gv (GG X) M_LL room_1 p e s m args below meth c Q (cells + 1) (slots + 6) 1575 (lsL n) [] μ') : Gv (GG X) M_LL room_1 p e s m args below meth c Q cells slots 495 (lsL n) [] μ := by
  obtain ⟨k, μ1, hM, hk9, z, μ2, e8, e3, h0, p', h2⟩ := pe_group X hlf h (i := (xs (n + 1)).toInt) (w := (xs (n + 2)).toInt) (am_toInt_r _) (am_toInt_r _)
  have hend : Gv (GG X) M_LL room_1 p e s m args below meth c Q (cells + 1) (slots + 6) 560 [(3, 13), (2, 0), (2, 45), (2, 74), (0, (n : Int)), (0, k), (0, z)] [] μ2 := by
    refine g_goto (tgt := 1575) dL_law_560 rfl ?_
    exact g_forget (ls' := lsL n) (fun q hq => List.mem_append_left [(5, am_c (GG X) (0, k)), (6, am_c (GG X) (0, z))] hq) (hk μ2 p' h2)
  refine g_aload_n dL_law_495 rfl rfl (by omega) ?_
  refine g_arg (j := 1) dL_law_496 dL_law_497 dL_law_499 dL_law_500 dL_law_501 hC rfl (by omega) ?_
  refine g_arg (j := 2) dL_law_502 dL_law_503 dL_law_505 dL_law_506 dL_law_507 hC rfl (by omega) ?_
  refine g_aload_n dL_law_508 rfl rfl (by omega) ?_
  refine g_callL (as := [(2, 0), (0, (xs (n + 1)).toInt), (0, (xs (n + 2)).toInt), (2, 74)]) (rest := []) gL_law_group ⟨Nat.le_of_ble_eq_true rfl, Nat.le_of_ble_eq_true rfl⟩ hr hx rfl rfl (Nat.le_of_ble_eq_true rfl) hM ?_
  refine g_istore dL_law_512 (Nat.le_of_ble_eq_true rfl) rfl ?_
  refine g_aload_n dL_law_514 rfl rfl (by omega) ?_
  refine g_argB (j := 1) dL_law_515 dL_law_516 dL_law_518 dL_law_519 dL_law_520 rfl rfl hC rfl (by omega) ?_
  refine g_argB (j := 2) dL_law_521 dL_law_522 dL_law_524 dL_law_525 dL_law_526 rfl rfl hC rfl (by omega) ?_
  refine g_callV (o := 45) (ci := 8) (as := [(0, (xs (n + 1)).toInt), (0, (xs (n + 2)).toInt)]) (rest := []) (k := 0) gL_law_527 ⟨Nat.le_of_ble_eq_true rfl, Nat.le_of_ble_eq_true rfl⟩ hr rfl rfl rfl rfl rfl rfl rfl rfl (Nat.le_of_ble_eq_true rfl) e8 ?_
  refine g_istore dL_law_530 (Nat.le_of_ble_eq_true rfl) rfl ?_
  refine g_aload_n dL_law_532 rfl rfl (by omega) ?_
  refine g_callV (o := 45) (ci := 8) (as := []) (rest := []) (k := 0) gL_law_533 ⟨Nat.le_of_ble_eq_true rfl, Nat.le_of_ble_eq_true rfl⟩ hr rfl rfl rfl rfl rfl rfl rfl rfl (Nat.le_of_ble_eq_true rfl) e3 ?_
  refine g_iload dL_law_536 rfl ?_
  refine g_icmp_eq (tgt := 543) dL_law_538 rfl rfl ?_
  refine g_iload dL_law_543 rfl ?_
  refine g_if_ne (tgt := 560) dL_law_545 rfl ⟨by omega, by omega⟩ (fun _ => hend) (fun q => ?_)
  refine g_aload_n dL_law_548 rfl rfl (by omega) ?_
  refine g_iconst dL_law_549 ?_
  refine g_lald (o := 74) (n := 1) dL_law_550 rfl rfl (Nat.le_of_ble_eq_true rfl) (by omega) (by omega) ?_
  refine g_iload dL_law_551 rfl ?_
  refine g_i2lW dL_law_553 ?_
  rw [h0 q]
  have hz9 := am_toInt_r (Int32.ofInt z)
  refine g_lcmp dL_law_554 ⟨by have := hz9.1; omega, by have := hz9.2; omega⟩ ⟨by have := hz9.1; omega, by have := hz9.2; omega⟩ ?_
  rw [am_cmp_s]
  exact g_if_eq (tgt := 560) dL_law_555 rfl R32.zero (fun _ => hend) (fun q => absurd rfl q)
