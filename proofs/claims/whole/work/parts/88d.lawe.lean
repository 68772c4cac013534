/-! ===== element and group: what they throw; the law's methods that catch it ===== -/
theorem tw_all {l : List Cond} (h : l.all (fun w => (goodWord w && lw_tbl.any (fun v => decide (v = w))) || FWl.any (fun v => decide (v = w))) = true) : ∀ w ∈ l, w ∈ TW ∨ w ∈ FWl := by
  intro w hw
  have h1 := List.all_eq_true.mp h w hw
  rcases Bool.or_eq_true_iff.mp h1 with h2 | h2
  · left
    simp only [Bool.and_eq_true, List.any_eq_true, decide_eq_true_eq] at h2
    obtain ⟨g, v, hv, rfl⟩ := h2
    exact List.mem_filter.mpr ⟨hv, g⟩
  · right
    simp only [List.any_eq_true, decide_eq_true_eq] at h2
    obtain ⟨v, hv, rfl⟩ := h2
    exact hv
theorem tw_ot {w : Cond} (h : w ∈ TW ∨ w ∈ FWl) : vx_ot w = true := by
  rcases h with h | h
  · have := (List.mem_filter.mp h).2
    unfold vx_ot
    rw [this]
    exact Bool.or_true _
  · unfold vx_ot
    rw [(FWl_ok w h).2]
    rfl
theorem tw_be {w : Cond} {s : State} {args : Array Value} (hts : ∀ w ∈ TW, w.before args s = true) (hx : xe_F s) (h : w ∈ TW ∨ w ∈ FWl) : w.before args s = true := by
  rcases h with h | h
  · exact hts w h
  · exact fw_move (FWl_ok w h).1 (FWl_ok w h).2 (Vm.Alike.refl s.vm) (hx w h)
set_option maxRecDepth 100000 in
theorem xe_w1 : ∀ w ∈ Cond.classLink "BeamSetter" 99 "java/lang/IndexOutOfBoundsException" :: Cond.initialized "java/lang/IndexOutOfBoundsException" :: vx_atS "BeamSetter" 103 "java/lang/IndexOutOfBoundsException" ["java/lang/RuntimeException", "java/lang/Exception"], w ∈ TW ∨ w ∈ FWl := tw_all (by decide +kernel)
set_option maxRecDepth 100000 in
theorem xe_w2 : ∀ w ∈ Cond.classLink "BeamSetter" 136 "java/util/NoSuchElementException" :: Cond.initialized "java/util/NoSuchElementException" :: (ns_atoms "BeamSetter" 140 "java/util/NoSuchElementException" 13 prog_25_method_4_code ["java/lang/RuntimeException", "java/lang/Exception"]).filter vx_no, w ∈ TW ∨ w ∈ FWl := tw_all (by decide +kernel)
set_option maxRecDepth 100000 in
theorem xe_w3 : ∀ w ∈ [Cond.classLink "BeamSetterLaw" 13 "java/lang/IndexOutOfBoundsException", Cond.classLink "BeamSetterLaw" 15 "java/util/NoSuchElementException"], w ∈ TW ∨ w ∈ FWl := tw_all (by decide +kernel)
section Thw
variable {G : AG} {M M2 : AMeth} {p : Program} {e : Env} {s : State} {m : MethodId} {args : Array Value} {below : List Frame} {meth : Method} {c : Code} {pc : Nat} {ls : List AV} {μ : Mu} {Qc : Array Value → State → Outcome → State → Prop}
theorem g_thr1 {is sa : Nat} {text : String} (hM : M.1.cls = "BeamSetter") (hl : (gL G).stackTraces = false) (ht : ∀ x ∈ c.exceptionTable.toList, False) (hx : xe G s.heap.size s) (hstr : vk_R "BeamSetter" is text sa s)
    (d0 : decode M.2.1 pc = .ok (.new 99, 3)) (d3 : decode M.2.1 (pc + 3) = .ok (.dup, 1)) (d4 : decode M.2.1 (pc + 4) = .ok (.ldc is, 2)) (d6 : decode M.2.1 (pc + 6) = .ok (.invokespecial 103, 3)) (d9 : decode M.2.1 (pc + 9) = .ok (.athrow, 1)) :
    Gv G M xe_R p e s m args below meth c (vx_MQ below Qc (xe_X G "java/lang/IndexOutOfBoundsException" μ s.heap.size) args s 1 6 (am_A G s.heap.size)) 0 0 pc ls [] μ := by
  intro H locs lsA hI
  obtain ⟨hX, hK, hP, hD, hS, hE, hls⟩ := hI
  have hts := hX.2.2.2.2.1
  have hown := hX.2.2.2.1
  rw [hM] at hown
  exact vx_throwS (names := ["java/lang/RuntimeException", "java/lang/Exception"]) hX.1 hX.2.1 hl hown (by decide +kernel) (by decide +kernel) (tw_be hts hx.1.2.2.2.2 (xe_w1 _ List.mem_cons_self)) (tw_be hts hx.1.2.2.2.2 (xe_w1 _ (List.mem_cons_of_mem _ List.mem_cons_self))) hstr (fun w hw => tw_be hts hx.1.2.2.2.2 (xe_w1 _ (List.mem_cons_of_mem _ (List.mem_cons_of_mem _ hw)))) (fun w hw => tw_ot (xe_w1 w hw)) hx.2.1 hx.2.2 hS (hls.1.trans hX.2.2.1.symm) d0 d3 d4 d6 d9 (fun x hx9 => (ht x hx9).elim)
    (Nat.le_of_ble_eq_true rfl) (Nat.le_of_ble_eq_true rfl) (Nat.le_of_ble_eq_true rfl) (Nat.le_of_ble_eq_true rfl) hX.2.2.2.2.2.2
    (fun t ha hz hk => ⟨(), trivial, ⟨rfl, hP.kept (fun k q hq => hk q.1 (hP k q hq).lt), va_K.moved ha hK⟩, ⟨Nat.le_trans hS.1 hz, fun q h1 h2 => (hk q (Nat.lt_of_lt_of_le h1 hS.1)).trans (hS.2.1 q h1 h2)⟩⟩) hS.2.2 (by decide) (by decide)
theorem g_thr2 (hM : M.1.cls = "BeamSetter") (hl : (gL G).stackTraces = false) (ht : ∀ x ∈ c.exceptionTable.toList, False) (hx : xe G s.heap.size s)
    (d0 : decode M.2.1 pc = .ok (.new 136, 3)) (d3 : decode M.2.1 (pc + 3) = .ok (.dup, 1)) (d4 : decode M.2.1 (pc + 4) = .ok (.ldc 138, 2)) (d6 : decode M.2.1 (pc + 6) = .ok (.invokespecial 140, 3)) (d9 : decode M.2.1 (pc + 9) = .ok (.athrow, 1)) :
    Gv G M xe_R p e s m args below meth c (vx_MQ below Qc (xe_X G "java/util/NoSuchElementException" μ s.heap.size) args s 1 6 (am_A G s.heap.size)) 0 0 pc ls [] μ := by
  intro H locs lsA hI
  obtain ⟨hX, hK, hP, hD, hS, hE, hls⟩ := hI
  have hts := hX.2.2.2.2.1
  have hown := hX.2.2.2.1
  rw [hM] at hown
  exact ns_throw (ix := 13) (rx := prog_25_method_4_code) (names := ["java/lang/RuntimeException", "java/lang/Exception"]) hX.1 hX.2.1 hl (by decide +kernel) (by decide +kernel) (by decide +kernel) (by decide +kernel) hown (by decide +kernel) (by decide +kernel) (tw_be hts hx.1.2.2.2.2 (xe_w2 _ List.mem_cons_self)) (tw_be hts hx.1.2.2.2.2 (xe_w2 _ (List.mem_cons_of_mem _ List.mem_cons_self))) hx.1.2.1 (fun w hw => tw_be hts hx.1.2.2.2.2 (xe_w2 _ (List.mem_cons_of_mem _ (List.mem_cons_of_mem _ hw)))) (fun w hw => tw_ot (xe_w2 w hw)) hx.2.1 hx.2.2 hS (hls.1.trans hX.2.2.1.symm) d0 d3 d4 d6 d9 (fun x hx9 => (ht x hx9).elim)
    (Nat.le_of_ble_eq_true rfl) (Nat.le_of_ble_eq_true rfl) (Nat.le_of_ble_eq_true rfl) (Nat.le_of_ble_eq_true rfl) hX.2.2.2.2.2.2
    (fun t ha hz hk => ⟨(), trivial, ⟨rfl, hP.kept (fun k q hq => hk q.1 (hP k q hq).lt), va_K.moved ha hK⟩, ⟨Nat.le_trans hS.1 hz, fun q h1 h2 => (hk q (Nat.lt_of_lt_of_le h1 hS.1)).trans (hS.2.1 q h1 h2)⟩⟩) hS.2.2 (by decide) (by decide)
end Thw
section ThE
variable {X : AX} {μ : Mu} {p9 i w : Int}
abbrev xe_N (X : AX) (sz : Nat) : Array Value → State → Outcome → State → Prop := va_Qi (fun _ (_ : Unit) => False) (fun _ _ => True) (am_A (GG X) sz)
theorem thr_el1 (hl : (gL (GG X)).stackTraces = false) (h : CJ μ p9) (hi : -2147483648 ≤ i ∧ i ≤ 2147483647) (hT : ¬ (0 ≤ i ∧ i < μ p9 7)) (sz : Nat) :
    vx_Met (gL (GG X)) M_X7_element.1 (am_ws M_X7_element) xe_R (xe_Pc (GG X) sz [(2, 0), (0, i), (0, w)] μ) (xe_N X sz) (xe_X (GG X) "java/lang/IndexOutOfBoundsException" μ sz) 1 6 (am_A (GG X) sz) := by
  refine g_met (k := 0) (Qc := xe_N X) (by decide +kernel) (Nat.le_of_ble_eq_true rfl) (am_tok_spec (by rfl)) (fun p e s m args below meth c ht hx => ?_) sz
  refine g_aload_n dX7_element_0 rfl rfl (by omega) ?_
  refine g_iload_n dX7_element_1 rfl rfl ?_
  obtain ⟨_, μ9, e1, rfl, e9⟩ := s_X7_isElement X p9 i μ μ (fun _ _ => rfl) h hi
  rw [e9] at e1
  refine g_callV (o := 0) (ci := 7) (as := [(0, i)]) (rest := []) (k := 0) fX7_element_2.g ⟨Nat.le_of_ble_eq_true rfl, Nat.le_of_ble_eq_true rfl⟩ ⟨Nat.zero_le _, Nat.zero_le _⟩ rfl rfl rfl rfl rfl rfl rfl rfl (Nat.le_of_ble_eq_true rfl) e1 ?_
  refine g_if_ne (tgt := 18) dX7_element_5 rfl (by have := am_b_r (0 ≤ i ∧ i < μ p9 7); exact ⟨by omega, by omega⟩) (fun q => absurd (am_b1 q) hT) (fun _ => ?_)
  exact g_thr1 rfl hl ht hx hx.1.1 dX7_element_8 dX7_element_11 dX7_element_12 dX7_element_14 dX7_element_17
theorem thr_el2 (hl : (gL (GG X)).stackTraces = false) (h : CJ μ p9) (hi : -2147483648 ≤ i ∧ i ≤ 2147483647) (hw : -2147483648 ≤ w ∧ w ≤ 2147483647) (hT : 0 ≤ i ∧ i < μ p9 7) (hT2 : ¬ (0 ≤ w ∧ w ≤ 7)) (sz : Nat) :
    vx_Met (gL (GG X)) M_X7_element.1 (am_ws M_X7_element) xe_R (xe_Pc (GG X) sz [(2, 0), (0, i), (0, w)] μ) (xe_N X sz) (xe_X (GG X) "java/util/NoSuchElementException" μ sz) 1 6 (am_A (GG X) sz) := by
  refine g_met (k := 0) (Qc := xe_N X) (by decide +kernel) (Nat.le_of_ble_eq_true rfl) (am_tok_spec (by rfl)) (fun p e s m args below meth c ht hx => ?_) sz
  refine g_aload_n dX7_element_0 rfl rfl (by omega) ?_
  refine g_iload_n dX7_element_1 rfl rfl ?_
  obtain ⟨_, μ9, e1, rfl, e9⟩ := s_X7_isElement X p9 i μ μ (fun _ _ => rfl) h hi
  rw [e9] at e1
  refine g_callV (o := 0) (ci := 7) (as := [(0, i)]) (rest := []) (k := 0) fX7_element_2.g ⟨Nat.le_of_ble_eq_true rfl, Nat.le_of_ble_eq_true rfl⟩ ⟨Nat.zero_le _, Nat.zero_le _⟩ rfl rfl rfl rfl rfl rfl rfl rfl (Nat.le_of_ble_eq_true rfl) e1 ?_
  refine g_if_ne (tgt := 18) dX7_element_5 rfl (by have := am_b_r (0 ≤ i ∧ i < μ p9 7); exact ⟨by omega, by omega⟩) (fun _ => ?_) (fun q => absurd hT (am_b0 q))
  refine g_iload_n dX7_element_18 rfl rfl ?_
  refine g_tableOut (tgt := 162) dX7_element_19 ⟨hw.1, hw.2⟩ (by omega) rfl ?_
  exact g_thr2 rfl hl ht hx dX7_element_162 dX7_element_165 dX7_element_166 dX7_element_168 dX7_element_171
theorem thr_gr1 (hl : (gL (GG X)).stackTraces = false) (h : CJ μ p9) (hi : -2147483648 ≤ i ∧ i ≤ 2147483647) (hT : ¬ (0 ≤ i ∧ i < μ p9 14)) (sz : Nat) :
    vx_Met (gL (GG X)) M_X7_group.1 (am_ws M_X7_group) xe_R (xe_Pc (GG X) sz [(2, 0), (0, i), (0, w)] μ) (xe_N X sz) (xe_X (GG X) "java/lang/IndexOutOfBoundsException" μ sz) 1 6 (am_A (GG X) sz) := by
  refine g_met (k := 0) (Qc := xe_N X) (by decide +kernel) (Nat.le_of_ble_eq_true rfl) (am_tok_spec (by rfl)) (fun p e s m args below meth c ht hx => ?_) sz
  refine g_aload_n dX7_group_0 rfl rfl (by omega) ?_
  refine g_iload_n dX7_group_1 rfl rfl ?_
  obtain ⟨_, μ9, e1, rfl, e9⟩ := s_X7_isGroup X p9 i μ μ (fun _ _ => rfl) h hi
  rw [e9] at e1
  refine g_callV (o := 0) (ci := 7) (as := [(0, i)]) (rest := []) (k := 0) fX7_group_2.g ⟨Nat.le_of_ble_eq_true rfl, Nat.le_of_ble_eq_true rfl⟩ ⟨Nat.zero_le _, Nat.zero_le _⟩ rfl rfl rfl rfl rfl rfl rfl rfl (Nat.le_of_ble_eq_true rfl) e1 ?_
  refine g_if_ne (tgt := 18) dX7_group_5 rfl (by have := am_b_r (0 ≤ i ∧ i < μ p9 14); exact ⟨by omega, by omega⟩) (fun q => absurd (am_b1 q) hT) (fun _ => ?_)
  exact g_thr1 rfl hl ht hx hx.1.2.2.1 dX7_group_8 dX7_group_11 dX7_group_12 dX7_group_14 dX7_group_17
theorem thr_gr2 (hl : (gL (GG X)).stackTraces = false) (h : CJ μ p9) (hi : -2147483648 ≤ i ∧ i ≤ 2147483647) (hw : -2147483648 ≤ w ∧ w ≤ 2147483647) (hT : 0 ≤ i ∧ i < μ p9 14) (hT2 : ¬ (0 ≤ w ∧ w ≤ 6)) :
    ∃ μ1, Fr 6 14 1 0 μ1 μ ∧ ∀ sz : Nat, vx_Met (gL (GG X)) M_X7_group.1 (am_ws M_X7_group) xe_R (xe_Pc (GG X) sz [(2, 0), (0, i), (0, w)] μ) (xe_N X sz) (xe_X (GG X) "java/util/NoSuchElementException" μ1 sz) 1 6 (am_A (GG X) sz) := by
  obtain ⟨_, μ1, e2, rfl, F, -⟩ := s_X7_load X p9 i μ μ (fun _ _ => rfl) h hT
  refine ⟨μ1, F, fun sz => ?_⟩
  refine g_met (k := 0) (Qc := xe_N X) (by decide +kernel) (Nat.le_of_ble_eq_true rfl) (am_tok_spec (by rfl)) (fun p e s m args below meth c ht hx => ?_) sz
  refine g_aload_n dX7_group_0 rfl rfl (by omega) ?_
  refine g_iload_n dX7_group_1 rfl rfl ?_
  obtain ⟨_, μ9, e1, rfl, e9⟩ := s_X7_isGroup X p9 i μ μ (fun _ _ => rfl) h hi
  rw [e9] at e1
  refine g_callV (o := 0) (ci := 7) (as := [(0, i)]) (rest := []) (k := 0) fX7_group_2.g ⟨Nat.le_of_ble_eq_true rfl, Nat.le_of_ble_eq_true rfl⟩ ⟨Nat.zero_le _, Nat.zero_le _⟩ rfl rfl rfl rfl rfl rfl rfl rfl (Nat.le_of_ble_eq_true rfl) e1 ?_
  refine g_if_ne (tgt := 18) dX7_group_5 rfl (by have := am_b_r (0 ≤ i ∧ i < μ p9 14); exact ⟨by omega, by omega⟩) (fun _ => ?_) (fun q => absurd hT (am_b0 q))
  refine g_aload_n dX7_group_18 rfl rfl (by omega) ?_
  refine g_iload_n dX7_group_19 rfl rfl ?_
  refine g_callV (o := 0) (ci := 7) (as := [(0, i)]) (rest := []) (k := 0) fX7_group_20.g ⟨Nat.le_of_ble_eq_true rfl, Nat.le_of_ble_eq_true rfl⟩ ⟨Nat.zero_le _, Nat.zero_le _⟩ rfl rfl rfl rfl rfl rfl rfl rfl (Nat.le_of_ble_eq_true rfl) e2 ?_
  refine g_iload_n dX7_group_23 rfl rfl ?_
  refine g_tableOut (tgt := 134) dX7_group_24 ⟨hw.1, hw.2⟩ (by omega) rfl ?_
  exact g_thr2 rfl hl ht hx dX7_group_134 dX7_group_137 dX7_group_138 dX7_group_140 dX7_group_143
end ThE
