set_option maxRecDepth 100000 in
set_option maxHeartbeats 4000000 in
theorem s_J9_floorDiv_7cf53 (G : AG) (a : Int) (b : Int) (μ : Mu) (ha : -2147483647 ≤ a ∧ a ≤ 2147483647) (hb : 0 < b ∧ b ≤ 2147483647) : Wp G M_J9_floorDiv_7cf53 0 [(0, a), (0, b), (9, 0)] [] μ (pP 0 (a / b) μ) := by
  have hx := am_xor_neg (a := a) ⟨by omega, by omega⟩ (show 0 ≤ b ∧ b ≤ 2147483647 by omega)
  have hx2 := am_ixor_r a b
  have hx3 := fdv (a := a) hb.1
  have hx4 := am_tdiv_r ha hb
  refine w_iload_n dJ9_floorDiv_7cf53_0 rfl rfl ?_
  refine w_iload_n dJ9_floorDiv_7cf53_1 rfl rfl ?_
  refine w_idiv dJ9_floorDiv_7cf53_2 (R32.in (by omega)) (R32.in (by omega)) (by omega) ?_
  refine w_istore_n (ls' := [(0, a), (0, b), (0, Int.tdiv a b)]) dJ9_floorDiv_7cf53_3 rfl (Nat.le_of_ble_eq_true rfl) rfl rfl ?_
  refine w_iload_n dJ9_floorDiv_7cf53_4 rfl rfl ?_
  refine w_iload_n dJ9_floorDiv_7cf53_5 rfl rfl ?_
  refine w_ixor dJ9_floorDiv_7cf53_6 ?_
  obtain ⟨hx2a, hx2b⟩ := hx2
  refine w_if_ge (tgt := 21) dJ9_floorDiv_7cf53_7 rfl (R32.in (by omega)) (fun c7 => ?_) (fun c7 => ?_)
  · skip
    refine w_iload_n dJ9_floorDiv_7cf53_21 rfl rfl ?_
    exact w_iretP dJ9_floorDiv_7cf53_22 rfl (by omega)
  · skip
    refine w_iload_n dJ9_floorDiv_7cf53_10 rfl rfl ?_
    refine w_iload_n dJ9_floorDiv_7cf53_11 rfl rfl ?_
    refine w_imul dJ9_floorDiv_7cf53_12 ?_
    refine w_iload_n dJ9_floorDiv_7cf53_13 rfl rfl ?_
    refine w_icmp_eq (tgt := 21) dJ9_floorDiv_7cf53_14 rfl (R32.in (by omega)) (R32.in (by omega)) (fun c14 => ?_) (fun c14 => ?_)
    · skip
      refine w_iload_n dJ9_floorDiv_7cf53_21 rfl rfl ?_
      exact w_iretP dJ9_floorDiv_7cf53_22 rfl (by omega)
    · skip
      refine w_iload_n dJ9_floorDiv_7cf53_17 rfl rfl ?_
      refine w_iconst dJ9_floorDiv_7cf53_18 ?_
      refine w_isub dJ9_floorDiv_7cf53_19 ?_
      exact w_iretP dJ9_floorDiv_7cf53_20 rfl (by omega)

set_option maxRecDepth 100000 in
set_option maxHeartbeats 4000000 in
theorem s_J9_floorMod_7cf53 (G : AG) (a : Int) (b : Int) (μ : Mu) (ha : -2147483647 ≤ a ∧ a ≤ 2147483647) (hb : 0 < b ∧ b ≤ 2147483647) : Wp G M_J9_floorMod_7cf53 0 [(0, a), (0, b), (9, 0)] [] μ (pP 0 (a % b) μ) := by
  have hx3 := fmd (a := a) hb.1
  refine w_iload_n dJ9_floorMod_7cf53_0 rfl rfl ?_
  refine w_iload_n dJ9_floorMod_7cf53_1 rfl rfl ?_
  refine w_irem dJ9_floorMod_7cf53_2 (R32.in (by omega)) (R32.in (by omega)) (by omega) ?_
  refine w_istore_n (ls' := [(0, a), (0, b), (0, Int.tmod a b)]) dJ9_floorMod_7cf53_3 rfl (Nat.le_of_ble_eq_true rfl) rfl rfl ?_
  have hx := am_xor_neg (a := a) ⟨by omega, by omega⟩ (show 0 ≤ b ∧ b ≤ 2147483647 by omega)
  obtain ⟨hx2a, hx2b⟩ := am_ixor_r a b
  refine w_iload_n dJ9_floorMod_7cf53_4 rfl rfl ?_
  refine w_iload_n dJ9_floorMod_7cf53_5 rfl rfl ?_
  refine w_ixor dJ9_floorMod_7cf53_6 ?_
  refine w_if_ge (tgt := 18) dJ9_floorMod_7cf53_7 rfl (R32.in (by omega)) (fun c7 => ?_) (fun c7 => ?_)
  · skip
    refine w_iload_n dJ9_floorMod_7cf53_18 rfl rfl ?_
    exact w_iretP dJ9_floorMod_7cf53_19 rfl (by omega)
  · skip
    refine w_iload_n dJ9_floorMod_7cf53_10 rfl rfl ?_
    refine w_if_eq (tgt := 18) dJ9_floorMod_7cf53_11 rfl (R32.in (by omega)) (fun c11 => ?_) (fun c11 => ?_)
    · skip
      refine w_iload_n dJ9_floorMod_7cf53_18 rfl rfl ?_
      exact w_iretP dJ9_floorMod_7cf53_19 rfl (by omega)
    · skip
      refine w_iload_n dJ9_floorMod_7cf53_14 rfl rfl ?_
      refine w_iload_n dJ9_floorMod_7cf53_15 rfl rfl ?_
      refine w_iadd dJ9_floorMod_7cf53_16 ?_
      exact w_iretP dJ9_floorMod_7cf53_17 rfl (by omega)
