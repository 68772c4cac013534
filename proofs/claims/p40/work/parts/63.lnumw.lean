set_option maxRecDepth 100000 in
set_option maxHeartbeats 4000000 in
theorem s_L_cell (G : AG) (k : Int) (μ : Mu) (hk4 : (gK G 14 : Int) ≤ 260) (hk : 0 ≤ k ∧ k ≤ 10000) : Wp G M_L_cell 0 [(3, 13), (0, k)] [] μ (pP 0 (sc G k) μ) := by
  refine w_iload_n dL_cell_0 rfl rfl ?_
  refine w_aload_nS dL_cell_1 rfl rfl ?_
  refine w_slen dL_cell_2 ?_
  refine w_icmp_ge (tgt := 12) dL_cell_3 rfl (R32.in (by omega)) (R32.in (by omega)) (fun c3 => ?_) (fun c3 => ?_)
  · skip
    refine w_iconst dL_cell_12 ?_
    exact w_iretP dL_cell_13 rfl (by unfold sc; first | rw [if_pos (by omega)] | rw [if_neg (by omega)])
  · skip
    refine w_aload_nS dL_cell_6 rfl rfl ?_
    refine w_iload_n dL_cell_7 rfl rfl ?_
    refine w_sld dL_cell_8 (by omega) ?_
    refine w_goto (tgt := 13) dL_cell_9 rfl ?_
    exact w_iretP dL_cell_13 rfl (by unfold sc; first | rw [if_pos (by omega)] | rw [if_neg (by omega)])

set_option maxRecDepth 100000 in
set_option maxHeartbeats 4000000 in
theorem s_L_in (G : AG) (x : Int) (m : Int) (μ : Mu) (hm : 1 ≤ m ∧ m ≤ 100) : Wp G M_L_in 0 [(0, x), (0, m)] [] μ (pP 0 (inn x m) μ) := by
  have h9 := iand_nn x
  refine w_iload_n dL_in_0 rfl rfl ?_
  refine w_ldc (n := 2147483647) dL_in_1 k_790 (by decide) ?_
  refine w_iand dL_in_3 ?_
  refine w_iload_n dL_in_4 rfl rfl ?_
  refine w_iremP dL_in_5 (by omega) ?_
  exact w_iretP dL_in_6 rfl (by rfl)

set_option maxRecDepth 100000 in
set_option maxHeartbeats 4000000 in
theorem s_L_kind (G : AG) (i : Int) (μ : Mu) (hk4 : (gK G 14 : Int) ≤ 260) (hi : 0 ≤ i ∧ i ≤ 1000) : Wp G M_L_kind 0 [(3, 13), (0, i)] [] μ (pP 0 (lkd G i) μ) := by
  refine w_iconst dL_kind_0 ?_
  refine w_aload_nS dL_kind_1 rfl rfl ?_
  refine w_iconst dL_kind_2 ?_
  refine w_iload_n dL_kind_3 rfl rfl ?_
  refine w_imul dL_kind_4 ?_
  refine w_callSP (as := [(3, 13), (0, 2 * i)]) (rest := [(0, 1)]) (k := 0) fL_kind_5 rfl rfl rfl rfl rfl (Nat.le_of_ble_eq_true rfl) (s_L_cell G (2 * i) μ (by first | omega | assumption) (by first | omega | assumption)) ?_
  have hf1 := sc_r G (2 * i)
  refine w_iconst dL_kind_8 ?_
  refine w_callSP (as := [(0, sc G (2 * i)), (0, 3)]) (rest := [(0, 1)]) (k := 0) fL_kind_9 rfl rfl rfl rfl rfl (Nat.le_of_ble_eq_true rfl) (s_L_in G (sc G (2 * i)) 3 μ (by first | omega | assumption)) ?_
  have hf2 := inn_rr (sc G (2 * i)) 3 (by omega)
  refine w_iadd dL_kind_12 ?_
  exact w_iretP dL_kind_13 rfl (by rfl)

set_option maxRecDepth 100000 in
set_option maxHeartbeats 4000000 in
theorem s_L_position (G : AG) (i : Int) (μ : Mu) (hk4 : (gK G 14 : Int) ≤ 260) (hi : 0 ≤ i ∧ i ≤ 1000) : Wp G M_L_position 0 [(3, 13), (0, i)] [] μ (pP 0 (lpo G i) μ) := by
  refine w_aload_nS dL_position_0 rfl rfl ?_
  refine w_iconst dL_position_1 ?_
  refine w_iload_n dL_position_2 rfl rfl ?_
  refine w_imul dL_position_3 ?_
  refine w_iconst dL_position_4 ?_
  refine w_iadd dL_position_5 ?_
  refine w_callSP (as := [(3, 13), (0, (2 * i) + 1)]) (rest := []) (k := 0) fL_position_6 rfl rfl rfl rfl rfl (Nat.le_of_ble_eq_true rfl) (s_L_cell G ((2 * i) + 1) μ (by first | omega | assumption) (by first | omega | assumption)) ?_
  have hf1 := sc_r G ((2 * i) + 1)
  refine w_aload_nS dL_position_9 rfl rfl ?_
  refine w_iconst dL_position_10 ?_
  refine w_iload_n dL_position_11 rfl rfl ?_
  refine w_imul dL_position_12 ?_
  refine w_callSP (as := [(3, 13), (0, 2 * i)]) (rest := [(0, sc G ((2 * i) + 1))]) (k := 0) fL_position_13 rfl rfl rfl rfl rfl (Nat.le_of_ble_eq_true rfl) (s_L_cell G (2 * i) μ (by first | omega | assumption) (by first | omega | assumption)) ?_
  have hf2 := sc_r G (2 * i)
  refine w_bipush dL_position_16 (by decide) ?_
  refine w_idiv dL_position_18 (R32.in (by omega)) (R32.in (by decide)) (by omega) ?_
  refine w_iconst dL_position_19 ?_
  refine w_callSP (as := [(0, Int.tdiv (sc G (2 * i)) 8), (0, 4)]) (rest := [(0, sc G ((2 * i) + 1))]) (k := 0) fL_position_20 rfl rfl rfl rfl rfl (Nat.le_of_ble_eq_true rfl) (s_L_in G (Int.tdiv (sc G (2 * i)) 8) 4 μ (by first | omega | assumption)) ?_
  have hf3 := inn_rr (Int.tdiv (sc G (2 * i)) 8) 4 (by omega)
  refine w_if_ne (tgt := 31) dL_position_23 rfl (R32.in (by omega)) (fun c23 => ?_) (fun c23 => ?_)
  · skip
    refine w_bipush dL_position_31 (by decide) ?_
    refine w_callSP (as := [(0, sc G ((2 * i) + 1)), (0, 13)]) (rest := []) (k := 0) fL_position_33 rfl rfl rfl rfl rfl (Nat.le_of_ble_eq_true rfl) (s_L_in G (sc G ((2 * i) + 1)) 13 μ (by first | omega | assumption)) ?_
    have hf4 := inn_rr (sc G ((2 * i) + 1)) 13 (by omega)
    refine w_bipush dL_position_36 (by decide) ?_
    refine w_isub dL_position_38 ?_
    exact w_iretP dL_position_39 rfl (by unfold lpo; first | rw [if_pos (by assumption)] | rw [if_neg (by assumption)])
  · skip
    refine w_bipush dL_position_26 (by decide) ?_
    refine w_goto (tgt := 33) dL_position_28 rfl ?_
    refine w_callSP (as := [(0, sc G ((2 * i) + 1)), (0, 25)]) (rest := []) (k := 0) fL_position_33 rfl rfl rfl rfl rfl (Nat.le_of_ble_eq_true rfl) (s_L_in G (sc G ((2 * i) + 1)) 25 μ (by first | omega | assumption)) ?_
    have hf5 := inn_rr (sc G ((2 * i) + 1)) 25 (by omega)
    refine w_bipush dL_position_36 (by decide) ?_
    refine w_isub dL_position_38 ?_
    exact w_iretP dL_position_39 rfl (by unfold lpo; first | rw [if_pos (by assumption)] | rw [if_neg (by assumption)])

set_option maxRecDepth 100000 in
set_option maxHeartbeats 4000000 in
theorem s_L_place (G : AG) (i : Int) (μ : Mu) (hk4 : (gK G 14 : Int) ≤ 260) (hi : 0 ≤ i ∧ i ≤ 1000) : Wp G M_L_place 0 [(3, 13), (0, i)] [] μ (pP 0 (lpl G i) μ) := by
  refine w_bipush dL_place_0 (by decide) ?_
  refine w_aload_nS dL_place_2 rfl rfl ?_
  refine w_iload_n dL_place_3 rfl rfl ?_
  refine w_callSP (as := [(3, 13), (0, i)]) (rest := [(0, 12)]) (k := 0) fL_place_4 rfl rfl rfl rfl rfl (Nat.le_of_ble_eq_true rfl) (s_L_position G i μ (by first | omega | assumption) (by first | omega | assumption)) ?_
  have hf1 := lpo_r G i
  refine w_min fL_place_7 (R32.in (by decide)) (R32.in (by omega)) (Nat.le_of_ble_eq_true rfl) ?_
  exact w_iretP dL_place_10 rfl (by rfl)

set_option maxRecDepth 100000 in
set_option maxHeartbeats 4000000 in
theorem s_L_knee (G : AG) (μ : Mu) (hk4 : (gK G 14 : Int) ≤ 260) : Wp G M_L_knee 0 [(3, 13)] [] μ (pP 0 (lkn G) μ) := by
  refine w_iconst dL_knee_0 ?_
  refine w_aload_nS dL_knee_1 rfl rfl ?_
  refine w_bipush dL_knee_2 (by decide) ?_
  refine w_callSP (as := [(3, 13), (0, 21)]) (rest := [(0, 4)]) (k := 0) fL_knee_4 rfl rfl rfl rfl rfl (Nat.le_of_ble_eq_true rfl) (s_L_cell G 21 μ (by first | omega | assumption) (by first | omega | assumption)) ?_
  have hf1 := sc_r G 21
  refine w_bipush dL_knee_7 (by decide) ?_
  refine w_callSP (as := [(0, sc G 21), (0, 21)]) (rest := [(0, 4)]) (k := 0) fL_knee_9 rfl rfl rfl rfl rfl (Nat.le_of_ble_eq_true rfl) (s_L_in G (sc G 21) 21 μ (by first | omega | assumption)) ?_
  have hf2 := inn_rr (sc G 21) 21 (by omega)
  refine w_iadd dL_knee_12 ?_
  exact w_iretP dL_knee_13 rfl (by rfl)

set_option maxRecDepth 100000 in
set_option maxHeartbeats 4000000 in
theorem s_L_wide (G : AG) (k : Int) (μ : Mu) (hk4 : (gK G 14 : Int) ≤ 260) (hk : 0 ≤ k ∧ k ≤ 6) : Wp G M_L_wide 0 [(3, 13), (0, k)] [] μ (pP 0 (lwd G k) μ) := by
  refine w_iconst dL_wide_0 ?_
  refine w_aload_nS dL_wide_1 rfl rfl ?_
  refine w_bipush dL_wide_2 (by decide) ?_
  refine w_callSP (as := [(3, 13), (0, 22)]) (rest := [(0, 4)]) (k := 0) fL_wide_4 rfl rfl rfl rfl rfl (Nat.le_of_ble_eq_true rfl) (s_L_cell G 22 μ (by first | omega | assumption) (by first | omega | assumption)) ?_
  have hf1 := sc_r G 22
  refine w_iconst dL_wide_7 ?_
  refine w_iload_n dL_wide_8 rfl rfl ?_
  refine w_imul dL_wide_9 ?_
  refine w_ishr dL_wide_10 ?_
  refine w_bipush dL_wide_11 (by decide) ?_
  refine w_callSP (as := [(0, am_ishr (sc G 22) (5 * k)), (0, 31)]) (rest := [(0, 4)]) (k := 0) fL_wide_13 rfl rfl rfl rfl rfl (Nat.le_of_ble_eq_true rfl) (s_L_in G (am_ishr (sc G 22) (5 * k)) 31 μ (by first | omega | assumption)) ?_
  have hf2 := inn_rr (am_ishr (sc G 22) (5 * k)) 31 (by omega)
  refine w_iadd dL_wide_16 ?_
  exact w_iretP dL_wide_17 rfl (by rfl)

set_option maxRecDepth 100000 in
set_option maxHeartbeats 4000000 in
theorem s_L_many (G : AG) (μ : Mu) (hk4 : (gK G 14 : Int) ≤ 260) : Wp G M_L_many 0 [(3, 13), (9, 0), (9, 0)] [] μ (pP 0 (lmy G) μ) := by
  refine w_iconst dL_many_0 ?_
  refine w_istore_n (ls' := [(3, 13), (0, 0), (9, 0)]) dL_many_1 rfl (Nat.le_of_ble_eq_true rfl) rfl rfl ?_
  refine w_iconst dL_many_2 ?_
  refine w_istore_n (ls' := [(3, 13), (0, 0), (0, 0)]) dL_many_3 rfl (Nat.le_of_ble_eq_true rfl) rfl rfl ?_
  have hL4 : ∀ (n4 : Nat) (t : Int) (n : Int), (8 - n).toNat = n4 → (0 ≤ n ∧ n ≤ 8) → (t = ltm G n) → (0 ≤ t ∧ t ≤ 16) → (lmy G = lmyF G (8 - n).toNat n) → Wp G M_L_many 4 [(3, 13), (0, t), (0, n)] [] μ (pP 0 (lmy G) μ) := by
    intro n4
    induction n4 using Nat.strongRecOn with
    | ind n4 ih4 =>
      intro t n hn4 hn ht ht2 hm
      have hl := lng_e (lkd_r G n)
      have hl2 := lng_r (lkd G n)
      refine w_iload_n dL_many_4 rfl rfl ?_
      refine w_bipush dL_many_5 (by decide) ?_
      refine w_icmp_ge (tgt := 59) dL_many_7 rfl (R32.in (by omega)) (R32.in (by decide)) (fun c7 => ?_) (fun c7 => ?_)
      · skip
        refine w_iload_n dL_many_59 rfl rfl ?_
        exact w_iretP dL_many_60 rfl (by rw [hm]; exact (lmyF_0 (by omega)).symm)
      · skip
        refine w_iload_n dL_many_10 rfl rfl ?_
        refine w_iconst dL_many_11 ?_
        refine w_aload_nS dL_many_12 rfl rfl ?_
        refine w_bipush dL_many_13 (by decide) ?_
        refine w_callSP (as := [(3, 13), (0, 20)]) (rest := [(0, 2), (0, n)]) (k := 0) fL_many_15 rfl rfl rfl rfl rfl (Nat.le_of_ble_eq_true rfl) (s_L_cell G 20 μ (by first | omega | assumption) (by first | omega | assumption)) ?_
        have hf1 := sc_r G 20
        refine w_bipush dL_many_18 (by decide) ?_
        refine w_callSP (as := [(0, sc G 20), (0, 7)]) (rest := [(0, 2), (0, n)]) (k := 0) fL_many_20 rfl rfl rfl rfl rfl (Nat.le_of_ble_eq_true rfl) (s_L_in G (sc G 20) 7 μ (by first | omega | assumption)) ?_
        have hf2 := inn_rr (sc G 20) 7 (by omega)
        refine w_iadd dL_many_23 ?_
        refine w_icmp_ge (tgt := 59) dL_many_24 rfl (R32.in (by omega)) (R32.in (by omega)) (fun c24 => ?_) (fun c24 => ?_)
        · skip
          refine w_iload_n dL_many_59 rfl rfl ?_
          exact w_iretP dL_many_60 rfl (by rw [hm]; exact (lmyF_0 (by omega)).symm)
        · skip
          refine w_iload_n dL_many_27 rfl rfl ?_
          refine w_bipush dL_many_28 (by decide) ?_
          refine w_aload_nS dL_many_30 rfl rfl ?_
          refine w_iload_n dL_many_31 rfl rfl ?_
          refine w_callSP (as := [(3, 13), (0, n)]) (rest := [(0, 8), (0, t)]) (k := 0) fL_many_32 rfl rfl rfl rfl rfl (Nat.le_of_ble_eq_true rfl) (s_L_kind G n μ (by first | omega | assumption) (by first | omega | assumption)) ?_
          have hf3 := lkd_r G n
          refine w_ishr dL_many_35 ?_
          refine w_iadd dL_many_36 ?_
          refine w_bipush dL_many_37 (by decide) ?_
          refine w_icmp_gt (tgt := 59) dL_many_39 rfl (R32.in (by omega)) (R32.in (by decide)) (fun c39 => ?_) (fun c39 => ?_)
          · skip
            refine w_iload_n dL_many_59 rfl rfl ?_
            exact w_iretP dL_many_60 rfl (by rw [hm]; exact (lmyF_0 (by omega)).symm)
          · skip
            refine w_iload_n dL_many_42 rfl rfl ?_
            refine w_bipush dL_many_43 (by decide) ?_
            refine w_aload_nS dL_many_45 rfl rfl ?_
            refine w_iload_n dL_many_46 rfl rfl ?_
            refine w_callSP (as := [(3, 13), (0, n)]) (rest := [(0, 8), (0, t)]) (k := 0) fL_many_47 rfl rfl rfl rfl rfl (Nat.le_of_ble_eq_true rfl) (s_L_kind G n μ (by first | omega | assumption) (by first | omega | assumption)) ?_
            have hf4 := lkd_r G n
            refine w_ishr dL_many_50 ?_
            refine w_iadd dL_many_51 ?_
            refine w_istore_n (ls' := [(3, 13), (0, t + (am_ishr 8 (lkd G n))), (0, n)]) dL_many_52 rfl (Nat.le_of_ble_eq_true rfl) rfl rfl ?_
            refine w_iinc (ls' := [(3, 13), (0, t + (am_ishr 8 (lkd G n))), (0, n + 1)]) dL_many_53 rfl (Nat.le_of_ble_eq_true rfl) rfl rfl ?_
            refine w_goto (tgt := 4) dL_many_56 rfl ?_
            exact ih4 _ (by omega) (t + (am_ishr 8 (lkd G n))) (n + 1) rfl (by omega) (by rw [ltm_s hn.1]; have := lng_e (lkd_r G n); omega) (by have := lng_e (lkd_r G n); have := lng_r (lkd G n); omega) (by rw [hm, show (8 - n).toNat = (8 - (n + 1)).toNat + 1 by omega]; exact lmyF_1 ⟨by omega, by omega, by have := lng_e (lkd_r G n); omega⟩)
  exact hL4 _ 0 0 rfl (by decide) rfl (by decide) rfl
