





set_option maxRecDepth 100000 in
set_option maxHeartbeats 4000000 in
theorem s_X7_alone (X : AX) (p : Int) (w : Int) (μ : Mu) (hC : CJ μ p) (hw : -2147483648 ≤ w ∧ w ≤ 2147483647) : Wp (GG X) M_X7_alone 0 [(2, 0), (0, w), (9, 0), (9, 0), (9, 0)] [] μ (pP 0 (if 0 ≤ w ∧ w ≤ 1 then (if w = 0 then (alnI (bmz μ p) (μ (p + 8)) (μ p 7)).1 else (alnI (bmz μ p) (μ (p + 8)) (μ p 7)).2) else -1) μ) := by
  have hI := hC.i
  have hG := hC.pg
  have hp := hI.at
  have hz := hI.sz
  have hgr := hG.gr
  have hkn := hC.kn
  refine w_iload_n dX7_alone_0 rfl rfl ?_
  refine w_if_lt (tgt := 9) dX7_alone_1 rfl (R32.in (by omega)) (fun c1 => ?_) (fun c1 => ?_)
  · skip
    refine w_iconst dX7_alone_9 ?_
    exact w_iretP dX7_alone_10 rfl (by exact ifF (by omega) (rfl))
  · skip
    refine w_iload_n dX7_alone_4 rfl rfl ?_
    refine w_iconst dX7_alone_5 ?_
    refine w_icmp_le (tgt := 11) dX7_alone_6 rfl (R32.in (by omega)) (R32.in (by decide)) (fun c6 => ?_) (fun c6 => ?_)
    · skip
      refine w_iconst dX7_alone_11 ?_
      refine w_istore_n (ls' := [(2, 0), (0, w), (0, 0), (9, 0), (9, 0)]) dX7_alone_12 rfl (Nat.le_of_ble_eq_true rfl) rfl rfl ?_
      refine w_bipush dX7_alone_13 (by decide) ?_
      refine w_istore_n (ls' := [(2, 0), (0, w), (0, 0), (0, -2), (9, 0)]) dX7_alone_15 rfl (Nat.le_of_ble_eq_true rfl) rfl rfl ?_
      refine w_iconst dX7_alone_16 ?_
      refine w_istore (ls' := [(2, 0), (0, w), (0, 0), (0, -2), (0, 0)]) dX7_alone_17 (Nat.le_of_ble_eq_true rfl) rfl rfl ?_
      have hL19 : ∀ (n19 : Nat) (m : Int) (f : Int) (i : Int), (μ p 7 - i).toNat = n19 → (0 ≤ i ∧ i ≤ μ p 7) → (0 ≤ m ∧ m ≤ i) → (m = (alnI (bmz μ p) (μ (p + 8)) i).1) → (f = (alnI (bmz μ p) (μ (p + 8)) i).2) → Wp (GG X) M_X7_alone 19 [(2, 0), (0, w), (0, m), (0, f), (0, i)] [] μ (pP 0 (if 0 ≤ w ∧ w ≤ 1 then (if w = 0 then (alnI (bmz μ p) (μ (p + 8)) (μ p 7)).1 else (alnI (bmz μ p) (μ (p + 8)) (μ p 7)).2) else -1) μ) := by
        intro n19
        induction n19 using Nat.strongRecOn with
        | ind n19 ih19 =>
          intro m f i hn19 hi0 hmr hm hf
          refine w_iload dX7_alone_19 rfl ?_
          refine w_aload_n dX7_alone_21 rfl rfl (by first | decide | omega) ?_
          refine w_getDx (o := 0) (f := 7) (x := p) fX7_alone_22 rfl rfl rfl rfl hC.p7 ?_
          refine w_getIx (o := (p).toNat) (f := 7) (x := μ p 7) fX7_alone_25 (by omega) (pSh0 rfl rfl (by assumption)) (Nat.le_of_ble_eq_true rfl) rfl rfl ?_
          have hr1 := PI.sz hC.i
          have hr2 := PI.sz hI
          refine w_icmp_ge (tgt := 73) dX7_alone_28 rfl (R32.in (by omega)) (R32.in (by omega)) (fun c28 => ?_) (fun c28 => ?_)
          · skip
            refine w_iload_n dX7_alone_73 rfl rfl ?_
            refine w_if_ne (tgt := 81) dX7_alone_74 rfl (R32.in (by omega)) (fun c74 => ?_) (fun c74 => ?_)
            · skip
              refine w_iload_n dX7_alone_81 rfl rfl ?_
              exact w_iretP dX7_alone_82 rfl (by exact ifT (by omega) (by have he : i = μ p 7 := (by omega); subst he; omega))
            · skip
              refine w_iload_n dX7_alone_77 rfl rfl ?_
              refine w_goto (tgt := 82) dX7_alone_78 rfl ?_
              exact w_iretP dX7_alone_82 rfl (by exact ifT (by omega) (by have he : i = μ p 7 := (by omega); subst he; omega))
          · skip
            refine w_aload_n dX7_alone_31 rfl rfl (by first | decide | omega) ?_
            refine w_getDx (o := 0) (f := 7) (x := p) fX7_alone_32 rfl rfl rfl rfl hC.p7 ?_
            refine w_iload dX7_alone_35 rfl ?_
            refine w_callVP (o := (p).toNat) (ci := 2) (as := [(0, i)]) (rest := []) (k := 0) fX7_alone_37 rfl (by omega) (pSh0 rfl rfl (by assumption)) rfl rfl rfl rfl rfl (Nat.le_of_ble_eq_true rfl) (s_X2_beamsOf X p i μ μ (fun o h1 => rfl) hI (by first | omega | assumption)) ?_
            have hf3 := bmz_r μ p i
            refine w_if_le (tgt := 67) dX7_alone_40 rfl (R32.in (by omega)) (fun c40 => ?_) (fun c40 => ?_)
            · skip
              refine w_iinc (ls' := [(2, 0), (0, w), (0, m), (0, f), (0, i + 1)]) dX7_alone_67 rfl (Nat.le_of_ble_eq_true rfl) rfl rfl ?_
              refine w_goto (tgt := 19) dX7_alone_70 rfl ?_
              exact ih19 _ (by omega) m f (i + 1) rfl (by first | omega | assumption) (by first | omega | assumption) (by rw [alnI_s hi0.1]; first | (rw [if_pos (by omega), ← hm]) | (rw [if_neg (by omega)]; exact hm)) (by rw [alnI_s hi0.1]; first | (rw [if_pos (by omega), ← hm, ← hf]; omega) | (rw [if_neg (by omega)]; exact hf))
            · skip
              refine w_aload_n dX7_alone_43 rfl rfl (by first | decide | omega) ?_
              refine w_iload dX7_alone_44 rfl ?_
              refine w_callVP (o := 0) (ci := 7) (as := [(0, i)]) (rest := []) (k := 0) fX7_alone_46 rfl rfl rfl rfl rfl rfl rfl rfl (Nat.le_of_ble_eq_true rfl) (s_X7_isGrouped X p i μ μ (fun o h1 => rfl) hC (by first | omega | assumption)) ?_
              have hf4 := am_b_r (0 ≤ i ∧ i < μ p 7 ∧ 0 ≤ μ (p + 8) i)
              refine w_if_ne (tgt := 67) dX7_alone_49 rfl (R32.in (by have := am_b_r ((0 ≤ i ∧ i < μ p 7 ∧ 0 ≤ μ (p + 8) i)); omega)) (fun c49 => ?_) (fun c49 => ?_)
              · skip
                replace c49 := am_b1 c49
                refine w_iinc (ls' := [(2, 0), (0, w), (0, m), (0, f), (0, i + 1)]) dX7_alone_67 rfl (Nat.le_of_ble_eq_true rfl) rfl rfl ?_
                refine w_goto (tgt := 19) dX7_alone_70 rfl ?_
                exact ih19 _ (by omega) m f (i + 1) rfl (by first | omega | assumption) (by first | omega | assumption) (by rw [alnI_s hi0.1]; first | (rw [if_pos (by omega), ← hm]) | (rw [if_neg (by omega)]; exact hm)) (by rw [alnI_s hi0.1]; first | (rw [if_pos (by omega), ← hm, ← hf]; omega) | (rw [if_neg (by omega)]; exact hf))
              · skip
                replace c49 := am_b0 c49
                refine w_iinc (ls' := [(2, 0), (0, w), (0, m + 1), (0, f), (0, i)]) dX7_alone_52 rfl (Nat.le_of_ble_eq_true rfl) rfl rfl ?_
                refine w_iload_n dX7_alone_55 rfl rfl ?_
                refine w_iconst dX7_alone_56 ?_
                refine w_icmp_ne (tgt := 65) dX7_alone_57 rfl (R32.in (by omega)) (R32.in (by decide)) (fun c57 => ?_) (fun c57 => ?_)
                · skip
                  refine w_iload_n dX7_alone_65 rfl rfl ?_
                  refine w_istore_n (ls' := [(2, 0), (0, w), (0, m + 1), (0, f), (0, i)]) dX7_alone_66 rfl (Nat.le_of_ble_eq_true rfl) rfl rfl ?_
                  refine w_iinc (ls' := [(2, 0), (0, w), (0, m + 1), (0, f), (0, i + 1)]) dX7_alone_67 rfl (Nat.le_of_ble_eq_true rfl) rfl rfl ?_
                  refine w_goto (tgt := 19) dX7_alone_70 rfl ?_
                  exact ih19 _ (by omega) (m + 1) f (i + 1) rfl (by first | omega | assumption) (by first | omega | assumption) (by rw [alnI_s hi0.1]; first | (rw [if_pos (by omega), ← hm]) | (rw [if_neg (by omega)]; exact hm)) (by rw [alnI_s hi0.1]; first | (rw [if_pos (by omega), ← hm, ← hf]; omega) | (rw [if_neg (by omega)]; exact hf))
                · skip
                  refine w_iload dX7_alone_60 rfl ?_
                  refine w_goto (tgt := 66) dX7_alone_62 rfl ?_
                  refine w_istore_n (ls' := [(2, 0), (0, w), (0, m + 1), (0, i), (0, i)]) dX7_alone_66 rfl (Nat.le_of_ble_eq_true rfl) rfl rfl ?_
                  refine w_iinc (ls' := [(2, 0), (0, w), (0, m + 1), (0, i), (0, i + 1)]) dX7_alone_67 rfl (Nat.le_of_ble_eq_true rfl) rfl rfl ?_
                  refine w_goto (tgt := 19) dX7_alone_70 rfl ?_
                  exact ih19 _ (by omega) (m + 1) i (i + 1) rfl (by first | omega | assumption) (by first | omega | assumption) (by rw [alnI_s hi0.1]; first | (rw [if_pos (by omega), ← hm]) | (rw [if_neg (by omega)]; exact hm)) (by rw [alnI_s hi0.1]; first | (rw [if_pos (by omega), ← hm, ← hf]; omega) | (rw [if_neg (by omega)]; exact hf))
      exact hL19 _ 0 (-2) 0 rfl (by first | omega | assumption) (by first | omega | assumption) rfl rfl
    · skip
      refine w_iconst dX7_alone_9 ?_
      exact w_iretP dX7_alone_10 rfl (by exact ifF (by omega) (rfl))



set_option maxRecDepth 100000 in
set_option maxHeartbeats 4000000 in
theorem s_X7_position (X : AX) (p : Int) (i : Int) (μ : Mu) (hC : CJ μ p) (hi : -2147483648 ≤ i ∧ i ≤ 2147483647) : Wp (GG X) M_X7_position 0 [(2, 0), (0, i)] [] μ (pP 0 (if 0 ≤ i ∧ i < μ p 7 ∧ μ (p + 4) i = 1 then μ (p + 5) i else -1000000) μ) := by
  have hI := hC.i
  have hG := hC.pg
  have hp := hI.at
  have hz := hI.sz
  have hgr := hG.gr
  have hkn := hC.kn
  refine w_aload_n dX7_position_0 rfl rfl (by first | decide | omega) ?_
  refine w_iload_n dX7_position_1 rfl rfl ?_
  refine w_callVP (o := 0) (ci := 7) (as := [(0, i)]) (rest := []) (k := 0) fX7_position_2 rfl rfl rfl rfl rfl rfl rfl rfl (Nat.le_of_ble_eq_true rfl) (s_X7_isNote X p i μ μ (fun o h1 => rfl) hC (by first | omega | assumption)) ?_
  have hf1 := am_b_r (0 ≤ i ∧ i < μ p 7 ∧ μ (p + 4) i = 1)
  refine w_if_eq (tgt := 20) dX7_position_5 rfl (R32.in (by have := am_b_r ((0 ≤ i ∧ i < μ p 7 ∧ μ (p + 4) i = 1)); omega)) (fun c5 => ?_) (fun c5 => ?_)
  · skip
    replace c5 := am_b0 c5
    refine w_ldc (n := -1000000) dX7_position_20 k_597 (by decide) ?_
    exact w_iretP dX7_position_22 rfl (by first | exact ifT (by omega) rfl | exact ifF (by omega) rfl)
  · skip
    replace c5 := am_b1 c5
    refine w_aload_n dX7_position_8 rfl rfl (by first | decide | omega) ?_
    refine w_getDx (o := 0) (f := 7) (x := p) fX7_position_9 rfl rfl rfl rfl hC.p7 ?_
    refine w_getR (o := (p).toNat) (x := p + 5) fX7_position_12 (by omega) (pSh0 rfl rfl (by assumption)) rfl (pRf 10 5 rfl rfl (by assumption)) ?_
    refine w_iload_n dX7_position_15 rfl rfl ?_
    refine w_ialdx (o := (p + 5).toNat) (n := 64) (x := μ (p + 5) i) dX7_position_16 (by omega) (pSh 5 rfl rfl (by assumption)) (Nat.le_of_ble_eq_true rfl) (by omega) rfl ?_
    have hr2 := PI.hd hC.i (q := p + 5) (i := i) rfl (by omega)
    have hr3 := PI.hd hI (q := p + 5) (i := i) rfl (by omega)
    refine w_goto (tgt := 22) dX7_position_17 rfl ?_
    exact w_iretP dX7_position_22 rfl (by first | exact ifT (by omega) rfl | exact ifF (by omega) rfl)
