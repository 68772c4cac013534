set_option maxRecDepth 100000 in
set_option maxHeartbeats 4000000 in
theorem s_X8_isElement (X : AX) (p : Int) (i : Int) (μ : Mu) (hC : CJ μ p) (hJ : RJ μ p) (hi : -2147483648 ≤ i ∧ i ≤ 2147483647) : Wp (GG X) M_X8_isElement 0 [(2, 45), (0, i)] [] μ (pP 0 (am_b (0 ≤ i ∧ i < μ p 7)) μ) := by
  have hI := hC.i
  have hG := hC.pg
  have hp := hI.at
  have hz := hI.sz
  have hgr := hG.gr
  have hkn := hC.kn
  refine w_iload_n dX8_isElement_0 rfl rfl ?_
  refine w_iconst dX8_isElement_1 ?_
  refine w_aload_n dX8_isElement_2 rfl rfl (by first | decide | omega) ?_
  refine w_getIx (o := 45) (f := 7) (x := μ p 7) fX8_isElement_3 rfl rfl (Nat.le_of_ble_eq_true rfl) rfl hJ.f7 ?_
  refine w_iconst dX8_isElement_6 ?_
  refine w_isub dX8_isElement_7 ?_
  refine w_callSP (as := [(0, i), (0, 0), (0, (μ p 7) - 1)]) (rest := []) (k := 0) fX8_isElement_8 rfl rfl rfl rfl rfl (Nat.le_of_ble_eq_true rfl) (s_X8_isIn X i 0 ((μ p 7) - 1) μ (by first | omega | assumption) (by first | omega | assumption) (by first | omega | assumption)) ?_
  have hf1 := am_b_r (0 ≤ i ∧ i ≤ ((μ p 7) - 1))
  exact w_zretP dX8_isElement_11 rfl (am_b_01 _) (by exact am_b_iff (by omega))

set_option maxRecDepth 100000 in
set_option maxHeartbeats 4000000 in
theorem s_X8_isGroup (X : AX) (p : Int) (g : Int) (μ : Mu) (hC : CJ μ p) (hJ : RJ μ p) (hg : -2147483648 ≤ g ∧ g ≤ 2147483647) : Wp (GG X) M_X8_isGroup 0 [(2, 45), (0, g)] [] μ (pP 0 (am_b (0 ≤ g ∧ g < μ p 14)) μ) := by
  have hI := hC.i
  have hG := hC.pg
  have hp := hI.at
  have hz := hI.sz
  have hgr := hG.gr
  have hkn := hC.kn
  refine w_iload_n dX8_isGroup_0 rfl rfl ?_
  refine w_iconst dX8_isGroup_1 ?_
  refine w_aload_n dX8_isGroup_2 rfl rfl (by first | decide | omega) ?_
  refine w_getIx (o := 45) (f := 17) (x := μ p 14) fX8_isGroup_3 rfl rfl (Nat.le_of_ble_eq_true rfl) rfl hJ.f17 ?_
  refine w_iconst dX8_isGroup_6 ?_
  refine w_isub dX8_isGroup_7 ?_
  refine w_callSP (as := [(0, g), (0, 0), (0, (μ p 14) - 1)]) (rest := []) (k := 0) fX8_isGroup_8 rfl rfl rfl rfl rfl (Nat.le_of_ble_eq_true rfl) (s_X8_isIn X g 0 ((μ p 14) - 1) μ (by first | omega | assumption) (by first | omega | assumption) (by first | omega | assumption)) ?_
  have hf1 := am_b_r (0 ≤ g ∧ g ≤ ((μ p 14) - 1))
  exact w_zretP dX8_isGroup_11 rfl (am_b_01 _) (by exact am_b_iff (by omega))

set_option maxRecDepth 100000 in
set_option maxHeartbeats 4000000 in
theorem s_X8_isOfGroup (X : AX) (p : Int) (i : Int) (μ : Mu) (hC : CJ μ p) (hJ : RJ μ p) (hi : -2147483648 ≤ i ∧ i ≤ 2147483647) : Wp (GG X) M_X8_isOfGroup 0 [(2, 45), (0, i)] [] μ (pP 0 (am_b (0 ≤ i ∧ i < μ p 7 ∧ 0 ≤ μ (p + 8) i)) μ) := by
  have hI := hC.i
  have hG := hC.pg
  have hp := hI.at
  have hz := hI.sz
  have hgr := hG.gr
  have hkn := hC.kn
  refine w_aload_n dX8_isOfGroup_0 rfl rfl (by first | decide | omega) ?_
  refine w_iload_n dX8_isOfGroup_1 rfl rfl ?_
  refine w_callVP (o := 45) (ci := 8) (as := [(0, i)]) (rest := []) (k := 0) fX8_isOfGroup_2 rfl rfl rfl rfl rfl rfl rfl rfl (Nat.le_of_ble_eq_true rfl) (s_X8_isElement X p i μ hC hJ (by first | omega | assumption)) ?_
  have hf1 := am_b_r (0 ≤ i ∧ i < μ p 7)
  refine w_if_eq (tgt := 21) dX8_isOfGroup_5 rfl (R32.in (by have := am_b_r ((0 ≤ i ∧ i < μ p 7)); omega)) (fun c5 => ?_) (fun c5 => ?_)
  · skip
    replace c5 := am_b0 c5
    refine w_iconst dX8_isOfGroup_21 ?_
    exact w_zretP dX8_isOfGroup_22 rfl (Or.inl rfl) (by first | exact am_b_t (by omega) | exact am_b_f (by omega))
  · skip
    replace c5 := am_b1 c5
    refine w_aload_n dX8_isOfGroup_8 rfl rfl (by first | decide | omega) ?_
    refine w_getR (o := 45) (x := 53) fX8_isOfGroup_9 rfl rfl rfl rfl ?_
    refine w_iload_n dX8_isOfGroup_12 rfl rfl ?_
    refine w_ialdx (o := 53) (n := 64) (x := goR (μ (p + 8) i)) dX8_isOfGroup_13 rfl rfl (Nat.le_of_ble_eq_true rfl) (by omega) (hJ.go (by omega)) ?_
    have hr2 := goR_f (μ (p + 8) i)
    have hr3 := PG.go hG (i := i) (by omega)
    refine w_if_lt (tgt := 21) dX8_isOfGroup_14 rfl (R32.in (by omega)) (fun c14 => ?_) (fun c14 => ?_)
    · skip
      refine w_iconst dX8_isOfGroup_21 ?_
      exact w_zretP dX8_isOfGroup_22 rfl (Or.inl rfl) (by first | exact am_b_t (by omega) | exact am_b_f (by omega))
    · skip
      refine w_iconst dX8_isOfGroup_17 ?_
      refine w_goto (tgt := 22) dX8_isOfGroup_18 rfl ?_
      exact w_zretP dX8_isOfGroup_22 rfl (Or.inr rfl) (by first | exact am_b_t (by omega) | exact am_b_f (by omega))

set_option maxRecDepth 100000 in
set_option maxHeartbeats 4000000 in
theorem s_X8_isNoteAt (X : AX) (p : Int) (i : Int) (μ : Mu) (hC : CJ μ p) (hJ : RJ μ p) (hi : -2147483648 ≤ i ∧ i ≤ 2147483647) : Wp (GG X) M_X8_isNoteAt 0 [(2, 45), (0, i)] [] μ (pP 0 (am_b (0 ≤ i ∧ i < μ p 7 ∧ μ (p + 4) i = 1)) μ) := by
  have hI := hC.i
  have hG := hC.pg
  have hp := hI.at
  have hz := hI.sz
  have hgr := hG.gr
  have hkn := hC.kn
  refine w_aload_n dX8_isNoteAt_0 rfl rfl (by first | decide | omega) ?_
  refine w_iload_n dX8_isNoteAt_1 rfl rfl ?_
  refine w_callVP (o := 45) (ci := 8) (as := [(0, i)]) (rest := []) (k := 0) fX8_isNoteAt_2 rfl rfl rfl rfl rfl rfl rfl rfl (Nat.le_of_ble_eq_true rfl) (s_X8_isElement X p i μ hC hJ (by first | omega | assumption)) ?_
  have hf1 := am_b_r (0 ≤ i ∧ i < μ p 7)
  refine w_if_eq (tgt := 21) dX8_isNoteAt_5 rfl (R32.in (by have := am_b_r ((0 ≤ i ∧ i < μ p 7)); omega)) (fun c5 => ?_) (fun c5 => ?_)
  · skip
    replace c5 := am_b0 c5
    refine w_iconst dX8_isNoteAt_21 ?_
    exact w_zretP dX8_isNoteAt_22 rfl (Or.inl rfl) (by first | exact am_b_t (by omega) | exact am_b_f (by omega))
  · skip
    replace c5 := am_b1 c5
    refine w_aload_n dX8_isNoteAt_8 rfl rfl (by first | decide | omega) ?_
    refine w_getR (o := 45) (x := 49) fX8_isNoteAt_9 rfl rfl rfl rfl ?_
    refine w_iload_n dX8_isNoteAt_12 rfl rfl ?_
    refine w_zaldx (o := 49) (n := 64) (x := μ (p + 4) i) dX8_isNoteAt_13 rfl rfl (Nat.le_of_ble_eq_true rfl) (by omega) (hJ.nt (by omega)) ?_
    have hr2 := PI.so hI (q := p + 4) (i := i) rfl (by omega)
    refine w_if_eq (tgt := 21) dX8_isNoteAt_14 rfl (R32.in (by omega)) (fun c14 => ?_) (fun c14 => ?_)
    · skip
      refine w_iconst dX8_isNoteAt_21 ?_
      exact w_zretP dX8_isNoteAt_22 rfl (Or.inl rfl) (by first | exact am_b_t (by omega) | exact am_b_f (by omega))
    · skip
      refine w_iconst dX8_isNoteAt_17 ?_
      refine w_goto (tgt := 22) dX8_isNoteAt_18 rfl ?_
      exact w_zretP dX8_isNoteAt_22 rfl (Or.inr rfl) (by first | exact am_b_t (by omega) | exact am_b_f (by omega))
