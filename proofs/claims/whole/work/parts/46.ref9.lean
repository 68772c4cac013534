set_option maxRecDepth 100000 in
set_option maxHeartbeats 4000000 in
theorem s_X8_position (X : AX) (p : Int) (i : Int) (μ : Mu) (hC : CJ μ p) (hJ : RJ μ p) (hi : -2147483648 ≤ i ∧ i ≤ 2147483647) : Wp (GG X) M_X8_position 0 [(2, 45), (0, i)] [] μ (qI 0 fun z μ' => (Fr 45 45 57 61 μ' μ) ∧ (z = if (0 ≤ i ∧ i < μ p 7 ∧ μ (p + 4) i = 1) then μ (p + 5) i else -1000000) ∧ (RJ μ' p) ∧ (∀ k : Int, (¬ k = 0 ∧ ¬ (21 ≤ k ∧ k ≤ 24) ∧ ¬ (29 ≤ k ∧ k ≤ 33)) → μ' 45 k = μ 45 k)) := by
  have hI := hC.i
  have hG := hC.pg
  have hp := hI.at
  have hz := hI.sz
  have hgr := hG.gr
  have hkn := hC.kn
  have hRA := hJ.rag hC
  refine w_aload_n dX8_position_0 rfl rfl (by first | decide | omega) ?_
  refine w_iconst dX8_position_1 ?_
  refine w_putI (o := 45) (f := 0) fX8_position_2 rfl rfl rfl rfl rfl ?_
  have hF_μ4 : Fr 45 45 57 61 (am_up μ 45 0 0) μ := (Fr.rf.up (by omega))
  have hA4 : RAg (ddt μ p (p + 5) (μ p 3)) (μ (p + 9)) (μ p 14) (am_up μ 45 0 0) := (RAg.cg2 hRA (fun o h1 => (am_up_o (by omega))) (fun k h1 => (am_up_nk (by omega))))
  have hJ4 : RJ (am_up μ 45 0 0) p := (RJ.cg2 hJ (fun o h1 => (am_up_o (by omega))) (fun k h1 => (am_up_nk (by omega))))
  have hj4 : RJz (am_up μ 45 0 0) p := hJ4.j0
  have hC4 : CJ (am_up μ 45 0 0) p := (CJ.cg hC (fun o h1 => (am_up_o (by omega))))
  have h564 : ∀ j : Int, 0 ≤ j → j < μ p 7 → (am_up μ 45 0 0) 56 j = μ (p + 5) j := (fun j h1 h2 => ((congrFun (am_up_o (by omega)) _).trans (hJ.ht ⟨h1, h2⟩)))
  have h194 : (am_up μ 45 0 0) 45 19 = μ p 3 := (((am_up_nk (by omega)).trans hJ.f19).trans (by rfl))
  have hff4 : ∀ k : Int, ¬ k = 0 → (am_up μ 45 0 0) 45 k = μ 45 k := (fun k h1 => (am_up_nk (by omega)))
  refine Wp.mu (fun μ4 hμ4 => ?_)
  rw [← hμ4] at hF_μ4 hA4 hJ4 hj4 hC4 h564 h194 hff4
  clear hμ4
  have e4 : ∀ o : Int, p ≤ o ∧ o ≤ p + 10 → μ4 o = μ o := fun o h1 => hF_μ4.at (by omega) (by omega)
  have e47 : μ4 p 7 = μ p 7 := congrFun (e4 p (by omega)) _
  have e414 : μ4 p 14 = μ p 14 := congrFun (e4 p (by omega)) _
  have e48 : μ4 (p + 8) i = μ (p + 8) i := congrFun (e4 (p + 8) (by omega)) _
  have e44 : μ4 (p + 4) i = μ (p + 4) i := congrFun (e4 (p + 4) (by omega)) _
  refine w_aload_n dX8_position_5 rfl rfl (by first | decide | omega) ?_
  refine w_iload_n dX8_position_6 rfl rfl ?_
  refine w_callVP (o := 45) (ci := 8) (as := [(0, i)]) (rest := []) (k := 0) fX8_position_7 rfl rfl rfl rfl rfl rfl rfl rfl (Nat.le_of_ble_eq_true rfl) (s_X8_isNoteAt X p i μ4 hC4 hJ4 (by first | omega | assumption)) ?_
  have hf1 := am_b_r (0 ≤ i ∧ i < μ4 p 7 ∧ μ4 (p + 4) i = 1)
  refine w_if_eq (tgt := 22) dX8_position_10 rfl (R32.in (by have := am_b_r ((0 ≤ i ∧ i < μ4 p 7 ∧ μ4 (p + 4) i = 1)); omega)) (fun c10 => ?_) (fun c10 => ?_)
  · skip
    replace c10 := am_b0 c10
    refine w_ldc (n := -1000000) dX8_position_22 k_1620 (by decide) ?_
    exact w_iretI dX8_position_24 rfl ⟨hF_μ4, (by first | exact ifT (by omega) rfl | exact ifF (by omega) rfl), hJ4, (fun k h1 => (hff4 k (by omega)))⟩
  · skip
    replace c10 := am_b1 c10
    refine w_aload_n dX8_position_13 rfl rfl (by first | decide | omega) ?_
    refine w_getR (o := 45) (x := 50) fX8_position_14 rfl rfl rfl rfl ?_
    refine w_iload_n dX8_position_17 rfl rfl ?_
    refine w_ialdx (o := 50) (n := 64) (x := μ (p + 5) i) dX8_position_18 rfl rfl (Nat.le_of_ble_eq_true rfl) (by omega) ((congrFun (hF_μ4.at (by omega) (by omega)) _).trans (hJ.po (by omega))) ?_
    have hr2 := PI.hd hI (q := p + 5) (i := i) rfl (by omega)
    refine w_goto (tgt := 24) dX8_position_19 rfl ?_
    exact w_iretI dX8_position_24 rfl ⟨hF_μ4, (by first | exact ifT (by omega) rfl | exact ifF (by omega) rfl), hJ4, (fun k h1 => (hff4 k (by omega)))⟩

set_option maxRecDepth 100000 in
set_option maxHeartbeats 4000000 in
theorem s_X8_lesser (X : AX) (a : Int) (b : Int) (μ : Mu) (ha : -2147483648 ≤ a ∧ a ≤ 2147483647) (hb : -2147483648 ≤ b ∧ b ≤ 2147483647) : Wp (GG X) M_X8_lesser 0 [(0, a), (0, b)] [] μ (pP 0 (min a b) μ) := by
  refine w_iload_n dX8_lesser_0 rfl rfl ?_
  refine w_iload_n dX8_lesser_1 rfl rfl ?_
  refine w_icmp_ge (tgt := 9) dX8_lesser_2 rfl (R32.in (by omega)) (R32.in (by omega)) (fun c2 => ?_) (fun c2 => ?_)
  · skip
    refine w_iload_n dX8_lesser_9 rfl rfl ?_
    exact w_iretP dX8_lesser_10 rfl (by omega)
  · skip
    refine w_iload_n dX8_lesser_5 rfl rfl ?_
    refine w_goto (tgt := 10) dX8_lesser_6 rfl ?_
    exact w_iretP dX8_lesser_10 rfl (by omega)

set_option maxRecDepth 100000 in
set_option maxHeartbeats 4000000 in
theorem s_X8_noteMany (X : AX) (p : Int) (μ : Mu) (hC : CJ μ p) (hJ : RJ μ p) : Wp (GG X) M_X8_noteMany 0 [(2, 45), (9, 0), (9, 0)] [] μ (pP 0 (itr (fun j a => a + μ (p + 4) j) 0 (μ p 7)) μ) := by
  have hI := hC.i
  have hG := hC.pg
  have hp := hI.at
  have hz := hI.sz
  have hgr := hG.gr
  have hkn := hC.kn
  refine w_iconst dX8_noteMany_0 ?_
  refine w_istore_n (ls' := [(2, 45), (0, 0), (9, 0)]) dX8_noteMany_1 rfl (Nat.le_of_ble_eq_true rfl) rfl rfl ?_
  refine w_iconst dX8_noteMany_2 ?_
  refine w_istore_n (ls' := [(2, 45), (0, 0), (0, 0)]) dX8_noteMany_3 rfl (Nat.le_of_ble_eq_true rfl) rfl rfl ?_
  have hL4 : ∀ (n4 : Nat) (m : Int) (i : Int), (μ p 7 - i).toNat = n4 → (0 ≤ i ∧ i ≤ μ p 7) → (0 ≤ m ∧ m ≤ i) → (m = itr (fun j a => a + μ (p + 4) j) 0 i) → Wp (GG X) M_X8_noteMany 4 [(2, 45), (0, m), (0, i)] [] μ (pP 0 (itr (fun j a => a + μ (p + 4) j) 0 (μ p 7)) μ) := by
    intro n4
    induction n4 using Nat.strongRecOn with
    | ind n4 ih4 =>
      intro m i hn4 hi0 hmr hm
      refine w_iload_n dX8_noteMany_4 rfl rfl ?_
      refine w_aload_n dX8_noteMany_5 rfl rfl (by first | decide | omega) ?_
      refine w_getIx (o := 45) (f := 7) (x := μ p 7) fX8_noteMany_6 rfl rfl (Nat.le_of_ble_eq_true rfl) rfl hJ.f7 ?_
      refine w_icmp_ge (tgt := 35) dX8_noteMany_9 rfl (R32.in (by omega)) (R32.in (by omega)) (fun c9 => ?_) (fun c9 => ?_)
      · skip
        refine w_iload_n dX8_noteMany_35 rfl rfl ?_
        exact w_iretP dX8_noteMany_36 rfl (by have he : i = μ p 7 := (by omega); subst he; exact hm)
      · skip
        refine w_iload_n dX8_noteMany_12 rfl rfl ?_
        refine w_aload_n dX8_noteMany_13 rfl rfl (by first | decide | omega) ?_
        refine w_getR (o := 45) (x := 49) fX8_noteMany_14 rfl rfl rfl rfl ?_
        refine w_iload_n dX8_noteMany_17 rfl rfl ?_
        refine w_zaldx (o := 49) (n := 64) (x := μ (p + 4) i) dX8_noteMany_18 rfl rfl (Nat.le_of_ble_eq_true rfl) (by omega) (hJ.nt (by omega)) ?_
        have hr1 := PI.so hI (q := p + 4) (i := i) rfl (by omega)
        refine w_if_eq (tgt := 26) dX8_noteMany_19 rfl (R32.in (by omega)) (fun c19 => ?_) (fun c19 => ?_)
        · skip
          refine w_iconst dX8_noteMany_26 ?_
          refine w_iadd dX8_noteMany_27 ?_
          refine w_istore_n (ls' := [(2, 45), (0, m + 0), (0, i)]) dX8_noteMany_28 rfl (Nat.le_of_ble_eq_true rfl) rfl rfl ?_
          refine w_iinc (ls' := [(2, 45), (0, m + 0), (0, i + 1)]) dX8_noteMany_29 rfl (Nat.le_of_ble_eq_true rfl) rfl rfl ?_
          refine w_goto (tgt := 4) dX8_noteMany_32 rfl ?_
          exact ih4 _ (by omega) (m + 0) (i + 1) rfl (by first | omega | assumption) (by first | omega | assumption) (by rw [itr_succ hi0.1, ← hm]; omega)
        · skip
          refine w_iconst dX8_noteMany_22 ?_
          refine w_goto (tgt := 27) dX8_noteMany_23 rfl ?_
          refine w_iadd dX8_noteMany_27 ?_
          refine w_istore_n (ls' := [(2, 45), (0, m + 1), (0, i)]) dX8_noteMany_28 rfl (Nat.le_of_ble_eq_true rfl) rfl rfl ?_
          refine w_iinc (ls' := [(2, 45), (0, m + 1), (0, i + 1)]) dX8_noteMany_29 rfl (Nat.le_of_ble_eq_true rfl) rfl rfl ?_
          refine w_goto (tgt := 4) dX8_noteMany_32 rfl ?_
          exact ih4 _ (by omega) (m + 1) (i + 1) rfl (by first | omega | assumption) (by first | omega | assumption) (by rw [itr_succ hi0.1, ← hm]; omega)
  exact hL4 _ 0 0 rfl (by first | omega | assumption) (by first | omega | assumption) rfl

set_option maxRecDepth 100000 in
set_option maxHeartbeats 4000000 in
theorem s_X8_isBeamed (X : AX) (p : Int) (i : Int) (μ : Mu) (hC : CJ μ p) (hJ : RJ μ p) (hi : 0 ≤ i ∧ i < μ p 7) : Wp (GG X) M_X8_isBeamed 0 [(2, 45), (0, i)] [] μ (pP 0 (am_b (0 < bmz μ p i)) μ) := by
  have hI := hC.i
  have hG := hC.pg
  have hp := hI.at
  have hz := hI.sz
  have hgr := hG.gr
  have hkn := hC.kn
  refine w_aload_n dX8_isBeamed_0 rfl rfl (by first | decide | omega) ?_
  refine w_getR (o := 45) (x := 49) fX8_isBeamed_1 rfl rfl rfl rfl ?_
  refine w_iload_n dX8_isBeamed_4 rfl rfl ?_
  refine w_zaldx (o := 49) (n := 64) (x := μ (p + 4) i) dX8_isBeamed_5 rfl rfl (Nat.le_of_ble_eq_true rfl) (by omega) (hJ.nt (by omega)) ?_
  have hr1 := PI.so hI (q := p + 4) (i := i) rfl (by omega)
  refine w_if_eq (tgt := 22) dX8_isBeamed_6 rfl (R32.in (by omega)) (fun c6 => ?_) (fun c6 => ?_)
  · skip
    refine w_iconst dX8_isBeamed_22 ?_
    exact w_zretP dX8_isBeamed_23 rfl (Or.inl rfl) (by first | exact am_b_t (by unfold bmz; omega) | exact am_b_f (by unfold bmz; omega))
  · skip
    refine w_aload_n dX8_isBeamed_9 rfl rfl (by first | decide | omega) ?_
    refine w_getR (o := 45) (x := 48) fX8_isBeamed_10 rfl rfl rfl rfl ?_
    refine w_iload_n dX8_isBeamed_13 rfl rfl ?_
    refine w_ialdx (o := 48) (n := 64) (x := bok (μ (p + 3) i)) dX8_isBeamed_14 rfl rfl (Nat.le_of_ble_eq_true rfl) (by omega) (hJ.kd (by omega)) ?_
    have hr2 := bok_f (μ (p + 3) i)
    refine w_if_le (tgt := 22) dX8_isBeamed_15 rfl (R32.in (by omega)) (fun c15 => ?_) (fun c15 => ?_)
    · skip
      refine w_iconst dX8_isBeamed_22 ?_
      exact w_zretP dX8_isBeamed_23 rfl (Or.inl rfl) (by first | exact am_b_t (by unfold bmz; omega) | exact am_b_f (by unfold bmz; omega))
    · skip
      refine w_iconst dX8_isBeamed_18 ?_
      refine w_goto (tgt := 23) dX8_isBeamed_19 rfl ?_
      exact w_zretP dX8_isBeamed_23 rfl (Or.inr rfl) (by first | exact am_b_t (by unfold bmz; omega) | exact am_b_f (by unfold bmz; omega))

set_option maxRecDepth 100000 in
set_option maxHeartbeats 4000000 in
theorem s_X8_measureOf (X : AX) (b : Int) (u : Int) (μ : Mu) (hb : 1 ≤ b ∧ b ≤ 12) (hu : u = 2 ∨ u = 4 ∨ u = 8) : Wp (GG X) M_X8_measureOf 0 [(0, b), (0, u)] [] μ (pP 0 (b * 32 / u) μ) := by
  refine w_iload_n dX8_measureOf_0 rfl rfl ?_
  refine w_bipush dX8_measureOf_1 (by decide) ?_
  refine w_imul dX8_measureOf_3 ?_
  refine w_iload_n dX8_measureOf_4 rfl rfl ?_
  refine w_idivP dX8_measureOf_5 (by omega) ?_
  exact w_iretP dX8_measureOf_6 rfl (by rfl)

set_option maxRecDepth 100000 in
set_option maxHeartbeats 4000000 in
theorem s_X8_measure (X : AX) (p : Int) (μ : Mu) (hC : CJ μ p) (hJ : RJ μ p) : Wp (GG X) M_X8_measure 0 [(2, 45)] [] μ (pP 0 (mlg μ p) μ) := by
  have hI := hC.i
  have hG := hC.pg
  have hp := hI.at
  have hz := hI.sz
  have hgr := hG.gr
  have hkn := hC.kn
  have hbt := hI.bt
  have hun := hI.2.2.1
  have hmm := mlg_u hbt hun
  have hmr := mlg_r μ p hI
  refine w_aload_n dX8_measure_0 rfl rfl (by first | decide | omega) ?_
  refine w_getIx (o := 45) (f := 1) (x := μ p 1) fX8_measure_1 rfl rfl (Nat.le_of_ble_eq_true rfl) rfl hJ.f1 ?_
  refine w_aload_n dX8_measure_4 rfl rfl (by first | decide | omega) ?_
  refine w_getIx (o := 45) (f := 2) (x := μ p 2) fX8_measure_5 rfl rfl (Nat.le_of_ble_eq_true rfl) rfl hJ.f2 ?_
  refine w_callSP (as := [(0, μ p 1), (0, μ p 2)]) (rest := []) (k := 0) fX8_measure_8 rfl rfl rfl rfl rfl (Nat.le_of_ble_eq_true rfl) (s_X8_measureOf X (μ p 1) (μ p 2) μ hbt hun) ?_
  exact w_iretP dX8_measure_11 rfl (by exact hmm.1)

set_option maxRecDepth 100000 in
set_option maxHeartbeats 4000000 in
theorem s_X8_beat (X : AX) (p : Int) (μ : Mu) (hC : CJ μ p) (hJ : RJ μ p) : Wp (GG X) M_X8_beat 0 [(2, 45)] [] μ (pP 0 (blg (μ p 2)) μ) := by
  have hI := hC.i
  have hG := hC.pg
  have hp := hI.at
  have hz := hI.sz
  have hgr := hG.gr
  have hkn := hC.kn
  have hun := hI.2.2.1
  have hur := hI.un
  have hmm := mlg_u hI.bt hun
  refine w_bipush dX8_beat_0 (by decide) ?_
  refine w_aload_n dX8_beat_2 rfl rfl (by first | decide | omega) ?_
  refine w_getIx (o := 45) (f := 2) (x := μ p 2) fX8_beat_3 rfl rfl (Nat.le_of_ble_eq_true rfl) rfl hJ.f2 ?_
  refine w_idivP dX8_beat_6 (by omega) ?_
  exact w_iretP dX8_beat_7 rfl (by exact hmm.2)

set_option maxRecDepth 100000 in
set_option maxHeartbeats 4000000 in
theorem s_X8_longOf (X : AX) (k : Int) (μ : Mu) : Wp (GG X) M_X8_longOf 0 [(0, bok k)] [] μ (pP 0 (lok k) μ) := by
  refine w_bipush dX8_longOf_0 (by decide) ?_
  refine w_iload_n dX8_longOf_2 rfl rfl ?_
  refine w_ishr dX8_longOf_3 ?_
  exact w_iretP dX8_longOf_4 rfl (by exact lok_sh k)

set_option maxRecDepth 100000 in
set_option maxHeartbeats 4000000 in
theorem s_X8_beamsAt (X : AX) (p : Int) (i : Int) (k : Int) (x : Int) (μ : Mu) (hC : CJ μ p) (hJ : RJ μ p) (hx : x = goR (μ (p + 8) i)) (hi : 0 ≤ i ∧ i < μ p 7) (hg : 0 ≤ μ (p + 8) i) (hk : -1 ≤ k ∧ k ≤ 64) : Wp (GG X) M_X8_beamsAt 0 [(2, 45), (0, k), (0, x)] [] μ (pP 0 (bmn μ p i k) μ) := by
  have hI := hC.i
  have hG := hC.pg
  have hp := hI.at
  have hz := hI.sz
  have hgr := hG.gr
  have hkn := hC.kn
  have hgi := goR_f (μ (p + 8) i)
  have hgr1 := hG.go hi
  refine w_aload_n dX8_beamsAt_0 rfl rfl (by first | decide | omega) ?_
  refine w_iload_n dX8_beamsAt_1 rfl rfl ?_
  refine w_callVP (o := 45) (ci := 8) (as := [(0, k)]) (rest := []) (k := 0) fX8_beamsAt_2 rfl rfl rfl rfl rfl rfl rfl rfl (Nat.le_of_ble_eq_true rfl) (s_X8_isElement X p k μ hC hJ (by first | omega | assumption)) ?_
  have hf1 := am_b_r (0 ≤ k ∧ k < μ p 7)
  refine w_if_eq (tgt := 30) dX8_beamsAt_5 rfl (R32.in (by have := am_b_r ((0 ≤ k ∧ k < μ p 7)); omega)) (fun c5 => ?_) (fun c5 => ?_)
  · skip
    replace c5 := am_b0 c5
    refine w_iconst dX8_beamsAt_30 ?_
    exact w_iretP dX8_beamsAt_31 rfl (by rw [← bmn_a hC hi hg]; first | exact ifT (by omega) rfl | exact ifF (by omega) rfl)
  · skip
    replace c5 := am_b1 c5
    refine w_aload_n dX8_beamsAt_8 rfl rfl (by first | decide | omega) ?_
    refine w_getR (o := 45) (x := 53) fX8_beamsAt_9 rfl rfl rfl rfl ?_
    refine w_iload_n dX8_beamsAt_12 rfl rfl ?_
    refine w_ialdx (o := 53) (n := 64) (x := goR (μ (p + 8) k)) dX8_beamsAt_13 rfl rfl (Nat.le_of_ble_eq_true rfl) (by omega) (hJ.go (by omega)) ?_
    have hr2 := goR_f (μ (p + 8) k)
    have hr3 := PG.go hG (i := k) (by omega)
    refine w_iload_n dX8_beamsAt_14 rfl rfl ?_
    refine w_icmp_ne (tgt := 30) dX8_beamsAt_15 rfl (R32.in (by omega)) (R32.in (by omega)) (fun c15 => ?_) (fun c15 => ?_)
    · skip
      refine w_iconst dX8_beamsAt_30 ?_
      exact w_iretP dX8_beamsAt_31 rfl (by rw [← bmn_a hC hi hg]; first | exact ifT (by omega) rfl | exact ifF (by omega) rfl)
    · skip
      refine w_aload_n dX8_beamsAt_18 rfl rfl (by first | decide | omega) ?_
      refine w_getR (o := 45) (x := 48) fX8_beamsAt_19 rfl rfl rfl rfl ?_
      refine w_iload_n dX8_beamsAt_22 rfl rfl ?_
      refine w_ialdx (o := 48) (n := 64) (x := bok (μ (p + 3) k)) dX8_beamsAt_23 rfl rfl (Nat.le_of_ble_eq_true rfl) (by omega) (hJ.kd (by omega)) ?_
      have hr4 := bok_f (μ (p + 3) k)
      refine w_callSP (as := [(0, bok (μ (p + 3) k))]) (rest := []) (k := 0) fX8_beamsAt_24 rfl rfl rfl rfl rfl (Nat.le_of_ble_eq_true rfl) (s_X8_beamsOf X (bok (μ (p + 3) k)) μ) ?_
      refine w_goto (tgt := 31) dX8_beamsAt_27 rfl ?_
      exact w_iretP dX8_beamsAt_31 rfl (by rw [← bmn_a hC hi hg]; first | exact ifT (by omega) rfl | exact ifF (by omega) rfl)

set_option maxRecDepth 100000 in
set_option maxHeartbeats 4000000 in
theorem s_X8_isLeft (X : AX) (p : Int) (i : Int) (a : Int) (b : Int) (μ : Mu) (hC : CJ μ p) (hJ : RJ μ p) (ha : a = bmn μ p i (i - 1)) (hb : b = bmn μ p i (i + 1)) (hi : 0 ≤ i ∧ i < μ p 7) (hg : 0 ≤ μ (p + 8) i) : Wp (GG X) M_X8_isLeft 0 [(2, 45), (0, i), (0, a), (0, b), (9, 0)] [] μ (pP 0 (am_b (sgl μ p i)) μ) := by
  have hI := hC.i
  have hG := hC.pg
  have hp := hI.at
  have hz := hI.sz
  have hgr := hG.gr
  have hkn := hC.kn
  have hgi := goR_f (μ (p + 8) i)
  have hgr1 := hG.go hi
  have hs := sgl_r hC hi hg
  have hb1 := bmn_r μ p i (i - 1)
  have hb2 := bmn_r μ p i (i + 1)
  have hlk := lok_r (μ (p + 3) i)
  have htw := twn_r μ p i hI
  have htd := am_div_r (a := twn μ p i) (b := lok (μ (p + 3) i)) htw.1 (by omega)
  have htm : twn μ p i = μ (p + 6) i % mlg μ p := rfl
  refine w_aload_n dX8_isLeft_0 rfl rfl (by first | decide | omega) ?_
  refine w_getR (o := 45) (x := 53) fX8_isLeft_1 rfl rfl rfl rfl ?_
  refine w_iload_n dX8_isLeft_4 rfl rfl ?_
  refine w_ialdx (o := 53) (n := 64) (x := goR (μ (p + 8) i)) dX8_isLeft_5 rfl rfl (Nat.le_of_ble_eq_true rfl) (by omega) (hJ.go (by omega)) ?_
  have hr1 := goR_f (μ (p + 8) i)
  have hr2 := PG.go hG (i := i) (by omega)
  refine Wp.topE (b := μ (p + 8) i) (by omega) ?_
  refine w_istore (ls' := [(2, 45), (0, i), (0, a), (0, b), (0, μ (p + 8) i)]) dX8_isLeft_6 (Nat.le_of_ble_eq_true rfl) rfl rfl ?_
  refine w_iload_n dX8_isLeft_8 rfl rfl ?_
  refine w_aload_n dX8_isLeft_9 rfl rfl (by first | decide | omega) ?_
  refine w_getR (o := 45) (x := 54) fX8_isLeft_10 rfl rfl rfl rfl ?_
  refine w_iload dX8_isLeft_13 rfl ?_
  refine w_ialdx (o := 54) (n := 33) (x := μ (p + 9) (μ (p + 8) i)) dX8_isLeft_15 rfl rfl (Nat.le_of_ble_eq_true rfl) (by omega) (hJ.gf (by omega)) ?_
  have hr3 := PG.fl hG (g := (μ (p + 8) i)) (by omega)
  refine w_icmp_ne (tgt := 21) dX8_isLeft_16 rfl (R32.in (by omega)) (R32.in (by omega)) (fun c16 => ?_) (fun c16 => ?_)
  · skip
    refine w_iload_n dX8_isLeft_21 rfl rfl ?_
    refine w_aload_n dX8_isLeft_22 rfl rfl (by first | decide | omega) ?_
    refine w_getR (o := 45) (x := 54) fX8_isLeft_23 rfl rfl rfl rfl ?_
    refine w_iload dX8_isLeft_26 rfl ?_
    refine w_ialdx (o := 54) (n := 33) (x := μ (p + 9) (μ (p + 8) i)) dX8_isLeft_28 rfl rfl (Nat.le_of_ble_eq_true rfl) (by omega) (hJ.gf (by omega)) ?_
    refine w_aload_n dX8_isLeft_29 rfl rfl (by first | decide | omega) ?_
    refine w_getR (o := 45) (x := 55) fX8_isLeft_30 rfl rfl rfl rfl ?_
    refine w_iload dX8_isLeft_33 rfl ?_
    refine w_ialdx (o := 55) (n := 33) (x := μ (p + 10) (μ (p + 8) i)) dX8_isLeft_35 rfl rfl (Nat.le_of_ble_eq_true rfl) (by omega) (hJ.gm (by omega)) ?_
    refine w_iadd dX8_isLeft_36 ?_
    refine w_iconst dX8_isLeft_37 ?_
    refine w_isub dX8_isLeft_38 ?_
    refine w_icmp_ne (tgt := 44) dX8_isLeft_39 rfl (R32.in (by omega)) (R32.in (by omega)) (fun c39 => ?_) (fun c39 => ?_)
    · skip
      refine w_iload_n dX8_isLeft_44 rfl rfl ?_
      refine w_iload_n dX8_isLeft_45 rfl rfl ?_
      refine w_icmp_eq (tgt := 60) dX8_isLeft_46 rfl (R32.in (by omega)) (R32.in (by omega)) (fun c46 => ?_) (fun c46 => ?_)
      · skip
        refine w_aload_n dX8_isLeft_60 rfl rfl (by first | decide | omega) ?_
        refine w_getR (o := 45) (x := 51) fX8_isLeft_61 rfl rfl rfl rfl ?_
        refine w_iload_n dX8_isLeft_64 rfl rfl ?_
        refine w_ialdx (o := 51) (n := 64) (x := μ (p + 6) i) dX8_isLeft_65 rfl rfl (Nat.le_of_ble_eq_true rfl) (by omega) (hJ.tm (by omega)) ?_
        have hr4 := PI.tm hI (q := p + 6) (i := i) rfl (by omega)
        refine w_aload_n dX8_isLeft_66 rfl rfl (by first | decide | omega) ?_
        refine w_callVP (o := 45) (ci := 8) (as := []) (rest := [(0, μ (p + 6) i)]) (k := 0) fX8_isLeft_67 rfl rfl rfl rfl rfl rfl rfl rfl (Nat.le_of_ble_eq_true rfl) (s_X8_measure X p μ hC hJ) ?_
        have hf5 := mlg_r μ p (by first | exact hI | exact hC4.i)
        refine Wp.topE (b := mlg μ p) rfl ?_
        refine w_iremP dX8_isLeft_70 (by omega) ?_
        refine Wp.topE (b := twn μ p i) rfl ?_
        refine w_aload_n dX8_isLeft_71 rfl rfl (by first | decide | omega) ?_
        refine w_getR (o := 45) (x := 48) fX8_isLeft_72 rfl rfl rfl rfl ?_
        refine w_iload_n dX8_isLeft_75 rfl rfl ?_
        refine w_ialdx (o := 48) (n := 64) (x := bok (μ (p + 3) i)) dX8_isLeft_76 rfl rfl (Nat.le_of_ble_eq_true rfl) (by omega) (hJ.kd (by omega)) ?_
        have hr6 := bok_f (μ (p + 3) i)
        refine w_callSP (as := [(0, bok (μ (p + 3) i))]) (rest := [(0, twn μ p i)]) (k := 0) fX8_isLeft_77 rfl rfl rfl rfl rfl (Nat.le_of_ble_eq_true rfl) (s_X8_longOf X (μ (p + 3) i) μ) ?_
        have hf7 := lok_r (μ (p + 3) i)
        refine w_idivP dX8_isLeft_80 (by omega) ?_
        refine w_iconst dX8_isLeft_81 ?_
        refine w_iremP dX8_isLeft_82 (by omega) ?_
        refine w_iconst dX8_isLeft_83 ?_
        refine w_icmp_ne (tgt := 91) dX8_isLeft_84 rfl (R32.in (by omega)) (R32.in (by decide)) (fun c84 => ?_) (fun c84 => ?_)
        · skip
          refine w_iconst dX8_isLeft_91 ?_
          exact w_zretP dX8_isLeft_92 rfl (Or.inl rfl) (by first | exact am_b_f (fun q => by have q2 := hs.mp q; omega) | exact am_b_t (hs.mpr (by omega)))
        · skip
          refine w_iconst dX8_isLeft_87 ?_
          refine w_goto (tgt := 92) dX8_isLeft_88 rfl ?_
          exact w_zretP dX8_isLeft_92 rfl (Or.inr rfl) (by first | exact am_b_f (fun q => by have q2 := hs.mp q; omega) | exact am_b_t (hs.mpr (by omega)))
      · skip
        refine w_iload_n dX8_isLeft_49 rfl rfl ?_
        refine w_iload_n dX8_isLeft_50 rfl rfl ?_
        refine w_icmp_le (tgt := 58) dX8_isLeft_51 rfl (R32.in (by omega)) (R32.in (by omega)) (fun c51 => ?_) (fun c51 => ?_)
        · skip
          refine w_iconst dX8_isLeft_58 ?_
          exact w_zretP dX8_isLeft_59 rfl (Or.inl rfl) (by first | exact am_b_f (fun q => by have q2 := hs.mp q; omega) | exact am_b_t (hs.mpr (by omega)))
        · skip
          refine w_iconst dX8_isLeft_54 ?_
          refine w_goto (tgt := 59) dX8_isLeft_55 rfl ?_
          exact w_zretP dX8_isLeft_59 rfl (Or.inr rfl) (by first | exact am_b_f (fun q => by have q2 := hs.mp q; omega) | exact am_b_t (hs.mpr (by omega)))
    · skip
      refine w_iconst dX8_isLeft_42 ?_
      exact w_zretP dX8_isLeft_43 rfl (Or.inr rfl) (by first | exact am_b_f (fun q => by have q2 := hs.mp q; omega) | exact am_b_t (hs.mpr (by omega)))
  · skip
    refine w_iconst dX8_isLeft_19 ?_
    exact w_zretP dX8_isLeft_20 rfl (Or.inl rfl) (by first | exact am_b_f (fun q => by have q2 := hs.mp q; omega) | exact am_b_t (hs.mpr (by omega)))

set_option maxRecDepth 100000 in
set_option maxHeartbeats 4000000 in
theorem s_X8_beams (X : AX) (p : Int) (i : Int) (w : Int) (μ : Mu) (hC : CJ μ p) (hJ : RJ μ p) (hi : -2147483648 ≤ i ∧ i ≤ 2147483647) (hw : -2147483648 ≤ w ∧ w ≤ 2147483647) : Wp (GG X) M_X8_beams 0 [(2, 45), (0, i), (0, w), (9, 0), (9, 0), (9, 0), (9, 0), (9, 0)] [] μ (qI 0 fun z μ' => (Fr 45 45 57 61 μ' μ) ∧ (z = if (0 ≤ i ∧ i < μ p 7) ∧ 0 ≤ w ∧ w ≤ 3 then (if 0 ≤ μ (p + 8) i then bmA μ p i w else -2) else -1) ∧ (RJ μ' p) ∧ (∀ k : Int, (¬ k = 0 ∧ ¬ (21 ≤ k ∧ k ≤ 24) ∧ ¬ (29 ≤ k ∧ k ≤ 33)) → μ' 45 k = μ 45 k)) := by
  have hI := hC.i
  have hG := hC.pg
  have hp := hI.at
  have hz := hI.sz
  have hgr := hG.gr
  have hkn := hC.kn
  have hRA := hJ.rag hC
  refine w_aload_n dX8_beams_0 rfl rfl (by first | decide | omega) ?_
  refine w_iconst dX8_beams_1 ?_
  refine w_putI (o := 45) (f := 0) fX8_beams_2 rfl rfl rfl rfl rfl ?_
  have hF_μ4 : Fr 45 45 57 61 (am_up μ 45 0 0) μ := (Fr.rf.up (by omega))
  have hA4 : RAg (ddt μ p (p + 5) (μ p 3)) (μ (p + 9)) (μ p 14) (am_up μ 45 0 0) := (RAg.cg2 hRA (fun o h1 => (am_up_o (by omega))) (fun k h1 => (am_up_nk (by omega))))
  have hJ4 : RJ (am_up μ 45 0 0) p := (RJ.cg2 hJ (fun o h1 => (am_up_o (by omega))) (fun k h1 => (am_up_nk (by omega))))
  have hj4 : RJz (am_up μ 45 0 0) p := hJ4.j0
  have hC4 : CJ (am_up μ 45 0 0) p := (CJ.cg hC (fun o h1 => (am_up_o (by omega))))
  have h564 : ∀ j : Int, 0 ≤ j → j < μ p 7 → (am_up μ 45 0 0) 56 j = μ (p + 5) j := (fun j h1 h2 => ((congrFun (am_up_o (by omega)) _).trans (hJ.ht ⟨h1, h2⟩)))
  have h194 : (am_up μ 45 0 0) 45 19 = μ p 3 := (((am_up_nk (by omega)).trans hJ.f19).trans (by rfl))
  have hff4 : ∀ k : Int, ¬ k = 0 → (am_up μ 45 0 0) 45 k = μ 45 k := (fun k h1 => (am_up_nk (by omega)))
  refine Wp.mu (fun μ4 hμ4 => ?_)
  rw [← hμ4] at hF_μ4 hA4 hJ4 hj4 hC4 h564 h194 hff4
  clear hμ4
  have e4 : ∀ o : Int, p ≤ o ∧ o ≤ p + 10 → μ4 o = μ o := fun o h1 => hF_μ4.at (by omega) (by omega)
  have e47 : μ4 p 7 = μ p 7 := congrFun (e4 p (by omega)) _
  have e414 : μ4 p 14 = μ p 14 := congrFun (e4 p (by omega)) _
  have e48 : μ4 (p + 8) i = μ (p + 8) i := congrFun (e4 (p + 8) (by omega)) _
  have e44 : μ4 (p + 4) i = μ (p + 4) i := congrFun (e4 (p + 4) (by omega)) _
  refine w_aload_n dX8_beams_5 rfl rfl (by first | decide | omega) ?_
  refine w_iload_n dX8_beams_6 rfl rfl ?_
  refine w_callVP (o := 45) (ci := 8) (as := [(0, i)]) (rest := []) (k := 0) fX8_beams_7 rfl rfl rfl rfl rfl rfl rfl rfl (Nat.le_of_ble_eq_true rfl) (s_X8_isElement X p i μ4 hC4 hJ4 (by first | omega | assumption)) ?_
  have hf1 := am_b_r (0 ≤ i ∧ i < μ4 p 7)
  refine w_if_eq (tgt := 22) dX8_beams_10 rfl (R32.in (by have := am_b_r ((0 ≤ i ∧ i < μ4 p 7)); omega)) (fun c10 => ?_) (fun c10 => ?_)
  · skip
    replace c10 := am_b0 c10
    refine w_iconst dX8_beams_22 ?_
    exact w_iretI dX8_beams_23 rfl ⟨hF_μ4, (by exact ifF (by omega) rfl), hJ4, (fun k h1 => (hff4 k (by omega)))⟩
  · skip
    replace c10 := am_b1 c10
    refine w_iload_n dX8_beams_13 rfl rfl ?_
    refine w_iconst dX8_beams_14 ?_
    refine w_iconst dX8_beams_15 ?_
    refine w_callSP (as := [(0, w), (0, 0), (0, 3)]) (rest := []) (k := 0) fX8_beams_16 rfl rfl rfl rfl rfl (Nat.le_of_ble_eq_true rfl) (s_X8_isIn X w 0 3 μ4 (by first | omega | assumption) (by first | omega | assumption) (by first | omega | assumption)) ?_
    have hf2 := am_b_r (0 ≤ w ∧ w ≤ 3)
    refine w_if_ne (tgt := 24) dX8_beams_19 rfl (R32.in (by have := am_b_r ((0 ≤ w ∧ w ≤ 3)); omega)) (fun c19 => ?_) (fun c19 => ?_)
    · skip
      replace c19 := am_b1 c19
      refine w_aload_n dX8_beams_24 rfl rfl (by first | decide | omega) ?_
      refine w_getR (o := 45) (x := 53) fX8_beams_25 rfl rfl rfl rfl ?_
      refine w_iload_n dX8_beams_28 rfl rfl ?_
      refine w_ialdx (o := 53) (n := 64) (x := goR (μ (p + 8) i)) dX8_beams_29 rfl rfl (Nat.le_of_ble_eq_true rfl) (by omega) ((congrFun (hF_μ4.at (by omega) (by omega)) _).trans (hJ.go (by omega))) ?_
      have hr3 := goR_f (μ (p + 8) i)
      have hr4 := PG.go hG (i := i) (by omega)
      refine w_if_ge (tgt := 36) dX8_beams_30 rfl (R32.in (by omega)) (fun c30 => ?_) (fun c30 => ?_)
      · skip
        have hbg := (hC.bg (i := i) (by omega) (by omega)).1
        have hgx := goR_f (μ (p + 8) i)
        have hbn1 := bmn_r μ p i (i - 1)
        have hbn2 := bmn_r μ p i (i + 1)
        have hbk := bok_r (μ (p + 3) i)
        refine w_aload_n dX8_beams_36 rfl rfl (by first | decide | omega) ?_
        refine w_getR (o := 45) (x := 48) fX8_beams_37 rfl rfl rfl rfl ?_
        refine w_iload_n dX8_beams_40 rfl rfl ?_
        refine w_ialdx (o := 48) (n := 64) (x := bok (μ (p + 3) i)) dX8_beams_41 rfl rfl (Nat.le_of_ble_eq_true rfl) (by omega) ((congrFun (hF_μ4.at (by omega) (by omega)) _).trans (hJ.kd (by omega))) ?_
        have hr5 := bok_f (μ (p + 3) i)
        refine w_callSP (as := [(0, bok (μ (p + 3) i))]) (rest := []) (k := 0) fX8_beams_42 rfl rfl rfl rfl rfl (Nat.le_of_ble_eq_true rfl) (s_X8_beamsOf X (bok (μ (p + 3) i)) μ4) ?_
        refine w_istore_n (ls' := [(2, 45), (0, i), (0, w), (0, (bok (μ (p + 3) i))), (9, 0), (9, 0), (9, 0), (9, 0)]) dX8_beams_45 rfl (Nat.le_of_ble_eq_true rfl) rfl rfl ?_
        refine w_aload_n dX8_beams_46 rfl rfl (by first | decide | omega) ?_
        refine w_iload_n dX8_beams_47 rfl rfl ?_
        refine w_iconst dX8_beams_48 ?_
        refine w_isub dX8_beams_49 ?_
        refine w_aload_n dX8_beams_50 rfl rfl (by first | decide | omega) ?_
        refine w_getR (o := 45) (x := 53) fX8_beams_51 rfl rfl rfl rfl ?_
        refine w_iload_n dX8_beams_54 rfl rfl ?_
        refine w_ialdx (o := 53) (n := 64) (x := goR (μ (p + 8) i)) dX8_beams_55 rfl rfl (Nat.le_of_ble_eq_true rfl) (by omega) ((congrFun (hF_μ4.at (by omega) (by omega)) _).trans (hJ.go (by omega))) ?_
        refine w_callVP (o := 45) (ci := 8) (as := [(0, i - 1), (0, goR (μ (p + 8) i))]) (rest := []) (k := 0) fX8_beams_56 rfl rfl rfl rfl rfl rfl rfl rfl (Nat.le_of_ble_eq_true rfl) (s_X8_beamsAt X p i (i - 1) (goR (μ (p + 8) i)) μ4 hC4 hJ4 (by rw [e48]) (by first | omega | assumption) (by first | omega | assumption) (by first | omega | assumption)) ?_
        have hf6 := bmn_r μ4 p i (i - 1)
        refine Wp.topE (b := bmn μ p i (i - 1)) (bmn_cg e4) ?_
        refine w_istore (ls' := [(2, 45), (0, i), (0, w), (0, (bok (μ (p + 3) i))), (0, bmn μ p i (i - 1)), (9, 0), (9, 0), (9, 0)]) dX8_beams_59 (Nat.le_of_ble_eq_true rfl) rfl rfl ?_
        refine w_aload_n dX8_beams_61 rfl rfl (by first | decide | omega) ?_
        refine w_iload_n dX8_beams_62 rfl rfl ?_
        refine w_iconst dX8_beams_63 ?_
        refine w_iadd dX8_beams_64 ?_
        refine w_aload_n dX8_beams_65 rfl rfl (by first | decide | omega) ?_
        refine w_getR (o := 45) (x := 53) fX8_beams_66 rfl rfl rfl rfl ?_
        refine w_iload_n dX8_beams_69 rfl rfl ?_
        refine w_ialdx (o := 53) (n := 64) (x := goR (μ (p + 8) i)) dX8_beams_70 rfl rfl (Nat.le_of_ble_eq_true rfl) (by omega) ((congrFun (hF_μ4.at (by omega) (by omega)) _).trans (hJ.go (by omega))) ?_
        refine w_callVP (o := 45) (ci := 8) (as := [(0, i + 1), (0, goR (μ (p + 8) i))]) (rest := []) (k := 0) fX8_beams_71 rfl rfl rfl rfl rfl rfl rfl rfl (Nat.le_of_ble_eq_true rfl) (s_X8_beamsAt X p i (i + 1) (goR (μ (p + 8) i)) μ4 hC4 hJ4 (by rw [e48]) (by first | omega | assumption) (by first | omega | assumption) (by first | omega | assumption)) ?_
        have hf7 := bmn_r μ4 p i (i + 1)
        refine Wp.topE (b := bmn μ p i (i + 1)) (bmn_cg e4) ?_
        refine w_istore (ls' := [(2, 45), (0, i), (0, w), (0, (bok (μ (p + 3) i))), (0, bmn μ p i (i - 1)), (0, bmn μ p i (i + 1)), (9, 0), (9, 0)]) dX8_beams_74 (Nat.le_of_ble_eq_true rfl) rfl rfl ?_
        refine w_iload_n dX8_beams_76 rfl rfl ?_
        refine w_iconst dX8_beams_77 ?_
        refine w_icmp_ge (tgt := 97) dX8_beams_78 rfl (R32.in (by omega)) (R32.in (by decide)) (fun c78 => ?_) (fun c78 => ?_)
        · skip
          refine w_iload dX8_beams_97 rfl ?_
          refine w_iload dX8_beams_99 rfl ?_
          have hJ101_1 : ∀ z1_0 : Int, z1_0 = (if (bmn μ p i (i - 1)) ≤ (bmn μ p i (i + 1)) then bmn μ p i (i + 1) else bmn μ p i (i - 1)) → Wp (GG X) M_X8_beams 111 [(2, 45), (0, i), (0, w), (0, (bok (μ (p + 3) i))), (0, bmn μ p i (i - 1)), (0, bmn μ p i (i + 1)), (9, 0), (9, 0)] [(0, z1_0)] μ4 (qI 0 fun z μ' => (Fr 45 45 57 61 μ' μ) ∧ (z = if (0 ≤ i ∧ i < μ p 7) ∧ 0 ≤ w ∧ w ≤ 3 then (if 0 ≤ μ (p + 8) i then bmA μ p i w else -2) else -1) ∧ (RJ μ' p) ∧ (∀ k : Int, (¬ k = 0 ∧ ¬ (21 ≤ k ∧ k ≤ 24) ∧ ¬ (29 ≤ k ∧ k ≤ 33)) → μ' 45 k = μ 45 k)) := by
            intro z1_0 hz1_0
            refine w_istore (ls' := [(2, 45), (0, i), (0, w), (0, (bok (μ (p + 3) i))), (0, bmn μ p i (i - 1)), (0, bmn μ p i (i + 1)), (0, z1_0), (9, 0)]) dX8_beams_111 (Nat.le_of_ble_eq_true rfl) rfl rfl ?_
            refine w_iload_n dX8_beams_113 rfl rfl ?_
            refine w_iload dX8_beams_114 rfl ?_
            have hJ116_2 : ∀ z2_0 : Int, z2_0 = (if (bok (μ (p + 3) i)) ≤ z1_0 then 0 else (bok (μ (p + 3) i)) - z1_0) → Wp (GG X) M_X8_beams 127 [(2, 45), (0, i), (0, w), (0, (bok (μ (p + 3) i))), (0, bmn μ p i (i - 1)), (0, bmn μ p i (i + 1)), (0, z1_0), (9, 0)] [(0, z2_0)] μ4 (qI 0 fun z μ' => (Fr 45 45 57 61 μ' μ) ∧ (z = if (0 ≤ i ∧ i < μ p 7) ∧ 0 ≤ w ∧ w ≤ 3 then (if 0 ≤ μ (p + 8) i then bmA μ p i w else -2) else -1) ∧ (RJ μ' p) ∧ (∀ k : Int, (¬ k = 0 ∧ ¬ (21 ≤ k ∧ k ≤ 24) ∧ ¬ (29 ≤ k ∧ k ≤ 33)) → μ' 45 k = μ 45 k)) := by
              intro z2_0 hz2_0
              refine w_istore (ls' := [(2, 45), (0, i), (0, w), (0, (bok (μ (p + 3) i))), (0, bmn μ p i (i - 1)), (0, bmn μ p i (i + 1)), (0, z1_0), (0, z2_0)]) dX8_beams_127 (Nat.le_of_ble_eq_true rfl) rfl rfl ?_
              refine w_aload_n dX8_beams_129 rfl rfl (by first | decide | omega) ?_
              refine w_iload_n dX8_beams_130 rfl rfl ?_
              refine w_iload dX8_beams_131 rfl ?_
              refine w_iload dX8_beams_133 rfl ?_
              refine w_callVP (o := 45) (ci := 8) (as := [(0, i), (0, bmn μ p i (i - 1)), (0, bmn μ p i (i + 1))]) (rest := []) (k := 1) fX8_beams_135 rfl rfl rfl rfl rfl rfl rfl rfl (Nat.le_of_ble_eq_true rfl) (s_X8_isLeft X p i (bmn μ p i (i - 1)) (bmn μ p i (i + 1)) μ4 hC4 hJ4 (bmn_cg e4).symm (bmn_cg e4).symm (by first | omega | assumption) (by first | omega | assumption)) ?_
              have hf8 := am_b_r (sgl μ4 p i)
              have hsb := am_b_r (sgl μ p i)
              refine Wp.topE (b := am_b (sgl μ p i)) (am_b_iff (sgl_cg e4)) ?_
              refine w_iload_n dX8_beams_138 rfl rfl ?_
              refine w_iconst dX8_beams_139 ?_
              have hJ140_3 : ∀ z3_0 : Int, z3_0 = (if ¬ w = 2 then 0 else 1) → Wp (GG X) M_X8_beams 148 [(2, 45), (0, i), (0, w), (0, (bok (μ (p + 3) i))), (0, bmn μ p i (i - 1)), (0, bmn μ p i (i + 1)), (0, z1_0), (0, z2_0)] [(0, z3_0), (0, am_b (sgl μ p i))] μ4 (qI 0 fun z μ' => (Fr 45 45 57 61 μ' μ) ∧ (z = if (0 ≤ i ∧ i < μ p 7) ∧ 0 ≤ w ∧ w ≤ 3 then (if 0 ≤ μ (p + 8) i then bmA μ p i w else -2) else -1) ∧ (RJ μ' p) ∧ (∀ k : Int, (¬ k = 0 ∧ ¬ (21 ≤ k ∧ k ≤ 24) ∧ ¬ (29 ≤ k ∧ k ≤ 33)) → μ' 45 k = μ 45 k)) := by
                intro z3_0 hz3_0
                refine w_icmp_ne (tgt := 156) dX8_beams_148 rfl (R32.in (by omega)) (R32.in (by omega)) (fun c148 => ?_) (fun c148 => ?_)
                · skip
                  refine w_iconst dX8_beams_156 ?_
                  exact w_iretI dX8_beams_157 rfl ⟨hF_μ4, (by exact ifT (by omega) (ifT (by omega) (by unfold bmA; have hst := stb_r2 (μ := μ) (p := p) (i := i) (m := z1_0) (by omega); rw [hbg] at hst; by_cases hsg : sgl μ p i; rw [if_pos hsg, if_pos hsg] ; have hb9 : am_b (sgl μ p i) = 1 := (if_pos hsg); omega; rw [if_neg hsg, if_neg hsg] ; have hb9 : am_b (sgl μ p i) = 0 := (if_neg hsg); omega))), hJ4, (fun k h1 => (hff4 k (by omega)))⟩
                · skip
                  refine w_iload dX8_beams_151 rfl ?_
                  refine w_goto (tgt := 157) dX8_beams_153 rfl ?_
                  exact w_iretI dX8_beams_157 rfl ⟨hF_μ4, (by exact ifT (by omega) (ifT (by omega) (by unfold bmA; have hst := stb_r2 (μ := μ) (p := p) (i := i) (m := z1_0) (by omega); rw [hbg] at hst; by_cases hsg : sgl μ p i; rw [if_pos hsg, if_pos hsg] ; have hb9 : am_b (sgl μ p i) = 1 := (if_pos hsg); omega; rw [if_neg hsg, if_neg hsg] ; have hb9 : am_b (sgl μ p i) = 0 := (if_neg hsg); omega))), hJ4, (fun k h1 => (hff4 k (by omega)))⟩
              refine w_icmp_ne (tgt := 147) dX8_beams_140 rfl (R32.in (by omega)) (R32.in (by decide)) (fun c140 => ?_) (fun c140 => ?_)
              · skip
                refine w_iconst dX8_beams_147 ?_
                exact hJ140_3 _ (by first | omega | simp [*])
              · skip
                refine w_iconst dX8_beams_143 ?_
                refine w_goto (tgt := 148) dX8_beams_144 rfl ?_
                exact hJ140_3 _ (by first | omega | simp [*])
            refine w_icmp_le (tgt := 126) dX8_beams_116 rfl (R32.in (by omega)) (R32.in (by omega)) (fun c116 => ?_) (fun c116 => ?_)
            · skip
              refine w_iconst dX8_beams_126 ?_
              exact hJ116_2 _ (by first | omega | simp [*])
            · skip
              refine w_iload_n dX8_beams_119 rfl rfl ?_
              refine w_iload dX8_beams_120 rfl ?_
              refine w_isub dX8_beams_122 ?_
              refine w_goto (tgt := 127) dX8_beams_123 rfl ?_
              exact hJ116_2 _ (by first | omega | simp [*])
          refine w_icmp_le (tgt := 109) dX8_beams_101 rfl (R32.in (by omega)) (R32.in (by omega)) (fun c101 => ?_) (fun c101 => ?_)
          · skip
            refine w_iload dX8_beams_109 rfl ?_
            exact hJ101_1 _ (by first | omega | simp [*])
          · skip
            refine w_iload dX8_beams_104 rfl ?_
            refine w_goto (tgt := 111) dX8_beams_106 rfl ?_
            exact hJ101_1 _ (by first | omega | simp [*])
        · skip
          refine w_iload_n dX8_beams_81 rfl rfl ?_
          refine w_iload_n dX8_beams_82 rfl rfl ?_
          have hJ83_4 : ∀ z4_0 : Int, z4_0 = (if ¬ w = 0 then bmn μ p i (i + 1) else bmn μ p i (i - 1)) → Wp (GG X) M_X8_beams 93 [(2, 45), (0, i), (0, w), (0, (bok (μ (p + 3) i))), (0, bmn μ p i (i - 1)), (0, bmn μ p i (i + 1)), (9, 0), (9, 0)] [(0, z4_0), (0, (bok (μ (p + 3) i)))] μ4 (qI 0 fun z μ' => (Fr 45 45 57 61 μ' μ) ∧ (z = if (0 ≤ i ∧ i < μ p 7) ∧ 0 ≤ w ∧ w ≤ 3 then (if 0 ≤ μ (p + 8) i then bmA μ p i w else -2) else -1) ∧ (RJ μ' p) ∧ (∀ k : Int, (¬ k = 0 ∧ ¬ (21 ≤ k ∧ k ≤ 24) ∧ ¬ (29 ≤ k ∧ k ≤ 33)) → μ' 45 k = μ 45 k)) := by
            intro z4_0 hz4_0
            refine w_callSP (as := [(0, (bok (μ (p + 3) i))), (0, z4_0)]) (rest := []) (k := 0) fX8_beams_93 rfl rfl rfl rfl rfl (Nat.le_of_ble_eq_true rfl) (s_X8_lesser X (bok (μ (p + 3) i)) z4_0 μ4 (by first | omega | assumption) (by first | omega | assumption)) ?_
            exact w_iretI dX8_beams_96 rfl ⟨hF_μ4, (by exact ifT (by omega) (ifT (by omega) (by unfold bmA; rw [bml_n, bmr_n, hbg]; omega))), hJ4, (fun k h1 => (hff4 k (by omega)))⟩
          refine w_if_ne (tgt := 91) dX8_beams_83 rfl (R32.in (by omega)) (fun c83 => ?_) (fun c83 => ?_)
          · skip
            refine w_iload dX8_beams_91 rfl ?_
            exact hJ83_4 _ (by first | omega | simp [*])
          · skip
            refine w_iload dX8_beams_86 rfl ?_
            refine w_goto (tgt := 93) dX8_beams_88 rfl ?_
            exact hJ83_4 _ (by first | omega | simp [*])
      · skip
        refine w_bipush dX8_beams_33 (by decide) ?_
        exact w_iretI dX8_beams_35 rfl ⟨hF_μ4, (by exact ifT (by omega) (ifF (by omega) rfl)), hJ4, (fun k h1 => (hff4 k (by omega)))⟩
    · skip
      replace c19 := am_b0 c19
      refine w_iconst dX8_beams_22 ?_
      exact w_iretI dX8_beams_23 rfl ⟨hF_μ4, (by exact ifF (by omega) rfl), hJ4, (fun k h1 => (hff4 k (by omega)))⟩

set_option maxRecDepth 100000 in
set_option maxHeartbeats 4000000 in
theorem s_X8_single (X : AX) (p : Int) (i : Int) (w : Int) (μ : Mu) (hC : CJ μ p) (hJ : RJ μ p) (hi : -2147483648 ≤ i ∧ i ≤ 2147483647) (hw : -2147483648 ≤ w ∧ w ≤ 2147483647) : Wp (GG X) M_X8_single 0 [(2, 45), (0, i), (0, w), (9, 0), (9, 0), (9, 0), (9, 0)] [] μ (qI 0 fun z μ' => (Fr 45 45 57 61 μ' μ) ∧ (z = if (0 ≤ i ∧ i < μ p 7 ∧ μ (p + 4) i = 1) ∧ μ (p + 8) i < 0 ∧ 0 ≤ w ∧ w ≤ 2 then sglA μ p i w else -1000000) ∧ (RJ μ' p) ∧ (∀ k : Int, (¬ k = 0 ∧ ¬ (21 ≤ k ∧ k ≤ 24) ∧ ¬ (29 ≤ k ∧ k ≤ 33)) → μ' 45 k = μ 45 k)) := by
  have hI := hC.i
  have hG := hC.pg
  have hp := hI.at
  have hz := hI.sz
  have hgr := hG.gr
  have hkn := hC.kn
  have hRA := hJ.rag hC
  refine w_aload_n dX8_single_0 rfl rfl (by first | decide | omega) ?_
  refine w_iconst dX8_single_1 ?_
  refine w_putI (o := 45) (f := 0) fX8_single_2 rfl rfl rfl rfl rfl ?_
  have hF_μ4 : Fr 45 45 57 61 (am_up μ 45 0 0) μ := (Fr.rf.up (by omega))
  have hA4 : RAg (ddt μ p (p + 5) (μ p 3)) (μ (p + 9)) (μ p 14) (am_up μ 45 0 0) := (RAg.cg2 hRA (fun o h1 => (am_up_o (by omega))) (fun k h1 => (am_up_nk (by omega))))
  have hJ4 : RJ (am_up μ 45 0 0) p := (RJ.cg2 hJ (fun o h1 => (am_up_o (by omega))) (fun k h1 => (am_up_nk (by omega))))
  have hj4 : RJz (am_up μ 45 0 0) p := hJ4.j0
  have hC4 : CJ (am_up μ 45 0 0) p := (CJ.cg hC (fun o h1 => (am_up_o (by omega))))
  have h564 : ∀ j : Int, 0 ≤ j → j < μ p 7 → (am_up μ 45 0 0) 56 j = μ (p + 5) j := (fun j h1 h2 => ((congrFun (am_up_o (by omega)) _).trans (hJ.ht ⟨h1, h2⟩)))
  have h194 : (am_up μ 45 0 0) 45 19 = μ p 3 := (((am_up_nk (by omega)).trans hJ.f19).trans (by rfl))
  have hff4 : ∀ k : Int, ¬ k = 0 → (am_up μ 45 0 0) 45 k = μ 45 k := (fun k h1 => (am_up_nk (by omega)))
  refine Wp.mu (fun μ4 hμ4 => ?_)
  rw [← hμ4] at hF_μ4 hA4 hJ4 hj4 hC4 h564 h194 hff4
  clear hμ4
  have e4 : ∀ o : Int, p ≤ o ∧ o ≤ p + 10 → μ4 o = μ o := fun o h1 => hF_μ4.at (by omega) (by omega)
  have e47 : μ4 p 7 = μ p 7 := congrFun (e4 p (by omega)) _
  have e414 : μ4 p 14 = μ p 14 := congrFun (e4 p (by omega)) _
  have e48 : μ4 (p + 8) i = μ (p + 8) i := congrFun (e4 (p + 8) (by omega)) _
  have e44 : μ4 (p + 4) i = μ (p + 4) i := congrFun (e4 (p + 4) (by omega)) _
  refine w_aload_n dX8_single_5 rfl rfl (by first | decide | omega) ?_
  refine w_iload_n dX8_single_6 rfl rfl ?_
  refine w_callVP (o := 45) (ci := 8) (as := [(0, i)]) (rest := []) (k := 0) fX8_single_7 rfl rfl rfl rfl rfl rfl rfl rfl (Nat.le_of_ble_eq_true rfl) (s_X8_isNoteAt X p i μ4 hC4 hJ4 (by first | omega | assumption)) ?_
  have hf1 := am_b_r (0 ≤ i ∧ i < μ4 p 7 ∧ μ4 (p + 4) i = 1)
  refine w_if_eq (tgt := 31) dX8_single_10 rfl (R32.in (by have := am_b_r ((0 ≤ i ∧ i < μ4 p 7 ∧ μ4 (p + 4) i = 1)); omega)) (fun c10 => ?_) (fun c10 => ?_)
  · skip
    replace c10 := am_b0 c10
    refine w_ldc (n := -1000000) dX8_single_31 k_1620 (by decide) ?_
    exact w_iretI dX8_single_33 rfl ⟨hF_μ4, (by exact ifF (by omega) rfl), hJ4, (fun k h1 => (hff4 k (by omega)))⟩
  · skip
    replace c10 := am_b1 c10
    refine w_aload_n dX8_single_13 rfl rfl (by first | decide | omega) ?_
    refine w_getR (o := 45) (x := 53) fX8_single_14 rfl rfl rfl rfl ?_
    refine w_iload_n dX8_single_17 rfl rfl ?_
    refine w_ialdx (o := 53) (n := 64) (x := goR (μ (p + 8) i)) dX8_single_18 rfl rfl (Nat.le_of_ble_eq_true rfl) (by omega) ((congrFun (hF_μ4.at (by omega) (by omega)) _).trans (hJ.go (by omega))) ?_
    have hr2 := goR_f (μ (p + 8) i)
    have hr3 := PG.go hG (i := i) (by omega)
    refine w_if_ge (tgt := 31) dX8_single_19 rfl (R32.in (by omega)) (fun c19 => ?_) (fun c19 => ?_)
    · skip
      refine w_ldc (n := -1000000) dX8_single_31 k_1620 (by decide) ?_
      exact w_iretI dX8_single_33 rfl ⟨hF_μ4, (by exact ifF (by omega) rfl), hJ4, (fun k h1 => (hff4 k (by omega)))⟩
    · skip
      refine w_iload_n dX8_single_22 rfl rfl ?_
      refine w_iconst dX8_single_23 ?_
      refine w_iconst dX8_single_24 ?_
      refine w_callSP (as := [(0, w), (0, 0), (0, 2)]) (rest := []) (k := 0) fX8_single_25 rfl rfl rfl rfl rfl (Nat.le_of_ble_eq_true rfl) (s_X8_isIn X w 0 2 μ4 (by first | omega | assumption) (by first | omega | assumption) (by first | omega | assumption)) ?_
      have hf4 := am_b_r (0 ≤ w ∧ w ≤ 2)
      refine w_if_ne (tgt := 34) dX8_single_28 rfl (R32.in (by have := am_b_r ((0 ≤ w ∧ w ≤ 2)); omega)) (fun c28 => ?_) (fun c28 => ?_)
      · skip
        replace c28 := am_b1 c28
        refine w_aload_n dX8_single_34 rfl rfl (by first | decide | omega) ?_
        refine w_getR (o := 45) (x := 50) fX8_single_35 rfl rfl rfl rfl ?_
        refine w_iload_n dX8_single_38 rfl rfl ?_
        refine w_ialdx (o := 50) (n := 64) (x := μ (p + 5) i) dX8_single_39 rfl rfl (Nat.le_of_ble_eq_true rfl) (by omega) ((congrFun (hF_μ4.at (by omega) (by omega)) _).trans (hJ.po (by omega))) ?_
        have hr5 := PI.hd hI (q := p + 5) (i := i) rfl (by omega)
        have hJ40_1 : ∀ z1_0 : Int, z1_0 = (if (μ (p + 5) i) < 0 then 1 else -1) → Wp (GG X) M_X8_single 48 [(2, 45), (0, i), (0, w), (9, 0), (9, 0), (9, 0), (9, 0)] [(0, z1_0)] μ4 (qI 0 fun z μ' => (Fr 45 45 57 61 μ' μ) ∧ (z = if (0 ≤ i ∧ i < μ p 7 ∧ μ (p + 4) i = 1) ∧ μ (p + 8) i < 0 ∧ 0 ≤ w ∧ w ≤ 2 then sglA μ p i w else -1000000) ∧ (RJ μ' p) ∧ (∀ k : Int, (¬ k = 0 ∧ ¬ (21 ≤ k ∧ k ≤ 24) ∧ ¬ (29 ≤ k ∧ k ≤ 33)) → μ' 45 k = μ 45 k)) := by
          intro z1_0 hz1_0
          refine w_istore_n (ls' := [(2, 45), (0, i), (0, w), (0, z1_0), (9, 0), (9, 0), (9, 0)]) dX8_single_48 rfl (Nat.le_of_ble_eq_true rfl) rfl rfl ?_
          refine w_aload_n dX8_single_49 rfl rfl (by first | decide | omega) ?_
          refine w_getR (o := 45) (x := 48) fX8_single_50 rfl rfl rfl rfl ?_
          refine w_iload_n dX8_single_53 rfl rfl ?_
          refine w_ialdx (o := 48) (n := 64) (x := bok (μ (p + 3) i)) dX8_single_54 rfl rfl (Nat.le_of_ble_eq_true rfl) (by omega) ((congrFun (hF_μ4.at (by omega) (by omega)) _).trans (hJ.kd (by omega))) ?_
          have hr6 := bok_f (μ (p + 3) i)
          refine w_iconst dX8_single_55 ?_
          have hJ56_2 : ∀ z2_0 : Int, z2_0 = (if 2 ≤ (bok (μ (p + 3) i)) then (if ¬ (bok (μ (p + 3) i)) = 2 then 17 else 15) else 14) → Wp (GG X) M_X8_single 81 [(2, 45), (0, i), (0, w), (0, z1_0), (9, 0), (9, 0), (9, 0)] [(0, z2_0)] μ4 (qI 0 fun z μ' => (Fr 45 45 57 61 μ' μ) ∧ (z = if (0 ≤ i ∧ i < μ p 7 ∧ μ (p + 4) i = 1) ∧ μ (p + 8) i < 0 ∧ 0 ≤ w ∧ w ≤ 2 then sglA μ p i w else -1000000) ∧ (RJ μ' p) ∧ (∀ k : Int, (¬ k = 0 ∧ ¬ (21 ≤ k ∧ k ≤ 24) ∧ ¬ (29 ≤ k ∧ k ≤ 33)) → μ' 45 k = μ 45 k)) := by
            intro z2_0 hz2_0
            refine w_istore (ls' := [(2, 45), (0, i), (0, w), (0, z1_0), (0, z2_0), (9, 0), (9, 0)]) dX8_single_81 (Nat.le_of_ble_eq_true rfl) rfl rfl ?_
            refine w_bipush dX8_single_83 (by decide) ?_
            refine w_aload_n dX8_single_85 rfl rfl (by first | decide | omega) ?_
            refine w_getR (o := 45) (x := 50) fX8_single_86 rfl rfl rfl rfl ?_
            refine w_iload_n dX8_single_89 rfl rfl ?_
            refine w_ialdx (o := 50) (n := 64) (x := μ (p + 5) i) dX8_single_90 rfl rfl (Nat.le_of_ble_eq_true rfl) (by omega) ((congrFun (hF_μ4.at (by omega) (by omega)) _).trans (hJ.po (by omega))) ?_
            refine w_imul dX8_single_91 ?_
            refine w_iload_n dX8_single_92 rfl rfl ?_
            refine w_imul dX8_single_93 ?_
            refine Wp.top (fun mi hmi => ?_)
            have hmi2 : -24 ≤ mi ∧ mi ≤ 24 := by have q : z1_0 = -1 ∨ z1_0 = 1 := (by omega); rcases q with q | q <;> rw [q] at hmi <;> omega
            refine w_istore (ls' := [(2, 45), (0, i), (0, w), (0, z1_0), (0, z2_0), (0, mi), (9, 0)]) dX8_single_94 (Nat.le_of_ble_eq_true rfl) rfl rfl ?_
            refine w_iload dX8_single_96 rfl ?_
            refine w_iload dX8_single_98 rfl ?_
            have hJ100_3 : ∀ z3_0 : Int, z3_0 = (if mi ≤ z2_0 then z2_0 else mi) → Wp (GG X) M_X8_single 110 [(2, 45), (0, i), (0, w), (0, z1_0), (0, z2_0), (0, mi), (9, 0)] [(0, z3_0)] μ4 (qI 0 fun z μ' => (Fr 45 45 57 61 μ' μ) ∧ (z = if (0 ≤ i ∧ i < μ p 7 ∧ μ (p + 4) i = 1) ∧ μ (p + 8) i < 0 ∧ 0 ≤ w ∧ w ≤ 2 then sglA μ p i w else -1000000) ∧ (RJ μ' p) ∧ (∀ k : Int, (¬ k = 0 ∧ ¬ (21 ≤ k ∧ k ≤ 24) ∧ ¬ (29 ≤ k ∧ k ≤ 33)) → μ' 45 k = μ 45 k)) := by
              intro z3_0 hz3_0
              refine w_istore (ls' := [(2, 45), (0, i), (0, w), (0, z1_0), (0, z2_0), (0, mi), (0, z3_0)]) dX8_single_110 (Nat.le_of_ble_eq_true rfl) rfl rfl ?_
              refine w_iload_n dX8_single_112 rfl rfl ?_
              refine w_if_ne (tgt := 120) dX8_single_113 rfl (R32.in (by omega)) (fun c113 => ?_) (fun c113 => ?_)
              · skip
                refine w_iload_n dX8_single_120 rfl rfl ?_
                refine w_iconst dX8_single_121 ?_
                refine w_icmp_ne (tgt := 130) dX8_single_122 rfl (R32.in (by omega)) (R32.in (by decide)) (fun c122 => ?_) (fun c122 => ?_)
                · skip
                  refine w_iconst dX8_single_130 ?_
                  refine w_aload_n dX8_single_131 rfl rfl (by first | decide | omega) ?_
                  refine w_getR (o := 45) (x := 50) fX8_single_132 rfl rfl rfl rfl ?_
                  refine w_iload_n dX8_single_135 rfl rfl ?_
                  refine w_ialdx (o := 50) (n := 64) (x := μ (p + 5) i) dX8_single_136 rfl rfl (Nat.le_of_ble_eq_true rfl) (by omega) ((congrFun (hF_μ4.at (by omega) (by omega)) _).trans (hJ.po (by omega))) ?_
                  refine w_imul dX8_single_137 ?_
                  refine w_iload_n dX8_single_138 rfl rfl ?_
                  refine w_iload dX8_single_139 rfl ?_
                  refine w_imul dX8_single_141 ?_
                  refine w_iadd dX8_single_142 ?_
                  exact w_iretI dX8_single_143 rfl ⟨hF_μ4, (by exact ifT (by omega) (sglA_r (wy := z1_0) (pl := z2_0) (mi := mi) (ln := z3_0) (by omega) (by omega) (by omega) (by omega) hmi (by omega) (by omega))), hJ4, (fun k h1 => (hff4 k (by omega)))⟩
                · skip
                  refine w_iload dX8_single_125 rfl ?_
                  refine w_goto (tgt := 143) dX8_single_127 rfl ?_
                  exact w_iretI dX8_single_143 rfl ⟨hF_μ4, (by exact ifT (by omega) (sglA_r (wy := z1_0) (pl := z2_0) (mi := mi) (ln := z3_0) (by omega) (by omega) (by omega) (by omega) hmi (by omega) (by omega))), hJ4, (fun k h1 => (hff4 k (by omega)))⟩
              · skip
                refine w_iload_n dX8_single_116 rfl rfl ?_
                refine w_goto (tgt := 143) dX8_single_117 rfl ?_
                exact w_iretI dX8_single_143 rfl ⟨hF_μ4, (by exact ifT (by omega) (sglA_r (wy := z1_0) (pl := z2_0) (mi := mi) (ln := z3_0) (by omega) (by omega) (by omega) (by omega) hmi (by omega) (by omega))), hJ4, (fun k h1 => (hff4 k (by omega)))⟩
            refine w_icmp_le (tgt := 108) dX8_single_100 rfl (R32.in (by omega)) (R32.in (by omega)) (fun c100 => ?_) (fun c100 => ?_)
            · skip
              refine w_iload dX8_single_108 rfl ?_
              exact hJ100_3 _ (by first | omega | simp [*])
            · skip
              refine w_iload dX8_single_103 rfl ?_
              refine w_goto (tgt := 110) dX8_single_105 rfl ?_
              exact hJ100_3 _ (by first | omega | simp [*])
          refine w_icmp_ge (tgt := 64) dX8_single_56 rfl (R32.in (by omega)) (R32.in (by decide)) (fun c56 => ?_) (fun c56 => ?_)
          · skip
            refine w_aload_n dX8_single_64 rfl rfl (by first | decide | omega) ?_
            refine w_getR (o := 45) (x := 48) fX8_single_65 rfl rfl rfl rfl ?_
            refine w_iload_n dX8_single_68 rfl rfl ?_
            refine w_ialdx (o := 48) (n := 64) (x := bok (μ (p + 3) i)) dX8_single_69 rfl rfl (Nat.le_of_ble_eq_true rfl) (by omega) ((congrFun (hF_μ4.at (by omega) (by omega)) _).trans (hJ.kd (by omega))) ?_
            refine w_iconst dX8_single_70 ?_
            refine w_icmp_ne (tgt := 79) dX8_single_71 rfl (R32.in (by omega)) (R32.in (by decide)) (fun c71 => ?_) (fun c71 => ?_)
            · skip
              refine w_bipush dX8_single_79 (by decide) ?_
              exact hJ56_2 _ (by first | omega | simp [*])
            · skip
              refine w_bipush dX8_single_74 (by decide) ?_
              refine w_goto (tgt := 81) dX8_single_76 rfl ?_
              exact hJ56_2 _ (by first | omega | simp [*])
          · skip
            refine w_bipush dX8_single_59 (by decide) ?_
            refine w_goto (tgt := 81) dX8_single_61 rfl ?_
            exact hJ56_2 _ (by first | omega | simp [*])
        refine w_if_lt (tgt := 47) dX8_single_40 rfl (R32.in (by omega)) (fun c40 => ?_) (fun c40 => ?_)
        · skip
          refine w_iconst dX8_single_47 ?_
          exact hJ40_1 _ (by first | omega | simp [*])
        · skip
          refine w_iconst dX8_single_43 ?_
          refine w_goto (tgt := 48) dX8_single_44 rfl ?_
          exact hJ40_1 _ (by first | omega | simp [*])
      · skip
        replace c28 := am_b0 c28
        refine w_ldc (n := -1000000) dX8_single_31 k_1620 (by decide) ?_
        exact w_iretI dX8_single_33 rfl ⟨hF_μ4, (by exact ifF (by omega) rfl), hJ4, (fun k h1 => (hff4 k (by omega)))⟩

set_option maxRecDepth 100000 in
set_option maxHeartbeats 4000000 in
theorem s_X8_extreme (X : AX) (p : Int) (g : Int) (w : Int) (μ : Mu) (hC : CJ μ p) (hJ : RJ μ p) (hg : -2147483648 ≤ g ∧ g ≤ 2147483647) (hw : -2147483648 ≤ w ∧ w ≤ 2147483647) : Wp (GG X) M_X8_extreme 0 [(2, 45), (0, g), (0, w), (9, 0), (9, 0), (9, 0), (9, 0)] [] μ (qI 0 fun z μ' => (Fr 45 45 57 61 μ' μ) ∧ (z = if (0 ≤ g ∧ g < μ p 14) ∧ 0 ≤ w ∧ w ≤ 1 then (if mnK (ddt μ p (p + 5) (μ p 3) g) = 9223372036854775807 then -2 else (μ (p + 9) g) + extI (ddt μ p (p + 5) (μ p 3) g) w (dN (ddt μ p (p + 5) (μ p 3) g) - 1)) else -1) ∧ (RJ μ' p) ∧ (∀ k : Int, (¬ k = 0 ∧ ¬ (21 ≤ k ∧ k ≤ 24) ∧ ¬ (29 ≤ k ∧ k ≤ 33)) → μ' 45 k = μ 45 k)) := by
  have hI := hC.i
  have hG := hC.pg
  have hp := hI.at
  have hz := hI.sz
  have hgr := hG.gr
  have hkn := hC.kn
  have hRA := hJ.rag hC
  refine w_aload_n dX8_extreme_0 rfl rfl (by first | decide | omega) ?_
  refine w_iconst dX8_extreme_1 ?_
  refine w_putI (o := 45) (f := 0) fX8_extreme_2 rfl rfl rfl rfl rfl ?_
  have hF_μ4 : Fr 45 45 57 61 (am_up μ 45 0 0) μ := (Fr.rf.up (by omega))
  have hA4 : RAg (ddt μ p (p + 5) (μ p 3)) (μ (p + 9)) (μ p 14) (am_up μ 45 0 0) := (RAg.cg2 hRA (fun o h1 => (am_up_o (by omega))) (fun k h1 => (am_up_nk (by omega))))
  have hJ4 : RJ (am_up μ 45 0 0) p := (RJ.cg2 hJ (fun o h1 => (am_up_o (by omega))) (fun k h1 => (am_up_nk (by omega))))
  have hj4 : RJz (am_up μ 45 0 0) p := hJ4.j0
  have hC4 : CJ (am_up μ 45 0 0) p := (CJ.cg hC (fun o h1 => (am_up_o (by omega))))
  have h564 : ∀ j : Int, 0 ≤ j → j < μ p 7 → (am_up μ 45 0 0) 56 j = μ (p + 5) j := (fun j h1 h2 => ((congrFun (am_up_o (by omega)) _).trans (hJ.ht ⟨h1, h2⟩)))
  have h194 : (am_up μ 45 0 0) 45 19 = μ p 3 := (((am_up_nk (by omega)).trans hJ.f19).trans (by rfl))
  have hff4 : ∀ k : Int, ¬ k = 0 → (am_up μ 45 0 0) 45 k = μ 45 k := (fun k h1 => (am_up_nk (by omega)))
  refine Wp.mu (fun μ4 hμ4 => ?_)
  rw [← hμ4] at hF_μ4 hA4 hJ4 hj4 hC4 h564 h194 hff4
  clear hμ4
  have e4 : ∀ o : Int, p ≤ o ∧ o ≤ p + 10 → μ4 o = μ o := fun o h1 => hF_μ4.at (by omega) (by omega)
  have e47 : μ4 p 7 = μ p 7 := congrFun (e4 p (by omega)) _
  have e414 : μ4 p 14 = μ p 14 := congrFun (e4 p (by omega)) _
  refine w_aload_n dX8_extreme_5 rfl rfl (by first | decide | omega) ?_
  refine w_iload_n dX8_extreme_6 rfl rfl ?_
  refine w_callVP (o := 45) (ci := 8) (as := [(0, g)]) (rest := []) (k := 0) fX8_extreme_7 rfl rfl rfl rfl rfl rfl rfl rfl (Nat.le_of_ble_eq_true rfl) (s_X8_isGroup X p g μ4 hC4 hJ4 (by first | omega | assumption)) ?_
  have hf1 := am_b_r (0 ≤ g ∧ g < μ4 p 14)
  refine w_if_eq (tgt := 22) dX8_extreme_10 rfl (R32.in (by have := am_b_r ((0 ≤ g ∧ g < μ4 p 14)); omega)) (fun c10 => ?_) (fun c10 => ?_)
  · skip
    replace c10 := am_b0 c10
    refine w_iconst dX8_extreme_22 ?_
    exact w_iretI dX8_extreme_23 rfl ⟨hF_μ4, (by exact ifF (by omega) rfl), hJ4, (fun k h1 => (hff4 k (by omega)))⟩
  · skip
    replace c10 := am_b1 c10
    refine w_iload_n dX8_extreme_13 rfl rfl ?_
    refine w_iconst dX8_extreme_14 ?_
    refine w_iconst dX8_extreme_15 ?_
    refine w_callSP (as := [(0, w), (0, 0), (0, 1)]) (rest := []) (k := 0) fX8_extreme_16 rfl rfl rfl rfl rfl (Nat.le_of_ble_eq_true rfl) (s_X8_isIn X w 0 1 μ4 (by first | omega | assumption) (by first | omega | assumption) (by first | omega | assumption)) ?_
    have hf2 := am_b_r (0 ≤ w ∧ w ≤ 1)
    refine w_if_ne (tgt := 24) dX8_extreme_19 rfl (R32.in (by have := am_b_r ((0 ≤ w ∧ w ≤ 1)); omega)) (fun c19 => ?_) (fun c19 => ?_)
    · skip
      replace c19 := am_b1 c19
      refine w_aload_n dX8_extreme_24 rfl rfl (by first | decide | omega) ?_
      refine w_iload_n dX8_extreme_25 rfl rfl ?_
      refine w_callVV (o := 45) (ci := 8) (as := [(0, g)]) (rest := []) (k := 2) fX8_extreme_26 rfl rfl rfl rfl rfl rfl rfl rfl (Nat.le_of_ble_eq_true rfl) (s_X8_laysSets X (ddt μ p (p + 5) (μ p 3) g) (μ (p + 9) g) g μ4 (hA4.gp (by omega))) (fun μS hμS => ?_)
      obtain ⟨hFS, hS_S, hf_S⟩ := hμS
      have hok := hS_S.ok
      have hcc := hS_S.c
      have hnn := hok.n
      refine w_aload_n dX8_extreme_29 rfl rfl (by first | decide | omega) ?_
      refine w_callVP (o := 45) (ci := 8) (as := []) (rest := []) (k := 2) fX8_extreme_30 rfl rfl rfl rfl rfl rfl rfl rfl (Nat.le_of_ble_eq_true rfl) (s_X8_bestSet X (ddt μ p (p + 5) (μ p 3) g) (μ (p + 9) g) μS hS_S) ?_
      have hf4 := bstI_r (ddt μ p (p + 5) (μ p 3) g) (nS (ddt μ p (p + 5) (μ p 3) g)) (nS_0 (ddt μ p (p + 5) (μ p 3) g))
      refine w_istore_n (ls' := [(2, 45), (0, g), (0, w), (0, bstI (ddt μ p (p + 5) (μ p 3) g) (nS (ddt μ p (p + 5) (μ p 3) g))), (9, 0), (9, 0), (9, 0)]) dX8_extreme_33 rfl (Nat.le_of_ble_eq_true rfl) rfl rfl ?_
      refine w_iload_n dX8_extreme_34 rfl rfl ?_
      refine w_iconst dX8_extreme_35 ?_
      refine w_icmp_ne (tgt := 42) dX8_extreme_36 rfl (R32.in (by omega)) (R32.in (by decide)) (fun c36 => ?_) (fun c36 => ?_)
      · skip
        have hbb := bst_lr hok c36
        have hxx := hG.fl (g := g) (by omega)
        refine w_aload_n dX8_extreme_42 rfl rfl (by first | decide | omega) ?_
        refine w_getIx (o := 45) (f := 22) (x := (μ (p + 9) g)) fX8_extreme_43 rfl rfl (Nat.le_of_ble_eq_true rfl) rfl hS_S.1.fi ?_
        refine w_istore (ls' := [(2, 45), (0, g), (0, w), (0, bstI (ddt μ p (p + 5) (μ p 3) g) (nS (ddt μ p (p + 5) (μ p 3) g))), (0, (μ (p + 9) g)), (9, 0), (9, 0)]) dX8_extreme_46 (Nat.le_of_ble_eq_true rfl) rfl rfl ?_
        refine w_aload_n dX8_extreme_48 rfl rfl (by first | decide | omega) ?_
        refine w_getIx (o := 45) (f := 22) (x := (μ (p + 9) g)) fX8_extreme_49 rfl rfl (Nat.le_of_ble_eq_true rfl) rfl hS_S.1.fi ?_
        refine w_iconst dX8_extreme_52 ?_
        refine w_iadd dX8_extreme_53 ?_
        refine w_istore (ls' := [(2, 45), (0, g), (0, w), (0, bstI (ddt μ p (p + 5) (μ p 3) g) (nS (ddt μ p (p + 5) (μ p 3) g))), (0, (μ (p + 9) g)), (0, (μ (p + 9) g) + 1), (9, 0)]) dX8_extreme_54 (Nat.le_of_ble_eq_true rfl) rfl rfl ?_
        have hL56 : ∀ (n56 : Nat) (b : Int) (i : Int), ((μ (p + 9) g) + dN (ddt μ p (p + 5) (μ p 3) g) - i).toNat = n56 → ((μ (p + 9) g) + 1 ≤ i ∧ i ≤ (μ (p + 9) g) + dN (ddt μ p (p + 5) (μ p 3) g)) → (b = (μ (p + 9) g) + extI (ddt μ p (p + 5) (μ p 3) g) w (i - (μ (p + 9) g) - 1)) → Wp (GG X) M_X8_extreme 56 [(2, 45), (0, g), (0, w), (0, bstI (ddt μ p (p + 5) (μ p 3) g) (nS (ddt μ p (p + 5) (μ p 3) g))), (0, b), (0, i), (9, 0)] [] μS (qI 0 fun z μ' => (Fr 45 45 57 61 μ' μ) ∧ (z = if (0 ≤ g ∧ g < μ p 14) ∧ 0 ≤ w ∧ w ≤ 1 then (if mnK (ddt μ p (p + 5) (μ p 3) g) = 9223372036854775807 then -2 else (μ (p + 9) g) + extI (ddt μ p (p + 5) (μ p 3) g) w (dN (ddt μ p (p + 5) (μ p 3) g) - 1)) else -1) ∧ (RJ μ' p) ∧ (∀ k : Int, (¬ k = 0 ∧ ¬ (21 ≤ k ∧ k ≤ 24) ∧ ¬ (29 ≤ k ∧ k ≤ 33)) → μ' 45 k = μ 45 k)) := by
          intro n56
          induction n56 using Nat.strongRecOn with
          | ind n56 ih56 =>
            intro b i hn56 hi0 hb
            have hxr := extI_r (D := (ddt μ p (p + 5) (μ p 3) g)) (w := w) (i := i - (μ (p + 9) g) - 1) (by omega)
            refine w_iload dX8_extreme_56 rfl ?_
            refine w_aload_n dX8_extreme_58 rfl rfl (by first | decide | omega) ?_
            refine w_getIx (o := 45) (f := 23) (x := (μ (p + 9) g) + (dN (ddt μ p (p + 5) (μ p 3) g) - 1)) fX8_extreme_59 rfl rfl (Nat.le_of_ble_eq_true rfl) rfl hS_S.1.la ?_
            have hr5 := (hS_S.1.ok).n
            refine w_icmp_gt (tgt := 131) dX8_extreme_62 rfl (R32.in (by omega)) (R32.in (by omega)) (fun c62 => ?_) (fun c62 => ?_)
            · skip
              refine w_iload dX8_extreme_131 rfl ?_
              exact w_iretI dX8_extreme_133 rfl ⟨((hFS.wd (by omega) (by omega)).tr hF_μ4), (by exact ifT (by omega) (ifF hbb.2.1 (by rw [hb, show i - (μ (p + 9) g) - 1 = dN (ddt μ p (p + 5) (μ p 3) g) - 1 by omega]))), (RJ.cg2 hJ4 (fun o h1 => (hFS.at (by omega) (by omega))) (fun k h1 => (hf_S _ (by omega)))), (fun k h1 => ((hf_S k (by omega)).trans (hff4 k (by omega))))⟩
            · skip
              refine w_aload_n dX8_extreme_65 rfl rfl (by first | decide | omega) ?_
              refine w_iload dX8_extreme_66 rfl ?_
              refine Wp.topE (b := (μ (p + 9) g) + (i - (μ (p + 9) g))) (by omega) ?_
              refine w_aload_n dX8_extreme_68 rfl rfl (by first | decide | omega) ?_
              refine w_getR (o := 45) (x := 58) fX8_extreme_69 rfl rfl rfl rfl ?_
              refine w_iload_n dX8_extreme_72 rfl rfl ?_
              refine w_ialdx (o := 58) (n := 2100) (x := (sq (ddt μ p (p + 5) (μ p 3) g) (bstI (ddt μ p (p + 5) (μ p 3) g) (nS (ddt μ p (p + 5) (μ p 3) g)))).1) dX8_extreme_73 rfl rfl (Nat.le_of_ble_eq_true rfl) (by omega) (hS_S.2.2.1 _ (by omega) (by omega)) ?_
              have hr6 := (sq_r (hS_S.ok) (j := (bstI (ddt μ p (p + 5) (μ p 3) g) (nS (ddt μ p (p + 5) (μ p 3) g)))) (by omega)).1
              refine w_aload_n dX8_extreme_74 rfl rfl (by first | decide | omega) ?_
              refine w_getR (o := 45) (x := 59) fX8_extreme_75 rfl rfl rfl rfl ?_
              refine w_iload_n dX8_extreme_78 rfl rfl ?_
              refine w_ialdx (o := 59) (n := 2100) (x := (sq (ddt μ p (p + 5) (μ p 3) g) (bstI (ddt μ p (p + 5) (μ p 3) g) (nS (ddt μ p (p + 5) (μ p 3) g)))).2) dX8_extreme_79 rfl rfl (Nat.le_of_ble_eq_true rfl) (by omega) (hS_S.2.2.2.1 _ (by omega) (by omega)) ?_
              have hr7 := (sq_r (hS_S.ok) (j := (bstI (ddt μ p (p + 5) (μ p 3) g) (nS (ddt μ p (p + 5) (μ p 3) g)))) (by omega)).2
              refine w_callVP (o := 45) (ci := 8) (as := [(0, (μ (p + 9) g) + (i - (μ (p + 9) g))), (0, (sq (ddt μ p (p + 5) (μ p 3) g) (bstI (ddt μ p (p + 5) (μ p 3) g) (nS (ddt μ p (p + 5) (μ p 3) g)))).1), (0, (sq (ddt μ p (p + 5) (μ p 3) g) (bstI (ddt μ p (p + 5) (μ p 3) g) (nS (ddt μ p (p + 5) (μ p 3) g)))).2)]) (rest := []) (k := 1) fX8_extreme_80 rfl rfl rfl rfl rfl rfl rfl rfl (Nat.le_of_ble_eq_true rfl) (s_X8_lengthAt X (ddt μ p (p + 5) (μ p 3) g) (μ (p + 9) g) (i - (μ (p + 9) g)) ((sq (ddt μ p (p + 5) (μ p 3) g) (bstI (ddt μ p (p + 5) (μ p 3) g) (nS (ddt μ p (p + 5) (μ p 3) g)))).1) ((sq (ddt μ p (p + 5) (μ p 3) g) (bstI (ddt μ p (p + 5) (μ p 3) g) (nS (ddt μ p (p + 5) (μ p 3) g)))).2) μS hS_S.1 (by first | omega | assumption) (sq_r hok hbb.1)) ?_
              have hf8 := len_fr (ddt μ p (p + 5) (μ p 3) g) ((sq (ddt μ p (p + 5) (μ p 3) g) (bstI (ddt μ p (p + 5) (μ p 3) g) (nS (ddt μ p (p + 5) (μ p 3) g)))).1) ((sq (ddt μ p (p + 5) (μ p 3) g) (bstI (ddt μ p (p + 5) (μ p 3) g) (nS (ddt μ p (p + 5) (μ p 3) g)))).2) (i - (μ (p + 9) g)) (by assumption) (by omega) (by omega)
              refine w_aload_n dX8_extreme_83 rfl rfl (by first | decide | omega) ?_
              refine w_iload dX8_extreme_84 rfl ?_
              refine Wp.topE (b := (μ (p + 9) g) + (b - (μ (p + 9) g))) (by omega) ?_
              refine w_aload_n dX8_extreme_86 rfl rfl (by first | decide | omega) ?_
              refine w_getR (o := 45) (x := 58) fX8_extreme_87 rfl rfl rfl rfl ?_
              refine w_iload_n dX8_extreme_90 rfl rfl ?_
              refine w_ialdx (o := 58) (n := 2100) (x := (sq (ddt μ p (p + 5) (μ p 3) g) (bstI (ddt μ p (p + 5) (μ p 3) g) (nS (ddt μ p (p + 5) (μ p 3) g)))).1) dX8_extreme_91 rfl rfl (Nat.le_of_ble_eq_true rfl) (by omega) (hS_S.2.2.1 _ (by omega) (by omega)) ?_
              refine w_aload_n dX8_extreme_92 rfl rfl (by first | decide | omega) ?_
              refine w_getR (o := 45) (x := 59) fX8_extreme_93 rfl rfl rfl rfl ?_
              refine w_iload_n dX8_extreme_96 rfl rfl ?_
              refine w_ialdx (o := 59) (n := 2100) (x := (sq (ddt μ p (p + 5) (μ p 3) g) (bstI (ddt μ p (p + 5) (μ p 3) g) (nS (ddt μ p (p + 5) (μ p 3) g)))).2) dX8_extreme_97 rfl rfl (Nat.le_of_ble_eq_true rfl) (by omega) (hS_S.2.2.2.1 _ (by omega) (by omega)) ?_
              refine w_callVP (o := 45) (ci := 8) (as := [(0, (μ (p + 9) g) + (b - (μ (p + 9) g))), (0, (sq (ddt μ p (p + 5) (μ p 3) g) (bstI (ddt μ p (p + 5) (μ p 3) g) (nS (ddt μ p (p + 5) (μ p 3) g)))).1), (0, (sq (ddt μ p (p + 5) (μ p 3) g) (bstI (ddt μ p (p + 5) (μ p 3) g) (nS (ddt μ p (p + 5) (μ p 3) g)))).2)]) (rest := [(0, len (ddt μ p (p + 5) (μ p 3) g) (((sq (ddt μ p (p + 5) (μ p 3) g) (bstI (ddt μ p (p + 5) (μ p 3) g) (nS (ddt μ p (p + 5) (μ p 3) g)))).2) - ((sq (ddt μ p (p + 5) (μ p 3) g) (bstI (ddt μ p (p + 5) (μ p 3) g) (nS (ddt μ p (p + 5) (μ p 3) g)))).1)) ((sq (ddt μ p (p + 5) (μ p 3) g) (bstI (ddt μ p (p + 5) (μ p 3) g) (nS (ddt μ p (p + 5) (μ p 3) g)))).1) (i - (μ (p + 9) g)))]) (k := 1) fX8_extreme_98 rfl rfl rfl rfl rfl rfl rfl rfl (Nat.le_of_ble_eq_true rfl) (s_X8_lengthAt X (ddt μ p (p + 5) (μ p 3) g) (μ (p + 9) g) (b - (μ (p + 9) g)) ((sq (ddt μ p (p + 5) (μ p 3) g) (bstI (ddt μ p (p + 5) (μ p 3) g) (nS (ddt μ p (p + 5) (μ p 3) g)))).1) ((sq (ddt μ p (p + 5) (μ p 3) g) (bstI (ddt μ p (p + 5) (μ p 3) g) (nS (ddt μ p (p + 5) (μ p 3) g)))).2) μS hS_S.1 (by first | omega | assumption) (sq_r hok hbb.1)) ?_
              have hf9 := len_fr (ddt μ p (p + 5) (μ p 3) g) ((sq (ddt μ p (p + 5) (μ p 3) g) (bstI (ddt μ p (p + 5) (μ p 3) g) (nS (ddt μ p (p + 5) (μ p 3) g)))).1) ((sq (ddt μ p (p + 5) (μ p 3) g) (bstI (ddt μ p (p + 5) (μ p 3) g) (nS (ddt μ p (p + 5) (μ p 3) g)))).2) (b - (μ (p + 9) g)) (by assumption) (by omega) (by omega)
              refine w_isub dX8_extreme_101 ?_
              refine Wp.top (fun df hdf => ?_)
              refine w_istore (ls' := [(2, 45), (0, g), (0, w), (0, bstI (ddt μ p (p + 5) (μ p 3) g) (nS (ddt μ p (p + 5) (μ p 3) g))), (0, b), (0, i), (0, df)]) dX8_extreme_102 (Nat.le_of_ble_eq_true rfl) rfl rfl ?_
              refine w_iload_n dX8_extreme_104 rfl rfl ?_
              refine w_if_ne (tgt := 116) dX8_extreme_105 rfl (R32.in (by omega)) (fun c105 => ?_) (fun c105 => ?_)
              · skip
                refine w_iload dX8_extreme_116 rfl ?_
                refine w_if_le (tgt := 125) dX8_extreme_118 rfl (R32.in (by omega)) (fun c118 => ?_) (fun c118 => ?_)
                · skip
                  refine w_iinc (ls' := [(2, 45), (0, g), (0, w), (0, bstI (ddt μ p (p + 5) (μ p 3) g) (nS (ddt μ p (p + 5) (μ p 3) g))), (0, b), (0, i + 1), (0, df)]) dX8_extreme_125 rfl (Nat.le_of_ble_eq_true rfl) rfl rfl ?_
                  refine w_goto (tgt := 56) dX8_extreme_128 rfl ?_
                  refine Wp.fgl (ls' := [(2, 45), (0, g), (0, w), (0, bstI (ddt μ p (p + 5) (μ p 3) g) (nS (ddt μ p (p + 5) (μ p 3) g))), (0, b), (0, i + 1), (9, 0)]) 6 rfl ?_
                  exact ih56 _ (by omega) b (i + 1) rfl (by first | omega | assumption) (by rw [show i + 1 - (μ (p + 9) g) - 1 = (i - (μ (p + 9) g) - 1) + 1 by omega]; rw [hbb.2.2.1, hbb.2.2.2.1, show b - (μ (p + 9) g) = extI (ddt μ p (p + 5) (μ p 3) g) w (i - (μ (p + 9) g) - 1) by omega] at hdf; first | (rw [extI_s0 (by omega) c105]; rw [show i - (μ (p + 9) g) - 1 + 1 = i - (μ (p + 9) g) by omega]; omega) | (rw [extI_s1 (by omega) c105]; rw [show i - (μ (p + 9) g) - 1 + 1 = i - (μ (p + 9) g) by omega]; omega))
                · skip
                  refine w_iload dX8_extreme_121 rfl ?_
                  refine w_istore (ls' := [(2, 45), (0, g), (0, w), (0, bstI (ddt μ p (p + 5) (μ p 3) g) (nS (ddt μ p (p + 5) (μ p 3) g))), (0, i), (0, i), (0, df)]) dX8_extreme_123 (Nat.le_of_ble_eq_true rfl) rfl rfl ?_
                  refine w_iinc (ls' := [(2, 45), (0, g), (0, w), (0, bstI (ddt μ p (p + 5) (μ p 3) g) (nS (ddt μ p (p + 5) (μ p 3) g))), (0, i), (0, i + 1), (0, df)]) dX8_extreme_125 rfl (Nat.le_of_ble_eq_true rfl) rfl rfl ?_
                  refine w_goto (tgt := 56) dX8_extreme_128 rfl ?_
                  refine Wp.fgl (ls' := [(2, 45), (0, g), (0, w), (0, bstI (ddt μ p (p + 5) (μ p 3) g) (nS (ddt μ p (p + 5) (μ p 3) g))), (0, i), (0, i + 1), (9, 0)]) 6 rfl ?_
                  exact ih56 _ (by omega) i (i + 1) rfl (by first | omega | assumption) (by rw [show i + 1 - (μ (p + 9) g) - 1 = (i - (μ (p + 9) g) - 1) + 1 by omega]; rw [hbb.2.2.1, hbb.2.2.2.1, show b - (μ (p + 9) g) = extI (ddt μ p (p + 5) (μ p 3) g) w (i - (μ (p + 9) g) - 1) by omega] at hdf; first | (rw [extI_s0 (by omega) c105]; rw [show i - (μ (p + 9) g) - 1 + 1 = i - (μ (p + 9) g) by omega]; omega) | (rw [extI_s1 (by omega) c105]; rw [show i - (μ (p + 9) g) - 1 + 1 = i - (μ (p + 9) g) by omega]; omega))
              · skip
                refine w_iload dX8_extreme_108 rfl ?_
                refine w_if_ge (tgt := 125) dX8_extreme_110 rfl (R32.in (by omega)) (fun c110 => ?_) (fun c110 => ?_)
                · skip
                  refine w_iinc (ls' := [(2, 45), (0, g), (0, w), (0, bstI (ddt μ p (p + 5) (μ p 3) g) (nS (ddt μ p (p + 5) (μ p 3) g))), (0, b), (0, i + 1), (0, df)]) dX8_extreme_125 rfl (Nat.le_of_ble_eq_true rfl) rfl rfl ?_
                  refine w_goto (tgt := 56) dX8_extreme_128 rfl ?_
                  refine Wp.fgl (ls' := [(2, 45), (0, g), (0, w), (0, bstI (ddt μ p (p + 5) (μ p 3) g) (nS (ddt μ p (p + 5) (μ p 3) g))), (0, b), (0, i + 1), (9, 0)]) 6 rfl ?_
                  exact ih56 _ (by omega) b (i + 1) rfl (by first | omega | assumption) (by rw [show i + 1 - (μ (p + 9) g) - 1 = (i - (μ (p + 9) g) - 1) + 1 by omega]; rw [hbb.2.2.1, hbb.2.2.2.1, show b - (μ (p + 9) g) = extI (ddt μ p (p + 5) (μ p 3) g) w (i - (μ (p + 9) g) - 1) by omega] at hdf; first | (rw [extI_s0 (by omega) c105]; rw [show i - (μ (p + 9) g) - 1 + 1 = i - (μ (p + 9) g) by omega]; omega) | (rw [extI_s1 (by omega) c105]; rw [show i - (μ (p + 9) g) - 1 + 1 = i - (μ (p + 9) g) by omega]; omega))
                · skip
                  refine w_goto (tgt := 121) dX8_extreme_113 rfl ?_
                  refine w_iload dX8_extreme_121 rfl ?_
                  refine w_istore (ls' := [(2, 45), (0, g), (0, w), (0, bstI (ddt μ p (p + 5) (μ p 3) g) (nS (ddt μ p (p + 5) (μ p 3) g))), (0, i), (0, i), (0, df)]) dX8_extreme_123 (Nat.le_of_ble_eq_true rfl) rfl rfl ?_
                  refine w_iinc (ls' := [(2, 45), (0, g), (0, w), (0, bstI (ddt μ p (p + 5) (μ p 3) g) (nS (ddt μ p (p + 5) (μ p 3) g))), (0, i), (0, i + 1), (0, df)]) dX8_extreme_125 rfl (Nat.le_of_ble_eq_true rfl) rfl rfl ?_
                  refine w_goto (tgt := 56) dX8_extreme_128 rfl ?_
                  refine Wp.fgl (ls' := [(2, 45), (0, g), (0, w), (0, bstI (ddt μ p (p + 5) (μ p 3) g) (nS (ddt μ p (p + 5) (μ p 3) g))), (0, i), (0, i + 1), (9, 0)]) 6 rfl ?_
                  exact ih56 _ (by omega) i (i + 1) rfl (by first | omega | assumption) (by rw [show i + 1 - (μ (p + 9) g) - 1 = (i - (μ (p + 9) g) - 1) + 1 by omega]; rw [hbb.2.2.1, hbb.2.2.2.1, show b - (μ (p + 9) g) = extI (ddt μ p (p + 5) (μ p 3) g) w (i - (μ (p + 9) g) - 1) by omega] at hdf; first | (rw [extI_s0 (by omega) c105]; rw [show i - (μ (p + 9) g) - 1 + 1 = i - (μ (p + 9) g) by omega]; omega) | (rw [extI_s1 (by omega) c105]; rw [show i - (μ (p + 9) g) - 1 + 1 = i - (μ (p + 9) g) by omega]; omega))
        exact hL56 _ (μ (p + 9) g) ((μ (p + 9) g) + 1) rfl (by first | omega | assumption) (by rw [show (μ (p + 9) g) + 1 - (μ (p + 9) g) - 1 = 0 by omega]; show (μ (p + 9) g) = (μ (p + 9) g) + 0; omega)
      · skip
        refine w_bipush dX8_extreme_39 (by decide) ?_
        exact w_iretI dX8_extreme_41 rfl ⟨((hFS.wd (by omega) (by omega)).tr hF_μ4), (by exact ifT (by omega) (ifT (bst_no hok c36) rfl)), (RJ.cg2 hJ4 (fun o h1 => (hFS.at (by omega) (by omega))) (fun k h1 => (hf_S _ (by omega)))), (fun k h1 => ((hf_S k (by omega)).trans (hff4 k (by omega))))⟩
    · skip
      replace c19 := am_b0 c19
      refine w_iconst dX8_extreme_22 ?_
      exact w_iretI dX8_extreme_23 rfl ⟨hF_μ4, (by exact ifF (by omega) rfl), hJ4, (fun k h1 => (hff4 k (by omega)))⟩

set_option maxRecDepth 100000 in
set_option maxHeartbeats 4000000 in
theorem s_X8_level (X : AX) (p : Int) (g : Int) (w : Int) (μ : Mu) (hC : CJ μ p) (hJ : RJ μ p) (hg : -2147483648 ≤ g ∧ g ≤ 2147483647) (hw : -2147483648 ≤ w ∧ w ≤ 2147483647) : Wp (GG X) M_X8_level 0 [(2, 45), (0, g), (0, w), (9, 0), (9, 0)] [] μ (qI 0 fun z μ' => (Fr 45 45 57 61 μ' μ) ∧ (z = if (0 ≤ g ∧ g < μ p 14) ∧ 0 ≤ w ∧ w ≤ 2 then lvA (ddt μ p (p + 5) (μ p 3) g) w else -1000000) ∧ (RJ μ' p) ∧ (∀ k : Int, (¬ k = 0 ∧ ¬ (21 ≤ k ∧ k ≤ 24) ∧ ¬ (29 ≤ k ∧ k ≤ 33)) → μ' 45 k = μ 45 k)) := by
  have hI := hC.i
  have hG := hC.pg
  have hp := hI.at
  have hz := hI.sz
  have hgr := hG.gr
  have hkn := hC.kn
  have hRA := hJ.rag hC
  refine w_aload_n dX8_level_0 rfl rfl (by first | decide | omega) ?_
  refine w_iconst dX8_level_1 ?_
  refine w_putI (o := 45) (f := 0) fX8_level_2 rfl rfl rfl rfl rfl ?_
  have hF_μ4 : Fr 45 45 57 61 (am_up μ 45 0 0) μ := (Fr.rf.up (by omega))
  have hA4 : RAg (ddt μ p (p + 5) (μ p 3)) (μ (p + 9)) (μ p 14) (am_up μ 45 0 0) := (RAg.cg2 hRA (fun o h1 => (am_up_o (by omega))) (fun k h1 => (am_up_nk (by omega))))
  have hJ4 : RJ (am_up μ 45 0 0) p := (RJ.cg2 hJ (fun o h1 => (am_up_o (by omega))) (fun k h1 => (am_up_nk (by omega))))
  have hj4 : RJz (am_up μ 45 0 0) p := hJ4.j0
  have hC4 : CJ (am_up μ 45 0 0) p := (CJ.cg hC (fun o h1 => (am_up_o (by omega))))
  have h564 : ∀ j : Int, 0 ≤ j → j < μ p 7 → (am_up μ 45 0 0) 56 j = μ (p + 5) j := (fun j h1 h2 => ((congrFun (am_up_o (by omega)) _).trans (hJ.ht ⟨h1, h2⟩)))
  have h194 : (am_up μ 45 0 0) 45 19 = μ p 3 := (((am_up_nk (by omega)).trans hJ.f19).trans (by rfl))
  have hff4 : ∀ k : Int, ¬ k = 0 → (am_up μ 45 0 0) 45 k = μ 45 k := (fun k h1 => (am_up_nk (by omega)))
  refine Wp.mu (fun μ4 hμ4 => ?_)
  rw [← hμ4] at hF_μ4 hA4 hJ4 hj4 hC4 h564 h194 hff4
  clear hμ4
  have e4 : ∀ o : Int, p ≤ o ∧ o ≤ p + 10 → μ4 o = μ o := fun o h1 => hF_μ4.at (by omega) (by omega)
  have e47 : μ4 p 7 = μ p 7 := congrFun (e4 p (by omega)) _
  have e414 : μ4 p 14 = μ p 14 := congrFun (e4 p (by omega)) _
  refine w_aload_n dX8_level_5 rfl rfl (by first | decide | omega) ?_
  refine w_iload_n dX8_level_6 rfl rfl ?_
  refine w_callVP (o := 45) (ci := 8) (as := [(0, g)]) (rest := []) (k := 0) fX8_level_7 rfl rfl rfl rfl rfl rfl rfl rfl (Nat.le_of_ble_eq_true rfl) (s_X8_isGroup X p g μ4 hC4 hJ4 (by first | omega | assumption)) ?_
  have hf1 := am_b_r (0 ≤ g ∧ g < μ4 p 14)
  refine w_if_eq (tgt := 22) dX8_level_10 rfl (R32.in (by have := am_b_r ((0 ≤ g ∧ g < μ4 p 14)); omega)) (fun c10 => ?_) (fun c10 => ?_)
  · skip
    replace c10 := am_b0 c10
    refine w_ldc (n := -1000000) dX8_level_22 k_1620 (by decide) ?_
    exact w_iretI dX8_level_24 rfl ⟨hF_μ4, (by exact ifF (by omega) rfl), hJ4, (fun k h1 => (hff4 k (by omega)))⟩
  · skip
    replace c10 := am_b1 c10
    refine w_iload_n dX8_level_13 rfl rfl ?_
    refine w_iconst dX8_level_14 ?_
    refine w_iconst dX8_level_15 ?_
    refine w_callSP (as := [(0, w), (0, 0), (0, 2)]) (rest := []) (k := 0) fX8_level_16 rfl rfl rfl rfl rfl (Nat.le_of_ble_eq_true rfl) (s_X8_isIn X w 0 2 μ4 (by first | omega | assumption) (by first | omega | assumption) (by first | omega | assumption)) ?_
    have hf2 := am_b_r (0 ≤ w ∧ w ≤ 2)
    refine w_if_ne (tgt := 25) dX8_level_19 rfl (R32.in (by have := am_b_r ((0 ≤ w ∧ w ≤ 2)); omega)) (fun c19 => ?_) (fun c19 => ?_)
    · skip
      replace c19 := am_b1 c19
      refine w_aload_n dX8_level_25 rfl rfl (by first | decide | omega) ?_
      refine w_iload_n dX8_level_26 rfl rfl ?_
      refine w_callVV (o := 45) (ci := 8) (as := [(0, g)]) (rest := []) (k := 2) fX8_level_27 rfl rfl rfl rfl rfl rfl rfl rfl (Nat.le_of_ble_eq_true rfl) (s_X8_laysSets X (ddt μ p (p + 5) (μ p 3) g) (μ (p + 9) g) g μ4 (hA4.gp (by omega))) (fun μS hμS => ?_)
      obtain ⟨hFS, hS_S, hf_S⟩ := hμS
      have hok := hS_S.ok
      have hcc := hS_S.c
      refine w_iconst dX8_level_30 ?_
      refine w_istore_n (ls' := [(2, 45), (0, g), (0, w), (0, -1), (9, 0)]) dX8_level_31 rfl (Nat.le_of_ble_eq_true rfl) rfl rfl ?_
      refine w_iconst dX8_level_32 ?_
      refine w_istore (ls' := [(2, 45), (0, g), (0, w), (0, -1), (0, 0)]) dX8_level_33 (Nat.le_of_ble_eq_true rfl) rfl rfl ?_
      have hL35 : ∀ (n35 : Nat) (b : Int) (k : Int), (nS (ddt μ p (p + 5) (μ p 3) g) - k).toNat = n35 → (0 ≤ k ∧ k ≤ nS (ddt μ p (p + 5) (μ p 3) g)) → (-1 ≤ b ∧ b < k ∨ b = -1) → (b = lvI (ddt μ p (p + 5) (μ p 3) g) k) → Wp (GG X) M_X8_level 35 [(2, 45), (0, g), (0, w), (0, b), (0, k)] [] μS (qI 0 fun z μ' => (Fr 45 45 57 61 μ' μ) ∧ (z = if (0 ≤ g ∧ g < μ p 14) ∧ 0 ≤ w ∧ w ≤ 2 then lvA (ddt μ p (p + 5) (μ p 3) g) w else -1000000) ∧ (RJ μ' p) ∧ (∀ k : Int, (¬ k = 0 ∧ ¬ (21 ≤ k ∧ k ≤ 24) ∧ ¬ (29 ≤ k ∧ k ≤ 33)) → μ' 45 k = μ 45 k)) := by
        intro n35
        induction n35 using Nat.strongRecOn with
        | ind n35 ih35 =>
          intro b k hn35 hk0 hbr hb
          refine w_iload dX8_level_35 rfl ?_
          refine w_aload_n dX8_level_37 rfl rfl (by first | decide | omega) ?_
          refine w_getIx (o := 45) (f := 29) (x := nS (ddt μ p (p + 5) (μ p 3) g)) fX8_level_38 rfl rfl (Nat.le_of_ble_eq_true rfl) rfl hS_S.2.1.1 ?_
          have hr4 := hS_S.c
          refine w_icmp_ge (tgt := 85) dX8_level_41 rfl (R32.in (by omega)) (R32.in (by omega)) (fun c41 => ?_) (fun c41 => ?_)
          · skip
            have he : nS (ddt μ p (p + 5) (μ p 3) g) = k := (by omega)
            have hlv := lvI_k hok
            rw [he, ← hb] at hlv
            refine w_iload_n dX8_level_85 rfl rfl ?_
            refine w_iconst dX8_level_86 ?_
            refine w_icmp_ne (tgt := 93) dX8_level_87 rfl (R32.in (by omega)) (R32.in (by decide)) (fun c87 => ?_) (fun c87 => ?_)
            · skip
              have hl2 := hlv.resolve_left (fun h => c87 h.1)
              refine w_iload_n dX8_level_93 rfl rfl ?_
              refine w_if_ne (tgt := 106) dX8_level_94 rfl (R32.in (by omega)) (fun c94 => ?_) (fun c94 => ?_)
              · skip
                refine w_iload_n dX8_level_106 rfl rfl ?_
                refine w_iconst dX8_level_107 ?_
                refine w_icmp_ne (tgt := 120) dX8_level_108 rfl (R32.in (by omega)) (R32.in (by decide)) (fun c108 => ?_) (fun c108 => ?_)
                · skip
                  have hbb := bst_lr hok (fun q => (lvK_w hok hl2.2.1).2.2.2.2 (bst_no hok q))
                  refine w_aload_n dX8_level_120 rfl rfl (by first | decide | omega) ?_
                  refine w_getR (o := 45) (x := 60) fX8_level_121 rfl rfl rfl rfl ?_
                  refine w_iload_n dX8_level_124 rfl rfl ?_
                  refine w_ialdx (o := 60) (n := 2100) (x := squ (ddt μ p (p + 5) (μ p 3) g) b) dX8_level_125 rfl rfl (Nat.le_of_ble_eq_true rfl) (by omega) (hS_S.2.2.2.2.1 _ (by omega) (by omega)) ?_
                  have hr5 := (squ_r (hS_S.ok) (j := b) (by omega))
                  refine w_aload_n dX8_level_126 rfl rfl (by first | decide | omega) ?_
                  refine w_getR (o := 45) (x := 60) fX8_level_127 rfl rfl rfl rfl ?_
                  refine w_aload_n dX8_level_130 rfl rfl (by first | decide | omega) ?_
                  refine w_callVP (o := 45) (ci := 8) (as := []) (rest := [(2, 60), (0, squ (ddt μ p (p + 5) (μ p 3) g) b)]) (k := 2) fX8_level_131 rfl rfl rfl rfl rfl rfl rfl rfl (Nat.le_of_ble_eq_true rfl) (s_X8_bestSet X (ddt μ p (p + 5) (μ p 3) g) (μ (p + 9) g) μS hS_S) ?_
                  have hf6 := bstI_r (ddt μ p (p + 5) (μ p 3) g) (nS (ddt μ p (p + 5) (μ p 3) g)) (nS_0 (ddt μ p (p + 5) (μ p 3) g))
                  refine w_ialdx (o := 60) (n := 2100) (x := squ (ddt μ p (p + 5) (μ p 3) g) (bstI (ddt μ p (p + 5) (μ p 3) g) (nS (ddt μ p (p + 5) (μ p 3) g)))) dX8_level_134 rfl rfl (Nat.le_of_ble_eq_true rfl) (by omega) (hS_S.2.2.2.2.1 _ (by omega) (by omega)) ?_
                  have hr7 := (squ_r (hS_S.ok) (j := (bstI (ddt μ p (p + 5) (μ p 3) g) (nS (ddt μ p (p + 5) (μ p 3) g)))) (by omega))
                  refine w_isub dX8_level_135 ?_
                  exact w_iretI dX8_level_136 rfl ⟨((hFS.wd (by omega) (by omega)).tr hF_μ4), (by exact ifT (by omega) (by unfold lvA; rw [if_neg hl2.2.1, hl2.2.2.1, hl2.2.2.2]; first | exact ifT (by omega) rfl | exact ifF (by omega) (ifT (by omega) rfl) | exact ifF (by omega) (ifF (by omega) (by rw [hbb.2.2.2.2])))), (RJ.cg2 hJ4 (fun o h1 => (hFS.at (by omega) (by omega))) (fun k h1 => (hf_S _ (by omega)))), (fun k h1 => ((hf_S k (by omega)).trans (hff4 k (by omega))))⟩
                · skip
                  refine w_aload_n dX8_level_111 rfl rfl (by first | decide | omega) ?_
                  refine w_getR (o := 45) (x := 60) fX8_level_112 rfl rfl rfl rfl ?_
                  refine w_iload_n dX8_level_115 rfl rfl ?_
                  refine w_ialdx (o := 60) (n := 2100) (x := squ (ddt μ p (p + 5) (μ p 3) g) b) dX8_level_116 rfl rfl (Nat.le_of_ble_eq_true rfl) (by omega) (hS_S.2.2.2.2.1 _ (by omega) (by omega)) ?_
                  have hr8 := (squ_r (hS_S.ok) (j := b) (by omega))
                  refine w_goto (tgt := 136) dX8_level_117 rfl ?_
                  exact w_iretI dX8_level_136 rfl ⟨((hFS.wd (by omega) (by omega)).tr hF_μ4), (by exact ifT (by omega) (by unfold lvA; rw [if_neg hl2.2.1, hl2.2.2.1, hl2.2.2.2]; first | exact ifT (by omega) rfl | exact ifF (by omega) (ifT (by omega) rfl) | exact ifF (by omega) (ifF (by omega) (by rw [hbb.2.2.2.2])))), (RJ.cg2 hJ4 (fun o h1 => (hFS.at (by omega) (by omega))) (fun k h1 => (hf_S _ (by omega)))), (fun k h1 => ((hf_S k (by omega)).trans (hff4 k (by omega))))⟩
              · skip
                refine w_aload_n dX8_level_97 rfl rfl (by first | decide | omega) ?_
                refine w_getR (o := 45) (x := 58) fX8_level_98 rfl rfl rfl rfl ?_
                refine w_iload_n dX8_level_101 rfl rfl ?_
                refine w_ialdx (o := 58) (n := 2100) (x := (sq (ddt μ p (p + 5) (μ p 3) g) b).1) dX8_level_102 rfl rfl (Nat.le_of_ble_eq_true rfl) (by omega) (hS_S.2.2.1 _ (by omega) (by omega)) ?_
                have hr9 := (sq_r (hS_S.ok) (j := b) (by omega)).1
                refine w_goto (tgt := 136) dX8_level_103 rfl ?_
                exact w_iretI dX8_level_136 rfl ⟨((hFS.wd (by omega) (by omega)).tr hF_μ4), (by exact ifT (by omega) (by unfold lvA; rw [if_neg hl2.2.1, hl2.2.2.1, hl2.2.2.2]; first | exact ifT (by omega) rfl | exact ifF (by omega) (ifT (by omega) rfl) | exact ifF (by omega) (ifF (by omega) (by rw [hbb.2.2.2.2])))), (RJ.cg2 hJ4 (fun o h1 => (hFS.at (by omega) (by omega))) (fun k h1 => (hf_S _ (by omega)))), (fun k h1 => ((hf_S k (by omega)).trans (hff4 k (by omega))))⟩
            · skip
              refine w_ldc (n := -1000000) dX8_level_90 k_1620 (by decide) ?_
              exact w_iretI dX8_level_92 rfl ⟨((hFS.wd (by omega) (by omega)).tr hF_μ4), (by exact ifT (by omega) (by unfold lvA; rw [if_pos (hlv.elim (fun h => h.2) (fun h => by omega))])), (RJ.cg2 hJ4 (fun o h1 => (hFS.at (by omega) (by omega))) (fun k h1 => (hf_S _ (by omega)))), (fun k h1 => ((hf_S k (by omega)).trans (hff4 k (by omega))))⟩
          · skip
            refine w_aload_n dX8_level_44 rfl rfl (by first | decide | omega) ?_
            refine w_getR (o := 45) (x := 58) fX8_level_45 rfl rfl rfl rfl ?_
            refine w_iload dX8_level_48 rfl ?_
            refine w_ialdx (o := 58) (n := 2100) (x := (sq (ddt μ p (p + 5) (μ p 3) g) k).1) dX8_level_50 rfl rfl (Nat.le_of_ble_eq_true rfl) (by omega) (hS_S.2.2.1 _ (by omega) (by omega)) ?_
            have hr10 := (sq_r (hS_S.ok) (j := k) (by omega)).1
            refine w_aload_n dX8_level_51 rfl rfl (by first | decide | omega) ?_
            refine w_getR (o := 45) (x := 59) fX8_level_52 rfl rfl rfl rfl ?_
            refine w_iload dX8_level_55 rfl ?_
            refine w_ialdx (o := 59) (n := 2100) (x := (sq (ddt μ p (p + 5) (μ p 3) g) k).2) dX8_level_57 rfl rfl (Nat.le_of_ble_eq_true rfl) (by omega) (hS_S.2.2.2.1 _ (by omega) (by omega)) ?_
            have hr11 := (sq_r (hS_S.ok) (j := k) (by omega)).2
            refine w_icmp_ne (tgt := 79) dX8_level_58 rfl (R32.in (by omega)) (R32.in (by omega)) (fun c58 => ?_) (fun c58 => ?_)
            · skip
              refine w_iinc (ls' := [(2, 45), (0, g), (0, w), (0, b), (0, k + 1)]) dX8_level_79 rfl (Nat.le_of_ble_eq_true rfl) rfl rfl ?_
              refine w_goto (tgt := 35) dX8_level_82 rfl ?_
              exact ih35 _ (by omega) b (k + 1) rfl (by first | omega | assumption) (by omega) (by rw [lvI_s hk0.1, ← hb]; first | exact (if_pos (by omega)).symm | exact (if_neg (by omega)).symm)
            · skip
              refine w_iload_n dX8_level_61 rfl rfl ?_
              refine w_iconst dX8_level_62 ?_
              refine w_icmp_eq (tgt := 76) dX8_level_63 rfl (R32.in (by omega)) (R32.in (by decide)) (fun c63 => ?_) (fun c63 => ?_)
              · skip
                refine w_iload dX8_level_76 rfl ?_
                refine w_istore_n (ls' := [(2, 45), (0, g), (0, w), (0, k), (0, k)]) dX8_level_78 rfl (Nat.le_of_ble_eq_true rfl) rfl rfl ?_
                refine w_iinc (ls' := [(2, 45), (0, g), (0, w), (0, k), (0, k + 1)]) dX8_level_79 rfl (Nat.le_of_ble_eq_true rfl) rfl rfl ?_
                refine w_goto (tgt := 35) dX8_level_82 rfl ?_
                exact ih35 _ (by omega) k (k + 1) rfl (by first | omega | assumption) (by omega) (by rw [lvI_s hk0.1, ← hb]; first | exact (if_pos (by omega)).symm | exact (if_neg (by omega)).symm)
              · skip
                refine w_aload_n dX8_level_66 rfl rfl (by first | decide | omega) ?_
                refine w_iload dX8_level_67 rfl ?_
                refine w_iload_n dX8_level_69 rfl rfl ?_
                refine w_callVP (o := 45) (ci := 8) (as := [(0, k), (0, b)]) (rest := []) (k := 1) fX8_level_70 rfl rfl rfl rfl rfl rfl rfl rfl (Nat.le_of_ble_eq_true rfl) (s_X8_isBefore X (ddt μ p (p + 5) (μ p 3) g) (μ (p + 9) g) k b μS hS_S (by first | omega | assumption) (by first | omega | assumption)) ?_
                have hf12 := am_b_r (keyq (ddt μ p (p + 5) (μ p 3) g) (sq (ddt μ p (p + 5) (μ p 3) g) k) < keyq (ddt μ p (p + 5) (μ p 3) g) (sq (ddt μ p (p + 5) (μ p 3) g) b))
                refine w_if_eq (tgt := 79) dX8_level_73 rfl (R32.in (by have := am_b_r ((keyq (ddt μ p (p + 5) (μ p 3) g) (sq (ddt μ p (p + 5) (μ p 3) g) k) < keyq (ddt μ p (p + 5) (μ p 3) g) (sq (ddt μ p (p + 5) (μ p 3) g) b))); omega)) (fun c73 => ?_) (fun c73 => ?_)
                · skip
                  replace c73 := am_b0 c73
                  refine w_iinc (ls' := [(2, 45), (0, g), (0, w), (0, b), (0, k + 1)]) dX8_level_79 rfl (Nat.le_of_ble_eq_true rfl) rfl rfl ?_
                  refine w_goto (tgt := 35) dX8_level_82 rfl ?_
                  exact ih35 _ (by omega) b (k + 1) rfl (by first | omega | assumption) (by omega) (by rw [lvI_s hk0.1, ← hb]; first | exact (if_pos (by omega)).symm | exact (if_neg (by omega)).symm)
                · skip
                  replace c73 := am_b1 c73
                  refine w_iload dX8_level_76 rfl ?_
                  refine w_istore_n (ls' := [(2, 45), (0, g), (0, w), (0, k), (0, k)]) dX8_level_78 rfl (Nat.le_of_ble_eq_true rfl) rfl rfl ?_
                  refine w_iinc (ls' := [(2, 45), (0, g), (0, w), (0, k), (0, k + 1)]) dX8_level_79 rfl (Nat.le_of_ble_eq_true rfl) rfl rfl ?_
                  refine w_goto (tgt := 35) dX8_level_82 rfl ?_
                  exact ih35 _ (by omega) k (k + 1) rfl (by first | omega | assumption) (by omega) (by rw [lvI_s hk0.1, ← hb]; first | exact (if_pos (by omega)).symm | exact (if_neg (by omega)).symm)
      exact hL35 _ (-1) 0 rfl (by first | omega | assumption) (by first | omega | assumption) rfl
    · skip
      replace c19 := am_b0 c19
      refine w_ldc (n := -1000000) dX8_level_22 k_1620 (by decide) ?_
      exact w_iretI dX8_level_24 rfl ⟨hF_μ4, (by exact ifF (by omega) rfl), hJ4, (fun k h1 => (hff4 k (by omega)))⟩

set_option maxRecDepth 100000 in
set_option maxHeartbeats 4000000 in
theorem s_X8_alone (X : AX) (p : Int) (w : Int) (μ : Mu) (hC : CJ μ p) (hJ : RJ μ p) (hw : -2147483648 ≤ w ∧ w ≤ 2147483647) : Wp (GG X) M_X8_alone 0 [(2, 45), (0, w), (9, 0), (9, 0), (9, 0)] [] μ (qI 0 fun z μ' => (Fr 45 45 57 61 μ' μ) ∧ (z = if 0 ≤ w ∧ w ≤ 1 then (if w = 0 then (alnI (bmz μ p) (μ (p + 8)) (μ p 7)).1 else (alnI (bmz μ p) (μ (p + 8)) (μ p 7)).2) else -1) ∧ (RJ μ' p) ∧ (∀ k : Int, (¬ k = 0 ∧ ¬ (21 ≤ k ∧ k ≤ 24) ∧ ¬ (29 ≤ k ∧ k ≤ 33)) → μ' 45 k = μ 45 k)) := by
  have hI := hC.i
  have hG := hC.pg
  have hp := hI.at
  have hz := hI.sz
  have hgr := hG.gr
  have hkn := hC.kn
  have hRA := hJ.rag hC
  refine w_aload_n dX8_alone_0 rfl rfl (by first | decide | omega) ?_
  refine w_iconst dX8_alone_1 ?_
  refine w_putI (o := 45) (f := 0) fX8_alone_2 rfl rfl rfl rfl rfl ?_
  have hF_μ4 : Fr 45 45 57 61 (am_up μ 45 0 0) μ := (Fr.rf.up (by omega))
  have hA4 : RAg (ddt μ p (p + 5) (μ p 3)) (μ (p + 9)) (μ p 14) (am_up μ 45 0 0) := (RAg.cg2 hRA (fun o h1 => (am_up_o (by omega))) (fun k h1 => (am_up_nk (by omega))))
  have hJ4 : RJ (am_up μ 45 0 0) p := (RJ.cg2 hJ (fun o h1 => (am_up_o (by omega))) (fun k h1 => (am_up_nk (by omega))))
  have hj4 : RJz (am_up μ 45 0 0) p := hJ4.j0
  have hC4 : CJ (am_up μ 45 0 0) p := (CJ.cg hC (fun o h1 => (am_up_o (by omega))))
  have h564 : ∀ j : Int, 0 ≤ j → j < μ p 7 → (am_up μ 45 0 0) 56 j = μ (p + 5) j := (fun j h1 h2 => ((congrFun (am_up_o (by omega)) _).trans (hJ.ht ⟨h1, h2⟩)))
  have h194 : (am_up μ 45 0 0) 45 19 = μ p 3 := (((am_up_nk (by omega)).trans hJ.f19).trans (by rfl))
  have hff4 : ∀ k : Int, ¬ k = 0 → (am_up μ 45 0 0) 45 k = μ 45 k := (fun k h1 => (am_up_nk (by omega)))
  refine Wp.mu (fun μ4 hμ4 => ?_)
  rw [← hμ4] at hF_μ4 hA4 hJ4 hj4 hC4 h564 h194 hff4
  clear hμ4
  have e4 : ∀ o : Int, p ≤ o ∧ o ≤ p + 10 → μ4 o = μ o := fun o h1 => hF_μ4.at (by omega) (by omega)
  have e47 : μ4 p 7 = μ p 7 := congrFun (e4 p (by omega)) _
  have e414 : μ4 p 14 = μ p 14 := congrFun (e4 p (by omega)) _
  refine w_iload_n dX8_alone_5 rfl rfl ?_
  refine w_iconst dX8_alone_6 ?_
  refine w_iconst dX8_alone_7 ?_
  refine w_callSP (as := [(0, w), (0, 0), (0, 1)]) (rest := []) (k := 0) fX8_alone_8 rfl rfl rfl rfl rfl (Nat.le_of_ble_eq_true rfl) (s_X8_isIn X w 0 1 μ4 (by first | omega | assumption) (by first | omega | assumption) (by first | omega | assumption)) ?_
  have hf1 := am_b_r (0 ≤ w ∧ w ≤ 1)
  refine w_if_ne (tgt := 16) dX8_alone_11 rfl (R32.in (by have := am_b_r ((0 ≤ w ∧ w ≤ 1)); omega)) (fun c11 => ?_) (fun c11 => ?_)
  · skip
    replace c11 := am_b1 c11
    refine w_iconst dX8_alone_16 ?_
    refine w_istore_n (ls' := [(2, 45), (0, w), (0, 0), (9, 0), (9, 0)]) dX8_alone_17 rfl (Nat.le_of_ble_eq_true rfl) rfl rfl ?_
    refine w_bipush dX8_alone_18 (by decide) ?_
    refine w_istore_n (ls' := [(2, 45), (0, w), (0, 0), (0, -2), (9, 0)]) dX8_alone_20 rfl (Nat.le_of_ble_eq_true rfl) rfl rfl ?_
    refine w_iconst dX8_alone_21 ?_
    refine w_istore (ls' := [(2, 45), (0, w), (0, 0), (0, -2), (0, 0)]) dX8_alone_22 (Nat.le_of_ble_eq_true rfl) rfl rfl ?_
    have hL24 : ∀ (n24 : Nat) (m : Int) (f : Int) (i : Int), (μ p 7 - i).toNat = n24 → (0 ≤ i ∧ i ≤ μ p 7) → ((m = 0 ∧ f = -2) ∨ ((0 < m ∧ m ≤ i) ∧ 0 ≤ f ∧ f ≤ i)) → (m = (alnI (bmz μ p) (μ (p + 8)) i).1) → (f = (alnI (bmz μ p) (μ (p + 8)) i).2) → Wp (GG X) M_X8_alone 24 [(2, 45), (0, w), (0, m), (0, f), (0, i)] [] μ4 (qI 0 fun z μ' => (Fr 45 45 57 61 μ' μ) ∧ (z = if 0 ≤ w ∧ w ≤ 1 then (if w = 0 then (alnI (bmz μ p) (μ (p + 8)) (μ p 7)).1 else (alnI (bmz μ p) (μ (p + 8)) (μ p 7)).2) else -1) ∧ (RJ μ' p) ∧ (∀ k : Int, (¬ k = 0 ∧ ¬ (21 ≤ k ∧ k ≤ 24) ∧ ¬ (29 ≤ k ∧ k ≤ 33)) → μ' 45 k = μ 45 k)) := by
      intro n24
      induction n24 using Nat.strongRecOn with
      | ind n24 ih24 =>
        intro m f i hn24 hi0 hmf hm hf
        refine w_iload dX8_alone_24 rfl ?_
        refine w_aload_n dX8_alone_26 rfl rfl (by first | decide | omega) ?_
        refine w_getIx (o := 45) (f := 7) (x := μ p 7) fX8_alone_27 rfl rfl (Nat.le_of_ble_eq_true rfl) rfl ((hff4 _ (by omega)).trans hJ.f7) ?_
        refine w_icmp_ge (tgt := 77) dX8_alone_30 rfl (R32.in (by omega)) (R32.in (by omega)) (fun c30 => ?_) (fun c30 => ?_)
        · skip
          refine w_iload_n dX8_alone_77 rfl rfl ?_
          refine w_if_ne (tgt := 85) dX8_alone_78 rfl (R32.in (by omega)) (fun c78 => ?_) (fun c78 => ?_)
          · skip
            refine w_iload_n dX8_alone_85 rfl rfl ?_
            exact w_iretI dX8_alone_86 rfl ⟨hF_μ4, (by have he : i = μ p 7 := (by omega); subst he; exact ifT (by omega) (by omega)), hJ4, (fun k h1 => (hff4 k (by omega)))⟩
          · skip
            refine w_iload_n dX8_alone_81 rfl rfl ?_
            refine w_goto (tgt := 86) dX8_alone_82 rfl ?_
            exact w_iretI dX8_alone_86 rfl ⟨hF_μ4, (by have he : i = μ p 7 := (by omega); subst he; exact ifT (by omega) (by omega)), hJ4, (fun k h1 => (hff4 k (by omega)))⟩
        · skip
          refine w_aload_n dX8_alone_33 rfl rfl (by first | decide | omega) ?_
          refine w_iload dX8_alone_34 rfl ?_
          refine w_callVP (o := 45) (ci := 8) (as := [(0, i)]) (rest := []) (k := 0) fX8_alone_36 rfl rfl rfl rfl rfl rfl rfl rfl (Nat.le_of_ble_eq_true rfl) (s_X8_isBeamed X p i μ4 hC4 hJ4 (by first | omega | assumption)) ?_
          have hf2 := am_b_r (0 < bmz μ4 p i)
          refine Wp.topE (b := am_b (0 < bmz μ p i)) (by rw [bmz_cg e4]) ?_
          refine w_if_eq (tgt := 71) dX8_alone_39 rfl (R32.in (by have := am_b_r ((0 < bmz μ p i)); omega)) (fun c39 => ?_) (fun c39 => ?_)
          · skip
            replace c39 := am_b0 c39
            refine w_iinc (ls' := [(2, 45), (0, w), (0, m), (0, f), (0, i + 1)]) dX8_alone_71 rfl (Nat.le_of_ble_eq_true rfl) rfl rfl ?_
            refine w_goto (tgt := 24) dX8_alone_74 rfl ?_
            exact ih24 _ (by omega) m f (i + 1) rfl (by first | omega | assumption) (by omega) (by rw [alnI_s hi0.1]; first | (rw [if_pos (by omega), ← hm]) | (rw [if_neg (by omega)]; exact hm)) (by rw [alnI_s hi0.1]; first | (rw [if_pos (by omega), ← hm, ← hf]; omega) | (rw [if_neg (by omega)]; exact hf))
          · skip
            replace c39 := am_b1 c39
            refine w_aload_n dX8_alone_42 rfl rfl (by first | decide | omega) ?_
            refine w_getR (o := 45) (x := 53) fX8_alone_43 rfl rfl rfl rfl ?_
            refine w_iload dX8_alone_46 rfl ?_
            refine w_ialdx (o := 53) (n := 64) (x := goR (μ (p + 8) i)) dX8_alone_48 rfl rfl (Nat.le_of_ble_eq_true rfl) (by omega) ((congrFun (hF_μ4.at (by omega) (by omega)) _).trans (hJ.go (by omega))) ?_
            have hr3 := goR_f (μ (p + 8) i)
            have hr4 := PG.go hG (i := i) (by omega)
            refine w_if_lt (tgt := 55) dX8_alone_49 rfl (R32.in (by omega)) (fun c49 => ?_) (fun c49 => ?_)
            · skip
              refine w_iinc (ls' := [(2, 45), (0, w), (0, m + 1), (0, f), (0, i)]) dX8_alone_55 rfl (Nat.le_of_ble_eq_true rfl) rfl rfl ?_
              refine w_iload_n dX8_alone_58 rfl rfl ?_
              refine w_bipush dX8_alone_59 (by decide) ?_
              refine w_icmp_ne (tgt := 69) dX8_alone_61 rfl (R32.in (by omega)) (R32.in (by decide)) (fun c61 => ?_) (fun c61 => ?_)
              · skip
                refine w_iload_n dX8_alone_69 rfl rfl ?_
                refine w_istore_n (ls' := [(2, 45), (0, w), (0, m + 1), (0, f), (0, i)]) dX8_alone_70 rfl (Nat.le_of_ble_eq_true rfl) rfl rfl ?_
                refine w_iinc (ls' := [(2, 45), (0, w), (0, m + 1), (0, f), (0, i + 1)]) dX8_alone_71 rfl (Nat.le_of_ble_eq_true rfl) rfl rfl ?_
                refine w_goto (tgt := 24) dX8_alone_74 rfl ?_
                exact ih24 _ (by omega) (m + 1) f (i + 1) rfl (by first | omega | assumption) (by omega) (by rw [alnI_s hi0.1]; first | (rw [if_pos (by omega), ← hm]) | (rw [if_neg (by omega)]; exact hm)) (by rw [alnI_s hi0.1]; first | (rw [if_pos (by omega), ← hm, ← hf]; omega) | (rw [if_neg (by omega)]; exact hf))
              · skip
                refine w_iload dX8_alone_64 rfl ?_
                refine w_goto (tgt := 70) dX8_alone_66 rfl ?_
                refine w_istore_n (ls' := [(2, 45), (0, w), (0, m + 1), (0, i), (0, i)]) dX8_alone_70 rfl (Nat.le_of_ble_eq_true rfl) rfl rfl ?_
                refine w_iinc (ls' := [(2, 45), (0, w), (0, m + 1), (0, i), (0, i + 1)]) dX8_alone_71 rfl (Nat.le_of_ble_eq_true rfl) rfl rfl ?_
                refine w_goto (tgt := 24) dX8_alone_74 rfl ?_
                exact ih24 _ (by omega) (m + 1) i (i + 1) rfl (by first | omega | assumption) (by omega) (by rw [alnI_s hi0.1]; first | (rw [if_pos (by omega), ← hm]) | (rw [if_neg (by omega)]; exact hm)) (by rw [alnI_s hi0.1]; first | (rw [if_pos (by omega), ← hm, ← hf]; omega) | (rw [if_neg (by omega)]; exact hf))
            · skip
              refine w_goto (tgt := 71) dX8_alone_52 rfl ?_
              refine w_iinc (ls' := [(2, 45), (0, w), (0, m), (0, f), (0, i + 1)]) dX8_alone_71 rfl (Nat.le_of_ble_eq_true rfl) rfl rfl ?_
              refine w_goto (tgt := 24) dX8_alone_74 rfl ?_
              exact ih24 _ (by omega) m f (i + 1) rfl (by first | omega | assumption) (by omega) (by rw [alnI_s hi0.1]; first | (rw [if_pos (by omega), ← hm]) | (rw [if_neg (by omega)]; exact hm)) (by rw [alnI_s hi0.1]; first | (rw [if_pos (by omega), ← hm, ← hf]; omega) | (rw [if_neg (by omega)]; exact hf))
    exact hL24 _ 0 (-2) 0 rfl (by first | omega | assumption) (by omega) rfl rfl
  · skip
    replace c11 := am_b0 c11
    refine w_iconst dX8_alone_14 ?_
    exact w_iretI dX8_alone_15 rfl ⟨hF_μ4, (by exact ifF (by omega) rfl), hJ4, (fun k h1 => (hff4 k (by omega)))⟩

set_option maxRecDepth 100000 in
set_option maxHeartbeats 4000000 in
theorem s_X8_fault (X : AX) (p : Int) (w : Int) (μ : Mu) (hC : CJ μ p) (hJ : RJ μ p) (hw : -2147483648 ≤ w ∧ w ≤ 2147483647) : Wp (GG X) M_X8_fault 0 [(2, 45), (0, w)] [] μ (qI 0 fun z μ' => (Fr 45 45 57 61 μ' μ) ∧ (z = if w = 0 then μ 45 41 else if w = 1 then μ 45 42 else -1) ∧ (RJ μ' p) ∧ (∀ k : Int, (¬ k = 0 ∧ ¬ (21 ≤ k ∧ k ≤ 24) ∧ ¬ (29 ≤ k ∧ k ≤ 33)) → μ' 45 k = μ 45 k)) := by
  have hI := hC.i
  have hG := hC.pg
  have hp := hI.at
  have hz := hI.sz
  have hgr := hG.gr
  have hkn := hC.kn
  have hRA := hJ.rag hC
  refine w_aload_n dX8_fault_0 rfl rfl (by first | decide | omega) ?_
  refine w_iconst dX8_fault_1 ?_
  refine w_putI (o := 45) (f := 0) fX8_fault_2 rfl rfl rfl rfl rfl ?_
  have hF_μ4 : Fr 45 45 57 61 (am_up μ 45 0 0) μ := (Fr.rf.up (by omega))
  have hA4 : RAg (ddt μ p (p + 5) (μ p 3)) (μ (p + 9)) (μ p 14) (am_up μ 45 0 0) := (RAg.cg2 hRA (fun o h1 => (am_up_o (by omega))) (fun k h1 => (am_up_nk (by omega))))
  have hJ4 : RJ (am_up μ 45 0 0) p := (RJ.cg2 hJ (fun o h1 => (am_up_o (by omega))) (fun k h1 => (am_up_nk (by omega))))
  have hj4 : RJz (am_up μ 45 0 0) p := hJ4.j0
  have hC4 : CJ (am_up μ 45 0 0) p := (CJ.cg hC (fun o h1 => (am_up_o (by omega))))
  have h564 : ∀ j : Int, 0 ≤ j → j < μ p 7 → (am_up μ 45 0 0) 56 j = μ (p + 5) j := (fun j h1 h2 => ((congrFun (am_up_o (by omega)) _).trans (hJ.ht ⟨h1, h2⟩)))
  have h194 : (am_up μ 45 0 0) 45 19 = μ p 3 := (((am_up_nk (by omega)).trans hJ.f19).trans (by rfl))
  have hff4 : ∀ k : Int, ¬ k = 0 → (am_up μ 45 0 0) 45 k = μ 45 k := (fun k h1 => (am_up_nk (by omega)))
  refine Wp.mu (fun μ4 hμ4 => ?_)
  rw [← hμ4] at hF_μ4 hA4 hJ4 hj4 hC4 h564 h194 hff4
  clear hμ4
  have e4 : ∀ o : Int, p ≤ o ∧ o ≤ p + 10 → μ4 o = μ o := fun o h1 => hF_μ4.at (by omega) (by omega)
  have e47 : μ4 p 7 = μ p 7 := congrFun (e4 p (by omega)) _
  have e414 : μ4 p 14 = μ p 14 := congrFun (e4 p (by omega)) _
  refine w_iload_n dX8_fault_5 rfl rfl ?_
  refine w_if_ne (tgt := 16) dX8_fault_6 rfl (R32.in (by omega)) (fun c6 => ?_) (fun c6 => ?_)
  · skip
    refine w_iload_n dX8_fault_16 rfl rfl ?_
    refine w_iconst dX8_fault_17 ?_
    refine w_icmp_ne (tgt := 28) dX8_fault_18 rfl (R32.in (by omega)) (R32.in (by decide)) (fun c18 => ?_) (fun c18 => ?_)
    · skip
      refine w_iconst dX8_fault_28 ?_
      exact w_iretI dX8_fault_29 rfl ⟨hF_μ4, (by first | exact ifT (by omega) rfl | exact ifF (by omega) (ifT (by omega) rfl) | exact ifF (by omega) (ifF (by omega) rfl)), hJ4, (fun k h1 => (hff4 k (by omega)))⟩
    · skip
      refine w_aload_n dX8_fault_21 rfl rfl (by first | decide | omega) ?_
      refine w_getIx (o := 45) (f := 42) (x := μ 45 42) fX8_fault_22 rfl rfl (Nat.le_of_ble_eq_true rfl) rfl (hff4 _ (by omega)) ?_
      refine w_goto (tgt := 29) dX8_fault_25 rfl ?_
      exact w_iretI dX8_fault_29 rfl ⟨hF_μ4, (by first | exact ifT (by omega) rfl | exact ifF (by omega) (ifT (by omega) rfl) | exact ifF (by omega) (ifF (by omega) rfl)), hJ4, (fun k h1 => (hff4 k (by omega)))⟩
  · skip
    refine w_aload_n dX8_fault_9 rfl rfl (by first | decide | omega) ?_
    refine w_getIx (o := 45) (f := 41) (x := μ 45 41) fX8_fault_10 rfl rfl (Nat.le_of_ble_eq_true rfl) rfl (hff4 _ (by omega)) ?_
    refine w_goto (tgt := 29) dX8_fault_13 rfl ?_
    exact w_iretI dX8_fault_29 rfl ⟨hF_μ4, (by first | exact ifT (by omega) rfl | exact ifF (by omega) (ifT (by omega) rfl) | exact ifF (by omega) (ifF (by omega) rfl)), hJ4, (fun k h1 => (hff4 k (by omega)))⟩
