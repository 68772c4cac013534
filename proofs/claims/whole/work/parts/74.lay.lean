set_option maxRecDepth 100000 in
set_option maxHeartbeats 4000000 in
theorem s_X8_measure_l (X : AX) (p : Int) (μ : Mu) (hI : PI μ p) (hJ : RJl μ p) (hX : RX μ p) : Wp (GG X) M_X8_measure 0 [(2, 45)] [] μ (pP 0 (mlg μ p) μ) := by
  have hp := hI.at
  have hz := hI.sz
  have hbt := hI.bt
  have hun := hI.2.2.1
  have hmm := mlg_u hbt hun
  have hmr := mlg_r μ p hI
  refine w_aload_n dX8_measure_0 rfl rfl (by first | decide | omega) ?_
  refine w_getIx (o := 45) (f := 1) (x := μ p 1) fX8_measure_1 rfl rfl (Nat.le_of_ble_eq_true rfl) rfl hJ.f1 ?_
  refine w_aload_n dX8_measure_4 rfl rfl (by first | decide | omega) ?_
  refine w_getIx (o := 45) (f := 2) (x := μ p 2) fX8_measure_5 rfl rfl (Nat.le_of_ble_eq_true rfl) rfl hJ.f2 ?_
  refine w_callSP (as := [(0, μ p 1), (0, μ p 2)]) (rest := []) (k := 0) fX8_measure_8 rfl rfl rfl rfl rfl (Nat.le_of_ble_eq_true rfl) (s_X8_measureOf X (μ p 1) (μ p 2) μ hbt hun) ?_
  exact w_iretP dX8_measure_11 rfl (by exact hmm.1)

set_option maxRecDepth 100000 in
set_option maxHeartbeats 4000000 in
theorem s_X8_beat_l (X : AX) (p : Int) (μ : Mu) (hI : PI μ p) (hJ : RJl μ p) (hX : RX μ p) : Wp (GG X) M_X8_beat 0 [(2, 45)] [] μ (pP 0 (blg (μ p 2)) μ) := by
  have hp := hI.at
  have hz := hI.sz
  have hun := hI.2.2.1
  have hur := hI.un
  have hmm := mlg_u hI.bt hun
  refine w_bipush dX8_beat_0 (by decide) ?_
  refine w_aload_n dX8_beat_2 rfl rfl (by first | decide | omega) ?_
  refine w_getIx (o := 45) (f := 2) (x := μ p 2) fX8_beat_3 rfl rfl (Nat.le_of_ble_eq_true rfl) rfl hJ.f2 ?_
  refine w_idivP dX8_beat_6 (by omega) ?_
  exact w_iretP dX8_beat_7 rfl (by exact hmm.2)

set_option maxRecDepth 100000 in
set_option maxHeartbeats 4000000 in
theorem s_X8_isBeamed_l (X : AX) (p : Int) (i : Int) (μ : Mu) (hI : PI μ p) (hJ : RJl μ p) (hX : RX μ p) (hi : 0 ≤ i ∧ i < μ p 7) : Wp (GG X) M_X8_isBeamed 0 [(2, 45), (0, i)] [] μ (pP 0 (am_b (0 < bmz μ p i)) μ) := by
  have hp := hI.at
  have hz := hI.sz
  refine w_aload_n dX8_isBeamed_0 rfl rfl (by first | decide | omega) ?_
  refine w_getR (o := 45) (x := 49) fX8_isBeamed_1 rfl rfl rfl rfl ?_
  refine w_iload_n dX8_isBeamed_4 rfl rfl ?_
  refine w_zaldx (o := 49) (n := 64) (x := μ (p + 4) i) dX8_isBeamed_5 rfl rfl (Nat.le_of_ble_eq_true rfl) (by omega) (hJ.nt (by omega)) ?_
  have hr1 := PI.so hI (q := p + 4) (i := i) rfl (by omega)
  refine w_if_eq (tgt := 22) dX8_isBeamed_6 rfl (R32.in (by omega)) (fun c6 => ?_) (fun c6 => ?_)
  · skip
    refine w_iconst dX8_isBeamed_22 ?_
    exact w_zretP dX8_isBeamed_23 rfl (Or.inl rfl) (by first | exact am_b_t (by unfold bmz; omega) | exact am_b_f (by unfold bmz; omega))
  · skip
    refine w_aload_n dX8_isBeamed_9 rfl rfl (by first | decide | omega) ?_
    refine w_getR (o := 45) (x := 48) fX8_isBeamed_10 rfl rfl rfl rfl ?_
    refine w_iload_n dX8_isBeamed_13 rfl rfl ?_
    refine w_ialdx (o := 48) (n := 64) (x := bok (μ (p + 3) i)) dX8_isBeamed_14 rfl rfl (Nat.le_of_ble_eq_true rfl) (by omega) (hJ.kd (by omega)) ?_
    have hr2 := bok_f (μ (p + 3) i)
    refine w_if_le (tgt := 22) dX8_isBeamed_15 rfl (R32.in (by omega)) (fun c15 => ?_) (fun c15 => ?_)
    · skip
      refine w_iconst dX8_isBeamed_22 ?_
      exact w_zretP dX8_isBeamed_23 rfl (Or.inl rfl) (by first | exact am_b_t (by unfold bmz; omega) | exact am_b_f (by unfold bmz; omega))
    · skip
      refine w_iconst dX8_isBeamed_18 ?_
      refine w_goto (tgt := 23) dX8_isBeamed_19 rfl ?_
      exact w_zretP dX8_isBeamed_23 rfl (Or.inr rfl) (by first | exact am_b_t (by unfold bmz; omega) | exact am_b_f (by unfold bmz; omega))

set_option maxRecDepth 100000 in
set_option maxHeartbeats 4000000 in
theorem s_X8_partAt_l (X : AX) (p : Int) (t : Int) (μ : Mu) (hI : PI μ p) (hJ : RJl μ p) (hX : RX μ p) (ht : 0 ≤ t ∧ t < mlg μ p) : Wp (GG X) M_X8_partAt 0 [(2, 45), (0, t), (9, 0), (9, 0)] [] μ (pP 0 (pIn (μ (p + 1)) (μ p 4) (t / blg (μ p 2)) 0 (μ (p + 1) 0)) μ) := by
  have hp := hI.at
  have hz := hI.sz
  have hbt := hI.bt
  have hun := hI.2.2.1
  have hpc := hI.pc
  have hbl := blg_r (μ p 2)
  have hml := mlg_r μ p hI
  have htb := bt_lt hI ht
  have hPT := hX.pt
  have h4r : 0 ≤ μ 45 4 ∧ μ 45 4 ≤ 6 := by rcases hPT with q | q <;> omega
  refine w_aload_n dX8_partAt_0 rfl rfl (by first | decide | omega) ?_
  refine w_getIx (o := 45) (f := 4) (x := μ 45 4) fX8_partAt_1 rfl rfl (Nat.le_of_ble_eq_true rfl) rfl rfl ?_
  refine w_if_ne (tgt := 38) dX8_partAt_4 rfl (R32.in (by omega)) (fun c4 => ?_) (fun c4 => ?_)
  · skip
    have hq := hPT.resolve_left (fun q => c4 q.1)
    refine w_iconst dX8_partAt_38 ?_
    refine w_istore_n (ls' := [(2, 45), (0, t), (0, 0), (9, 0)]) dX8_partAt_39 rfl (Nat.le_of_ble_eq_true rfl) rfl rfl ?_
    refine w_iconst dX8_partAt_40 ?_
    refine w_istore_n (ls' := [(2, 45), (0, t), (0, 0), (0, 0)]) dX8_partAt_41 rfl (Nat.le_of_ble_eq_true rfl) rfl rfl ?_
    have hL42 : ∀ (n42 : Nat) (e : Int) (k : Int), (μ p 4 - k).toNat = n42 → (0 ≤ k ∧ k < μ p 4) → (0 ≤ e ∧ e ≤ 12 * k) → (pIn (μ (p + 1)) (μ p 4) (t / blg (μ p 2)) k (e + μ (p + 1) k) = pIn (μ (p + 1)) (μ p 4) (t / blg (μ p 2)) 0 (μ (p + 1) 0)) → Wp (GG X) M_X8_partAt 42 [(2, 45), (0, t), (0, e), (0, k)] [] μ (pP 0 (pIn (μ (p + 1)) (μ p 4) (t / blg (μ p 2)) 0 (μ (p + 1) 0)) μ) := by
      intro n42
      induction n42 using Nat.strongRecOn with
      | ind n42 ih42 =>
        intro e k hn42 hk0 he0 hw
        have hpk := hI.pt (q := p + 1) (i := k) rfl (by omega)
        have hwk := hq.2.2 k (by omega) (by omega)
        have hbx := am_mul_b (a := blg (μ p 2)) (b := e + μ 46 k) (A := 16) (B := 400) (by omega) (by omega)
        have hdv := dv_ge (B := blg (μ p 2)) (t := t) (x := e + μ 46 k) (by omega)
        refine w_iload_n dX8_partAt_42 rfl rfl ?_
        refine w_aload_n dX8_partAt_43 rfl rfl (by first | decide | omega) ?_
        refine w_getIx (o := 45) (f := 4) (x := μ 45 4) fX8_partAt_44 rfl rfl (Nat.le_of_ble_eq_true rfl) rfl rfl ?_
        refine w_iconst dX8_partAt_47 ?_
        refine w_isub dX8_partAt_48 ?_
        refine w_icmp_ge (tgt := 84) dX8_partAt_49 rfl (R32.in (by omega)) (R32.in (by omega)) (fun c49 => ?_) (fun c49 => ?_)
        · skip
          refine w_iload_n dX8_partAt_84 rfl rfl ?_
          exact w_iretP dX8_partAt_85 rfl (by rw [← hw]; exact (pIn_no (by omega)).symm)
        · skip
          refine w_iload_n dX8_partAt_52 rfl rfl ?_
          refine w_aload_n dX8_partAt_53 rfl rfl (by first | decide | omega) ?_
          refine w_callVP (o := 45) (ci := 8) (as := []) (rest := [(0, t)]) (k := 0) fX8_partAt_54 rfl rfl rfl rfl rfl rfl rfl rfl (Nat.le_of_ble_eq_true rfl) (s_X8_beat_l X p μ hI hJ hX) ?_
          have hf1 := blg_r (μ p 2)
          refine w_iload_n dX8_partAt_57 rfl rfl ?_
          refine w_aload_n dX8_partAt_58 rfl rfl (by first | decide | omega) ?_
          refine w_getR (o := 45) (x := 46) fX8_partAt_59 rfl rfl rfl rfl ?_
          refine w_iload_n dX8_partAt_62 rfl rfl ?_
          refine w_ialdx (o := 46) (n := 6) (x := μ 46 k) dX8_partAt_63 rfl rfl (Nat.le_of_ble_eq_true rfl) (by omega) rfl ?_
          refine w_iadd dX8_partAt_64 ?_
          refine w_imul dX8_partAt_65 ?_
          refine w_icmp_lt (tgt := 84) dX8_partAt_66 rfl (R32.in (by omega)) (R32.in (by omega)) (fun c66 => ?_) (fun c66 => ?_)
          · skip
            refine w_iload_n dX8_partAt_84 rfl rfl ?_
            exact w_iretP dX8_partAt_85 rfl (by rw [← hw]; exact (pIn_no (by omega)).symm)
          · skip
            refine w_iload_n dX8_partAt_69 rfl rfl ?_
            refine w_aload_n dX8_partAt_70 rfl rfl (by first | decide | omega) ?_
            refine w_getR (o := 45) (x := 46) fX8_partAt_71 rfl rfl rfl rfl ?_
            refine w_iload_n dX8_partAt_74 rfl rfl ?_
            refine w_ialdx (o := 46) (n := 6) (x := μ 46 k) dX8_partAt_75 rfl rfl (Nat.le_of_ble_eq_true rfl) (by omega) rfl ?_
            refine w_iadd dX8_partAt_76 ?_
            refine w_istore_n (ls' := [(2, 45), (0, t), (0, e + (μ 46 k)), (0, k)]) dX8_partAt_77 rfl (Nat.le_of_ble_eq_true rfl) rfl rfl ?_
            refine w_iinc (ls' := [(2, 45), (0, t), (0, e + (μ 46 k)), (0, k + 1)]) dX8_partAt_78 rfl (Nat.le_of_ble_eq_true rfl) rfl rfl ?_
            refine w_goto (tgt := 42) dX8_partAt_81 rfl ?_
            exact ih42 _ (by omega) (e + (μ 46 k)) (k + 1) rfl (by first | omega | assumption) (by omega) (by rw [← hw, pIn_go (k := k) (by omega) (by omega), hwk])
    exact hL42 _ 0 0 rfl (by first | omega | assumption) (by omega) (by rw [Int.zero_add])
  · skip
    refine w_iload_n dX8_partAt_7 rfl rfl ?_
    refine w_aload_n dX8_partAt_8 rfl rfl (by first | decide | omega) ?_
    refine w_callVP (o := 45) (ci := 8) (as := []) (rest := [(0, t)]) (k := 0) fX8_partAt_9 rfl rfl rfl rfl rfl rfl rfl rfl (Nat.le_of_ble_eq_true rfl) (s_X8_beat_l X p μ hI hJ hX) ?_
    have hf2 := blg_r (μ p 2)
    refine w_idivP dX8_partAt_12 (by omega) ?_
    refine w_aload_n dX8_partAt_13 rfl rfl (by first | decide | omega) ?_
    refine w_getIx (o := 45) (f := 2) (x := μ p 2) fX8_partAt_14 rfl rfl (Nat.le_of_ble_eq_true rfl) rfl hJ.f2 ?_
    refine w_bipush dX8_partAt_17 (by decide) ?_
    refine w_icmp_ne (tgt := 35) dX8_partAt_19 rfl (R32.in (by omega)) (R32.in (by decide)) (fun c19 => ?_) (fun c19 => ?_)
    · skip
      refine w_iconst dX8_partAt_35 ?_
      refine Wp.top (fun pq hpq => ?_)
      have hev : pq = evn μ p := by unfold evn; first | (rw [if_pos (by omega)]; exact hpq) | (rw [if_neg (by omega)]; exact hpq)
      have her := evn_r μ p
      refine w_idivP dX8_partAt_36 (by omega) ?_
      exact w_iretP dX8_partAt_37 rfl (by have hq := hPT.resolve_right (fun q => by omega); rw [pIn_ev her (by omega) hq.2.2 (by rw [hq.2.1]; exact htb), hev])
    · skip
      refine w_aload_n dX8_partAt_22 rfl rfl (by first | decide | omega) ?_
      refine w_getIx (o := 45) (f := 1) (x := μ p 1) fX8_partAt_23 rfl rfl (Nat.le_of_ble_eq_true rfl) rfl hJ.f1 ?_
      refine w_iconst dX8_partAt_26 ?_
      refine w_iremP dX8_partAt_27 (by omega) ?_
      refine w_if_ne (tgt := 35) dX8_partAt_28 rfl (R32.in (by omega)) (fun c28 => ?_) (fun c28 => ?_)
      · skip
        refine w_iconst dX8_partAt_35 ?_
        refine Wp.top (fun pq hpq => ?_)
        have hev : pq = evn μ p := by unfold evn; first | (rw [if_pos (by omega)]; exact hpq) | (rw [if_neg (by omega)]; exact hpq)
        have her := evn_r μ p
        refine w_idivP dX8_partAt_36 (by omega) ?_
        exact w_iretP dX8_partAt_37 rfl (by have hq := hPT.resolve_right (fun q => by omega); rw [pIn_ev her (by omega) hq.2.2 (by rw [hq.2.1]; exact htb), hev])
      · skip
        refine w_iconst dX8_partAt_31 ?_
        refine w_goto (tgt := 36) dX8_partAt_32 rfl ?_
        refine Wp.top (fun pq hpq => ?_)
        have hev : pq = evn μ p := by unfold evn; first | (rw [if_pos (by omega)]; exact hpq) | (rw [if_neg (by omega)]; exact hpq)
        have her := evn_r μ p
        refine w_idivP dX8_partAt_36 (by omega) ?_
        exact w_iretP dX8_partAt_37 rfl (by have hq := hPT.resolve_right (fun q => by omega); rw [pIn_ev her (by omega) hq.2.2 (by rw [hq.2.1]; exact htb), hev])

set_option maxRecDepth 100000 in
set_option maxHeartbeats 4000000 in
theorem s_X8_whichPart_l (X : AX) (p : Int) (i : Int) (each : Int) (μ : Mu) (hI : PI μ p) (hJ : RJl μ p) (hX : RX μ p) (hi : 0 ≤ i ∧ i < μ p 7) (he : 0 ≤ each ∧ each ≤ 12) : Wp (GG X) M_X8_whichPart 0 [(2, 45), (0, i), (0, each), (9, 0), (9, 0)] [] μ (pP 0 (100 * mof μ p i + pof μ p i each) μ) := by
  have hp := hI.at
  have hz := hI.sz
  have htw := twn_r μ p i hI
  have hmf := mof_r μ p i hI hi
  have hpo := pof_b (i := i) (each := each) hI he.1
  have hbt := bt_lt hI ⟨htw.1, htw.2.1⟩
  have hbr := hI.bt
  refine w_aload_n dX8_whichPart_0 rfl rfl (by first | decide | omega) ?_
  refine w_getR (o := 45) (x := 51) fX8_whichPart_1 rfl rfl rfl rfl ?_
  refine w_iload_n dX8_whichPart_4 rfl rfl ?_
  refine w_ialdx (o := 51) (n := 64) (x := μ (p + 6) i) dX8_whichPart_5 rfl rfl (Nat.le_of_ble_eq_true rfl) (by omega) (hJ.tm (by omega)) ?_
  have hr1 := PI.tm hI (q := p + 6) (i := i) rfl (by omega)
  refine w_aload_n dX8_whichPart_6 rfl rfl (by first | decide | omega) ?_
  refine w_callVP (o := 45) (ci := 8) (as := []) (rest := [(0, μ (p + 6) i)]) (k := 0) fX8_whichPart_7 rfl rfl rfl rfl rfl rfl rfl rfl (Nat.le_of_ble_eq_true rfl) (s_X8_measure_l X p μ hI hJ hX) ?_
  have hf2 := mlg_r μ p (by first | exact hI | exact hC4.i)
  refine w_iremP dX8_whichPart_10 (by omega) ?_
  refine Wp.topE (b := twn μ p i) rfl ?_
  refine w_istore_n (ls' := [(2, 45), (0, i), (0, each), (0, twn μ p i), (9, 0)]) dX8_whichPart_11 rfl (Nat.le_of_ble_eq_true rfl) rfl rfl ?_
  refine w_iload_n dX8_whichPart_12 rfl rfl ?_
  refine w_if_ne (tgt := 24) dX8_whichPart_13 rfl (R32.in (by omega)) (fun c13 => ?_) (fun c13 => ?_)
  · skip
    refine w_iload_n dX8_whichPart_24 rfl rfl ?_
    refine w_aload_n dX8_whichPart_25 rfl rfl (by first | decide | omega) ?_
    refine w_callVP (o := 45) (ci := 8) (as := []) (rest := [(0, twn μ p i)]) (k := 0) fX8_whichPart_26 rfl rfl rfl rfl rfl rfl rfl rfl (Nat.le_of_ble_eq_true rfl) (s_X8_beat_l X p μ hI hJ hX) ?_
    have hf3 := blg_r (μ p 2)
    refine w_idivP dX8_whichPart_29 (by omega) ?_
    refine w_iload_n dX8_whichPart_30 rfl rfl ?_
    refine w_idivP dX8_whichPart_31 (by omega) ?_
    refine Wp.topE (b := pof μ p i each) (by unfold pof; first | rw [if_neg (by omega)] | rw [if_pos (by omega)]) ?_
    refine w_istore (ls' := [(2, 45), (0, i), (0, each), (0, twn μ p i), (0, pof μ p i each)]) dX8_whichPart_32 (Nat.le_of_ble_eq_true rfl) rfl rfl ?_
    refine w_bipush dX8_whichPart_34 (by decide) ?_
    refine w_aload_n dX8_whichPart_36 rfl rfl (by first | decide | omega) ?_
    refine w_getR (o := 45) (x := 51) fX8_whichPart_37 rfl rfl rfl rfl ?_
    refine w_iload_n dX8_whichPart_40 rfl rfl ?_
    refine w_ialdx (o := 51) (n := 64) (x := μ (p + 6) i) dX8_whichPart_41 rfl rfl (Nat.le_of_ble_eq_true rfl) (by omega) (hJ.tm (by omega)) ?_
    refine w_aload_n dX8_whichPart_42 rfl rfl (by first | decide | omega) ?_
    refine w_callVP (o := 45) (ci := 8) (as := []) (rest := [(0, μ (p + 6) i), (0, 100)]) (k := 0) fX8_whichPart_43 rfl rfl rfl rfl rfl rfl rfl rfl (Nat.le_of_ble_eq_true rfl) (s_X8_measure_l X p μ hI hJ hX) ?_
    have hf4 := mlg_r μ p (by first | exact hI | exact hC4.i)
    refine w_idivP dX8_whichPart_46 (by omega) ?_
    refine Wp.topE (b := mof μ p i) rfl ?_
    refine w_imul dX8_whichPart_47 ?_
    refine w_iload dX8_whichPart_48 rfl ?_
    refine w_iadd dX8_whichPart_50 ?_
    exact w_iretP dX8_whichPart_51 rfl (by rfl)
  · skip
    refine w_aload_n dX8_whichPart_16 rfl rfl (by first | decide | omega) ?_
    refine w_iload_n dX8_whichPart_17 rfl rfl ?_
    refine w_callVP (o := 45) (ci := 8) (as := [(0, twn μ p i)]) (rest := []) (k := 2) fX8_whichPart_18 rfl rfl rfl rfl rfl rfl rfl rfl (Nat.le_of_ble_eq_true rfl) (s_X8_partAt_l X p (twn μ p i) μ hI hJ hX (by first | omega | assumption)) ?_
    have hf5 := pIn_r (pt := μ (p + 1)) (c := μ p 4) (b := (twn μ p i) / blg (μ p 2)) _ 0 (μ (p + 1) 0) rfl
    refine w_goto (tgt := 32) dX8_whichPart_21 rfl ?_
    refine Wp.topE (b := pof μ p i each) (by unfold pof; first | rw [if_neg (by omega)] | rw [if_pos (by omega)]) ?_
    refine w_istore (ls' := [(2, 45), (0, i), (0, each), (0, twn μ p i), (0, pof μ p i each)]) dX8_whichPart_32 (Nat.le_of_ble_eq_true rfl) rfl rfl ?_
    refine w_bipush dX8_whichPart_34 (by decide) ?_
    refine w_aload_n dX8_whichPart_36 rfl rfl (by first | decide | omega) ?_
    refine w_getR (o := 45) (x := 51) fX8_whichPart_37 rfl rfl rfl rfl ?_
    refine w_iload_n dX8_whichPart_40 rfl rfl ?_
    refine w_ialdx (o := 51) (n := 64) (x := μ (p + 6) i) dX8_whichPart_41 rfl rfl (Nat.le_of_ble_eq_true rfl) (by omega) (hJ.tm (by omega)) ?_
    refine w_aload_n dX8_whichPart_42 rfl rfl (by first | decide | omega) ?_
    refine w_callVP (o := 45) (ci := 8) (as := []) (rest := [(0, μ (p + 6) i), (0, 100)]) (k := 0) fX8_whichPart_43 rfl rfl rfl rfl rfl rfl rfl rfl (Nat.le_of_ble_eq_true rfl) (s_X8_measure_l X p μ hI hJ hX) ?_
    have hf6 := mlg_r μ p (by first | exact hI | exact hC4.i)
    refine w_idivP dX8_whichPart_46 (by omega) ?_
    refine Wp.topE (b := mof μ p i) rfl ?_
    refine w_imul dX8_whichPart_47 ?_
    refine w_iload dX8_whichPart_48 rfl ?_
    refine w_iadd dX8_whichPart_50 ?_
    exact w_iretP dX8_whichPart_51 rfl (by rfl)

set_option maxRecDepth 100000 in
set_option maxHeartbeats 4000000 in
theorem s_X8_endOf_l (X : AX) (p : Int) (i : Int) (each : Int) (μ : Mu) (hI : PI μ p) (hJ : RJl μ p) (hX : RX μ p) (hi : 0 ≤ i ∧ i < μ p 7) (he : 0 ≤ each ∧ each ≤ 12) (hb : 0 < bmz μ p i) : Wp (GG X) M_X8_endOf 0 [(2, 45), (0, i), (0, each), (9, 0)] [] μ (pP 0 (i + runl μ p i each) μ) := by
  have hp := hI.at
  have hz := hI.sz
  have hmf := mof_r μ p i hI hi
  have hpo := pof_b (i := i) (each := each) hI he.1
  refine w_iload_n dX8_endOf_0 rfl rfl ?_
  refine w_iconst dX8_endOf_1 ?_
  refine w_iadd dX8_endOf_2 ?_
  refine w_istore_n (ls' := [(2, 45), (0, i), (0, each), (0, i + 1)]) dX8_endOf_3 rfl (Nat.le_of_ble_eq_true rfl) rfl rfl ?_
  have hL4 : ∀ (n4 : Nat) (e : Int), (μ p 7 - e).toNat = n4 → (i + 1 ≤ e ∧ e ≤ μ p 7) → (rn (μ p 7) (tog μ p i each) e = rn (μ p 7) (tog μ p i each) i) → Wp (GG X) M_X8_endOf 4 [(2, 45), (0, i), (0, each), (0, e)] [] μ (pP 0 (i + runl μ p i each) μ) := by
    intro n4
    induction n4 using Nat.strongRecOn with
    | ind n4 ih4 =>
      intro e hn4 he0 hrn
      refine w_iload_n dX8_endOf_4 rfl rfl ?_
      refine w_aload_n dX8_endOf_5 rfl rfl (by first | decide | omega) ?_
      refine w_getIx (o := 45) (f := 7) (x := μ p 7) fX8_endOf_6 rfl rfl (Nat.le_of_ble_eq_true rfl) rfl hJ.f7 ?_
      refine w_icmp_ge (tgt := 41) dX8_endOf_9 rfl (R32.in (by omega)) (R32.in (by omega)) (fun c9 => ?_) (fun c9 => ?_)
      · skip
        refine w_iload_n dX8_endOf_41 rfl rfl ?_
        exact w_iretP dX8_endOf_42 rfl (by unfold runl; rw [← hrn]; first | (rw [rn_end (by omega)]; omega) | (rw [rn_no (show ¬ tog μ p i each e = true from by unfold tog; simp only [decide_eq_true_eq]; omega)]; omega))
      · skip
        refine w_aload_n dX8_endOf_12 rfl rfl (by first | decide | omega) ?_
        refine w_iload_n dX8_endOf_13 rfl rfl ?_
        refine w_callVP (o := 45) (ci := 8) (as := [(0, e)]) (rest := []) (k := 0) fX8_endOf_14 rfl rfl rfl rfl rfl rfl rfl rfl (Nat.le_of_ble_eq_true rfl) (s_X8_isBeamed_l X p e μ hI hJ hX (by first | omega | assumption)) ?_
        have hf1 := am_b_r (0 < bmz μ p e)
        refine w_if_eq (tgt := 41) dX8_endOf_17 rfl (R32.in (by have := am_b_r ((0 < bmz μ p e)); omega)) (fun c17 => ?_) (fun c17 => ?_)
        · skip
          replace c17 := am_b0 c17
          refine w_iload_n dX8_endOf_41 rfl rfl ?_
          exact w_iretP dX8_endOf_42 rfl (by unfold runl; rw [← hrn]; first | (rw [rn_end (by omega)]; omega) | (rw [rn_no (show ¬ tog μ p i each e = true from by unfold tog; simp only [decide_eq_true_eq]; omega)]; omega))
        · skip
          replace c17 := am_b1 c17
          refine w_aload_n dX8_endOf_20 rfl rfl (by first | decide | omega) ?_
          refine w_iload_n dX8_endOf_21 rfl rfl ?_
          refine w_iload_n dX8_endOf_22 rfl rfl ?_
          refine w_callVP (o := 45) (ci := 8) (as := [(0, e), (0, each)]) (rest := []) (k := 2) fX8_endOf_23 rfl rfl rfl rfl rfl rfl rfl rfl (Nat.le_of_ble_eq_true rfl) (s_X8_whichPart_l X p e each μ hI hJ hX (by first | omega | assumption) (by first | omega | assumption)) ?_
          have hf2 := mof_r μ p e hI (by omega)
          have hf3 := pof_f μ p e each hI (by omega)
          refine w_aload_n dX8_endOf_26 rfl rfl (by first | decide | omega) ?_
          refine w_iload_n dX8_endOf_27 rfl rfl ?_
          refine w_iload_n dX8_endOf_28 rfl rfl ?_
          refine w_callVP (o := 45) (ci := 8) (as := [(0, i), (0, each)]) (rest := [(0, 100 * mof μ p e + pof μ p e each)]) (k := 2) fX8_endOf_29 rfl rfl rfl rfl rfl rfl rfl rfl (Nat.le_of_ble_eq_true rfl) (s_X8_whichPart_l X p i each μ hI hJ hX (by first | omega | assumption) (by first | omega | assumption)) ?_
          have hf4 := mof_r μ p i hI (by omega)
          have hf5 := pof_f μ p i each hI (by omega)
          refine w_icmp_ne (tgt := 41) dX8_endOf_32 rfl (R32.in (by omega)) (R32.in (by omega)) (fun c32 => ?_) (fun c32 => ?_)
          · skip
            refine w_iload_n dX8_endOf_41 rfl rfl ?_
            exact w_iretP dX8_endOf_42 rfl (by unfold runl; rw [← hrn]; first | (rw [rn_end (by omega)]; omega) | (rw [rn_no (show ¬ tog μ p i each e = true from by unfold tog; simp only [decide_eq_true_eq]; omega)]; omega))
          · skip
            refine w_iinc (ls' := [(2, 45), (0, i), (0, each), (0, e + 1)]) dX8_endOf_35 rfl (Nat.le_of_ble_eq_true rfl) rfl rfl ?_
            refine w_goto (tgt := 4) dX8_endOf_38 rfl ?_
            exact ih4 _ (by omega) (e + 1) rfl (by first | omega | assumption) ((rn_go (by omega) (show tog μ p i each e = true from by unfold tog; simp only [decide_eq_true_eq]; omega)).symm.trans hrn)
  exact hL4 _ (i + 1) rfl (by first | omega | assumption) (rn_go hi.2 (tog_i hb)).symm
