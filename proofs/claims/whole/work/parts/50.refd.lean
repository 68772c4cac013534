set_option maxRecDepth 100000 in
set_option maxHeartbeats 4000000 in
theorem s_X8_partAt (X : AX) (p : Int) (t : Int) (μ : Mu) (hC : CJ μ p) (hJ : RJ μ p) (hX : RX μ p) (ht : 0 ≤ t ∧ t < mlg μ p) : Wp (GG X) M_X8_partAt 0 [(2, 45), (0, t), (9, 0), (9, 0)] [] μ (pP 0 (pIn (μ (p + 1)) (μ p 4) (t / blg (μ p 2)) 0 (μ (p + 1) 0)) μ) := by
  have hI := hC.i
  have hG := hC.pg
  have hp := hI.at
  have hz := hI.sz
  have hgr := hG.gr
  have hkn := hC.kn
  have hbt := hI.bt
  have hun := hI.2.2.1
  have hpc := hI.pc
  have hbl := blg_r (μ p 2)
  have hml := mlg_r μ p hI
  have htb := bt_lt hI ht
  have hPT := hX.pt
  have h4r : 0 ≤ μ 45 4 ∧ μ 45 4 ≤ 6 := by rcases hPT with q | q <;> omega
  refine w_aload_n dX8_partAt_0 rfl rfl (by first | decide | omega) ?_
  refine w_getIx (o := 45) (f := 4) (x := μ 45 4) fX8_partAt_1 rfl rfl (Nat.le_of_ble_eq_true rfl) rfl rfl ?_
  refine w_if_ne (tgt := 38) dX8_partAt_4 rfl (R32.in (by omega)) (fun c4 => ?_) (fun c4 => ?_)
  · skip
    have hq := hPT.resolve_left (fun q => c4 q.1)
    refine w_iconst dX8_partAt_38 ?_
    refine w_istore_n (ls' := [(2, 45), (0, t), (0, 0), (9, 0)]) dX8_partAt_39 rfl (Nat.le_of_ble_eq_true rfl) rfl rfl ?_
    refine w_iconst dX8_partAt_40 ?_
    refine w_istore_n (ls' := [(2, 45), (0, t), (0, 0), (0, 0)]) dX8_partAt_41 rfl (Nat.le_of_ble_eq_true rfl) rfl rfl ?_
    have hL42 : ∀ (n42 : Nat) (e : Int) (k : Int), (μ p 4 - k).toNat = n42 → (0 ≤ k ∧ k < μ p 4) → (0 ≤ e ∧ e ≤ 12 * k) → (pIn (μ (p + 1)) (μ p 4) (t / blg (μ p 2)) k (e + μ (p + 1) k) = pIn (μ (p + 1)) (μ p 4) (t / blg (μ p 2)) 0 (μ (p + 1) 0)) → Wp (GG X) M_X8_partAt 42 [(2, 45), (0, t), (0, e), (0, k)] [] μ (pP 0 (pIn (μ (p + 1)) (μ p 4) (t / blg (μ p 2)) 0 (μ (p + 1) 0)) μ) := by
      intro n42
      induction n42 using Nat.strongRecOn with
      | ind n42 ih42 =>
        intro e k hn42 hk0 he0 hw
        have hpk := hI.pt (q := p + 1) (i := k) rfl (by omega)
        have hwk := hq.2.2 k (by omega) (by omega)
        have hbx := am_mul_b (a := blg (μ p 2)) (b := e + μ 46 k) (A := 16) (B := 400) (by omega) (by omega)
        have hdv := dv_ge (B := blg (μ p 2)) (t := t) (x := e + μ 46 k) (by omega)
        refine w_iload_n dX8_partAt_42 rfl rfl ?_
        refine w_aload_n dX8_partAt_43 rfl rfl (by first | decide | omega) ?_
        refine w_getIx (o := 45) (f := 4) (x := μ 45 4) fX8_partAt_44 rfl rfl (Nat.le_of_ble_eq_true rfl) rfl rfl ?_
        refine w_iconst dX8_partAt_47 ?_
        refine w_isub dX8_partAt_48 ?_
        refine w_icmp_ge (tgt := 84) dX8_partAt_49 rfl (R32.in (by omega)) (R32.in (by omega)) (fun c49 => ?_) (fun c49 => ?_)
        · skip
          refine w_iload_n dX8_partAt_84 rfl rfl ?_
          exact w_iretP dX8_partAt_85 rfl (by rw [← hw]; exact (pIn_no (by omega)).symm)
        · skip
          refine w_iload_n dX8_partAt_52 rfl rfl ?_
          refine w_aload_n dX8_partAt_53 rfl rfl (by first | decide | omega) ?_
          refine w_callVP (o := 45) (ci := 8) (as := []) (rest := [(0, t)]) (k := 0) fX8_partAt_54 rfl rfl rfl rfl rfl rfl rfl rfl (Nat.le_of_ble_eq_true rfl) (s_X8_beat X p μ hC hJ) ?_
          have hf1 := blg_r (μ p 2)
          refine w_iload_n dX8_partAt_57 rfl rfl ?_
          refine w_aload_n dX8_partAt_58 rfl rfl (by first | decide | omega) ?_
          refine w_getR (o := 45) (x := 46) fX8_partAt_59 rfl rfl rfl rfl ?_
          refine w_iload_n dX8_partAt_62 rfl rfl ?_
          refine w_ialdx (o := 46) (n := 6) (x := μ 46 k) dX8_partAt_63 rfl rfl (Nat.le_of_ble_eq_true rfl) (by omega) rfl ?_
          refine w_iadd dX8_partAt_64 ?_
          refine w_imul dX8_partAt_65 ?_
          refine w_icmp_lt (tgt := 84) dX8_partAt_66 rfl (R32.in (by omega)) (R32.in (by omega)) (fun c66 => ?_) (fun c66 => ?_)
          · skip
            refine w_iload_n dX8_partAt_84 rfl rfl ?_
            exact w_iretP dX8_partAt_85 rfl (by rw [← hw]; exact (pIn_no (by omega)).symm)
          · skip
            refine w_iload_n dX8_partAt_69 rfl rfl ?_
            refine w_aload_n dX8_partAt_70 rfl rfl (by first | decide | omega) ?_
            refine w_getR (o := 45) (x := 46) fX8_partAt_71 rfl rfl rfl rfl ?_
            refine w_iload_n dX8_partAt_74 rfl rfl ?_
            refine w_ialdx (o := 46) (n := 6) (x := μ 46 k) dX8_partAt_75 rfl rfl (Nat.le_of_ble_eq_true rfl) (by omega) rfl ?_
            refine w_iadd dX8_partAt_76 ?_
            refine w_istore_n (ls' := [(2, 45), (0, t), (0, e + (μ 46 k)), (0, k)]) dX8_partAt_77 rfl (Nat.le_of_ble_eq_true rfl) rfl rfl ?_
            refine w_iinc (ls' := [(2, 45), (0, t), (0, e + (μ 46 k)), (0, k + 1)]) dX8_partAt_78 rfl (Nat.le_of_ble_eq_true rfl) rfl rfl ?_
            refine w_goto (tgt := 42) dX8_partAt_81 rfl ?_
            exact ih42 _ (by omega) (e + (μ 46 k)) (k + 1) rfl (by first | omega | assumption) (by omega) (by rw [← hw, pIn_go (k := k) (by omega) (by omega), hwk])
    exact hL42 _ 0 0 rfl (by first | omega | assumption) (by omega) (by rw [Int.zero_add])
  · skip
    refine w_iload_n dX8_partAt_7 rfl rfl ?_
    refine w_aload_n dX8_partAt_8 rfl rfl (by first | decide | omega) ?_
    refine w_callVP (o := 45) (ci := 8) (as := []) (rest := [(0, t)]) (k := 0) fX8_partAt_9 rfl rfl rfl rfl rfl rfl rfl rfl (Nat.le_of_ble_eq_true rfl) (s_X8_beat X p μ hC hJ) ?_
    have hf2 := blg_r (μ p 2)
    refine w_idivP dX8_partAt_12 (by omega) ?_
    refine w_aload_n dX8_partAt_13 rfl rfl (by first | decide | omega) ?_
    refine w_getIx (o := 45) (f := 2) (x := μ p 2) fX8_partAt_14 rfl rfl (Nat.le_of_ble_eq_true rfl) rfl hJ.f2 ?_
    refine w_bipush dX8_partAt_17 (by decide) ?_
    refine w_icmp_ne (tgt := 35) dX8_partAt_19 rfl (R32.in (by omega)) (R32.in (by decide)) (fun c19 => ?_) (fun c19 => ?_)
    · skip
      refine w_iconst dX8_partAt_35 ?_
      refine Wp.top (fun pq hpq => ?_)
      have hev : pq = evn μ p := by unfold evn; first | (rw [if_pos (by omega)]; exact hpq) | (rw [if_neg (by omega)]; exact hpq)
      have her := evn_r μ p
      refine w_idivP dX8_partAt_36 (by omega) ?_
      exact w_iretP dX8_partAt_37 rfl (by have hq := hPT.resolve_right (fun q => by omega); rw [pIn_ev her (by omega) hq.2.2 (by rw [hq.2.1]; exact htb), hev])
    · skip
      refine w_aload_n dX8_partAt_22 rfl rfl (by first | decide | omega) ?_
      refine w_getIx (o := 45) (f := 1) (x := μ p 1) fX8_partAt_23 rfl rfl (Nat.le_of_ble_eq_true rfl) rfl hJ.f1 ?_
      refine w_iconst dX8_partAt_26 ?_
      refine w_iremP dX8_partAt_27 (by omega) ?_
      refine w_if_ne (tgt := 35) dX8_partAt_28 rfl (R32.in (by omega)) (fun c28 => ?_) (fun c28 => ?_)
      · skip
        refine w_iconst dX8_partAt_35 ?_
        refine Wp.top (fun pq hpq => ?_)
        have hev : pq = evn μ p := by unfold evn; first | (rw [if_pos (by omega)]; exact hpq) | (rw [if_neg (by omega)]; exact hpq)
        have her := evn_r μ p
        refine w_idivP dX8_partAt_36 (by omega) ?_
        exact w_iretP dX8_partAt_37 rfl (by have hq := hPT.resolve_right (fun q => by omega); rw [pIn_ev her (by omega) hq.2.2 (by rw [hq.2.1]; exact htb), hev])
      · skip
        refine w_iconst dX8_partAt_31 ?_
        refine w_goto (tgt := 36) dX8_partAt_32 rfl ?_
        refine Wp.top (fun pq hpq => ?_)
        have hev : pq = evn μ p := by unfold evn; first | (rw [if_pos (by omega)]; exact hpq) | (rw [if_neg (by omega)]; exact hpq)
        have her := evn_r μ p
        refine w_idivP dX8_partAt_36 (by omega) ?_
        exact w_iretP dX8_partAt_37 rfl (by have hq := hPT.resolve_right (fun q => by omega); rw [pIn_ev her (by omega) hq.2.2 (by rw [hq.2.1]; exact htb), hev])

set_option maxRecDepth 100000 in
set_option maxHeartbeats 4000000 in
theorem s_X8_whichPart (X : AX) (p : Int) (i : Int) (each : Int) (μ : Mu) (hC : CJ μ p) (hJ : RJ μ p) (hX : RX μ p) (hi : 0 ≤ i ∧ i < μ p 7) (he : 0 ≤ each ∧ each ≤ 12) : Wp (GG X) M_X8_whichPart 0 [(2, 45), (0, i), (0, each), (9, 0), (9, 0)] [] μ (pP 0 (100 * mof μ p i + pof μ p i each) μ) := by
  have hI := hC.i
  have hG := hC.pg
  have hp := hI.at
  have hz := hI.sz
  have hgr := hG.gr
  have hkn := hC.kn
  have htw := twn_r μ p i hI
  have hmf := mof_r μ p i hI hi
  have hpo := pof_b (i := i) (each := each) hI he.1
  have hbt := bt_lt hI ⟨htw.1, htw.2.1⟩
  have hbr := hI.bt
  refine w_aload_n dX8_whichPart_0 rfl rfl (by first | decide | omega) ?_
  refine w_getR (o := 45) (x := 51) fX8_whichPart_1 rfl rfl rfl rfl ?_
  refine w_iload_n dX8_whichPart_4 rfl rfl ?_
  refine w_ialdx (o := 51) (n := 64) (x := μ (p + 6) i) dX8_whichPart_5 rfl rfl (Nat.le_of_ble_eq_true rfl) (by omega) (hJ.tm (by omega)) ?_
  have hr1 := PI.tm hI (q := p + 6) (i := i) rfl (by omega)
  refine w_aload_n dX8_whichPart_6 rfl rfl (by first | decide | omega) ?_
  refine w_callVP (o := 45) (ci := 8) (as := []) (rest := [(0, μ (p + 6) i)]) (k := 0) fX8_whichPart_7 rfl rfl rfl rfl rfl rfl rfl rfl (Nat.le_of_ble_eq_true rfl) (s_X8_measure X p μ hC hJ) ?_
  have hf2 := mlg_r μ p hI
  refine w_iremP dX8_whichPart_10 (by omega) ?_
  refine Wp.topE (b := twn μ p i) rfl ?_
  refine w_istore_n (ls' := [(2, 45), (0, i), (0, each), (0, twn μ p i), (9, 0)]) dX8_whichPart_11 rfl (Nat.le_of_ble_eq_true rfl) rfl rfl ?_
  refine w_iload_n dX8_whichPart_12 rfl rfl ?_
  refine w_if_ne (tgt := 24) dX8_whichPart_13 rfl (R32.in (by omega)) (fun c13 => ?_) (fun c13 => ?_)
  · skip
    refine w_iload_n dX8_whichPart_24 rfl rfl ?_
    refine w_aload_n dX8_whichPart_25 rfl rfl (by first | decide | omega) ?_
    refine w_callVP (o := 45) (ci := 8) (as := []) (rest := [(0, twn μ p i)]) (k := 0) fX8_whichPart_26 rfl rfl rfl rfl rfl rfl rfl rfl (Nat.le_of_ble_eq_true rfl) (s_X8_beat X p μ hC hJ) ?_
    have hf3 := blg_r (μ p 2)
    refine w_idivP dX8_whichPart_29 (by omega) ?_
    refine w_iload_n dX8_whichPart_30 rfl rfl ?_
    refine w_idivP dX8_whichPart_31 (by omega) ?_
    refine Wp.topE (b := pof μ p i each) (by unfold pof; first | rw [if_neg (by omega)] | rw [if_pos (by omega)]) ?_
    refine w_istore (ls' := [(2, 45), (0, i), (0, each), (0, twn μ p i), (0, pof μ p i each)]) dX8_whichPart_32 (Nat.le_of_ble_eq_true rfl) rfl rfl ?_
    refine w_bipush dX8_whichPart_34 (by decide) ?_
    refine w_aload_n dX8_whichPart_36 rfl rfl (by first | decide | omega) ?_
    refine w_getR (o := 45) (x := 51) fX8_whichPart_37 rfl rfl rfl rfl ?_
    refine w_iload_n dX8_whichPart_40 rfl rfl ?_
    refine w_ialdx (o := 51) (n := 64) (x := μ (p + 6) i) dX8_whichPart_41 rfl rfl (Nat.le_of_ble_eq_true rfl) (by omega) (hJ.tm (by omega)) ?_
    refine w_aload_n dX8_whichPart_42 rfl rfl (by first | decide | omega) ?_
    refine w_callVP (o := 45) (ci := 8) (as := []) (rest := [(0, μ (p + 6) i), (0, 100)]) (k := 0) fX8_whichPart_43 rfl rfl rfl rfl rfl rfl rfl rfl (Nat.le_of_ble_eq_true rfl) (s_X8_measure X p μ hC hJ) ?_
    have hf4 := mlg_r μ p hI
    refine w_idivP dX8_whichPart_46 (by omega) ?_
    refine Wp.topE (b := mof μ p i) rfl ?_
    refine w_imul dX8_whichPart_47 ?_
    refine w_iload dX8_whichPart_48 rfl ?_
    refine w_iadd dX8_whichPart_50 ?_
    exact w_iretP dX8_whichPart_51 rfl (by rfl)
  · skip
    refine w_aload_n dX8_whichPart_16 rfl rfl (by first | decide | omega) ?_
    refine w_iload_n dX8_whichPart_17 rfl rfl ?_
    refine w_callVP (o := 45) (ci := 8) (as := [(0, twn μ p i)]) (rest := []) (k := 2) fX8_whichPart_18 rfl rfl rfl rfl rfl rfl rfl rfl (Nat.le_of_ble_eq_true rfl) (s_X8_partAt X p (twn μ p i) μ hC hJ hX (by first | omega | assumption)) ?_
    have hf5 := pIn_r (pt := μ (p + 1)) (c := μ p 4) (b := (twn μ p i) / blg (μ p 2)) _ 0 (μ (p + 1) 0) rfl
    refine w_goto (tgt := 32) dX8_whichPart_21 rfl ?_
    refine Wp.topE (b := pof μ p i each) (by unfold pof; first | rw [if_neg (by omega)] | rw [if_pos (by omega)]) ?_
    refine w_istore (ls' := [(2, 45), (0, i), (0, each), (0, twn μ p i), (0, pof μ p i each)]) dX8_whichPart_32 (Nat.le_of_ble_eq_true rfl) rfl rfl ?_
    refine w_bipush dX8_whichPart_34 (by decide) ?_
    refine w_aload_n dX8_whichPart_36 rfl rfl (by first | decide | omega) ?_
    refine w_getR (o := 45) (x := 51) fX8_whichPart_37 rfl rfl rfl rfl ?_
    refine w_iload_n dX8_whichPart_40 rfl rfl ?_
    refine w_ialdx (o := 51) (n := 64) (x := μ (p + 6) i) dX8_whichPart_41 rfl rfl (Nat.le_of_ble_eq_true rfl) (by omega) (hJ.tm (by omega)) ?_
    refine w_aload_n dX8_whichPart_42 rfl rfl (by first | decide | omega) ?_
    refine w_callVP (o := 45) (ci := 8) (as := []) (rest := [(0, μ (p + 6) i), (0, 100)]) (k := 0) fX8_whichPart_43 rfl rfl rfl rfl rfl rfl rfl rfl (Nat.le_of_ble_eq_true rfl) (s_X8_measure X p μ hC hJ) ?_
    have hf6 := mlg_r μ p hI
    refine w_idivP dX8_whichPart_46 (by omega) ?_
    refine Wp.topE (b := mof μ p i) rfl ?_
    refine w_imul dX8_whichPart_47 ?_
    refine w_iload dX8_whichPart_48 rfl ?_
    refine w_iadd dX8_whichPart_50 ?_
    exact w_iretP dX8_whichPart_51 rfl (by rfl)

set_option maxRecDepth 100000 in
set_option maxHeartbeats 4000000 in
theorem s_X8_endOf (X : AX) (p : Int) (i : Int) (each : Int) (μ : Mu) (hC : CJ μ p) (hJ : RJ μ p) (hX : RX μ p) (hi : 0 ≤ i ∧ i < μ p 7) (he : 0 ≤ each ∧ each ≤ 12) (hb : 0 < bmz μ p i) : Wp (GG X) M_X8_endOf 0 [(2, 45), (0, i), (0, each), (9, 0)] [] μ (pP 0 (i + runl μ p i each) μ) := by
  have hI := hC.i
  have hG := hC.pg
  have hp := hI.at
  have hz := hI.sz
  have hgr := hG.gr
  have hkn := hC.kn
  have hmf := mof_r μ p i hI hi
  have hpo := pof_b (i := i) (each := each) hI he.1
  refine w_iload_n dX8_endOf_0 rfl rfl ?_
  refine w_iconst dX8_endOf_1 ?_
  refine w_iadd dX8_endOf_2 ?_
  refine w_istore_n (ls' := [(2, 45), (0, i), (0, each), (0, i + 1)]) dX8_endOf_3 rfl (Nat.le_of_ble_eq_true rfl) rfl rfl ?_
  have hL4 : ∀ (n4 : Nat) (e : Int), (μ p 7 - e).toNat = n4 → (i + 1 ≤ e ∧ e ≤ μ p 7) → (rn (μ p 7) (tog μ p i each) e = rn (μ p 7) (tog μ p i each) i) → Wp (GG X) M_X8_endOf 4 [(2, 45), (0, i), (0, each), (0, e)] [] μ (pP 0 (i + runl μ p i each) μ) := by
    intro n4
    induction n4 using Nat.strongRecOn with
    | ind n4 ih4 =>
      intro e hn4 he0 hrn
      refine w_iload_n dX8_endOf_4 rfl rfl ?_
      refine w_aload_n dX8_endOf_5 rfl rfl (by first | decide | omega) ?_
      refine w_getIx (o := 45) (f := 7) (x := μ p 7) fX8_endOf_6 rfl rfl (Nat.le_of_ble_eq_true rfl) rfl hJ.f7 ?_
      refine w_icmp_ge (tgt := 41) dX8_endOf_9 rfl (R32.in (by omega)) (R32.in (by omega)) (fun c9 => ?_) (fun c9 => ?_)
      · skip
        refine w_iload_n dX8_endOf_41 rfl rfl ?_
        exact w_iretP dX8_endOf_42 rfl (by unfold runl; rw [← hrn]; first | (rw [rn_end (by omega)]; omega) | (rw [rn_no (show ¬ tog μ p i each e = true from by unfold tog; simp only [decide_eq_true_eq]; omega)]; omega))
      · skip
        refine w_aload_n dX8_endOf_12 rfl rfl (by first | decide | omega) ?_
        refine w_iload_n dX8_endOf_13 rfl rfl ?_
        refine w_callVP (o := 45) (ci := 8) (as := [(0, e)]) (rest := []) (k := 0) fX8_endOf_14 rfl rfl rfl rfl rfl rfl rfl rfl (Nat.le_of_ble_eq_true rfl) (s_X8_isBeamed X p e μ hC hJ (by first | omega | assumption)) ?_
        have hf1 := am_b_r (0 < bmz μ p e)
        refine w_if_eq (tgt := 41) dX8_endOf_17 rfl (R32.in (by have := am_b_r ((0 < bmz μ p e)); omega)) (fun c17 => ?_) (fun c17 => ?_)
        · skip
          replace c17 := am_b0 c17
          refine w_iload_n dX8_endOf_41 rfl rfl ?_
          exact w_iretP dX8_endOf_42 rfl (by unfold runl; rw [← hrn]; first | (rw [rn_end (by omega)]; omega) | (rw [rn_no (show ¬ tog μ p i each e = true from by unfold tog; simp only [decide_eq_true_eq]; omega)]; omega))
        · skip
          replace c17 := am_b1 c17
          refine w_aload_n dX8_endOf_20 rfl rfl (by first | decide | omega) ?_
          refine w_iload_n dX8_endOf_21 rfl rfl ?_
          refine w_iload_n dX8_endOf_22 rfl rfl ?_
          refine w_callVP (o := 45) (ci := 8) (as := [(0, e), (0, each)]) (rest := []) (k := 2) fX8_endOf_23 rfl rfl rfl rfl rfl rfl rfl rfl (Nat.le_of_ble_eq_true rfl) (s_X8_whichPart X p e each μ hC hJ hX (by first | omega | assumption) (by first | omega | assumption)) ?_
          have hf2 := mof_r μ p e hI (by omega)
          have hf3 := pof_f μ p e each hI (by omega)
          refine w_aload_n dX8_endOf_26 rfl rfl (by first | decide | omega) ?_
          refine w_iload_n dX8_endOf_27 rfl rfl ?_
          refine w_iload_n dX8_endOf_28 rfl rfl ?_
          refine w_callVP (o := 45) (ci := 8) (as := [(0, i), (0, each)]) (rest := [(0, 100 * mof μ p e + pof μ p e each)]) (k := 2) fX8_endOf_29 rfl rfl rfl rfl rfl rfl rfl rfl (Nat.le_of_ble_eq_true rfl) (s_X8_whichPart X p i each μ hC hJ hX (by first | omega | assumption) (by first | omega | assumption)) ?_
          have hf4 := mof_r μ p i hI (by omega)
          have hf5 := pof_f μ p i each hI (by omega)
          refine w_icmp_ne (tgt := 41) dX8_endOf_32 rfl (R32.in (by omega)) (R32.in (by omega)) (fun c32 => ?_) (fun c32 => ?_)
          · skip
            refine w_iload_n dX8_endOf_41 rfl rfl ?_
            exact w_iretP dX8_endOf_42 rfl (by unfold runl; rw [← hrn]; first | (rw [rn_end (by omega)]; omega) | (rw [rn_no (show ¬ tog μ p i each e = true from by unfold tog; simp only [decide_eq_true_eq]; omega)]; omega))
          · skip
            refine w_iinc (ls' := [(2, 45), (0, i), (0, each), (0, e + 1)]) dX8_endOf_35 rfl (Nat.le_of_ble_eq_true rfl) rfl rfl ?_
            refine w_goto (tgt := 4) dX8_endOf_38 rfl ?_
            exact ih4 _ (by omega) (e + 1) rfl (by first | omega | assumption) ((rn_go (by omega) (show tog μ p i each e = true from by unfold tog; simp only [decide_eq_true_eq]; omega)).symm.trans hrn)
  exact hL4 _ (i + 1) rfl (by first | omega | assumption) (rn_go hi.2 (tog_i hb)).symm

set_option maxRecDepth 100000 in
set_option maxHeartbeats 4000000 in
theorem s_X8_groupsBy (X : AX) (p : Int) (each : Int) (μ : Mu) (hC : CJ μ p) (hJ : RJ μ p) (hX : RX μ p) (he : 0 ≤ each ∧ each ≤ 12) : Wp (GG X) M_X8_groupsBy 0 [(2, 45), (0, each), (9, 0), (9, 0), (9, 0)] [] μ (pP 0 (((seg (μ p 7) (fun j => runl μ p j each) 0).length : Int)) μ) := by
  have hI := hC.i
  have hG := hC.pg
  have hp := hI.at
  have hz := hI.sz
  have hgr := hG.gr
  have hkn := hC.kn
  refine w_iconst dX8_groupsBy_0 ?_
  refine w_istore_n (ls' := [(2, 45), (0, each), (0, 0), (9, 0), (9, 0)]) dX8_groupsBy_1 rfl (Nat.le_of_ble_eq_true rfl) rfl rfl ?_
  refine w_iconst dX8_groupsBy_2 ?_
  refine w_istore_n (ls' := [(2, 45), (0, each), (0, 0), (0, 0), (9, 0)]) dX8_groupsBy_3 rfl (Nat.le_of_ble_eq_true rfl) rfl rfl ?_
  have hL4 : ∀ (n4 : Nat) (n : Int) (i : Int), (μ p 7 - i).toNat = n4 → (0 ≤ i ∧ i ≤ μ p 7) → (0 ≤ n ∧ n ≤ i) → (n + ((seg (μ p 7) (fun j => runl μ p j each) i).length : Int) = ((seg (μ p 7) (fun j => runl μ p j each) 0).length : Int)) → Wp (GG X) M_X8_groupsBy 4 [(2, 45), (0, each), (0, n), (0, i), (9, 0)] [] μ (pP 0 (((seg (μ p 7) (fun j => runl μ p j each) 0).length : Int)) μ) := by
    intro n4
    induction n4 using Nat.strongRecOn with
    | ind n4 ih4 =>
      intro n i hn4 hi0 hn0 hn
      refine w_iload_n dX8_groupsBy_4 rfl rfl ?_
      refine w_aload_n dX8_groupsBy_5 rfl rfl (by first | decide | omega) ?_
      refine w_getIx (o := 45) (f := 7) (x := μ p 7) fX8_groupsBy_6 rfl rfl (Nat.le_of_ble_eq_true rfl) rfl hJ.f7 ?_
      refine w_icmp_ge (tgt := 56) dX8_groupsBy_9 rfl (R32.in (by omega)) (R32.in (by omega)) (fun c9 => ?_) (fun c9 => ?_)
      · skip
        refine w_iload_n dX8_groupsBy_56 rfl rfl ?_
        exact w_iretP dX8_groupsBy_57 rfl (by have hs := seg_end (sz := μ p 7) (rl := fun j => runl μ p j each) (i := i) (by omega); rw [hs] at hn; simp only [List.length_nil] at hn; omega)
      · skip
        have hrl := runl_r μ p i each hI (by omega)
        have hr0 := runl_0 (μ := μ) (p := p) (i := i) (each := each)
        have hr1 := runl_1 (μ := μ) (p := p) (i := i) (each := each) (by omega)
        refine w_aload_n dX8_groupsBy_12 rfl rfl (by first | decide | omega) ?_
        refine w_iload_n dX8_groupsBy_13 rfl rfl ?_
        refine w_callVP (o := 45) (ci := 8) (as := [(0, i)]) (rest := []) (k := 0) fX8_groupsBy_14 rfl rfl rfl rfl rfl rfl rfl rfl (Nat.le_of_ble_eq_true rfl) (s_X8_isBeamed X p i μ hC hJ (by first | omega | assumption)) ?_
        have hf1 := am_b_r (0 < bmz μ p i)
        have hJ17_1 : ∀ z1_0 : Int, z1_0 = (if ¬ (0 < bmz μ p i) then i + 1 else i + runl μ p i each) → Wp (GG X) M_X8_groupsBy 32 [(2, 45), (0, each), (0, n), (0, i), (9, 0)] [(0, z1_0)] μ (pP 0 (((seg (μ p 7) (fun j => runl μ p j each) 0).length : Int)) μ) := by
          intro z1_0 hz1_0
          refine w_istore (ls' := [(2, 45), (0, each), (0, n), (0, i), (0, z1_0)]) dX8_groupsBy_32 (Nat.le_of_ble_eq_true rfl) rfl rfl ?_
          refine w_iload_n dX8_groupsBy_34 rfl rfl ?_
          refine w_iload dX8_groupsBy_35 rfl ?_
          refine w_iload_n dX8_groupsBy_37 rfl rfl ?_
          refine w_isub dX8_groupsBy_38 ?_
          refine w_iconst dX8_groupsBy_39 ?_
          have hJ40_2 : ∀ z2_0 : Int, z2_0 = (if (z1_0 - i) ≤ 1 then 0 else 1) → Wp (GG X) M_X8_groupsBy 48 [(2, 45), (0, each), (0, n), (0, i), (0, z1_0)] [(0, z2_0), (0, n)] μ (pP 0 (((seg (μ p 7) (fun j => runl μ p j each) 0).length : Int)) μ) := by
            intro z2_0 hz2_0
            refine w_iadd dX8_groupsBy_48 ?_
            refine w_istore_n (ls' := [(2, 45), (0, each), (0, n + z2_0), (0, i), (0, z1_0)]) dX8_groupsBy_49 rfl (Nat.le_of_ble_eq_true rfl) rfl rfl ?_
            refine w_iload dX8_groupsBy_50 rfl ?_
            refine w_istore_n (ls' := [(2, 45), (0, each), (0, n + z2_0), (0, z1_0), (0, z1_0)]) dX8_groupsBy_52 rfl (Nat.le_of_ble_eq_true rfl) rfl rfl ?_
            refine w_goto (tgt := 4) dX8_groupsBy_53 rfl ?_
            refine Wp.fgl (ls' := [(2, 45), (0, each), (0, n + z2_0), (0, z1_0), (9, 0)]) 4 rfl ?_
            exact ih4 _ (by omega) (n + z2_0) z1_0 rfl (by first | omega | assumption) (by first | omega | assumption) ((seg_one (rl := fun j => runl μ p j each) (by omega) (by omega) (by omega) (by omega)).trans hn)
          refine w_icmp_le (tgt := 47) dX8_groupsBy_40 rfl (R32.in (by omega)) (R32.in (by decide)) (fun c40 => ?_) (fun c40 => ?_)
          · skip
            refine w_iconst dX8_groupsBy_47 ?_
            exact hJ40_2 _ (by first | omega | simp [*])
          · skip
            refine w_iconst dX8_groupsBy_43 ?_
            refine w_goto (tgt := 48) dX8_groupsBy_44 rfl ?_
            exact hJ40_2 _ (by first | omega | simp [*])
        refine w_if_eq (tgt := 29) dX8_groupsBy_17 rfl (R32.in (by have := am_b_r ((0 < bmz μ p i)); omega)) (fun c17 => ?_) (fun c17 => ?_)
        · skip
          replace c17 := am_b0 c17
          refine w_iload_n dX8_groupsBy_29 rfl rfl ?_
          refine w_iconst dX8_groupsBy_30 ?_
          refine w_iadd dX8_groupsBy_31 ?_
          exact hJ17_1 _ (by first | omega | simp [*])
        · skip
          replace c17 := am_b1 c17
          refine w_aload_n dX8_groupsBy_20 rfl rfl (by first | decide | omega) ?_
          refine w_iload_n dX8_groupsBy_21 rfl rfl ?_
          refine w_iload_n dX8_groupsBy_22 rfl rfl ?_
          refine w_callVP (o := 45) (ci := 8) (as := [(0, i), (0, each)]) (rest := []) (k := 1) fX8_groupsBy_23 rfl rfl rfl rfl rfl rfl rfl rfl (Nat.le_of_ble_eq_true rfl) (s_X8_endOf X p i each μ hC hJ hX (by first | omega | assumption) (by first | omega | assumption) (by first | omega | assumption)) ?_
          have hf2 := runl_r μ p i each hI (by omega)
          refine w_goto (tgt := 32) dX8_groupsBy_26 rfl ?_
          exact hJ17_1 _ (by first | omega | simp [*])
  exact hL4 _ 0 0 rfl (by first | omega | assumption) (by first | omega | assumption) (by omega)

set_option maxRecDepth 100000 in
set_option maxHeartbeats 4000000 in
theorem s_X8_ifParts (X : AX) (p : Int) (n : Int) (μ : Mu) (hC : CJ μ p) (hJ : RJ μ p) (hX : RX μ p) (hn : -2147483648 ≤ n ∧ n ≤ 2147483647) : Wp (GG X) M_X8_ifParts 0 [(2, 45), (0, n)] [] μ (qI 0 fun z μ' => (Fr 45 45 57 61 μ' μ) ∧ (z = if 1 ≤ n ∧ n ≤ 12 then ((seg (μ p 7) (fun j => runl μ p j n) 0).length : Int) else -1) ∧ (RJ μ' p) ∧ (∀ k : Int, (¬ k = 0 ∧ ¬ (21 ≤ k ∧ k ≤ 24) ∧ ¬ (29 ≤ k ∧ k ≤ 33)) → μ' 45 k = μ 45 k)) := by
  have hI := hC.i
  have hG := hC.pg
  have hp := hI.at
  have hz := hI.sz
  have hgr := hG.gr
  have hkn := hC.kn
  have hRA := hJ.rag hC
  refine w_aload_n dX8_ifParts_0 rfl rfl (by first | decide | omega) ?_
  refine w_iconst dX8_ifParts_1 ?_
  refine w_putI (o := 45) (f := 0) fX8_ifParts_2 rfl rfl rfl rfl rfl ?_
  have hF_μ4 : Fr 45 45 57 61 (am_up μ 45 0 0) μ := (Fr.rf.up (by omega))
  have hA4 : RAg (ddt μ p (p + 5) (μ p 3)) (μ (p + 9)) (μ p 14) (am_up μ 45 0 0) := (RAg.cg2 hRA (fun o h1 => (am_up_o (by omega))) (fun k h1 => (am_up_nk (by omega))))
  have hJ4 : RJ (am_up μ 45 0 0) p := (RJ.cg2 hJ (fun o h1 => (am_up_o (by omega))) (fun k h1 => (am_up_nk (by omega))))
  have hj4 : RJz (am_up μ 45 0 0) p := hJ4.j0
  have hC4 : CJ (am_up μ 45 0 0) p := (CJ.cg hC (fun o h1 => (am_up_o (by omega))))
  have h564 : ∀ j : Int, 0 ≤ j → j < μ p 7 → (am_up μ 45 0 0) 56 j = μ (p + 5) j := (fun j h1 h2 => ((congrFun (am_up_o (by omega)) _).trans ((fun j h1 h2 => hJ.ht ⟨h1, h2⟩) j h1 h2)))
  have hX4 : RX (am_up μ 45 0 0) p := (RX.cg2 hX (fun o h1 => (am_up_o (by omega))) (fun k h1 => (am_up_nk (by omega))))
  have h194 : (am_up μ 45 0 0) 45 19 = μ p 3 := (((am_up_nk (by omega)).trans hJ.f19).trans (by rfl))
  have hff4 : ∀ k : Int, ¬ k = 0 → (am_up μ 45 0 0) 45 k = μ 45 k := (fun k h1 => (am_up_nk (by omega)))
  refine Wp.mu (fun μ4 hμ4 => ?_)
  rw [← hμ4] at hF_μ4 hA4 hJ4 hj4 hC4 h564 hX4 h194 hff4
  clear hμ4
  have e4 : ∀ o : Int, p ≤ o ∧ o ≤ p + 10 → μ4 o = μ o := fun o h1 => hF_μ4.at (by omega) (by omega)
  have e47 : μ4 p 7 = μ p 7 := congrFun (e4 p (by omega)) _
  have e414 : μ4 p 14 = μ p 14 := congrFun (e4 p (by omega)) _
  refine w_iload_n dX8_ifParts_5 rfl rfl ?_
  refine w_iconst dX8_ifParts_6 ?_
  refine w_bipush dX8_ifParts_7 (by decide) ?_
  refine w_callSP (as := [(0, n), (0, 1), (0, 12)]) (rest := []) (k := 0) fX8_ifParts_9 rfl rfl rfl rfl rfl (Nat.le_of_ble_eq_true rfl) (s_X8_isIn X n 1 12 μ4 (by first | omega | assumption) (by first | omega | assumption) (by first | omega | assumption)) ?_
  have hf1 := am_b_r (1 ≤ n ∧ n ≤ 12)
  refine w_if_eq (tgt := 23) dX8_ifParts_12 rfl (R32.in (by have := am_b_r ((1 ≤ n ∧ n ≤ 12)); omega)) (fun c12 => ?_) (fun c12 => ?_)
  · skip
    replace c12 := am_b0 c12
    refine w_iconst dX8_ifParts_23 ?_
    exact w_iretI dX8_ifParts_24 rfl ⟨hF_μ4, (by first | exact ifT (by omega) rfl | exact ifF (by omega) rfl), hJ4, (fun k h1 => (hff4 k (by omega)))⟩
  · skip
    replace c12 := am_b1 c12
    refine w_aload_n dX8_ifParts_15 rfl rfl (by first | decide | omega) ?_
    refine w_iload_n dX8_ifParts_16 rfl rfl ?_
    refine w_callVP (o := 45) (ci := 8) (as := [(0, n)]) (rest := []) (k := 3) fX8_ifParts_17 rfl rfl rfl rfl rfl rfl rfl rfl (Nat.le_of_ble_eq_true rfl) (s_X8_groupsBy X p n μ4 hC4 hJ4 hX4 (by first | omega | assumption)) ?_
    refine Wp.topE (b := ((seg (μ p 7) (fun j => runl μ p j n) 0).length : Int)) (by rw [show (fun j => runl μ4 p j n) = (fun j => runl μ p j n) from funext (fun j => runl_cg e4), e47]) ?_
    refine w_goto (tgt := 24) dX8_ifParts_20 rfl ?_
    exact w_iretI dX8_ifParts_24 rfl ⟨hF_μ4, (by first | exact ifT (by omega) rfl | exact ifF (by omega) rfl), hJ4, (fun k h1 => (hff4 k (by omega)))⟩

set_option maxRecDepth 100000 in
set_option maxHeartbeats 4000000 in
theorem s_X8_partsTold (X : AX) (p : Int) (μ : Mu) (hC : CJ μ p) (hJ : RJ μ p) (hX : RX μ p) : Wp (GG X) M_X8_partsTold 0 [(2, 45)] [] μ (pP 0 (μ p 4) μ) := by
  have hI := hC.i
  have hG := hC.pg
  have hp := hI.at
  have hz := hI.sz
  have hgr := hG.gr
  have hkn := hC.kn
  have hPT := hX.pt
  have hmn := hPT.many
  have hbt := hI.bt
  have hun := hI.un
  have h4r : 0 ≤ μ 45 4 ∧ μ 45 4 ≤ 6 := by rcases hPT with q | q <;> omega
  refine w_aload_n dX8_partsTold_0 rfl rfl (by first | decide | omega) ?_
  refine w_getIx (o := 45) (f := 4) (x := μ 45 4) fX8_partsTold_1 rfl rfl (Nat.le_of_ble_eq_true rfl) rfl rfl ?_
  refine w_if_le (tgt := 14) dX8_partsTold_4 rfl (R32.in (by omega)) (fun c4 => ?_) (fun c4 => ?_)
  · skip
    refine w_aload_n dX8_partsTold_14 rfl rfl (by first | decide | omega) ?_
    refine w_getIx (o := 45) (f := 2) (x := μ p 2) fX8_partsTold_15 rfl rfl (Nat.le_of_ble_eq_true rfl) rfl hJ.f2 ?_
    refine w_bipush dX8_partsTold_18 (by decide) ?_
    refine w_icmp_ne (tgt := 41) dX8_partsTold_20 rfl (R32.in (by omega)) (R32.in (by decide)) (fun c20 => ?_) (fun c20 => ?_)
    · skip
      refine w_aload_n dX8_partsTold_41 rfl rfl (by first | decide | omega) ?_
      refine w_getIx (o := 45) (f := 1) (x := μ p 1) fX8_partsTold_42 rfl rfl (Nat.le_of_ble_eq_true rfl) rfl hJ.f1 ?_
      exact w_iretP dX8_partsTold_45 rfl (by rw [hmn]; first | (rw [if_pos (by omega)]) | (rw [if_neg (by omega), if_pos (by omega)]) | (rw [if_neg (by omega), if_neg (by omega)]))
    · skip
      refine w_aload_n dX8_partsTold_23 rfl rfl (by first | decide | omega) ?_
      refine w_getIx (o := 45) (f := 1) (x := μ p 1) fX8_partsTold_24 rfl rfl (Nat.le_of_ble_eq_true rfl) rfl hJ.f1 ?_
      refine w_iconst dX8_partsTold_27 ?_
      refine w_iremP dX8_partsTold_28 (by omega) ?_
      refine w_if_ne (tgt := 41) dX8_partsTold_29 rfl (R32.in (by omega)) (fun c29 => ?_) (fun c29 => ?_)
      · skip
        refine w_aload_n dX8_partsTold_41 rfl rfl (by first | decide | omega) ?_
        refine w_getIx (o := 45) (f := 1) (x := μ p 1) fX8_partsTold_42 rfl rfl (Nat.le_of_ble_eq_true rfl) rfl hJ.f1 ?_
        exact w_iretP dX8_partsTold_45 rfl (by rw [hmn]; first | (rw [if_pos (by omega)]) | (rw [if_neg (by omega), if_pos (by omega)]) | (rw [if_neg (by omega), if_neg (by omega)]))
      · skip
        refine w_aload_n dX8_partsTold_32 rfl rfl (by first | decide | omega) ?_
        refine w_getIx (o := 45) (f := 1) (x := μ p 1) fX8_partsTold_33 rfl rfl (Nat.le_of_ble_eq_true rfl) rfl hJ.f1 ?_
        refine w_iconst dX8_partsTold_36 ?_
        refine w_idivP dX8_partsTold_37 (by omega) ?_
        refine w_goto (tgt := 45) dX8_partsTold_38 rfl ?_
        exact w_iretP dX8_partsTold_45 rfl (by rw [hmn]; first | (rw [if_pos (by omega)]) | (rw [if_neg (by omega), if_pos (by omega)]) | (rw [if_neg (by omega), if_neg (by omega)]))
  · skip
    refine w_aload_n dX8_partsTold_7 rfl rfl (by first | decide | omega) ?_
    refine w_getIx (o := 45) (f := 4) (x := μ 45 4) fX8_partsTold_8 rfl rfl (Nat.le_of_ble_eq_true rfl) rfl rfl ?_
    refine w_goto (tgt := 45) dX8_partsTold_11 rfl ?_
    exact w_iretP dX8_partsTold_45 rfl (by rw [hmn]; first | (rw [if_pos (by omega)]) | (rw [if_neg (by omega), if_pos (by omega)]) | (rw [if_neg (by omega), if_neg (by omega)]))
