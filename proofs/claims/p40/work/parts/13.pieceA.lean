set_option maxRecDepth 100000 in
set_option maxHeartbeats 4000000 in
theorem s_X2_beamsOfKind (X : AX) (k : Int) (μ : Mu) (hk : -2147483648 ≤ k ∧ k ≤ 2147483647) : Wp (GG X) M_X2_beamsOfKind 0 [(0, k)] [] μ (pP 0 (bok k) μ) := by
  refine w_iload_n dX2_beamsOfKind_0 rfl rfl ?_
  rcases (show k = 8 ∨ k = 16 ∨ k = 32 ∨ (¬ k = 8 ∧ ¬ k = 16 ∧ ¬ k = 32) by omega) with q1 | q1 | q1 | q1
  · refine w_lookup (off := 35) (tgt := 36) dX2_beamsOfKind_1 (by decide) (R32.in (by omega)) (by rw [q1]; rfl) rfl ?_
    refine w_iconst dX2_beamsOfKind_36 ?_
    exact w_iretP dX2_beamsOfKind_37 rfl (by simp [bok, *])
  · refine w_lookup (off := 37) (tgt := 38) dX2_beamsOfKind_1 (by decide) (R32.in (by omega)) (by rw [q1]; rfl) rfl ?_
    refine w_iconst dX2_beamsOfKind_38 ?_
    exact w_iretP dX2_beamsOfKind_39 rfl (by simp [bok, *])
  · refine w_lookup (off := 39) (tgt := 40) dX2_beamsOfKind_1 (by decide) (R32.in (by omega)) (by rw [q1]; rfl) rfl ?_
    refine w_iconst dX2_beamsOfKind_40 ?_
    exact w_iretP dX2_beamsOfKind_41 rfl (by simp [bok, *])
  · refine w_lookup (off := 41) (tgt := 42) dX2_beamsOfKind_1 (by decide) (R32.in (by omega)) (by simp [Op.lookupswitch.offset]; omega) rfl ?_
    refine w_iconst dX2_beamsOfKind_42 ?_
    exact w_iretP dX2_beamsOfKind_43 rfl (by simp [bok, *])

set_option maxRecDepth 100000 in
set_option maxHeartbeats 4000000 in
theorem s_X2_isKind (X : AX) (k : Int) (μ : Mu) (hk : -2147483648 ≤ k ∧ k ≤ 2147483647) : Wp (GG X) M_X2_isKind 0 [(0, k)] [] μ (pP 0 (am_b (k = 4 ∨ k = 8 ∨ k = 16 ∨ k = 32)) μ) := by
  refine w_iload_n dX2_isKind_0 rfl rfl ?_
  refine w_iconst dX2_isKind_1 ?_
  refine w_icmp_eq (tgt := 23) dX2_isKind_2 rfl (R32.in (by omega)) (R32.in (by decide)) (fun c2 => ?_) (fun c2 => ?_)
  · skip
    refine w_iconst dX2_isKind_23 ?_
    refine w_goto (tgt := 28) dX2_isKind_24 rfl ?_
    exact w_zretP dX2_isKind_28 rfl (Or.inr rfl) (by first | exact am_b_t (by omega) | exact am_b_f (by omega))
  · skip
    refine w_iload_n dX2_isKind_5 rfl rfl ?_
    refine w_bipush dX2_isKind_6 (by decide) ?_
    refine w_icmp_eq (tgt := 23) dX2_isKind_8 rfl (R32.in (by omega)) (R32.in (by decide)) (fun c8 => ?_) (fun c8 => ?_)
    · skip
      refine w_iconst dX2_isKind_23 ?_
      refine w_goto (tgt := 28) dX2_isKind_24 rfl ?_
      exact w_zretP dX2_isKind_28 rfl (Or.inr rfl) (by first | exact am_b_t (by omega) | exact am_b_f (by omega))
    · skip
      refine w_iload_n dX2_isKind_11 rfl rfl ?_
      refine w_bipush dX2_isKind_12 (by decide) ?_
      refine w_icmp_eq (tgt := 23) dX2_isKind_14 rfl (R32.in (by omega)) (R32.in (by decide)) (fun c14 => ?_) (fun c14 => ?_)
      · skip
        refine w_iconst dX2_isKind_23 ?_
        refine w_goto (tgt := 28) dX2_isKind_24 rfl ?_
        exact w_zretP dX2_isKind_28 rfl (Or.inr rfl) (by first | exact am_b_t (by omega) | exact am_b_f (by omega))
      · skip
        refine w_iload_n dX2_isKind_17 rfl rfl ?_
        refine w_bipush dX2_isKind_18 (by decide) ?_
        refine w_icmp_ne (tgt := 27) dX2_isKind_20 rfl (R32.in (by omega)) (R32.in (by decide)) (fun c20 => ?_) (fun c20 => ?_)
        · skip
          refine w_iconst dX2_isKind_27 ?_
          exact w_zretP dX2_isKind_28 rfl (Or.inl rfl) (by first | exact am_b_t (by omega) | exact am_b_f (by omega))
        · skip
          refine w_iconst dX2_isKind_23 ?_
          refine w_goto (tgt := 28) dX2_isKind_24 rfl ?_
          exact w_zretP dX2_isKind_28 rfl (Or.inr rfl) (by first | exact am_b_t (by omega) | exact am_b_f (by omega))

set_option maxRecDepth 100000 in
set_option maxHeartbeats 4000000 in
theorem s_X2_longOfKind (X : AX) (k : Int) (μ : Mu) (hk : -2147483648 ≤ k ∧ k ≤ 2147483647) : Wp (GG X) M_X2_longOfKind 0 [(0, k)] [] μ (pP 0 (lok k) μ) := by
  refine w_bipush dX2_longOfKind_0 (by decide) ?_
  refine w_iload_n dX2_longOfKind_2 rfl rfl ?_
  refine w_callSP (as := [(0, k)]) (rest := [(0, 8)]) (k := 0) fX2_longOfKind_3 rfl rfl rfl rfl rfl (Nat.le_of_ble_eq_true rfl) (s_X2_beamsOfKind X k μ (by first | omega | assumption)) ?_
  have hf1 := bok_r k
  refine w_ishr dX2_longOfKind_6 ?_
  exact w_iretP dX2_longOfKind_7 rfl (by exact lok_sh _)

set_option maxRecDepth 100000 in
set_option maxHeartbeats 4000000 in
theorem s_X2_beatLong (X : AX) (p : Int) (μ ν : Mu) (hA9 : ∀ o : Int, (p ≤ o ∧ o ≤ p + 10) → ν o = μ o) (hI : PI μ p) : Wp (GG X) M_X2_beatLong 0 [(2, p)] [] ν (pP 0 (blg (μ p 2)) ν) := by
  have hp := hI.at
  have hz := hI.sz
  refine w_aload_n dX2_beatLong_0 rfl rfl (by first | decide | omega) ?_
  refine w_getIx (o := (p).toNat) (f := 2) (x := μ p 2) fX2_beatLong_1 (by omega) (pSh0 rfl rfl (by assumption)) (Nat.le_of_ble_eq_true rfl) rfl (congrFun (hA9 _ (by omega)) _) ?_
  have hr1 := PI.un hI
  rcases (show (μ p 2) = 2 ∨ (μ p 2) = 8 ∨ (¬ (μ p 2) = 2 ∧ ¬ (μ p 2) = 8) by omega) with q4 | q4 | q4
  · refine w_lookup (off := 28) (tgt := 32) dX2_beatLong_4 (by decide) (R32.in (by omega)) (by rw [q4]; rfl) rfl ?_
    refine w_bipush dX2_beatLong_32 (by decide) ?_
    exact w_iretP dX2_beatLong_34 rfl (by simp [blg, *])
  · refine w_lookup (off := 31) (tgt := 35) dX2_beatLong_4 (by decide) (R32.in (by omega)) (by rw [q4]; rfl) rfl ?_
    refine w_iconst dX2_beatLong_35 ?_
    exact w_iretP dX2_beatLong_36 rfl (by simp [blg, *])
  · refine w_lookup (off := 33) (tgt := 37) dX2_beatLong_4 (by decide) (R32.in (by omega)) (by simp [Op.lookupswitch.offset]; omega) rfl ?_
    refine w_bipush dX2_beatLong_37 (by decide) ?_
    exact w_iretP dX2_beatLong_39 rfl (by simp [blg, *])

set_option maxRecDepth 100000 in
set_option maxHeartbeats 4000000 in
theorem s_X2_measureLong (X : AX) (p : Int) (μ ν : Mu) (hA9 : ∀ o : Int, (p ≤ o ∧ o ≤ p + 10) → ν o = μ o) (hI : PI μ p) : Wp (GG X) M_X2_measureLong 0 [(2, p)] [] ν (pP 0 (mlg μ p) ν) := by
  have hp := hI.at
  have hz := hI.sz
  have h9 := mlg_r μ p hI
  unfold mlg at h9
  refine w_iconst dX2_measureLong_0 ?_
  refine w_aload_n dX2_measureLong_1 rfl rfl (by first | decide | omega) ?_
  refine w_getIx (o := (p).toNat) (f := 1) (x := μ p 1) fX2_measureLong_2 (by omega) (pSh0 rfl rfl (by assumption)) (Nat.le_of_ble_eq_true rfl) rfl (congrFun (hA9 _ (by omega)) _) ?_
  have hr1 := PI.bt hI
  refine w_aload_n dX2_measureLong_5 rfl rfl (by first | decide | omega) ?_
  refine w_callVP (o := (p).toNat) (ci := 2) (as := []) (rest := [(0, μ p 1), (0, 1)]) (k := 0) fX2_measureLong_6 rfl (by omega) (pSh0 rfl rfl (by assumption)) rfl rfl rfl rfl rfl (Nat.le_of_ble_eq_true rfl) (s_X2_beatLong X p μ ν (fun o h1 => (hA9 _ (by omega))) hI) ?_
  have hf2 := blg_r (μ p 2)
  refine w_imul dX2_measureLong_9 ?_
  refine w_max fX2_measureLong_10 (R32.in (by decide)) (R32.in (by omega)) (Nat.le_of_ble_eq_true rfl) ?_
  exact w_iretP dX2_measureLong_13 rfl (by unfold mlg; omega)

set_option maxRecDepth 100000 in
set_option maxHeartbeats 4000000 in
theorem s_X2_beamsOf (X : AX) (p : Int) (i : Int) (μ ν : Mu) (hA9 : ∀ o : Int, (p ≤ o ∧ o ≤ p + 10) → ν o = μ o) (hI : PI μ p) (hi : 0 ≤ i ∧ i < μ p 7) : Wp (GG X) M_X2_beamsOf 0 [(2, p), (0, i)] [] ν (pP 0 (bmz μ p i) ν) := by
  have hp := hI.at
  have hz := hI.sz
  refine w_aload_n dX2_beamsOf_0 rfl rfl (by first | decide | omega) ?_
  refine w_getR (o := (p).toNat) (x := p + 4) fX2_beamsOf_1 (by omega) (pSh0 rfl rfl (by assumption)) rfl (pRf 9 4 rfl rfl (by assumption)) ?_
  refine w_iload_n dX2_beamsOf_4 rfl rfl ?_
  refine w_zaldx (o := (p + 4).toNat) (n := 64) (x := μ (p + 4) i) dX2_beamsOf_5 (by omega) (pSh 4 rfl rfl (by assumption)) (Nat.le_of_ble_eq_true rfl) (by omega) (congrFun (hA9 _ (by omega)) _) ?_
  have hr1 := PI.so hI (q := p + 4) (i := i) rfl (by omega)
  refine w_if_eq (tgt := 21) dX2_beamsOf_6 rfl (R32.in (by omega)) (fun c6 => ?_) (fun c6 => ?_)
  · skip
    refine w_iconst dX2_beamsOf_21 ?_
    exact w_iretP dX2_beamsOf_22 rfl (by simp [bmz, *])
  · skip
    refine w_aload_n dX2_beamsOf_9 rfl rfl (by first | decide | omega) ?_
    refine w_getR (o := (p).toNat) (x := p + 3) fX2_beamsOf_10 (by omega) (pSh0 rfl rfl (by assumption)) rfl (pRf 8 3 rfl rfl (by assumption)) ?_
    refine w_iload_n dX2_beamsOf_13 rfl rfl ?_
    refine w_ialdx (o := (p + 3).toNat) (n := 64) (x := μ (p + 3) i) dX2_beamsOf_14 (by omega) (pSh 3 rfl rfl (by assumption)) (Nat.le_of_ble_eq_true rfl) (by omega) (congrFun (hA9 _ (by omega)) _) ?_
    have hr2 := PI.kr hI (q := p + 3) (i := i) rfl (by omega)
    refine w_callSP (as := [(0, μ (p + 3) i)]) (rest := []) (k := 0) fX2_beamsOf_15 rfl rfl rfl rfl rfl (Nat.le_of_ble_eq_true rfl) (s_X2_beamsOfKind X (μ (p + 3) i) ν (by first | omega | assumption)) ?_
    have hf3 := bok_r (μ (p + 3) i)
    refine w_goto (tgt := 22) dX2_beamsOf_18 rfl ?_
    exact w_iretP dX2_beamsOf_22 rfl (by simp [bmz, *])

set_option maxRecDepth 100000 in
set_option maxHeartbeats 4000000 in
theorem s_X2_timeOfNext (X : AX) (p : Int) (μ ν : Mu) (hA9 : ∀ o : Int, (p ≤ o ∧ o ≤ p + 10) → ν o = μ o) (hI : PI μ p) : Wp (GG X) M_X2_timeOfNext 0 [(2, p)] [] ν (pP 0 (tnx μ p) ν) := by
  have hp := hI.at
  have hz := hI.sz
  refine w_aload_n dX2_timeOfNext_0 rfl rfl (by first | decide | omega) ?_
  refine w_getIx (o := (p).toNat) (f := 7) (x := μ p 7) fX2_timeOfNext_1 (by omega) (pSh0 rfl rfl (by assumption)) (Nat.le_of_ble_eq_true rfl) rfl (congrFun (hA9 _ (by omega)) _) ?_
  have hr1 := PI.sz hI
  refine w_if_ne (tgt := 11) dX2_timeOfNext_4 rfl (R32.in (by omega)) (fun c4 => ?_) (fun c4 => ?_)
  · skip
    refine w_aload_n dX2_timeOfNext_11 rfl rfl (by first | decide | omega) ?_
    refine w_getR (o := (p).toNat) (x := p + 6) fX2_timeOfNext_12 (by omega) (pSh0 rfl rfl (by assumption)) rfl (pRf 11 6 rfl rfl (by assumption)) ?_
    refine w_aload_n dX2_timeOfNext_15 rfl rfl (by first | decide | omega) ?_
    refine w_getIx (o := (p).toNat) (f := 7) (x := μ p 7) fX2_timeOfNext_16 (by omega) (pSh0 rfl rfl (by assumption)) (Nat.le_of_ble_eq_true rfl) rfl (congrFun (hA9 _ (by omega)) _) ?_
    refine w_iconst dX2_timeOfNext_19 ?_
    refine w_isub dX2_timeOfNext_20 ?_
    refine w_ialdx (o := (p + 6).toNat) (n := 64) (x := μ (p + 6) ((μ p 7) - 1)) dX2_timeOfNext_21 (by omega) (pSh 6 rfl rfl (by assumption)) (Nat.le_of_ble_eq_true rfl) (by omega) (congrFun (hA9 _ (by omega)) _) ?_
    have hr2 := PI.tm hI (q := p + 6) (i := ((μ p 7) - 1)) rfl (by omega)
    refine w_aload_n dX2_timeOfNext_22 rfl rfl (by first | decide | omega) ?_
    refine w_getR (o := (p).toNat) (x := p + 3) fX2_timeOfNext_23 (by omega) (pSh0 rfl rfl (by assumption)) rfl (pRf 8 3 rfl rfl (by assumption)) ?_
    refine w_aload_n dX2_timeOfNext_26 rfl rfl (by first | decide | omega) ?_
    refine w_getIx (o := (p).toNat) (f := 7) (x := μ p 7) fX2_timeOfNext_27 (by omega) (pSh0 rfl rfl (by assumption)) (Nat.le_of_ble_eq_true rfl) rfl (congrFun (hA9 _ (by omega)) _) ?_
    refine w_iconst dX2_timeOfNext_30 ?_
    refine w_isub dX2_timeOfNext_31 ?_
    refine w_ialdx (o := (p + 3).toNat) (n := 64) (x := μ (p + 3) ((μ p 7) - 1)) dX2_timeOfNext_32 (by omega) (pSh 3 rfl rfl (by assumption)) (Nat.le_of_ble_eq_true rfl) (by omega) (congrFun (hA9 _ (by omega)) _) ?_
    have hr3 := PI.kr hI (q := p + 3) (i := ((μ p 7) - 1)) rfl (by omega)
    refine w_callSP (as := [(0, μ (p + 3) ((μ p 7) - 1))]) (rest := [(0, μ (p + 6) ((μ p 7) - 1))]) (k := 0) fX2_timeOfNext_33 rfl rfl rfl rfl rfl (Nat.le_of_ble_eq_true rfl) (s_X2_longOfKind X (μ (p + 3) ((μ p 7) - 1)) ν (by first | omega | assumption)) ?_
    have hf4 := lok_r (μ (p + 3) ((μ p 7) - 1))
    refine w_iadd dX2_timeOfNext_36 ?_
    exact w_iretP dX2_timeOfNext_37 rfl (by simp [tnx, *])
  · skip
    refine w_iconst dX2_timeOfNext_7 ?_
    refine w_goto (tgt := 37) dX2_timeOfNext_8 rfl ?_
    exact w_iretP dX2_timeOfNext_37 rfl (by simp [tnx, *])

set_option maxRecDepth 100000 in
set_option maxHeartbeats 4000000 in
theorem s_X2_xOfNext (X : AX) (p : Int) (μ ν : Mu) (hA9 : ∀ o : Int, (p ≤ o ∧ o ≤ p + 10) → ν o = μ o) (hI : PI μ p) : Wp (GG X) M_X2_xOfNext 0 [(2, p)] [] ν (pP 0 (xnx μ p) ν) := by
  have hp := hI.at
  have hz := hI.sz
  refine w_aload_n dX2_xOfNext_0 rfl rfl (by first | decide | omega) ?_
  refine w_getIx (o := (p).toNat) (f := 7) (x := μ p 7) fX2_xOfNext_1 (by omega) (pSh0 rfl rfl (by assumption)) (Nat.le_of_ble_eq_true rfl) rfl (congrFun (hA9 _ (by omega)) _) ?_
  have hr1 := PI.sz hI
  refine w_if_ne (tgt := 11) dX2_xOfNext_4 rfl (R32.in (by omega)) (fun c4 => ?_) (fun c4 => ?_)
  · skip
    refine w_aload_n dX2_xOfNext_11 rfl rfl (by first | decide | omega) ?_
    refine w_getR (o := (p).toNat) (x := p + 7) fX2_xOfNext_12 (by omega) (pSh0 rfl rfl (by assumption)) rfl (pRf 12 7 rfl rfl (by assumption)) ?_
    refine w_aload_n dX2_xOfNext_15 rfl rfl (by first | decide | omega) ?_
    refine w_getIx (o := (p).toNat) (f := 7) (x := μ p 7) fX2_xOfNext_16 (by omega) (pSh0 rfl rfl (by assumption)) (Nat.le_of_ble_eq_true rfl) rfl (congrFun (hA9 _ (by omega)) _) ?_
    refine w_iconst dX2_xOfNext_19 ?_
    refine w_isub dX2_xOfNext_20 ?_
    refine w_ialdx (o := (p + 7).toNat) (n := 64) (x := μ (p + 7) ((μ p 7) - 1)) dX2_xOfNext_21 (by omega) (pSh 7 rfl rfl (by assumption)) (Nat.le_of_ble_eq_true rfl) (by omega) (congrFun (hA9 _ (by omega)) _) ?_
    have hr2 := PI.xs hI (q := p + 7) (i := ((μ p 7) - 1)) rfl (by omega)
    refine w_aload_n dX2_xOfNext_22 rfl rfl (by first | decide | omega) ?_
    refine w_getR (o := (p).toNat) (x := p + 2) fX2_xOfNext_23 (by omega) (pSh0 rfl rfl (by assumption)) rfl (pRf 6 2 rfl rfl (by assumption)) ?_
    refine w_aload_n dX2_xOfNext_26 rfl rfl (by first | decide | omega) ?_
    refine w_getR (o := (p).toNat) (x := p + 3) fX2_xOfNext_27 (by omega) (pSh0 rfl rfl (by assumption)) rfl (pRf 8 3 rfl rfl (by assumption)) ?_
    refine w_aload_n dX2_xOfNext_30 rfl rfl (by first | decide | omega) ?_
    refine w_getIx (o := (p).toNat) (f := 7) (x := μ p 7) fX2_xOfNext_31 (by omega) (pSh0 rfl rfl (by assumption)) (Nat.le_of_ble_eq_true rfl) rfl (congrFun (hA9 _ (by omega)) _) ?_
    refine w_iconst dX2_xOfNext_34 ?_
    refine w_isub dX2_xOfNext_35 ?_
    refine w_ialdx (o := (p + 3).toNat) (n := 64) (x := μ (p + 3) ((μ p 7) - 1)) dX2_xOfNext_36 (by omega) (pSh 3 rfl rfl (by assumption)) (Nat.le_of_ble_eq_true rfl) (by omega) (congrFun (hA9 _ (by omega)) _) ?_
    have hr3 := PI.kr hI (q := p + 3) (i := ((μ p 7) - 1)) rfl (by omega)
    refine w_callSP (as := [(0, μ (p + 3) ((μ p 7) - 1))]) (rest := [(2, p + 2), (0, μ (p + 7) ((μ p 7) - 1))]) (k := 0) fX2_xOfNext_37 rfl rfl rfl rfl rfl (Nat.le_of_ble_eq_true rfl) (s_X2_beamsOfKind X (μ (p + 3) ((μ p 7) - 1)) ν (by first | omega | assumption)) ?_
    have hf4 := bok_r (μ (p + 3) ((μ p 7) - 1))
    refine w_ialdx (o := (p + 2).toNat) (n := 4) (x := μ (p + 2) (bok (μ (p + 3) ((μ p 7) - 1)))) dX2_xOfNext_40 (by omega) (pSh 2 rfl rfl (by assumption)) (Nat.le_of_ble_eq_true rfl) (by omega) (congrFun (hA9 _ (by omega)) _) ?_
    have hr5 := PI.wd hI (q := p + 2) (i := (bok (μ (p + 3) ((μ p 7) - 1)))) rfl (by omega)
    refine w_iadd dX2_xOfNext_41 ?_
    exact w_iretP dX2_xOfNext_42 rfl (by simp [xnx, *])
  · skip
    refine w_iconst dX2_xOfNext_7 ?_
    refine w_goto (tgt := 42) dX2_xOfNext_8 rfl ?_
    exact w_iretP dX2_xOfNext_42 rfl (by simp [xnx, *])

set_option maxRecDepth 100000 in
set_option maxHeartbeats 4000000 in
theorem s_X2_fits (X : AX) (p : Int) (k : Int) (μ ν : Mu) (hA9 : ∀ o : Int, (p ≤ o ∧ o ≤ p + 10) → ν o = μ o) (hI : PI μ p) (hk : -2147483648 ≤ k ∧ k ≤ 2147483647) : Wp (GG X) M_X2_fits 0 [(2, p), (0, k)] [] ν (pP 0 (am_b (tnx μ p % mlg μ p + lok k ≤ mlg μ p)) ν) := by
  have hp := hI.at
  have hz := hI.sz
  have h7 := tnx_r μ p hI
  have h8 := mlg_r μ p hI
  have h9 := Int.emod_nonneg (tnx μ p) (show mlg μ p ≠ 0 by omega)
  have h10 := Int.emod_lt_of_pos (tnx μ p) (show 0 < mlg μ p by omega)
  refine w_aload_n dX2_fits_0 rfl rfl (by first | decide | omega) ?_
  refine w_callVP (o := (p).toNat) (ci := 2) (as := []) (rest := []) (k := 0) fX2_fits_1 rfl (by omega) (pSh0 rfl rfl (by assumption)) rfl rfl rfl rfl rfl (Nat.le_of_ble_eq_true rfl) (s_X2_timeOfNext X p μ ν (fun o h1 => (hA9 _ (by omega))) hI) ?_
  have hf1 := tnx_r μ p hI
  refine w_aload_n dX2_fits_4 rfl rfl (by first | decide | omega) ?_
  refine w_callVP (o := (p).toNat) (ci := 2) (as := []) (rest := [(0, tnx μ p)]) (k := 0) fX2_fits_5 rfl (by omega) (pSh0 rfl rfl (by assumption)) rfl rfl rfl rfl rfl (Nat.le_of_ble_eq_true rfl) (s_X2_measureLong X p μ ν (fun o h1 => (hA9 _ (by omega))) hI) ?_
  have hf2 := mlg_r μ p hI
  refine w_iremP dX2_fits_8 (by omega) ?_
  refine w_iload_n dX2_fits_9 rfl rfl ?_
  refine w_callSP (as := [(0, k)]) (rest := [(0, (tnx μ p) % (mlg μ p))]) (k := 0) fX2_fits_10 rfl rfl rfl rfl rfl (Nat.le_of_ble_eq_true rfl) (s_X2_longOfKind X k ν (by first | omega | assumption)) ?_
  have hf3 := lok_r k
  refine w_iadd dX2_fits_13 ?_
  refine w_aload_n dX2_fits_14 rfl rfl (by first | decide | omega) ?_
  refine w_callVP (o := (p).toNat) (ci := 2) (as := []) (rest := [(0, ((tnx μ p) % (mlg μ p)) + (lok k))]) (k := 0) fX2_fits_15 rfl (by omega) (pSh0 rfl rfl (by assumption)) rfl rfl rfl rfl rfl (Nat.le_of_ble_eq_true rfl) (s_X2_measureLong X p μ ν (fun o h1 => (hA9 _ (by omega))) hI) ?_
  have hf4 := mlg_r μ p hI
  refine w_icmp_gt (tgt := 25) dX2_fits_18 rfl (R32.in (by omega)) (R32.in (by omega)) (fun c18 => ?_) (fun c18 => ?_)
  · skip
    refine w_iconst dX2_fits_25 ?_
    exact w_zretP dX2_fits_26 rfl (Or.inl rfl) (by first | exact am_b_t (by omega) | exact am_b_f (by omega))
  · skip
    refine w_iconst dX2_fits_21 ?_
    refine w_goto (tgt := 26) dX2_fits_22 rfl ?_
    exact w_zretP dX2_fits_26 rfl (Or.inr rfl) (by first | exact am_b_t (by omega) | exact am_b_f (by omega))

set_option maxRecDepth 100000 in
set_option maxHeartbeats 4000000 in
theorem s_X2_timeWithin (X : AX) (p : Int) (i : Int) (μ ν : Mu) (hA9 : ∀ o : Int, (p ≤ o ∧ o ≤ p + 10) → ν o = μ o) (hI : PI μ p) (hi : 0 ≤ i ∧ i < μ p 7) : Wp (GG X) M_X2_timeWithin 0 [(2, p), (0, i)] [] ν (pP 0 (twn μ p i) ν) := by
  have hp := hI.at
  have hz := hI.sz
  refine w_aload_n dX2_timeWithin_0 rfl rfl (by first | decide | omega) ?_
  refine w_getR (o := (p).toNat) (x := p + 6) fX2_timeWithin_1 (by omega) (pSh0 rfl rfl (by assumption)) rfl (pRf 11 6 rfl rfl (by assumption)) ?_
  refine w_iload_n dX2_timeWithin_4 rfl rfl ?_
  refine w_ialdx (o := (p + 6).toNat) (n := 64) (x := μ (p + 6) i) dX2_timeWithin_5 (by omega) (pSh 6 rfl rfl (by assumption)) (Nat.le_of_ble_eq_true rfl) (by omega) (congrFun (hA9 _ (by omega)) _) ?_
  have hr1 := PI.tm hI (q := p + 6) (i := i) rfl (by omega)
  refine w_aload_n dX2_timeWithin_6 rfl rfl (by first | decide | omega) ?_
  refine w_callVP (o := (p).toNat) (ci := 2) (as := []) (rest := [(0, μ (p + 6) i)]) (k := 0) fX2_timeWithin_7 rfl (by omega) (pSh0 rfl rfl (by assumption)) rfl rfl rfl rfl rfl (Nat.le_of_ble_eq_true rfl) (s_X2_measureLong X p μ ν (fun o h1 => (hA9 _ (by omega))) hI) ?_
  have hf2 := mlg_r μ p hI
  refine w_iremP dX2_timeWithin_10 (by omega) ?_
  exact w_iretP dX2_timeWithin_11 rfl (by rfl)

set_option maxRecDepth 100000 in
set_option maxHeartbeats 4000000 in
theorem s_X2_measureOf (X : AX) (p : Int) (i : Int) (μ ν : Mu) (hA9 : ∀ o : Int, (p ≤ o ∧ o ≤ p + 10) → ν o = μ o) (hI : PI μ p) (hi : 0 ≤ i ∧ i < μ p 7) : Wp (GG X) M_X2_measureOf 0 [(2, p), (0, i)] [] ν (pP 0 (mof μ p i) ν) := by
  have hp := hI.at
  have hz := hI.sz
  refine w_aload_n dX2_measureOf_0 rfl rfl (by first | decide | omega) ?_
  refine w_getR (o := (p).toNat) (x := p + 6) fX2_measureOf_1 (by omega) (pSh0 rfl rfl (by assumption)) rfl (pRf 11 6 rfl rfl (by assumption)) ?_
  refine w_iload_n dX2_measureOf_4 rfl rfl ?_
  refine w_ialdx (o := (p + 6).toNat) (n := 64) (x := μ (p + 6) i) dX2_measureOf_5 (by omega) (pSh 6 rfl rfl (by assumption)) (Nat.le_of_ble_eq_true rfl) (by omega) (congrFun (hA9 _ (by omega)) _) ?_
  have hr1 := PI.tm hI (q := p + 6) (i := i) rfl (by omega)
  refine w_aload_n dX2_measureOf_6 rfl rfl (by first | decide | omega) ?_
  refine w_callVP (o := (p).toNat) (ci := 2) (as := []) (rest := [(0, μ (p + 6) i)]) (k := 0) fX2_measureOf_7 rfl (by omega) (pSh0 rfl rfl (by assumption)) rfl rfl rfl rfl rfl (Nat.le_of_ble_eq_true rfl) (s_X2_measureLong X p μ ν (fun o h1 => (hA9 _ (by omega))) hI) ?_
  have hf2 := mlg_r μ p hI
  refine w_idivP dX2_measureOf_10 (by omega) ?_
  exact w_iretP dX2_measureOf_11 rfl (by rfl)

set_option maxRecDepth 100000 in
set_option maxHeartbeats 4000000 in
theorem s_X2_partOf (X : AX) (p : Int) (i : Int) (each : Int) (μ ν : Mu) (hA9 : ∀ o : Int, (p ≤ o ∧ o ≤ p + 10) → ν o = μ o) (hI : PI μ p) (hi : 0 ≤ i ∧ i < μ p 7) (he : 0 ≤ each ∧ each ≤ 12) : Wp (GG X) M_X2_partOf 0 [(2, p), (0, i), (0, each), (9, 0), (9, 0), (9, 0)] [] ν (pP 0 (pof μ p i each) ν) := by
  have hp := hI.at
  have hz := hI.sz
  have h8 := twn_r μ p i hI
  have h9 := am_div_r h8.1 (show 0 < blg (μ p 2) by have := blg_r (μ p 2); omega)
  have h10 := hI.pc
  refine w_aload_n dX2_partOf_0 rfl rfl (by first | decide | omega) ?_
  refine w_iload_n dX2_partOf_1 rfl rfl ?_
  refine w_callVP (o := (p).toNat) (ci := 2) (as := [(0, i)]) (rest := []) (k := 0) fX2_partOf_2 rfl (by omega) (pSh0 rfl rfl (by assumption)) rfl rfl rfl rfl rfl (Nat.le_of_ble_eq_true rfl) (s_X2_timeWithin X p i μ ν (fun o h1 => (hA9 _ (by omega))) hI (by first | omega | assumption)) ?_
  have hf1 := twn_r μ p i hI
  refine w_aload_n dX2_partOf_5 rfl rfl (by first | decide | omega) ?_
  refine w_callVP (o := (p).toNat) (ci := 2) (as := []) (rest := [(0, twn μ p i)]) (k := 0) fX2_partOf_6 rfl (by omega) (pSh0 rfl rfl (by assumption)) rfl rfl rfl rfl rfl (Nat.le_of_ble_eq_true rfl) (s_X2_beatLong X p μ ν (fun o h1 => (hA9 _ (by omega))) hI) ?_
  have hf2 := blg_r (μ p 2)
  refine w_idivP dX2_partOf_9 (by omega) ?_
  refine w_istore_n (ls' := [(2, p), (0, i), (0, each), (0, (twn μ p i) / (blg (μ p 2))), (9, 0), (9, 0)]) dX2_partOf_10 rfl (Nat.le_of_ble_eq_true rfl) rfl rfl ?_
  refine w_iload_n dX2_partOf_11 rfl rfl ?_
  refine w_if_le (tgt := 19) dX2_partOf_12 rfl (R32.in (by omega)) (fun c12 => ?_) (fun c12 => ?_)
  · skip
    refine w_iconst dX2_partOf_19 ?_
    refine w_istore (ls' := [(2, p), (0, i), (0, each), (0, (twn μ p i) / (blg (μ p 2))), (0, 0), (9, 0)]) dX2_partOf_20 (Nat.le_of_ble_eq_true rfl) rfl rfl ?_
    refine w_aload_n dX2_partOf_22 rfl rfl (by first | decide | omega) ?_
    refine w_getR (o := (p).toNat) (x := p + 1) fX2_partOf_23 (by omega) (pSh0 rfl rfl (by assumption)) rfl (pRf 5 1 rfl rfl (by assumption)) ?_
    refine w_iconst dX2_partOf_26 ?_
    refine w_ialdx (o := (p + 1).toNat) (n := 12) (x := μ (p + 1) 0) dX2_partOf_27 (by omega) (pSh 1 rfl rfl (by assumption)) (Nat.le_of_ble_eq_true rfl) (by omega) (congrFun (hA9 _ (by omega)) _) ?_
    have hr3 := PI.pt hI (q := p + 1) (i := 0) rfl (by omega)
    refine w_istore (ls' := [(2, p), (0, i), (0, each), (0, (twn μ p i) / (blg (μ p 2))), (0, 0), (0, μ (p + 1) 0)]) dX2_partOf_28 (Nat.le_of_ble_eq_true rfl) rfl rfl ?_
    have hL30 : ∀ (n30 : Nat) (k : Int) (e : Int), (μ p 4 - k).toNat = n30 → (0 ≤ k ∧ k < μ p 4) → (0 ≤ e ∧ e ≤ 12 * k + 12) → (pIn (μ (p + 1)) (μ p 4) (twn μ p i / blg (μ p 2)) k e = pof μ p i each) → Wp (GG X) M_X2_partOf 30 [(2, p), (0, i), (0, each), (0, twn μ p i / blg (μ p 2)), (0, k), (0, e)] [] ν (pP 0 (pof μ p i each) ν) := by
      intro n30
      induction n30 using Nat.strongRecOn with
      | ind n30 ih30 =>
        intro k e hn30 hk0 he0 hR
        refine w_iload dX2_partOf_30 rfl ?_
        refine w_aload_n dX2_partOf_32 rfl rfl (by first | decide | omega) ?_
        refine w_getIx (o := (p).toNat) (f := 4) (x := μ p 4) fX2_partOf_33 (by omega) (pSh0 rfl rfl (by assumption)) (Nat.le_of_ble_eq_true rfl) rfl (congrFun (hA9 _ (by omega)) _) ?_
        have hr4 := PI.pc hI
        refine w_iconst dX2_partOf_36 ?_
        refine w_isub dX2_partOf_37 ?_
        refine w_icmp_ge (tgt := 65) dX2_partOf_38 rfl (R32.in (by omega)) (R32.in (by omega)) (fun c38 => ?_) (fun c38 => ?_)
        · skip
          refine w_iload dX2_partOf_65 rfl ?_
          exact w_iretP dX2_partOf_67 rfl (by first | (rw [pIn_no (by omega)] at hR; exact hR) | omega)
        · skip
          refine w_iload_n dX2_partOf_41 rfl rfl ?_
          refine w_iload dX2_partOf_42 rfl ?_
          refine w_icmp_lt (tgt := 65) dX2_partOf_44 rfl (R32.in (by omega)) (R32.in (by omega)) (fun c44 => ?_) (fun c44 => ?_)
          · skip
            refine w_iload dX2_partOf_65 rfl ?_
            exact w_iretP dX2_partOf_67 rfl (by first | (rw [pIn_no (by omega)] at hR; exact hR) | omega)
          · skip
            refine w_iinc (ls' := [(2, p), (0, i), (0, each), (0, twn μ p i / blg (μ p 2)), (0, k + 1), (0, e)]) dX2_partOf_47 rfl (Nat.le_of_ble_eq_true rfl) rfl rfl ?_
            refine w_iload dX2_partOf_50 rfl ?_
            refine w_aload_n dX2_partOf_52 rfl rfl (by first | decide | omega) ?_
            refine w_getR (o := (p).toNat) (x := p + 1) fX2_partOf_53 (by omega) (pSh0 rfl rfl (by assumption)) rfl (pRf 5 1 rfl rfl (by assumption)) ?_
            refine w_iload dX2_partOf_56 rfl ?_
            refine w_ialdx (o := (p + 1).toNat) (n := 12) (x := μ (p + 1) (k + 1)) dX2_partOf_58 (by omega) (pSh 1 rfl rfl (by assumption)) (Nat.le_of_ble_eq_true rfl) (by omega) (congrFun (hA9 _ (by omega)) _) ?_
            have hr5 := PI.pt hI (q := p + 1) (i := (k + 1)) rfl (by omega)
            refine w_iadd dX2_partOf_59 ?_
            refine w_istore (ls' := [(2, p), (0, i), (0, each), (0, twn μ p i / blg (μ p 2)), (0, k + 1), (0, e + (μ (p + 1) (k + 1)))]) dX2_partOf_60 (Nat.le_of_ble_eq_true rfl) rfl rfl ?_
            refine w_goto (tgt := 30) dX2_partOf_62 rfl ?_
            exact ih30 _ (by omega) (k + 1) (e + (μ (p + 1) (k + 1))) rfl (by first | omega | assumption) (by first | omega | assumption) (by rw [pIn_go (by omega) (by omega)] at hR; exact hR)
    refine Wp.lcg (t := 0) (a := (twn μ p i) / (blg (μ p 2))) (b := twn μ p i / blg (μ p 2)) (ls' := [(2, p), (0, i), (0, each), (0, twn μ p i / blg (μ p 2)), (0, 0), (0, μ (p + 1) 0)]) 3 (by omega) rfl rfl ?_
    exact hL30 _ 0 (μ (p + 1) 0) rfl (by first | omega | assumption) (by first | omega | assumption) (by unfold pof; rw [if_neg (by omega)])
  · skip
    refine w_iload_n dX2_partOf_15 rfl rfl ?_
    refine w_iload_n dX2_partOf_16 rfl rfl ?_
    refine w_idivP dX2_partOf_17 (by omega) ?_
    exact w_iretP dX2_partOf_18 rfl (by simp [pof, *])

set_option maxRecDepth 100000 in
set_option maxHeartbeats 4000000 in
theorem s_X2_runFrom (X : AX) (p : Int) (i : Int) (each : Int) (μ ν : Mu) (hA9 : ∀ o : Int, (p ≤ o ∧ o ≤ p + 10) → ν o = μ o) (hI : PI μ p) (hi : 0 ≤ i ∧ i < μ p 7) (he : 0 ≤ each ∧ each ≤ 12) : Wp (GG X) M_X2_runFrom 0 [(2, p), (0, i), (0, each), (9, 0)] [] ν (pP 0 (runl μ p i each) ν) := by
  have hp := hI.at
  have hz := hI.sz
  refine w_iconst dX2_runFrom_0 ?_
  refine w_istore_n (ls' := [(2, p), (0, i), (0, each), (0, 0)]) dX2_runFrom_1 rfl (Nat.le_of_ble_eq_true rfl) rfl rfl ?_
  have hL2 : ∀ (n2 : Nat) (k : Int), (μ p 7 - i - k).toNat = n2 → (0 ≤ k ∧ k ≤ μ p 7 - i) → (rn (μ p 7) (tog μ p i each) (i + k) = i + runl μ p i each) → Wp (GG X) M_X2_runFrom 2 [(2, p), (0, i), (0, each), (0, k)] [] ν (pP 0 (runl μ p i each) ν) := by
    intro n2
    induction n2 using Nat.strongRecOn with
    | ind n2 ih2 =>
      intro k hn2 hk0 hR
      refine w_iload_n dX2_runFrom_2 rfl rfl ?_
      refine w_iload_n dX2_runFrom_3 rfl rfl ?_
      refine w_iadd dX2_runFrom_4 ?_
      refine w_aload_n dX2_runFrom_5 rfl rfl (by first | decide | omega) ?_
      refine w_getIx (o := (p).toNat) (f := 7) (x := μ p 7) fX2_runFrom_6 (by omega) (pSh0 rfl rfl (by assumption)) (Nat.le_of_ble_eq_true rfl) rfl (congrFun (hA9 _ (by omega)) _) ?_
      have hr1 := PI.sz hI
      refine w_icmp_ge (tgt := 60) dX2_runFrom_9 rfl (R32.in (by omega)) (R32.in (by omega)) (fun c9 => ?_) (fun c9 => ?_)
      · skip
        refine w_iload_n dX2_runFrom_60 rfl rfl ?_
        exact w_iretP dX2_runFrom_61 rfl (by first | (rw [rn_end (by omega)] at hR; omega) | (rw [rn_no (by simp [tog]; omega)] at hR; omega))
      · skip
        refine w_aload_n dX2_runFrom_12 rfl rfl (by first | decide | omega) ?_
        refine w_iload_n dX2_runFrom_13 rfl rfl ?_
        refine w_iload_n dX2_runFrom_14 rfl rfl ?_
        refine w_iadd dX2_runFrom_15 ?_
        refine w_callVP (o := (p).toNat) (ci := 2) (as := [(0, i + k)]) (rest := []) (k := 0) fX2_runFrom_16 rfl (by omega) (pSh0 rfl rfl (by assumption)) rfl rfl rfl rfl rfl (Nat.le_of_ble_eq_true rfl) (s_X2_beamsOf X p (i + k) μ ν (fun o h1 => (hA9 _ (by omega))) hI (by first | omega | assumption)) ?_
        have hf2 := bmz_r μ p (i + k)
        refine w_if_le (tgt := 60) dX2_runFrom_19 rfl (R32.in (by omega)) (fun c19 => ?_) (fun c19 => ?_)
        · skip
          refine w_iload_n dX2_runFrom_60 rfl rfl ?_
          exact w_iretP dX2_runFrom_61 rfl (by first | (rw [rn_end (by omega)] at hR; omega) | (rw [rn_no (by simp [tog]; omega)] at hR; omega))
        · skip
          refine w_aload_n dX2_runFrom_22 rfl rfl (by first | decide | omega) ?_
          refine w_iload_n dX2_runFrom_23 rfl rfl ?_
          refine w_iload_n dX2_runFrom_24 rfl rfl ?_
          refine w_iadd dX2_runFrom_25 ?_
          refine w_callVP (o := (p).toNat) (ci := 2) (as := [(0, i + k)]) (rest := []) (k := 0) fX2_runFrom_26 rfl (by omega) (pSh0 rfl rfl (by assumption)) rfl rfl rfl rfl rfl (Nat.le_of_ble_eq_true rfl) (s_X2_measureOf X p (i + k) μ ν (fun o h1 => (hA9 _ (by omega))) hI (by first | omega | assumption)) ?_
          have hf3 := mof_r μ p (i + k) hI (by omega)
          refine w_aload_n dX2_runFrom_29 rfl rfl (by first | decide | omega) ?_
          refine w_iload_n dX2_runFrom_30 rfl rfl ?_
          refine w_callVP (o := (p).toNat) (ci := 2) (as := [(0, i)]) (rest := [(0, mof μ p (i + k))]) (k := 0) fX2_runFrom_31 rfl (by omega) (pSh0 rfl rfl (by assumption)) rfl rfl rfl rfl rfl (Nat.le_of_ble_eq_true rfl) (s_X2_measureOf X p i μ ν (fun o h1 => (hA9 _ (by omega))) hI (by first | omega | assumption)) ?_
          have hf4 := mof_r μ p i hI (by omega)
          refine w_icmp_ne (tgt := 60) dX2_runFrom_34 rfl (R32.in (by omega)) (R32.in (by omega)) (fun c34 => ?_) (fun c34 => ?_)
          · skip
            refine w_iload_n dX2_runFrom_60 rfl rfl ?_
            exact w_iretP dX2_runFrom_61 rfl (by first | (rw [rn_end (by omega)] at hR; omega) | (rw [rn_no (by simp [tog]; omega)] at hR; omega))
          · skip
            refine w_aload_n dX2_runFrom_37 rfl rfl (by first | decide | omega) ?_
            refine w_iload_n dX2_runFrom_38 rfl rfl ?_
            refine w_iload_n dX2_runFrom_39 rfl rfl ?_
            refine w_iadd dX2_runFrom_40 ?_
            refine w_iload_n dX2_runFrom_41 rfl rfl ?_
            refine w_callVP (o := (p).toNat) (ci := 2) (as := [(0, i + k), (0, each)]) (rest := []) (k := 3) fX2_runFrom_42 rfl (by omega) (pSh0 rfl rfl (by assumption)) rfl rfl rfl rfl rfl (Nat.le_of_ble_eq_true rfl) (s_X2_partOf X p (i + k) each μ ν (fun o h1 => (hA9 _ (by omega))) hI (by first | omega | assumption) (by first | omega | assumption)) ?_
            have hf5 := pof_r μ p (i + k) each hI
            refine w_aload_n dX2_runFrom_45 rfl rfl (by first | decide | omega) ?_
            refine w_iload_n dX2_runFrom_46 rfl rfl ?_
            refine w_iload_n dX2_runFrom_47 rfl rfl ?_
            refine w_callVP (o := (p).toNat) (ci := 2) (as := [(0, i), (0, each)]) (rest := [(0, pof μ p (i + k) each)]) (k := 3) fX2_runFrom_48 rfl (by omega) (pSh0 rfl rfl (by assumption)) rfl rfl rfl rfl rfl (Nat.le_of_ble_eq_true rfl) (s_X2_partOf X p i each μ ν (fun o h1 => (hA9 _ (by omega))) hI (by first | omega | assumption) (by first | omega | assumption)) ?_
            have hf6 := pof_r μ p i each hI
            refine w_icmp_ne (tgt := 60) dX2_runFrom_51 rfl (R32.in (by omega)) (R32.in (by omega)) (fun c51 => ?_) (fun c51 => ?_)
            · skip
              refine w_iload_n dX2_runFrom_60 rfl rfl ?_
              exact w_iretP dX2_runFrom_61 rfl (by first | (rw [rn_end (by omega)] at hR; omega) | (rw [rn_no (by simp [tog]; omega)] at hR; omega))
            · skip
              refine w_iinc (ls' := [(2, p), (0, i), (0, each), (0, k + 1)]) dX2_runFrom_54 rfl (Nat.le_of_ble_eq_true rfl) rfl rfl ?_
              refine w_goto (tgt := 2) dX2_runFrom_57 rfl ?_
              exact ih2 _ (by omega) (k + 1) rfl (by first | omega | assumption) (by rw [rn_go (by omega) (by simp [tog]; omega)] at hR; rw [← Int.add_assoc]; exact hR)
  exact hL2 _ 0 rfl (by first | omega | assumption) (by unfold runl; rw [Int.add_zero]; omega)









set_option maxRecDepth 100000 in
set_option maxHeartbeats 4000000 in
theorem s_X2_countNotes (X : AX) (p : Int) (μ ν : Mu) (hA9 : ∀ o : Int, (p ≤ o ∧ o ≤ p + 10) → ν o = μ o) (hI : PI μ p) : Wp (GG X) M_X2_countNotes 0 [(2, p), (9, 0), (9, 0)] [] ν (pP 0 (itr (fun j a => a + μ (p + 4) j) 0 (μ p 7)) ν) := by
  have hp := hI.at
  have hz := hI.sz
  refine w_iconst dX2_countNotes_0 ?_
  refine w_istore_n (ls' := [(2, p), (0, 0), (9, 0)]) dX2_countNotes_1 rfl (Nat.le_of_ble_eq_true rfl) rfl rfl ?_
  refine w_iconst dX2_countNotes_2 ?_
  refine w_istore_n (ls' := [(2, p), (0, 0), (0, 0)]) dX2_countNotes_3 rfl (Nat.le_of_ble_eq_true rfl) rfl rfl ?_
  have hL4 : ∀ (n4 : Nat) (m : Int) (i : Int), (μ p 7 - i).toNat = n4 → (0 ≤ i ∧ i ≤ μ p 7) → (m = itr (fun j a => a + μ (p + 4) j) 0 i) → Wp (GG X) M_X2_countNotes 4 [(2, p), (0, m), (0, i)] [] ν (pP 0 (itr (fun j a => a + μ (p + 4) j) 0 (μ p 7)) ν) := by
    intro n4
    induction n4 using Nat.strongRecOn with
    | ind n4 ih4 =>
      intro m i hn4 hi0 hm
      refine w_iload_n dX2_countNotes_4 rfl rfl ?_
      refine w_aload_n dX2_countNotes_5 rfl rfl (by first | decide | omega) ?_
      refine w_getIx (o := (p).toNat) (f := 7) (x := μ p 7) fX2_countNotes_6 (by omega) (pSh0 rfl rfl (by assumption)) (Nat.le_of_ble_eq_true rfl) rfl (congrFun (hA9 _ (by omega)) _) ?_
      have hr1 := PI.sz hI
      refine w_icmp_ge (tgt := 35) dX2_countNotes_9 rfl (R32.in (by omega)) (R32.in (by omega)) (fun c9 => ?_) (fun c9 => ?_)
      · skip
        refine w_iload_n dX2_countNotes_35 rfl rfl ?_
        exact w_iretP dX2_countNotes_36 rfl (by rw [show i = μ p 7 by omega] at hm; exact hm)
      · skip
        refine w_iload_n dX2_countNotes_12 rfl rfl ?_
        refine w_aload_n dX2_countNotes_13 rfl rfl (by first | decide | omega) ?_
        refine w_getR (o := (p).toNat) (x := p + 4) fX2_countNotes_14 (by omega) (pSh0 rfl rfl (by assumption)) rfl (pRf 9 4 rfl rfl (by assumption)) ?_
        refine w_iload_n dX2_countNotes_17 rfl rfl ?_
        refine w_zaldx (o := (p + 4).toNat) (n := 64) (x := μ (p + 4) i) dX2_countNotes_18 (by omega) (pSh 4 rfl rfl (by assumption)) (Nat.le_of_ble_eq_true rfl) (by omega) (congrFun (hA9 _ (by omega)) _) ?_
        have hr2 := PI.so hI (q := p + 4) (i := i) rfl (by omega)
        have hJ19_1 : ∀ z1_0 : Int, z1_0 = (if (μ (p + 4) i) = 0 then 0 else 1) → Wp (GG X) M_X2_countNotes 27 [(2, p), (0, m), (0, i)] [(0, z1_0), (0, m)] ν (pP 0 (itr (fun j a => a + μ (p + 4) j) 0 (μ p 7)) ν) := by
          intro z1_0 hz1_0
          refine w_iadd dX2_countNotes_27 ?_
          refine w_istore_n (ls' := [(2, p), (0, m + z1_0), (0, i)]) dX2_countNotes_28 rfl (Nat.le_of_ble_eq_true rfl) rfl rfl ?_
          refine w_iinc (ls' := [(2, p), (0, m + z1_0), (0, i + 1)]) dX2_countNotes_29 rfl (Nat.le_of_ble_eq_true rfl) rfl rfl ?_
          refine w_goto (tgt := 4) dX2_countNotes_32 rfl ?_
          exact ih4 _ (by omega) (m + z1_0) (i + 1) rfl (by first | omega | assumption) (by rw [itr_succ (by omega)]; omega)
        refine w_if_eq (tgt := 26) dX2_countNotes_19 rfl (R32.in (by omega)) (fun c19 => ?_) (fun c19 => ?_)
        · skip
          refine w_iconst dX2_countNotes_26 ?_
          exact hJ19_1 _ (by first | omega | simp [*])
        · skip
          refine w_iconst dX2_countNotes_22 ?_
          refine w_goto (tgt := 27) dX2_countNotes_23 rfl ?_
          exact hJ19_1 _ (by first | omega | simp [*])
  exact hL4 _ 0 0 rfl (by first | omega | assumption) rfl

set_option maxRecDepth 100000 in
set_option maxHeartbeats 4000000 in
theorem s_X2_countMeasures (X : AX) (p : Int) (μ ν : Mu) (hA9 : ∀ o : Int, (p ≤ o ∧ o ≤ p + 10) → ν o = μ o) (hI : PI μ p) : Wp (GG X) M_X2_countMeasures 0 [(2, p)] [] ν (pP 0 (if μ p 7 = 0 then 0 else mof μ p (μ p 7 - 1) + 1) ν) := by
  have hp := hI.at
  have hz := hI.sz
  refine w_aload_n dX2_countMeasures_0 rfl rfl (by first | decide | omega) ?_
  refine w_getIx (o := (p).toNat) (f := 7) (x := μ p 7) fX2_countMeasures_1 (by omega) (pSh0 rfl rfl (by assumption)) (Nat.le_of_ble_eq_true rfl) rfl (congrFun (hA9 _ (by omega)) _) ?_
  have hr1 := PI.sz hI
  refine w_if_ne (tgt := 11) dX2_countMeasures_4 rfl (R32.in (by omega)) (fun c4 => ?_) (fun c4 => ?_)
  · skip
    refine w_aload_n dX2_countMeasures_11 rfl rfl (by first | decide | omega) ?_
    refine w_aload_n dX2_countMeasures_12 rfl rfl (by first | decide | omega) ?_
    refine w_getIx (o := (p).toNat) (f := 7) (x := μ p 7) fX2_countMeasures_13 (by omega) (pSh0 rfl rfl (by assumption)) (Nat.le_of_ble_eq_true rfl) rfl (congrFun (hA9 _ (by omega)) _) ?_
    refine w_iconst dX2_countMeasures_16 ?_
    refine w_isub dX2_countMeasures_17 ?_
    refine w_callVP (o := (p).toNat) (ci := 2) (as := [(0, (μ p 7) - 1)]) (rest := []) (k := 0) fX2_countMeasures_18 rfl (by omega) (pSh0 rfl rfl (by assumption)) rfl rfl rfl rfl rfl (Nat.le_of_ble_eq_true rfl) (s_X2_measureOf X p ((μ p 7) - 1) μ ν (fun o h1 => (hA9 _ (by omega))) hI (by first | omega | assumption)) ?_
    have hf2 := mof_r μ p ((μ p 7) - 1) hI (by omega)
    refine w_iconst dX2_countMeasures_21 ?_
    refine w_iadd dX2_countMeasures_22 ?_
    exact w_iretP dX2_countMeasures_23 rfl (by simp [*])
  · skip
    refine w_iconst dX2_countMeasures_7 ?_
    refine w_goto (tgt := 23) dX2_countMeasures_8 rfl ?_
    exact w_iretP dX2_countMeasures_23 rfl (by simp [*])

