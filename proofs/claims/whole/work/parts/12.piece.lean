set_option maxRecDepth 100000 in
set_option maxHeartbeats 4000000 in
theorem s_X2_beamsOfKind (X : AX) (k : Int) (μ : Mu) (hk : -2147483648 ≤ k ∧ k ≤ 2147483647) : Ev (GG X) M_X2_beamsOfKind 0 [(0, k)] [] μ (some (0, bok k)) μ := by
  refine e_iload_n dX2_beamsOfKind_0 rfl rfl ?_
  rcases (show k = 8 ∨ k = 16 ∨ k = 32 ∨ (¬ k = 8 ∧ ¬ k = 16 ∧ ¬ k = 32) by omega) with q1 | q1 | q1 | q1
  · refine e_lookup (off := 35) (tgt := 36) dX2_beamsOfKind_1 (by decide) (R32.in (by omega)) (by rw [q1]; rfl) rfl ?_
    refine e_iconst dX2_beamsOfKind_36 ?_
    exact Ev.toI (e_ireturn dX2_beamsOfKind_37 rfl) (by simp [bok, *]) (by rfl)
  · refine e_lookup (off := 37) (tgt := 38) dX2_beamsOfKind_1 (by decide) (R32.in (by omega)) (by rw [q1]; rfl) rfl ?_
    refine e_iconst dX2_beamsOfKind_38 ?_
    exact Ev.toI (e_ireturn dX2_beamsOfKind_39 rfl) (by simp [bok, *]) (by rfl)
  · refine e_lookup (off := 39) (tgt := 40) dX2_beamsOfKind_1 (by decide) (R32.in (by omega)) (by rw [q1]; rfl) rfl ?_
    refine e_iconst dX2_beamsOfKind_40 ?_
    exact Ev.toI (e_ireturn dX2_beamsOfKind_41 rfl) (by simp [bok, *]) (by rfl)
  · refine e_lookup (off := 41) (tgt := 42) dX2_beamsOfKind_1 (by decide) (R32.in (by omega)) (by simp [Op.lookupswitch.offset]; omega) rfl ?_
    refine e_iconst dX2_beamsOfKind_42 ?_
    exact Ev.toI (e_ireturn dX2_beamsOfKind_43 rfl) (by simp [bok, *]) (by rfl)

set_option maxRecDepth 100000 in
set_option maxHeartbeats 4000000 in
theorem s_X2_isKind (X : AX) (k : Int) (μ : Mu) (hk : -2147483648 ≤ k ∧ k ≤ 2147483647) : Ev (GG X) M_X2_isKind 0 [(0, k)] [] μ (some (0, am_b (k = 4 ∨ k = 8 ∨ k = 16 ∨ k = 32))) μ := by
  refine e_iload_n dX2_isKind_0 rfl rfl ?_
  refine e_iconst dX2_isKind_1 ?_
  refine e_icmp_eq (tgt := 23) dX2_isKind_2 rfl (R32.in (by omega)) (R32.in (by decide)) (fun c2 => ?_) (fun c2 => ?_)
  · skip
    refine e_iconst dX2_isKind_23 ?_
    refine e_goto (tgt := 28) dX2_isKind_24 rfl ?_
    exact Ev.toI (e_zreturn dX2_isKind_28 rfl (Or.inr rfl)) (by first | exact am_b_t (by omega) | exact am_b_f (by omega)) (by rfl)
  · skip
    refine e_iload_n dX2_isKind_5 rfl rfl ?_
    refine e_bipush dX2_isKind_6 (by decide) ?_
    refine e_icmp_eq (tgt := 23) dX2_isKind_8 rfl (R32.in (by omega)) (R32.in (by decide)) (fun c8 => ?_) (fun c8 => ?_)
    · skip
      refine e_iconst dX2_isKind_23 ?_
      refine e_goto (tgt := 28) dX2_isKind_24 rfl ?_
      exact Ev.toI (e_zreturn dX2_isKind_28 rfl (Or.inr rfl)) (by first | exact am_b_t (by omega) | exact am_b_f (by omega)) (by rfl)
    · skip
      refine e_iload_n dX2_isKind_11 rfl rfl ?_
      refine e_bipush dX2_isKind_12 (by decide) ?_
      refine e_icmp_eq (tgt := 23) dX2_isKind_14 rfl (R32.in (by omega)) (R32.in (by decide)) (fun c14 => ?_) (fun c14 => ?_)
      · skip
        refine e_iconst dX2_isKind_23 ?_
        refine e_goto (tgt := 28) dX2_isKind_24 rfl ?_
        exact Ev.toI (e_zreturn dX2_isKind_28 rfl (Or.inr rfl)) (by first | exact am_b_t (by omega) | exact am_b_f (by omega)) (by rfl)
      · skip
        refine e_iload_n dX2_isKind_17 rfl rfl ?_
        refine e_bipush dX2_isKind_18 (by decide) ?_
        refine e_icmp_ne (tgt := 27) dX2_isKind_20 rfl (R32.in (by omega)) (R32.in (by decide)) (fun c20 => ?_) (fun c20 => ?_)
        · skip
          refine e_iconst dX2_isKind_27 ?_
          exact Ev.toI (e_zreturn dX2_isKind_28 rfl (Or.inl rfl)) (by first | exact am_b_t (by omega) | exact am_b_f (by omega)) (by rfl)
        · skip
          refine e_iconst dX2_isKind_23 ?_
          refine e_goto (tgt := 28) dX2_isKind_24 rfl ?_
          exact Ev.toI (e_zreturn dX2_isKind_28 rfl (Or.inr rfl)) (by first | exact am_b_t (by omega) | exact am_b_f (by omega)) (by rfl)

set_option maxRecDepth 100000 in
set_option maxHeartbeats 4000000 in
theorem s_X2_longOfKind (X : AX) (k : Int) (μ : Mu) (hk : -2147483648 ≤ k ∧ k ≤ 2147483647) : Ev (GG X) M_X2_longOfKind 0 [(0, k)] [] μ (some (0, lok k)) μ := by
  refine e_bipush dX2_longOfKind_0 (by decide) ?_
  refine e_iload_n dX2_longOfKind_2 rfl rfl ?_
  refine e_callS1 (as := [(0, k)]) (rest := [(0, 8)]) (k := 0) fX2_longOfKind_3 rfl rfl rfl rfl rfl (Nat.le_of_ble_eq_true rfl) (s_X2_beamsOfKind X k μ (by first | assumption | omega)) ?_
  have hf1 := bok_r k
  refine e_ishr dX2_longOfKind_6 ?_
  exact Ev.toI (e_ireturn dX2_longOfKind_7 rfl) (by exact lok_sh _) (by rfl)

set_option maxRecDepth 100000 in
set_option maxHeartbeats 4000000 in
theorem s_X2_beatLong (X : AX) (p : Int) (μ : Mu) (hI : PI μ p) : Ev (GG X) M_X2_beatLong 0 [(2, p)] [] μ (some (0, blg (μ p 2))) μ := by
  have hp := hI.at
  have hz := hI.sz
  rcases hp with rfl | rfl
  · skip
    refine e_aload_n dX2_beatLong_0 rfl rfl (by decide) ?_
    refine e_getIx (o := 20) (f := 2) (x := μ 20 2) fX2_beatLong_1 rfl rfl (Nat.le_of_ble_eq_true rfl) rfl rfl ?_
    have hr1 := PI.un hI
    rcases (show μ 20 2 = 2 ∨ μ 20 2 = 8 ∨ (¬ μ 20 2 = 2 ∧ ¬ μ 20 2 = 8) by omega) with q4 | q4 | q4
    · refine e_lookup (off := 28) (tgt := 32) dX2_beatLong_4 (by decide) (R32.in (by omega)) (by rw [q4]; rfl) rfl ?_
      refine e_bipush dX2_beatLong_32 (by decide) ?_
      exact Ev.toI (e_ireturn dX2_beatLong_34 rfl) (by simp [blg, *]) (by rfl)
    · refine e_lookup (off := 31) (tgt := 35) dX2_beatLong_4 (by decide) (R32.in (by omega)) (by rw [q4]; rfl) rfl ?_
      refine e_iconst dX2_beatLong_35 ?_
      exact Ev.toI (e_ireturn dX2_beatLong_36 rfl) (by simp [blg, *]) (by rfl)
    · refine e_lookup (off := 33) (tgt := 37) dX2_beatLong_4 (by decide) (R32.in (by omega)) (by simp [Op.lookupswitch.offset]; omega) rfl ?_
      refine e_bipush dX2_beatLong_37 (by decide) ?_
      exact Ev.toI (e_ireturn dX2_beatLong_39 rfl) (by simp [blg, *]) (by rfl)
  · skip
    refine e_aload_n dX2_beatLong_0 rfl rfl (by decide) ?_
    refine e_getIx (o := 31) (f := 2) (x := μ 31 2) fX2_beatLong_1 rfl rfl (Nat.le_of_ble_eq_true rfl) rfl rfl ?_
    have hr1 := PI.un hI
    rcases (show μ 31 2 = 2 ∨ μ 31 2 = 8 ∨ (¬ μ 31 2 = 2 ∧ ¬ μ 31 2 = 8) by omega) with q4 | q4 | q4
    · refine e_lookup (off := 28) (tgt := 32) dX2_beatLong_4 (by decide) (R32.in (by omega)) (by rw [q4]; rfl) rfl ?_
      refine e_bipush dX2_beatLong_32 (by decide) ?_
      exact Ev.toI (e_ireturn dX2_beatLong_34 rfl) (by simp [blg, *]) (by rfl)
    · refine e_lookup (off := 31) (tgt := 35) dX2_beatLong_4 (by decide) (R32.in (by omega)) (by rw [q4]; rfl) rfl ?_
      refine e_iconst dX2_beatLong_35 ?_
      exact Ev.toI (e_ireturn dX2_beatLong_36 rfl) (by simp [blg, *]) (by rfl)
    · refine e_lookup (off := 33) (tgt := 37) dX2_beatLong_4 (by decide) (R32.in (by omega)) (by simp [Op.lookupswitch.offset]; omega) rfl ?_
      refine e_bipush dX2_beatLong_37 (by decide) ?_
      exact Ev.toI (e_ireturn dX2_beatLong_39 rfl) (by simp [blg, *]) (by rfl)

set_option maxRecDepth 100000 in
set_option maxHeartbeats 4000000 in
theorem s_X2_measureLong (X : AX) (p : Int) (μ : Mu) (hI : PI μ p) : Ev (GG X) M_X2_measureLong 0 [(2, p)] [] μ (some (0, mlg μ p)) μ := by
  have hp := hI.at
  have hz := hI.sz
  rcases hp with rfl | rfl
  · skip
    have h9 := mlg_r μ 20 hI
    unfold mlg at h9
    refine e_iconst dX2_measureLong_0 ?_
    refine e_aload_n dX2_measureLong_1 rfl rfl (by decide) ?_
    refine e_getIx (o := 20) (f := 1) (x := μ 20 1) fX2_measureLong_2 rfl rfl (Nat.le_of_ble_eq_true rfl) rfl rfl ?_
    have hr1 := PI.bt hI
    refine e_aload_n dX2_measureLong_5 rfl rfl (by decide) ?_
    refine e_callV1 (o := 20) (ci := 2) (as := []) (rest := [(0, μ 20 1), (0, 1)]) (k := 0) fX2_measureLong_6 rfl rfl rfl rfl rfl rfl rfl rfl (Nat.le_of_ble_eq_true rfl) (s_X2_beatLong X 20 μ (by first | assumption | omega)) ?_
    have hf2 := blg_r (μ 20 2)
    refine e_imul dX2_measureLong_9 ?_
    refine e_max fX2_measureLong_10 (R32.in (by decide)) (R32.in (by omega)) (Nat.le_of_ble_eq_true rfl) ?_
    exact Ev.toI (e_ireturn dX2_measureLong_13 rfl) (by unfold mlg; omega) (by rfl)
  · skip
    have h9 := mlg_r μ 31 hI
    unfold mlg at h9
    refine e_iconst dX2_measureLong_0 ?_
    refine e_aload_n dX2_measureLong_1 rfl rfl (by decide) ?_
    refine e_getIx (o := 31) (f := 1) (x := μ 31 1) fX2_measureLong_2 rfl rfl (Nat.le_of_ble_eq_true rfl) rfl rfl ?_
    have hr1 := PI.bt hI
    refine e_aload_n dX2_measureLong_5 rfl rfl (by decide) ?_
    refine e_callV1 (o := 31) (ci := 2) (as := []) (rest := [(0, μ 31 1), (0, 1)]) (k := 0) fX2_measureLong_6 rfl rfl rfl rfl rfl rfl rfl rfl (Nat.le_of_ble_eq_true rfl) (s_X2_beatLong X 31 μ (by first | assumption | omega)) ?_
    have hf2 := blg_r (μ 31 2)
    refine e_imul dX2_measureLong_9 ?_
    refine e_max fX2_measureLong_10 (R32.in (by decide)) (R32.in (by omega)) (Nat.le_of_ble_eq_true rfl) ?_
    exact Ev.toI (e_ireturn dX2_measureLong_13 rfl) (by unfold mlg; omega) (by rfl)

set_option maxRecDepth 100000 in
set_option maxHeartbeats 4000000 in
theorem s_X2_beamsOf (X : AX) (p : Int) (i : Int) (μ : Mu) (hI : PI μ p) (hi : 0 ≤ i ∧ i < μ p 7) : Ev (GG X) M_X2_beamsOf 0 [(2, p), (0, i)] [] μ (some (0, bmz μ p i)) μ := by
  have hp := hI.at
  have hz := hI.sz
  rcases hp with rfl | rfl
  · skip
    refine e_aload_n dX2_beamsOf_0 rfl rfl (by decide) ?_
    refine e_getR (o := 20) (x := 24) fX2_beamsOf_1 rfl rfl rfl rfl ?_
    refine e_iload_n dX2_beamsOf_4 rfl rfl ?_
    refine e_zaldx (o := 24) (n := 64) (x := μ 24 i) dX2_beamsOf_5 rfl rfl (Nat.le_of_ble_eq_true rfl) (by omega) rfl ?_
    have hr1 := PI.so hI (q := 24) (i := i) rfl (by omega)
    refine e_if_eq (tgt := 21) dX2_beamsOf_6 rfl (R32.in (by omega)) (fun c6 => ?_) (fun c6 => ?_)
    · skip
      refine e_iconst dX2_beamsOf_21 ?_
      exact Ev.toI (e_ireturn dX2_beamsOf_22 rfl) (by simp [bmz, *]) (by rfl)
    · skip
      refine e_aload_n dX2_beamsOf_9 rfl rfl (by decide) ?_
      refine e_getR (o := 20) (x := 23) fX2_beamsOf_10 rfl rfl rfl rfl ?_
      refine e_iload_n dX2_beamsOf_13 rfl rfl ?_
      refine e_ialdx (o := 23) (n := 64) (x := μ 23 i) dX2_beamsOf_14 rfl rfl (Nat.le_of_ble_eq_true rfl) (by omega) rfl ?_
      have hr2 := PI.kr hI (q := 23) (i := i) rfl (by omega)
      refine e_callS1 (as := [(0, μ 23 i)]) (rest := []) (k := 0) fX2_beamsOf_15 rfl rfl rfl rfl rfl (Nat.le_of_ble_eq_true rfl) (s_X2_beamsOfKind X (μ 23 i) μ (by first | assumption | omega)) ?_
      have hf3 := bok_r (μ 23 i)
      refine e_goto (tgt := 22) dX2_beamsOf_18 rfl ?_
      exact Ev.toI (e_ireturn dX2_beamsOf_22 rfl) (by simp [bmz, *]) (by rfl)
  · skip
    refine e_aload_n dX2_beamsOf_0 rfl rfl (by decide) ?_
    refine e_getR (o := 31) (x := 35) fX2_beamsOf_1 rfl rfl rfl rfl ?_
    refine e_iload_n dX2_beamsOf_4 rfl rfl ?_
    refine e_zaldx (o := 35) (n := 64) (x := μ 35 i) dX2_beamsOf_5 rfl rfl (Nat.le_of_ble_eq_true rfl) (by omega) rfl ?_
    have hr1 := PI.so hI (q := 35) (i := i) rfl (by omega)
    refine e_if_eq (tgt := 21) dX2_beamsOf_6 rfl (R32.in (by omega)) (fun c6 => ?_) (fun c6 => ?_)
    · skip
      refine e_iconst dX2_beamsOf_21 ?_
      exact Ev.toI (e_ireturn dX2_beamsOf_22 rfl) (by simp [bmz, *]) (by rfl)
    · skip
      refine e_aload_n dX2_beamsOf_9 rfl rfl (by decide) ?_
      refine e_getR (o := 31) (x := 34) fX2_beamsOf_10 rfl rfl rfl rfl ?_
      refine e_iload_n dX2_beamsOf_13 rfl rfl ?_
      refine e_ialdx (o := 34) (n := 64) (x := μ 34 i) dX2_beamsOf_14 rfl rfl (Nat.le_of_ble_eq_true rfl) (by omega) rfl ?_
      have hr2 := PI.kr hI (q := 34) (i := i) rfl (by omega)
      refine e_callS1 (as := [(0, μ 34 i)]) (rest := []) (k := 0) fX2_beamsOf_15 rfl rfl rfl rfl rfl (Nat.le_of_ble_eq_true rfl) (s_X2_beamsOfKind X (μ 34 i) μ (by first | assumption | omega)) ?_
      have hf3 := bok_r (μ 34 i)
      refine e_goto (tgt := 22) dX2_beamsOf_18 rfl ?_
      exact Ev.toI (e_ireturn dX2_beamsOf_22 rfl) (by simp [bmz, *]) (by rfl)

set_option maxRecDepth 100000 in
set_option maxHeartbeats 4000000 in
theorem s_X2_timeOfNext (X : AX) (p : Int) (μ : Mu) (hI : PI μ p) : Ev (GG X) M_X2_timeOfNext 0 [(2, p)] [] μ (some (0, tnx μ p)) μ := by
  have hp := hI.at
  have hz := hI.sz
  rcases hp with rfl | rfl
  · skip
    refine e_aload_n dX2_timeOfNext_0 rfl rfl (by decide) ?_
    refine e_getIx (o := 20) (f := 7) (x := μ 20 7) fX2_timeOfNext_1 rfl rfl (Nat.le_of_ble_eq_true rfl) rfl rfl ?_
    have hr1 := PI.sz hI
    refine e_if_ne (tgt := 11) dX2_timeOfNext_4 rfl (R32.in (by omega)) (fun c4 => ?_) (fun c4 => ?_)
    · skip
      refine e_aload_n dX2_timeOfNext_11 rfl rfl (by decide) ?_
      refine e_getR (o := 20) (x := 26) fX2_timeOfNext_12 rfl rfl rfl rfl ?_
      refine e_aload_n dX2_timeOfNext_15 rfl rfl (by decide) ?_
      refine e_getIx (o := 20) (f := 7) (x := μ 20 7) fX2_timeOfNext_16 rfl rfl (Nat.le_of_ble_eq_true rfl) rfl rfl ?_
      refine e_iconst dX2_timeOfNext_19 ?_
      refine e_isub dX2_timeOfNext_20 ?_
      refine e_ialdx (o := 26) (n := 64) (x := μ 26 ((μ 20 7) - 1)) dX2_timeOfNext_21 rfl rfl (Nat.le_of_ble_eq_true rfl) (by omega) rfl ?_
      have hr2 := PI.tm hI (q := 26) (i := ((μ 20 7) - 1)) rfl (by omega)
      refine e_aload_n dX2_timeOfNext_22 rfl rfl (by decide) ?_
      refine e_getR (o := 20) (x := 23) fX2_timeOfNext_23 rfl rfl rfl rfl ?_
      refine e_aload_n dX2_timeOfNext_26 rfl rfl (by decide) ?_
      refine e_getIx (o := 20) (f := 7) (x := μ 20 7) fX2_timeOfNext_27 rfl rfl (Nat.le_of_ble_eq_true rfl) rfl rfl ?_
      refine e_iconst dX2_timeOfNext_30 ?_
      refine e_isub dX2_timeOfNext_31 ?_
      refine e_ialdx (o := 23) (n := 64) (x := μ 23 ((μ 20 7) - 1)) dX2_timeOfNext_32 rfl rfl (Nat.le_of_ble_eq_true rfl) (by omega) rfl ?_
      have hr3 := PI.kr hI (q := 23) (i := ((μ 20 7) - 1)) rfl (by omega)
      refine e_callS1 (as := [(0, μ 23 ((μ 20 7) - 1))]) (rest := [(0, μ 26 ((μ 20 7) - 1))]) (k := 0) fX2_timeOfNext_33 rfl rfl rfl rfl rfl (Nat.le_of_ble_eq_true rfl) (s_X2_longOfKind X (μ 23 ((μ 20 7) - 1)) μ (by first | assumption | omega)) ?_
      have hf4 := lok_r (μ 23 ((μ 20 7) - 1))
      refine e_iadd dX2_timeOfNext_36 ?_
      exact Ev.toI (e_ireturn dX2_timeOfNext_37 rfl) (by simp [tnx, *]) (by rfl)
    · skip
      refine e_iconst dX2_timeOfNext_7 ?_
      refine e_goto (tgt := 37) dX2_timeOfNext_8 rfl ?_
      exact Ev.toI (e_ireturn dX2_timeOfNext_37 rfl) (by simp [tnx, *]) (by rfl)
  · skip
    refine e_aload_n dX2_timeOfNext_0 rfl rfl (by decide) ?_
    refine e_getIx (o := 31) (f := 7) (x := μ 31 7) fX2_timeOfNext_1 rfl rfl (Nat.le_of_ble_eq_true rfl) rfl rfl ?_
    have hr1 := PI.sz hI
    refine e_if_ne (tgt := 11) dX2_timeOfNext_4 rfl (R32.in (by omega)) (fun c4 => ?_) (fun c4 => ?_)
    · skip
      refine e_aload_n dX2_timeOfNext_11 rfl rfl (by decide) ?_
      refine e_getR (o := 31) (x := 37) fX2_timeOfNext_12 rfl rfl rfl rfl ?_
      refine e_aload_n dX2_timeOfNext_15 rfl rfl (by decide) ?_
      refine e_getIx (o := 31) (f := 7) (x := μ 31 7) fX2_timeOfNext_16 rfl rfl (Nat.le_of_ble_eq_true rfl) rfl rfl ?_
      refine e_iconst dX2_timeOfNext_19 ?_
      refine e_isub dX2_timeOfNext_20 ?_
      refine e_ialdx (o := 37) (n := 64) (x := μ 37 ((μ 31 7) - 1)) dX2_timeOfNext_21 rfl rfl (Nat.le_of_ble_eq_true rfl) (by omega) rfl ?_
      have hr2 := PI.tm hI (q := 37) (i := ((μ 31 7) - 1)) rfl (by omega)
      refine e_aload_n dX2_timeOfNext_22 rfl rfl (by decide) ?_
      refine e_getR (o := 31) (x := 34) fX2_timeOfNext_23 rfl rfl rfl rfl ?_
      refine e_aload_n dX2_timeOfNext_26 rfl rfl (by decide) ?_
      refine e_getIx (o := 31) (f := 7) (x := μ 31 7) fX2_timeOfNext_27 rfl rfl (Nat.le_of_ble_eq_true rfl) rfl rfl ?_
      refine e_iconst dX2_timeOfNext_30 ?_
      refine e_isub dX2_timeOfNext_31 ?_
      refine e_ialdx (o := 34) (n := 64) (x := μ 34 ((μ 31 7) - 1)) dX2_timeOfNext_32 rfl rfl (Nat.le_of_ble_eq_true rfl) (by omega) rfl ?_
      have hr3 := PI.kr hI (q := 34) (i := ((μ 31 7) - 1)) rfl (by omega)
      refine e_callS1 (as := [(0, μ 34 ((μ 31 7) - 1))]) (rest := [(0, μ 37 ((μ 31 7) - 1))]) (k := 0) fX2_timeOfNext_33 rfl rfl rfl rfl rfl (Nat.le_of_ble_eq_true rfl) (s_X2_longOfKind X (μ 34 ((μ 31 7) - 1)) μ (by first | assumption | omega)) ?_
      have hf4 := lok_r (μ 34 ((μ 31 7) - 1))
      refine e_iadd dX2_timeOfNext_36 ?_
      exact Ev.toI (e_ireturn dX2_timeOfNext_37 rfl) (by simp [tnx, *]) (by rfl)
    · skip
      refine e_iconst dX2_timeOfNext_7 ?_
      refine e_goto (tgt := 37) dX2_timeOfNext_8 rfl ?_
      exact Ev.toI (e_ireturn dX2_timeOfNext_37 rfl) (by simp [tnx, *]) (by rfl)

set_option maxRecDepth 100000 in
set_option maxHeartbeats 4000000 in
theorem s_X2_xOfNext (X : AX) (p : Int) (μ : Mu) (hI : PI μ p) : Ev (GG X) M_X2_xOfNext 0 [(2, p)] [] μ (some (0, xnx μ p)) μ := by
  have hp := hI.at
  have hz := hI.sz
  rcases hp with rfl | rfl
  · skip
    refine e_aload_n dX2_xOfNext_0 rfl rfl (by decide) ?_
    refine e_getIx (o := 20) (f := 7) (x := μ 20 7) fX2_xOfNext_1 rfl rfl (Nat.le_of_ble_eq_true rfl) rfl rfl ?_
    have hr1 := PI.sz hI
    refine e_if_ne (tgt := 11) dX2_xOfNext_4 rfl (R32.in (by omega)) (fun c4 => ?_) (fun c4 => ?_)
    · skip
      refine e_aload_n dX2_xOfNext_11 rfl rfl (by decide) ?_
      refine e_getR (o := 20) (x := 27) fX2_xOfNext_12 rfl rfl rfl rfl ?_
      refine e_aload_n dX2_xOfNext_15 rfl rfl (by decide) ?_
      refine e_getIx (o := 20) (f := 7) (x := μ 20 7) fX2_xOfNext_16 rfl rfl (Nat.le_of_ble_eq_true rfl) rfl rfl ?_
      refine e_iconst dX2_xOfNext_19 ?_
      refine e_isub dX2_xOfNext_20 ?_
      refine e_ialdx (o := 27) (n := 64) (x := μ 27 ((μ 20 7) - 1)) dX2_xOfNext_21 rfl rfl (Nat.le_of_ble_eq_true rfl) (by omega) rfl ?_
      have hr2 := PI.xs hI (q := 27) (i := ((μ 20 7) - 1)) rfl (by omega)
      refine e_aload_n dX2_xOfNext_22 rfl rfl (by decide) ?_
      refine e_getR (o := 20) (x := 22) fX2_xOfNext_23 rfl rfl rfl rfl ?_
      refine e_aload_n dX2_xOfNext_26 rfl rfl (by decide) ?_
      refine e_getR (o := 20) (x := 23) fX2_xOfNext_27 rfl rfl rfl rfl ?_
      refine e_aload_n dX2_xOfNext_30 rfl rfl (by decide) ?_
      refine e_getIx (o := 20) (f := 7) (x := μ 20 7) fX2_xOfNext_31 rfl rfl (Nat.le_of_ble_eq_true rfl) rfl rfl ?_
      refine e_iconst dX2_xOfNext_34 ?_
      refine e_isub dX2_xOfNext_35 ?_
      refine e_ialdx (o := 23) (n := 64) (x := μ 23 ((μ 20 7) - 1)) dX2_xOfNext_36 rfl rfl (Nat.le_of_ble_eq_true rfl) (by omega) rfl ?_
      have hr3 := PI.kr hI (q := 23) (i := ((μ 20 7) - 1)) rfl (by omega)
      refine e_callS1 (as := [(0, μ 23 ((μ 20 7) - 1))]) (rest := [(2, 22), (0, μ 27 ((μ 20 7) - 1))]) (k := 0) fX2_xOfNext_37 rfl rfl rfl rfl rfl (Nat.le_of_ble_eq_true rfl) (s_X2_beamsOfKind X (μ 23 ((μ 20 7) - 1)) μ (by first | assumption | omega)) ?_
      have hf4 := bok_r (μ 23 ((μ 20 7) - 1))
      refine e_ialdx (o := 22) (n := 4) (x := μ 22 (bok (μ 23 ((μ 20 7) - 1)))) dX2_xOfNext_40 rfl rfl (Nat.le_of_ble_eq_true rfl) (by omega) rfl ?_
      have hr5 := PI.wd hI (q := 22) (i := (bok (μ 23 ((μ 20 7) - 1)))) rfl (by omega)
      refine e_iadd dX2_xOfNext_41 ?_
      exact Ev.toI (e_ireturn dX2_xOfNext_42 rfl) (by simp [xnx, *]) (by rfl)
    · skip
      refine e_iconst dX2_xOfNext_7 ?_
      refine e_goto (tgt := 42) dX2_xOfNext_8 rfl ?_
      exact Ev.toI (e_ireturn dX2_xOfNext_42 rfl) (by simp [xnx, *]) (by rfl)
  · skip
    refine e_aload_n dX2_xOfNext_0 rfl rfl (by decide) ?_
    refine e_getIx (o := 31) (f := 7) (x := μ 31 7) fX2_xOfNext_1 rfl rfl (Nat.le_of_ble_eq_true rfl) rfl rfl ?_
    have hr1 := PI.sz hI
    refine e_if_ne (tgt := 11) dX2_xOfNext_4 rfl (R32.in (by omega)) (fun c4 => ?_) (fun c4 => ?_)
    · skip
      refine e_aload_n dX2_xOfNext_11 rfl rfl (by decide) ?_
      refine e_getR (o := 31) (x := 38) fX2_xOfNext_12 rfl rfl rfl rfl ?_
      refine e_aload_n dX2_xOfNext_15 rfl rfl (by decide) ?_
      refine e_getIx (o := 31) (f := 7) (x := μ 31 7) fX2_xOfNext_16 rfl rfl (Nat.le_of_ble_eq_true rfl) rfl rfl ?_
      refine e_iconst dX2_xOfNext_19 ?_
      refine e_isub dX2_xOfNext_20 ?_
      refine e_ialdx (o := 38) (n := 64) (x := μ 38 ((μ 31 7) - 1)) dX2_xOfNext_21 rfl rfl (Nat.le_of_ble_eq_true rfl) (by omega) rfl ?_
      have hr2 := PI.xs hI (q := 38) (i := ((μ 31 7) - 1)) rfl (by omega)
      refine e_aload_n dX2_xOfNext_22 rfl rfl (by decide) ?_
      refine e_getR (o := 31) (x := 33) fX2_xOfNext_23 rfl rfl rfl rfl ?_
      refine e_aload_n dX2_xOfNext_26 rfl rfl (by decide) ?_
      refine e_getR (o := 31) (x := 34) fX2_xOfNext_27 rfl rfl rfl rfl ?_
      refine e_aload_n dX2_xOfNext_30 rfl rfl (by decide) ?_
      refine e_getIx (o := 31) (f := 7) (x := μ 31 7) fX2_xOfNext_31 rfl rfl (Nat.le_of_ble_eq_true rfl) rfl rfl ?_
      refine e_iconst dX2_xOfNext_34 ?_
      refine e_isub dX2_xOfNext_35 ?_
      refine e_ialdx (o := 34) (n := 64) (x := μ 34 ((μ 31 7) - 1)) dX2_xOfNext_36 rfl rfl (Nat.le_of_ble_eq_true rfl) (by omega) rfl ?_
      have hr3 := PI.kr hI (q := 34) (i := ((μ 31 7) - 1)) rfl (by omega)
      refine e_callS1 (as := [(0, μ 34 ((μ 31 7) - 1))]) (rest := [(2, 33), (0, μ 38 ((μ 31 7) - 1))]) (k := 0) fX2_xOfNext_37 rfl rfl rfl rfl rfl (Nat.le_of_ble_eq_true rfl) (s_X2_beamsOfKind X (μ 34 ((μ 31 7) - 1)) μ (by first | assumption | omega)) ?_
      have hf4 := bok_r (μ 34 ((μ 31 7) - 1))
      refine e_ialdx (o := 33) (n := 4) (x := μ 33 (bok (μ 34 ((μ 31 7) - 1)))) dX2_xOfNext_40 rfl rfl (Nat.le_of_ble_eq_true rfl) (by omega) rfl ?_
      have hr5 := PI.wd hI (q := 33) (i := (bok (μ 34 ((μ 31 7) - 1)))) rfl (by omega)
      refine e_iadd dX2_xOfNext_41 ?_
      exact Ev.toI (e_ireturn dX2_xOfNext_42 rfl) (by simp [xnx, *]) (by rfl)
    · skip
      refine e_iconst dX2_xOfNext_7 ?_
      refine e_goto (tgt := 42) dX2_xOfNext_8 rfl ?_
      exact Ev.toI (e_ireturn dX2_xOfNext_42 rfl) (by simp [xnx, *]) (by rfl)

set_option maxRecDepth 100000 in
set_option maxHeartbeats 4000000 in
theorem s_X2_fits (X : AX) (p : Int) (k : Int) (μ : Mu) (hI : PI μ p) (hk : -2147483648 ≤ k ∧ k ≤ 2147483647) : Ev (GG X) M_X2_fits 0 [(2, p), (0, k)] [] μ (some (0, am_b (tnx μ p % mlg μ p + lok k ≤ mlg μ p))) μ := by
  have hp := hI.at
  have hz := hI.sz
  rcases hp with rfl | rfl
  · skip
    have h7 := tnx_r μ 20 hI
    have h8 := mlg_r μ 20 hI
    have h9 := Int.emod_nonneg (tnx μ 20) (show mlg μ 20 ≠ 0 by omega)
    have h10 := Int.emod_lt_of_pos (tnx μ 20) (show 0 < mlg μ 20 by omega)
    refine e_aload_n dX2_fits_0 rfl rfl (by decide) ?_
    refine e_callV1 (o := 20) (ci := 2) (as := []) (rest := []) (k := 0) fX2_fits_1 rfl rfl rfl rfl rfl rfl rfl rfl (Nat.le_of_ble_eq_true rfl) (s_X2_timeOfNext X 20 μ (by first | assumption | omega)) ?_
    have hf1 := tnx_r μ 20 hI
    refine e_aload_n dX2_fits_4 rfl rfl (by decide) ?_
    refine e_callV1 (o := 20) (ci := 2) (as := []) (rest := [(0, tnx μ 20)]) (k := 0) fX2_fits_5 rfl rfl rfl rfl rfl rfl rfl rfl (Nat.le_of_ble_eq_true rfl) (s_X2_measureLong X 20 μ (by first | assumption | omega)) ?_
    have hf2 := mlg_r μ 20 hI
    refine e_iremP dX2_fits_8 (by omega) ?_
    refine e_iload_n dX2_fits_9 rfl rfl ?_
    refine e_callS1 (as := [(0, k)]) (rest := [(0, (tnx μ 20) % (mlg μ 20))]) (k := 0) fX2_fits_10 rfl rfl rfl rfl rfl (Nat.le_of_ble_eq_true rfl) (s_X2_longOfKind X k μ (by first | assumption | omega)) ?_
    have hf3 := lok_r k
    refine e_iadd dX2_fits_13 ?_
    refine e_aload_n dX2_fits_14 rfl rfl (by decide) ?_
    refine e_callV1 (o := 20) (ci := 2) (as := []) (rest := [(0, ((tnx μ 20) % (mlg μ 20)) + (lok k))]) (k := 0) fX2_fits_15 rfl rfl rfl rfl rfl rfl rfl rfl (Nat.le_of_ble_eq_true rfl) (s_X2_measureLong X 20 μ (by first | assumption | omega)) ?_
    have hf4 := mlg_r μ 20 hI
    refine e_icmp_gt (tgt := 25) dX2_fits_18 rfl (R32.in (by omega)) (R32.in (by omega)) (fun c18 => ?_) (fun c18 => ?_)
    · skip
      refine e_iconst dX2_fits_25 ?_
      exact Ev.toI (e_zreturn dX2_fits_26 rfl (Or.inl rfl)) (by first | exact am_b_t (by omega) | exact am_b_f (by omega)) (by rfl)
    · skip
      refine e_iconst dX2_fits_21 ?_
      refine e_goto (tgt := 26) dX2_fits_22 rfl ?_
      exact Ev.toI (e_zreturn dX2_fits_26 rfl (Or.inr rfl)) (by first | exact am_b_t (by omega) | exact am_b_f (by omega)) (by rfl)
  · skip
    have h7 := tnx_r μ 31 hI
    have h8 := mlg_r μ 31 hI
    have h9 := Int.emod_nonneg (tnx μ 31) (show mlg μ 31 ≠ 0 by omega)
    have h10 := Int.emod_lt_of_pos (tnx μ 31) (show 0 < mlg μ 31 by omega)
    refine e_aload_n dX2_fits_0 rfl rfl (by decide) ?_
    refine e_callV1 (o := 31) (ci := 2) (as := []) (rest := []) (k := 0) fX2_fits_1 rfl rfl rfl rfl rfl rfl rfl rfl (Nat.le_of_ble_eq_true rfl) (s_X2_timeOfNext X 31 μ (by first | assumption | omega)) ?_
    have hf1 := tnx_r μ 31 hI
    refine e_aload_n dX2_fits_4 rfl rfl (by decide) ?_
    refine e_callV1 (o := 31) (ci := 2) (as := []) (rest := [(0, tnx μ 31)]) (k := 0) fX2_fits_5 rfl rfl rfl rfl rfl rfl rfl rfl (Nat.le_of_ble_eq_true rfl) (s_X2_measureLong X 31 μ (by first | assumption | omega)) ?_
    have hf2 := mlg_r μ 31 hI
    refine e_iremP dX2_fits_8 (by omega) ?_
    refine e_iload_n dX2_fits_9 rfl rfl ?_
    refine e_callS1 (as := [(0, k)]) (rest := [(0, (tnx μ 31) % (mlg μ 31))]) (k := 0) fX2_fits_10 rfl rfl rfl rfl rfl (Nat.le_of_ble_eq_true rfl) (s_X2_longOfKind X k μ (by first | assumption | omega)) ?_
    have hf3 := lok_r k
    refine e_iadd dX2_fits_13 ?_
    refine e_aload_n dX2_fits_14 rfl rfl (by decide) ?_
    refine e_callV1 (o := 31) (ci := 2) (as := []) (rest := [(0, ((tnx μ 31) % (mlg μ 31)) + (lok k))]) (k := 0) fX2_fits_15 rfl rfl rfl rfl rfl rfl rfl rfl (Nat.le_of_ble_eq_true rfl) (s_X2_measureLong X 31 μ (by first | assumption | omega)) ?_
    have hf4 := mlg_r μ 31 hI
    refine e_icmp_gt (tgt := 25) dX2_fits_18 rfl (R32.in (by omega)) (R32.in (by omega)) (fun c18 => ?_) (fun c18 => ?_)
    · skip
      refine e_iconst dX2_fits_25 ?_
      exact Ev.toI (e_zreturn dX2_fits_26 rfl (Or.inl rfl)) (by first | exact am_b_t (by omega) | exact am_b_f (by omega)) (by rfl)
    · skip
      refine e_iconst dX2_fits_21 ?_
      refine e_goto (tgt := 26) dX2_fits_22 rfl ?_
      exact Ev.toI (e_zreturn dX2_fits_26 rfl (Or.inr rfl)) (by first | exact am_b_t (by omega) | exact am_b_f (by omega)) (by rfl)

set_option maxRecDepth 100000 in
set_option maxHeartbeats 4000000 in
theorem s_X2_timeWithin (X : AX) (p : Int) (i : Int) (μ : Mu) (hI : PI μ p) (hi : 0 ≤ i ∧ i < μ p 7) : Ev (GG X) M_X2_timeWithin 0 [(2, p), (0, i)] [] μ (some (0, twn μ p i)) μ := by
  have hp := hI.at
  have hz := hI.sz
  rcases hp with rfl | rfl
  · skip
    refine e_aload_n dX2_timeWithin_0 rfl rfl (by decide) ?_
    refine e_getR (o := 20) (x := 26) fX2_timeWithin_1 rfl rfl rfl rfl ?_
    refine e_iload_n dX2_timeWithin_4 rfl rfl ?_
    refine e_ialdx (o := 26) (n := 64) (x := μ 26 i) dX2_timeWithin_5 rfl rfl (Nat.le_of_ble_eq_true rfl) (by omega) rfl ?_
    have hr1 := PI.tm hI (q := 26) (i := i) rfl (by omega)
    refine e_aload_n dX2_timeWithin_6 rfl rfl (by decide) ?_
    refine e_callV1 (o := 20) (ci := 2) (as := []) (rest := [(0, μ 26 i)]) (k := 0) fX2_timeWithin_7 rfl rfl rfl rfl rfl rfl rfl rfl (Nat.le_of_ble_eq_true rfl) (s_X2_measureLong X 20 μ (by first | assumption | omega)) ?_
    have hf2 := mlg_r μ 20 hI
    refine e_iremP dX2_timeWithin_10 (by omega) ?_
    exact Ev.toI (e_ireturn dX2_timeWithin_11 rfl) (by rfl) (by rfl)
  · skip
    refine e_aload_n dX2_timeWithin_0 rfl rfl (by decide) ?_
    refine e_getR (o := 31) (x := 37) fX2_timeWithin_1 rfl rfl rfl rfl ?_
    refine e_iload_n dX2_timeWithin_4 rfl rfl ?_
    refine e_ialdx (o := 37) (n := 64) (x := μ 37 i) dX2_timeWithin_5 rfl rfl (Nat.le_of_ble_eq_true rfl) (by omega) rfl ?_
    have hr1 := PI.tm hI (q := 37) (i := i) rfl (by omega)
    refine e_aload_n dX2_timeWithin_6 rfl rfl (by decide) ?_
    refine e_callV1 (o := 31) (ci := 2) (as := []) (rest := [(0, μ 37 i)]) (k := 0) fX2_timeWithin_7 rfl rfl rfl rfl rfl rfl rfl rfl (Nat.le_of_ble_eq_true rfl) (s_X2_measureLong X 31 μ (by first | assumption | omega)) ?_
    have hf2 := mlg_r μ 31 hI
    refine e_iremP dX2_timeWithin_10 (by omega) ?_
    exact Ev.toI (e_ireturn dX2_timeWithin_11 rfl) (by rfl) (by rfl)

set_option maxRecDepth 100000 in
set_option maxHeartbeats 4000000 in
theorem s_X2_measureOf (X : AX) (p : Int) (i : Int) (μ : Mu) (hI : PI μ p) (hi : 0 ≤ i ∧ i < μ p 7) : Ev (GG X) M_X2_measureOf 0 [(2, p), (0, i)] [] μ (some (0, mof μ p i)) μ := by
  have hp := hI.at
  have hz := hI.sz
  rcases hp with rfl | rfl
  · skip
    refine e_aload_n dX2_measureOf_0 rfl rfl (by decide) ?_
    refine e_getR (o := 20) (x := 26) fX2_measureOf_1 rfl rfl rfl rfl ?_
    refine e_iload_n dX2_measureOf_4 rfl rfl ?_
    refine e_ialdx (o := 26) (n := 64) (x := μ 26 i) dX2_measureOf_5 rfl rfl (Nat.le_of_ble_eq_true rfl) (by omega) rfl ?_
    have hr1 := PI.tm hI (q := 26) (i := i) rfl (by omega)
    refine e_aload_n dX2_measureOf_6 rfl rfl (by decide) ?_
    refine e_callV1 (o := 20) (ci := 2) (as := []) (rest := [(0, μ 26 i)]) (k := 0) fX2_measureOf_7 rfl rfl rfl rfl rfl rfl rfl rfl (Nat.le_of_ble_eq_true rfl) (s_X2_measureLong X 20 μ (by first | assumption | omega)) ?_
    have hf2 := mlg_r μ 20 hI
    refine e_idivP dX2_measureOf_10 (by omega) ?_
    exact Ev.toI (e_ireturn dX2_measureOf_11 rfl) (by rfl) (by rfl)
  · skip
    refine e_aload_n dX2_measureOf_0 rfl rfl (by decide) ?_
    refine e_getR (o := 31) (x := 37) fX2_measureOf_1 rfl rfl rfl rfl ?_
    refine e_iload_n dX2_measureOf_4 rfl rfl ?_
    refine e_ialdx (o := 37) (n := 64) (x := μ 37 i) dX2_measureOf_5 rfl rfl (Nat.le_of_ble_eq_true rfl) (by omega) rfl ?_
    have hr1 := PI.tm hI (q := 37) (i := i) rfl (by omega)
    refine e_aload_n dX2_measureOf_6 rfl rfl (by decide) ?_
    refine e_callV1 (o := 31) (ci := 2) (as := []) (rest := [(0, μ 37 i)]) (k := 0) fX2_measureOf_7 rfl rfl rfl rfl rfl rfl rfl rfl (Nat.le_of_ble_eq_true rfl) (s_X2_measureLong X 31 μ (by first | assumption | omega)) ?_
    have hf2 := mlg_r μ 31 hI
    refine e_idivP dX2_measureOf_10 (by omega) ?_
    exact Ev.toI (e_ireturn dX2_measureOf_11 rfl) (by rfl) (by rfl)

set_option maxRecDepth 100000 in
set_option maxHeartbeats 4000000 in
theorem l_X2_partOf_30 (X : AX) (p : Int) (i : Int) (each : Int) (μ : Mu) (hI : PI μ p) (hi : 0 ≤ i ∧ i < μ p 7) (he : 0 ≤ each ∧ each ≤ 12) : ∀ (n : Nat) (k : Int) (e : Int), (μ p 4 - k).toNat = n → (0 ≤ k ∧ k < μ p 4) → (0 ≤ e ∧ e ≤ 12 * k + 12) → (pIn (μ (p + 1)) (μ p 4) (twn μ p i / blg (μ p 2)) k e = pof μ p i each) → Ev (GG X) M_X2_partOf 30 [(2, p), (0, i), (0, each), (0, twn μ p i / blg (μ p 2)), (0, k), (0, e)] [] μ (some (0, pof μ p i each)) μ := by
  intro n
  induction n using Nat.strongRecOn with
  | ind n ih =>
    intro k e hn hk0 he0 hR
    have hp := hI.at
    have hz := hI.sz
    rcases hp with rfl | rfl
    · skip
      try simp only [Int.reduceAdd] at *
      have h8 := twn_r μ 20 i hI
      have h9 := am_div_r h8.1 (show 0 < blg (μ 20 2) by have := blg_r (μ 20 2); omega)
      have h10 := hI.pc
      refine e_iload dX2_partOf_30 rfl ?_
      refine e_aload_n dX2_partOf_32 rfl rfl (by decide) ?_
      refine e_getIx (o := 20) (f := 4) (x := μ 20 4) fX2_partOf_33 rfl rfl (Nat.le_of_ble_eq_true rfl) rfl rfl ?_
      have hr1 := PI.pc hI
      refine e_iconst dX2_partOf_36 ?_
      refine e_isub dX2_partOf_37 ?_
      refine e_icmp_ge (tgt := 65) dX2_partOf_38 rfl (R32.in (by omega)) (R32.in (by omega)) (fun c38 => ?_) (fun c38 => ?_)
      · skip
        refine e_iload dX2_partOf_65 rfl ?_
        exact Ev.toI (e_ireturn dX2_partOf_67 rfl) (by first | (rw [pIn_no (by omega)] at hR; exact hR) | omega) (by rfl)
      · skip
        refine e_iload_n dX2_partOf_41 rfl rfl ?_
        refine e_iload dX2_partOf_42 rfl ?_
        refine e_icmp_lt (tgt := 65) dX2_partOf_44 rfl (R32.in (by omega)) (R32.in (by omega)) (fun c44 => ?_) (fun c44 => ?_)
        · skip
          refine e_iload dX2_partOf_65 rfl ?_
          exact Ev.toI (e_ireturn dX2_partOf_67 rfl) (by first | (rw [pIn_no (by omega)] at hR; exact hR) | omega) (by rfl)
        · skip
          refine e_iinc dX2_partOf_47 rfl (Nat.le_of_ble_eq_true rfl) rfl ?_
          refine e_iload dX2_partOf_50 rfl ?_
          refine e_aload_n dX2_partOf_52 rfl rfl (by decide) ?_
          refine e_getR (o := 20) (x := 21) fX2_partOf_53 rfl rfl rfl rfl ?_
          refine e_iload dX2_partOf_56 rfl ?_
          refine e_ialdx (o := 21) (n := 12) (x := μ 21 (k + 1)) dX2_partOf_58 rfl rfl (Nat.le_of_ble_eq_true rfl) (by omega) rfl ?_
          have hr2 := PI.pt hI (q := 21) (i := (k + 1)) rfl (by omega)
          refine e_iadd dX2_partOf_59 ?_
          refine e_istore dX2_partOf_60 (Nat.le_of_ble_eq_true rfl) rfl ?_
          refine e_goto (tgt := 30) dX2_partOf_62 rfl ?_
          exact Ev.cg (ih _ (by omega) (k + 1) (e + (μ 21 (k + 1))) rfl (by first | assumption | omega) (by first | assumption | omega) (by rw [pIn_go (by omega) (by omega)] at hR; exact hR)) (by rfl) rfl rfl
    · skip
      try simp only [Int.reduceAdd] at *
      have h8 := twn_r μ 31 i hI
      have h9 := am_div_r h8.1 (show 0 < blg (μ 31 2) by have := blg_r (μ 31 2); omega)
      have h10 := hI.pc
      refine e_iload dX2_partOf_30 rfl ?_
      refine e_aload_n dX2_partOf_32 rfl rfl (by decide) ?_
      refine e_getIx (o := 31) (f := 4) (x := μ 31 4) fX2_partOf_33 rfl rfl (Nat.le_of_ble_eq_true rfl) rfl rfl ?_
      have hr1 := PI.pc hI
      refine e_iconst dX2_partOf_36 ?_
      refine e_isub dX2_partOf_37 ?_
      refine e_icmp_ge (tgt := 65) dX2_partOf_38 rfl (R32.in (by omega)) (R32.in (by omega)) (fun c38 => ?_) (fun c38 => ?_)
      · skip
        refine e_iload dX2_partOf_65 rfl ?_
        exact Ev.toI (e_ireturn dX2_partOf_67 rfl) (by first | (rw [pIn_no (by omega)] at hR; exact hR) | omega) (by rfl)
      · skip
        refine e_iload_n dX2_partOf_41 rfl rfl ?_
        refine e_iload dX2_partOf_42 rfl ?_
        refine e_icmp_lt (tgt := 65) dX2_partOf_44 rfl (R32.in (by omega)) (R32.in (by omega)) (fun c44 => ?_) (fun c44 => ?_)
        · skip
          refine e_iload dX2_partOf_65 rfl ?_
          exact Ev.toI (e_ireturn dX2_partOf_67 rfl) (by first | (rw [pIn_no (by omega)] at hR; exact hR) | omega) (by rfl)
        · skip
          refine e_iinc dX2_partOf_47 rfl (Nat.le_of_ble_eq_true rfl) rfl ?_
          refine e_iload dX2_partOf_50 rfl ?_
          refine e_aload_n dX2_partOf_52 rfl rfl (by decide) ?_
          refine e_getR (o := 31) (x := 32) fX2_partOf_53 rfl rfl rfl rfl ?_
          refine e_iload dX2_partOf_56 rfl ?_
          refine e_ialdx (o := 32) (n := 12) (x := μ 32 (k + 1)) dX2_partOf_58 rfl rfl (Nat.le_of_ble_eq_true rfl) (by omega) rfl ?_
          have hr2 := PI.pt hI (q := 32) (i := (k + 1)) rfl (by omega)
          refine e_iadd dX2_partOf_59 ?_
          refine e_istore dX2_partOf_60 (Nat.le_of_ble_eq_true rfl) rfl ?_
          refine e_goto (tgt := 30) dX2_partOf_62 rfl ?_
          exact Ev.cg (ih _ (by omega) (k + 1) (e + (μ 32 (k + 1))) rfl (by first | assumption | omega) (by first | assumption | omega) (by rw [pIn_go (by omega) (by omega)] at hR; exact hR)) (by rfl) rfl rfl
set_option maxRecDepth 100000 in
set_option maxHeartbeats 4000000 in
theorem s_X2_partOf (X : AX) (p : Int) (i : Int) (each : Int) (μ : Mu) (hI : PI μ p) (hi : 0 ≤ i ∧ i < μ p 7) (he : 0 ≤ each ∧ each ≤ 12) : Ev (GG X) M_X2_partOf 0 [(2, p), (0, i), (0, each), (9, 0), (9, 0), (9, 0)] [] μ (some (0, pof μ p i each)) μ := by
  have hp := hI.at
  have hz := hI.sz
  rcases hp with rfl | rfl
  · skip
    try simp only [Int.reduceAdd] at *
    have h8 := twn_r μ 20 i hI
    have h9 := am_div_r h8.1 (show 0 < blg (μ 20 2) by have := blg_r (μ 20 2); omega)
    have h10 := hI.pc
    refine e_aload_n dX2_partOf_0 rfl rfl (by decide) ?_
    refine e_iload_n dX2_partOf_1 rfl rfl ?_
    refine e_callV1 (o := 20) (ci := 2) (as := [(0, i)]) (rest := []) (k := 0) fX2_partOf_2 rfl rfl rfl rfl rfl rfl rfl rfl (Nat.le_of_ble_eq_true rfl) (s_X2_timeWithin X 20 i μ (by first | assumption | omega) (by first | assumption | omega)) ?_
    have hf1 := twn_r μ 20 i hI
    refine e_aload_n dX2_partOf_5 rfl rfl (by decide) ?_
    refine e_callV1 (o := 20) (ci := 2) (as := []) (rest := [(0, twn μ 20 i)]) (k := 0) fX2_partOf_6 rfl rfl rfl rfl rfl rfl rfl rfl (Nat.le_of_ble_eq_true rfl) (s_X2_beatLong X 20 μ (by first | assumption | omega)) ?_
    have hf2 := blg_r (μ 20 2)
    refine e_idivP dX2_partOf_9 (by omega) ?_
    refine e_istore_n dX2_partOf_10 rfl (Nat.le_of_ble_eq_true rfl) rfl ?_
    refine e_iload_n dX2_partOf_11 rfl rfl ?_
    refine e_if_le (tgt := 19) dX2_partOf_12 rfl (R32.in (by omega)) (fun c12 => ?_) (fun c12 => ?_)
    · skip
      refine e_iconst dX2_partOf_19 ?_
      refine e_istore dX2_partOf_20 (Nat.le_of_ble_eq_true rfl) rfl ?_
      refine e_aload_n dX2_partOf_22 rfl rfl (by decide) ?_
      refine e_getR (o := 20) (x := 21) fX2_partOf_23 rfl rfl rfl rfl ?_
      refine e_iconst dX2_partOf_26 ?_
      refine e_ialdx (o := 21) (n := 12) (x := μ 21 0) dX2_partOf_27 rfl rfl (Nat.le_of_ble_eq_true rfl) (by omega) rfl ?_
      have hr3 := PI.pt hI (q := 21) (i := 0) rfl (by omega)
      refine e_istore dX2_partOf_28 (Nat.le_of_ble_eq_true rfl) rfl ?_
      exact Ev.cg (l_X2_partOf_30 X 20 i each μ hI hi he _ 0 (μ 21 0) rfl (by first | assumption | omega) (by first | assumption | omega) (by unfold pof; rw [if_neg (by omega)]; rfl)) (by rfl) rfl rfl
    · skip
      refine e_iload_n dX2_partOf_15 rfl rfl ?_
      refine e_iload_n dX2_partOf_16 rfl rfl ?_
      refine e_idivP dX2_partOf_17 (by omega) ?_
      exact Ev.toI (e_ireturn dX2_partOf_18 rfl) (by simp [pof, *]) (by rfl)
  · skip
    try simp only [Int.reduceAdd] at *
    have h8 := twn_r μ 31 i hI
    have h9 := am_div_r h8.1 (show 0 < blg (μ 31 2) by have := blg_r (μ 31 2); omega)
    have h10 := hI.pc
    refine e_aload_n dX2_partOf_0 rfl rfl (by decide) ?_
    refine e_iload_n dX2_partOf_1 rfl rfl ?_
    refine e_callV1 (o := 31) (ci := 2) (as := [(0, i)]) (rest := []) (k := 0) fX2_partOf_2 rfl rfl rfl rfl rfl rfl rfl rfl (Nat.le_of_ble_eq_true rfl) (s_X2_timeWithin X 31 i μ (by first | assumption | omega) (by first | assumption | omega)) ?_
    have hf1 := twn_r μ 31 i hI
    refine e_aload_n dX2_partOf_5 rfl rfl (by decide) ?_
    refine e_callV1 (o := 31) (ci := 2) (as := []) (rest := [(0, twn μ 31 i)]) (k := 0) fX2_partOf_6 rfl rfl rfl rfl rfl rfl rfl rfl (Nat.le_of_ble_eq_true rfl) (s_X2_beatLong X 31 μ (by first | assumption | omega)) ?_
    have hf2 := blg_r (μ 31 2)
    refine e_idivP dX2_partOf_9 (by omega) ?_
    refine e_istore_n dX2_partOf_10 rfl (Nat.le_of_ble_eq_true rfl) rfl ?_
    refine e_iload_n dX2_partOf_11 rfl rfl ?_
    refine e_if_le (tgt := 19) dX2_partOf_12 rfl (R32.in (by omega)) (fun c12 => ?_) (fun c12 => ?_)
    · skip
      refine e_iconst dX2_partOf_19 ?_
      refine e_istore dX2_partOf_20 (Nat.le_of_ble_eq_true rfl) rfl ?_
      refine e_aload_n dX2_partOf_22 rfl rfl (by decide) ?_
      refine e_getR (o := 31) (x := 32) fX2_partOf_23 rfl rfl rfl rfl ?_
      refine e_iconst dX2_partOf_26 ?_
      refine e_ialdx (o := 32) (n := 12) (x := μ 32 0) dX2_partOf_27 rfl rfl (Nat.le_of_ble_eq_true rfl) (by omega) rfl ?_
      have hr3 := PI.pt hI (q := 32) (i := 0) rfl (by omega)
      refine e_istore dX2_partOf_28 (Nat.le_of_ble_eq_true rfl) rfl ?_
      exact Ev.cg (l_X2_partOf_30 X 31 i each μ hI hi he _ 0 (μ 32 0) rfl (by first | assumption | omega) (by first | assumption | omega) (by unfold pof; rw [if_neg (by omega)]; rfl)) (by rfl) rfl rfl
    · skip
      refine e_iload_n dX2_partOf_15 rfl rfl ?_
      refine e_iload_n dX2_partOf_16 rfl rfl ?_
      refine e_idivP dX2_partOf_17 (by omega) ?_
      exact Ev.toI (e_ireturn dX2_partOf_18 rfl) (by simp [pof, *]) (by rfl)

set_option maxRecDepth 100000 in
set_option maxHeartbeats 4000000 in
theorem l_X2_runFrom_2 (X : AX) (p : Int) (i : Int) (each : Int) (μ : Mu) (hI : PI μ p) (hi : 0 ≤ i ∧ i < μ p 7) (he : 0 ≤ each ∧ each ≤ 12) : ∀ (n : Nat) (k : Int), (μ p 7 - i - k).toNat = n → (0 ≤ k ∧ k ≤ μ p 7 - i) → (rn (μ p 7) (tog μ p i each) (i + k) = i + runl μ p i each) → Ev (GG X) M_X2_runFrom 2 [(2, p), (0, i), (0, each), (0, k)] [] μ (some (0, runl μ p i each)) μ := by
  intro n
  induction n using Nat.strongRecOn with
  | ind n ih =>
    intro k hn hk0 hR
    have hp := hI.at
    have hz := hI.sz
    rcases hp with rfl | rfl
    · skip
      try simp only [Int.reduceAdd] at *
      refine e_iload_n dX2_runFrom_2 rfl rfl ?_
      refine e_iload_n dX2_runFrom_3 rfl rfl ?_
      refine e_iadd dX2_runFrom_4 ?_
      refine e_aload_n dX2_runFrom_5 rfl rfl (by decide) ?_
      refine e_getIx (o := 20) (f := 7) (x := μ 20 7) fX2_runFrom_6 rfl rfl (Nat.le_of_ble_eq_true rfl) rfl rfl ?_
      have hr1 := PI.sz hI
      refine e_icmp_ge (tgt := 60) dX2_runFrom_9 rfl (R32.in (by omega)) (R32.in (by omega)) (fun c9 => ?_) (fun c9 => ?_)
      · skip
        refine e_iload_n dX2_runFrom_60 rfl rfl ?_
        exact Ev.toI (e_ireturn dX2_runFrom_61 rfl) (by first | (rw [rn_end (by omega)] at hR; omega) | (rw [rn_no (by simp [tog]; omega)] at hR; omega)) (by rfl)
      · skip
        refine e_aload_n dX2_runFrom_12 rfl rfl (by decide) ?_
        refine e_iload_n dX2_runFrom_13 rfl rfl ?_
        refine e_iload_n dX2_runFrom_14 rfl rfl ?_
        refine e_iadd dX2_runFrom_15 ?_
        refine e_callV1 (o := 20) (ci := 2) (as := [(0, i + k)]) (rest := []) (k := 0) fX2_runFrom_16 rfl rfl rfl rfl rfl rfl rfl rfl (Nat.le_of_ble_eq_true rfl) (s_X2_beamsOf X 20 (i + k) μ (by first | assumption | omega) (by first | assumption | omega)) ?_
        have hf2 := bmz_r μ 20 (i + k)
        refine e_if_le (tgt := 60) dX2_runFrom_19 rfl (R32.in (by omega)) (fun c19 => ?_) (fun c19 => ?_)
        · skip
          refine e_iload_n dX2_runFrom_60 rfl rfl ?_
          exact Ev.toI (e_ireturn dX2_runFrom_61 rfl) (by first | (rw [rn_end (by omega)] at hR; omega) | (rw [rn_no (by simp [tog]; omega)] at hR; omega)) (by rfl)
        · skip
          refine e_aload_n dX2_runFrom_22 rfl rfl (by decide) ?_
          refine e_iload_n dX2_runFrom_23 rfl rfl ?_
          refine e_iload_n dX2_runFrom_24 rfl rfl ?_
          refine e_iadd dX2_runFrom_25 ?_
          refine e_callV1 (o := 20) (ci := 2) (as := [(0, i + k)]) (rest := []) (k := 0) fX2_runFrom_26 rfl rfl rfl rfl rfl rfl rfl rfl (Nat.le_of_ble_eq_true rfl) (s_X2_measureOf X 20 (i + k) μ (by first | assumption | omega) (by first | assumption | omega)) ?_
          have hf3 := mof_r μ 20 (i + k) hI (by omega)
          refine e_aload_n dX2_runFrom_29 rfl rfl (by decide) ?_
          refine e_iload_n dX2_runFrom_30 rfl rfl ?_
          refine e_callV1 (o := 20) (ci := 2) (as := [(0, i)]) (rest := [(0, mof μ 20 (i + k))]) (k := 0) fX2_runFrom_31 rfl rfl rfl rfl rfl rfl rfl rfl (Nat.le_of_ble_eq_true rfl) (s_X2_measureOf X 20 i μ (by first | assumption | omega) (by first | assumption | omega)) ?_
          have hf4 := mof_r μ 20 i hI (by omega)
          refine e_icmp_ne (tgt := 60) dX2_runFrom_34 rfl (R32.in (by omega)) (R32.in (by omega)) (fun c34 => ?_) (fun c34 => ?_)
          · skip
            refine e_iload_n dX2_runFrom_60 rfl rfl ?_
            exact Ev.toI (e_ireturn dX2_runFrom_61 rfl) (by first | (rw [rn_end (by omega)] at hR; omega) | (rw [rn_no (by simp [tog]; omega)] at hR; omega)) (by rfl)
          · skip
            refine e_aload_n dX2_runFrom_37 rfl rfl (by decide) ?_
            refine e_iload_n dX2_runFrom_38 rfl rfl ?_
            refine e_iload_n dX2_runFrom_39 rfl rfl ?_
            refine e_iadd dX2_runFrom_40 ?_
            refine e_iload_n dX2_runFrom_41 rfl rfl ?_
            refine e_callV1 (o := 20) (ci := 2) (as := [(0, i + k), (0, each)]) (rest := []) (k := 3) fX2_runFrom_42 rfl rfl rfl rfl rfl rfl rfl rfl (Nat.le_of_ble_eq_true rfl) (s_X2_partOf X 20 (i + k) each μ (by first | assumption | omega) (by first | assumption | omega) (by first | assumption | omega)) ?_
            have hf5 := pof_r μ 20 (i + k) each hI
            refine e_aload_n dX2_runFrom_45 rfl rfl (by decide) ?_
            refine e_iload_n dX2_runFrom_46 rfl rfl ?_
            refine e_iload_n dX2_runFrom_47 rfl rfl ?_
            refine e_callV1 (o := 20) (ci := 2) (as := [(0, i), (0, each)]) (rest := [(0, pof μ 20 (i + k) each)]) (k := 3) fX2_runFrom_48 rfl rfl rfl rfl rfl rfl rfl rfl (Nat.le_of_ble_eq_true rfl) (s_X2_partOf X 20 i each μ (by first | assumption | omega) (by first | assumption | omega) (by first | assumption | omega)) ?_
            have hf6 := pof_r μ 20 i each hI
            refine e_icmp_ne (tgt := 60) dX2_runFrom_51 rfl (R32.in (by omega)) (R32.in (by omega)) (fun c51 => ?_) (fun c51 => ?_)
            · skip
              refine e_iload_n dX2_runFrom_60 rfl rfl ?_
              exact Ev.toI (e_ireturn dX2_runFrom_61 rfl) (by first | (rw [rn_end (by omega)] at hR; omega) | (rw [rn_no (by simp [tog]; omega)] at hR; omega)) (by rfl)
            · skip
              refine e_iinc dX2_runFrom_54 rfl (Nat.le_of_ble_eq_true rfl) rfl ?_
              refine e_goto (tgt := 2) dX2_runFrom_57 rfl ?_
              exact Ev.cg (ih _ (by omega) (k + 1) rfl (by first | assumption | omega) (by rw [rn_go (by omega) (by simp [tog]; omega)] at hR; rw [show i + (k + 1) = i + k + 1 by omega]; exact hR)) (by rfl) rfl rfl
    · skip
      try simp only [Int.reduceAdd] at *
      refine e_iload_n dX2_runFrom_2 rfl rfl ?_
      refine e_iload_n dX2_runFrom_3 rfl rfl ?_
      refine e_iadd dX2_runFrom_4 ?_
      refine e_aload_n dX2_runFrom_5 rfl rfl (by decide) ?_
      refine e_getIx (o := 31) (f := 7) (x := μ 31 7) fX2_runFrom_6 rfl rfl (Nat.le_of_ble_eq_true rfl) rfl rfl ?_
      have hr1 := PI.sz hI
      refine e_icmp_ge (tgt := 60) dX2_runFrom_9 rfl (R32.in (by omega)) (R32.in (by omega)) (fun c9 => ?_) (fun c9 => ?_)
      · skip
        refine e_iload_n dX2_runFrom_60 rfl rfl ?_
        exact Ev.toI (e_ireturn dX2_runFrom_61 rfl) (by first | (rw [rn_end (by omega)] at hR; omega) | (rw [rn_no (by simp [tog]; omega)] at hR; omega)) (by rfl)
      · skip
        refine e_aload_n dX2_runFrom_12 rfl rfl (by decide) ?_
        refine e_iload_n dX2_runFrom_13 rfl rfl ?_
        refine e_iload_n dX2_runFrom_14 rfl rfl ?_
        refine e_iadd dX2_runFrom_15 ?_
        refine e_callV1 (o := 31) (ci := 2) (as := [(0, i + k)]) (rest := []) (k := 0) fX2_runFrom_16 rfl rfl rfl rfl rfl rfl rfl rfl (Nat.le_of_ble_eq_true rfl) (s_X2_beamsOf X 31 (i + k) μ (by first | assumption | omega) (by first | assumption | omega)) ?_
        have hf2 := bmz_r μ 31 (i + k)
        refine e_if_le (tgt := 60) dX2_runFrom_19 rfl (R32.in (by omega)) (fun c19 => ?_) (fun c19 => ?_)
        · skip
          refine e_iload_n dX2_runFrom_60 rfl rfl ?_
          exact Ev.toI (e_ireturn dX2_runFrom_61 rfl) (by first | (rw [rn_end (by omega)] at hR; omega) | (rw [rn_no (by simp [tog]; omega)] at hR; omega)) (by rfl)
        · skip
          refine e_aload_n dX2_runFrom_22 rfl rfl (by decide) ?_
          refine e_iload_n dX2_runFrom_23 rfl rfl ?_
          refine e_iload_n dX2_runFrom_24 rfl rfl ?_
          refine e_iadd dX2_runFrom_25 ?_
          refine e_callV1 (o := 31) (ci := 2) (as := [(0, i + k)]) (rest := []) (k := 0) fX2_runFrom_26 rfl rfl rfl rfl rfl rfl rfl rfl (Nat.le_of_ble_eq_true rfl) (s_X2_measureOf X 31 (i + k) μ (by first | assumption | omega) (by first | assumption | omega)) ?_
          have hf3 := mof_r μ 31 (i + k) hI (by omega)
          refine e_aload_n dX2_runFrom_29 rfl rfl (by decide) ?_
          refine e_iload_n dX2_runFrom_30 rfl rfl ?_
          refine e_callV1 (o := 31) (ci := 2) (as := [(0, i)]) (rest := [(0, mof μ 31 (i + k))]) (k := 0) fX2_runFrom_31 rfl rfl rfl rfl rfl rfl rfl rfl (Nat.le_of_ble_eq_true rfl) (s_X2_measureOf X 31 i μ (by first | assumption | omega) (by first | assumption | omega)) ?_
          have hf4 := mof_r μ 31 i hI (by omega)
          refine e_icmp_ne (tgt := 60) dX2_runFrom_34 rfl (R32.in (by omega)) (R32.in (by omega)) (fun c34 => ?_) (fun c34 => ?_)
          · skip
            refine e_iload_n dX2_runFrom_60 rfl rfl ?_
            exact Ev.toI (e_ireturn dX2_runFrom_61 rfl) (by first | (rw [rn_end (by omega)] at hR; omega) | (rw [rn_no (by simp [tog]; omega)] at hR; omega)) (by rfl)
          · skip
            refine e_aload_n dX2_runFrom_37 rfl rfl (by decide) ?_
            refine e_iload_n dX2_runFrom_38 rfl rfl ?_
            refine e_iload_n dX2_runFrom_39 rfl rfl ?_
            refine e_iadd dX2_runFrom_40 ?_
            refine e_iload_n dX2_runFrom_41 rfl rfl ?_
            refine e_callV1 (o := 31) (ci := 2) (as := [(0, i + k), (0, each)]) (rest := []) (k := 3) fX2_runFrom_42 rfl rfl rfl rfl rfl rfl rfl rfl (Nat.le_of_ble_eq_true rfl) (s_X2_partOf X 31 (i + k) each μ (by first | assumption | omega) (by first | assumption | omega) (by first | assumption | omega)) ?_
            have hf5 := pof_r μ 31 (i + k) each hI
            refine e_aload_n dX2_runFrom_45 rfl rfl (by decide) ?_
            refine e_iload_n dX2_runFrom_46 rfl rfl ?_
            refine e_iload_n dX2_runFrom_47 rfl rfl ?_
            refine e_callV1 (o := 31) (ci := 2) (as := [(0, i), (0, each)]) (rest := [(0, pof μ 31 (i + k) each)]) (k := 3) fX2_runFrom_48 rfl rfl rfl rfl rfl rfl rfl rfl (Nat.le_of_ble_eq_true rfl) (s_X2_partOf X 31 i each μ (by first | assumption | omega) (by first | assumption | omega) (by first | assumption | omega)) ?_
            have hf6 := pof_r μ 31 i each hI
            refine e_icmp_ne (tgt := 60) dX2_runFrom_51 rfl (R32.in (by omega)) (R32.in (by omega)) (fun c51 => ?_) (fun c51 => ?_)
            · skip
              refine e_iload_n dX2_runFrom_60 rfl rfl ?_
              exact Ev.toI (e_ireturn dX2_runFrom_61 rfl) (by first | (rw [rn_end (by omega)] at hR; omega) | (rw [rn_no (by simp [tog]; omega)] at hR; omega)) (by rfl)
            · skip
              refine e_iinc dX2_runFrom_54 rfl (Nat.le_of_ble_eq_true rfl) rfl ?_
              refine e_goto (tgt := 2) dX2_runFrom_57 rfl ?_
              exact Ev.cg (ih _ (by omega) (k + 1) rfl (by first | assumption | omega) (by rw [rn_go (by omega) (by simp [tog]; omega)] at hR; rw [show i + (k + 1) = i + k + 1 by omega]; exact hR)) (by rfl) rfl rfl
set_option maxRecDepth 100000 in
set_option maxHeartbeats 4000000 in
theorem s_X2_runFrom (X : AX) (p : Int) (i : Int) (each : Int) (μ : Mu) (hI : PI μ p) (hi : 0 ≤ i ∧ i < μ p 7) (he : 0 ≤ each ∧ each ≤ 12) : Ev (GG X) M_X2_runFrom 0 [(2, p), (0, i), (0, each), (9, 0)] [] μ (some (0, runl μ p i each)) μ := by
  have hp := hI.at
  have hz := hI.sz
  rcases hp with rfl | rfl
  · skip
    try simp only [Int.reduceAdd] at *
    refine e_iconst dX2_runFrom_0 ?_
    refine e_istore_n dX2_runFrom_1 rfl (Nat.le_of_ble_eq_true rfl) rfl ?_
    exact Ev.cg (l_X2_runFrom_2 X 20 i each μ hI hi he _ 0 rfl (by first | assumption | omega) (by unfold runl; rw [Int.add_zero]; omega)) (by rfl) rfl rfl
  · skip
    try simp only [Int.reduceAdd] at *
    refine e_iconst dX2_runFrom_0 ?_
    refine e_istore_n dX2_runFrom_1 rfl (Nat.le_of_ble_eq_true rfl) rfl ?_
    exact Ev.cg (l_X2_runFrom_2 X 31 i each μ hI hi he _ 0 rfl (by first | assumption | omega) (by unfold runl; rw [Int.add_zero]; omega)) (by rfl) rfl rfl
