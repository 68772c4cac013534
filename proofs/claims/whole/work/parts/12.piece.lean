set_option maxRecDepth 100000 in
set_option maxHeartbeats 4000000 in
theorem s_X2_beamsOfKind (X : AX) (k : Int) (μ : Mu) (hk : -2147483648 ≤ k ∧ k ≤ 2147483647) : Ev (GG X) M_X2_beamsOfKind 0 [(0, k)] [] μ (some (0, bok k)) μ := by
  refine e_iload_n dX2_beamsOfKind_0 rfl rfl ?_
  rcases (show k = 8 ∨ k = 16 ∨ k = 32 ∨ (¬ k = 8 ∧ ¬ k = 16 ∧ ¬ k = 32) by omega) with q1 | q1 | q1 | q1
  · refine e_lookup (off := 35) (tgt := 36) dX2_beamsOfKind_1 (by decide) (R32.in (by omega)) (by rw [q1]; rfl) rfl ?_
    refine e_iconst dX2_beamsOfKind_36 ?_
    exact Ev.toI (e_ireturn dX2_beamsOfKind_37 rfl) (by simp [bok, *]) (by rfl)
  · refine e_lookup (off := 37) (tgt := 38) dX2_beamsOfKind_1 (by decide) (R32.in (by omega)) (by rw [q1]; rfl) rfl ?_
    refine e_iconst dX2_beamsOfKind_38 ?_
    exact Ev.toI (e_ireturn dX2_beamsOfKind_39 rfl) (by simp [bok, *]) (by rfl)
  · refine e_lookup (off := 39) (tgt := 40) dX2_beamsOfKind_1 (by decide) (R32.in (by omega)) (by rw [q1]; rfl) rfl ?_
    refine e_iconst dX2_beamsOfKind_40 ?_
    exact Ev.toI (e_ireturn dX2_beamsOfKind_41 rfl) (by simp [bok, *]) (by rfl)
  · refine e_lookup (off := 41) (tgt := 42) dX2_beamsOfKind_1 (by decide) (R32.in (by omega)) (by simp [Op.lookupswitch.offset]; omega) rfl ?_
    refine e_iconst dX2_beamsOfKind_42 ?_
    exact Ev.toI (e_ireturn dX2_beamsOfKind_43 rfl) (by simp [bok, *]) (by rfl)

set_option maxRecDepth 100000 in
set_option maxHeartbeats 4000000 in
theorem s_X2_isKind (X : AX) (k : Int) (μ : Mu) (hk : -2147483648 ≤ k ∧ k ≤ 2147483647) : Ev (GG X) M_X2_isKind 0 [(0, k)] [] μ (some (0, am_b (k = 4 ∨ k = 8 ∨ k = 16 ∨ k = 32))) μ := by
  refine e_iload_n dX2_isKind_0 rfl rfl ?_
  refine e_iconst dX2_isKind_1 ?_
  refine e_icmp_eq (tgt := 23) dX2_isKind_2 rfl (R32.in (by omega)) (R32.in (by decide)) (fun c2 => ?_) (fun c2 => ?_)
  · skip
    refine e_iconst dX2_isKind_23 ?_
    refine e_goto (tgt := 28) dX2_isKind_24 rfl ?_
    exact Ev.toI (e_zreturn dX2_isKind_28 rfl (Or.inr rfl)) (by first | exact am_b_t (by omega) | exact am_b_f (by omega)) (by rfl)
  · skip
    refine e_iload_n dX2_isKind_5 rfl rfl ?_
    refine e_bipush dX2_isKind_6 (by decide) ?_
    refine e_icmp_eq (tgt := 23) dX2_isKind_8 rfl (R32.in (by omega)) (R32.in (by decide)) (fun c8 => ?_) (fun c8 => ?_)
    · skip
      refine e_iconst dX2_isKind_23 ?_
      refine e_goto (tgt := 28) dX2_isKind_24 rfl ?_
      exact Ev.toI (e_zreturn dX2_isKind_28 rfl (Or.inr rfl)) (by first | exact am_b_t (by omega) | exact am_b_f (by omega)) (by rfl)
    · skip
      refine e_iload_n dX2_isKind_11 rfl rfl ?_
      refine e_bipush dX2_isKind_12 (by decide) ?_
      refine e_icmp_eq (tgt := 23) dX2_isKind_14 rfl (R32.in (by omega)) (R32.in (by decide)) (fun c14 => ?_) (fun c14 => ?_)
      · skip
        refine e_iconst dX2_isKind_23 ?_
        refine e_goto (tgt := 28) dX2_isKind_24 rfl ?_
        exact Ev.toI (e_zreturn dX2_isKind_28 rfl (Or.inr rfl)) (by first | exact am_b_t (by omega) | exact am_b_f (by omega)) (by rfl)
      · skip
        refine e_iload_n dX2_isKind_17 rfl rfl ?_
        refine e_bipush dX2_isKind_18 (by decide) ?_
        refine e_icmp_ne (tgt := 27) dX2_isKind_20 rfl (R32.in (by omega)) (R32.in (by decide)) (fun c20 => ?_) (fun c20 => ?_)
        · skip
          refine e_iconst dX2_isKind_27 ?_
          exact Ev.toI (e_zreturn dX2_isKind_28 rfl (Or.inl rfl)) (by first | exact am_b_t (by omega) | exact am_b_f (by omega)) (by rfl)
        · skip
          refine e_iconst dX2_isKind_23 ?_
          refine e_goto (tgt := 28) dX2_isKind_24 rfl ?_
          exact Ev.toI (e_zreturn dX2_isKind_28 rfl (Or.inr rfl)) (by first | exact am_b_t (by omega) | exact am_b_f (by omega)) (by rfl)

set_option maxRecDepth 100000 in
set_option maxHeartbeats 4000000 in
theorem s_X2_longOfKind (X : AX) (k : Int) (μ : Mu) (hk : -2147483648 ≤ k ∧ k ≤ 2147483647) : Ev (GG X) M_X2_longOfKind 0 [(0, k)] [] μ (some (0, lok k)) μ := by
  refine e_bipush dX2_longOfKind_0 (by decide) ?_
  refine e_iload_n dX2_longOfKind_2 rfl rfl ?_
  refine e_callS1 (as := [(0, k)]) (rest := [(0, 8)]) (k := 0) fX2_longOfKind_3 rfl rfl rfl rfl rfl (Nat.le_of_ble_eq_true rfl) (s_X2_beamsOfKind X k μ (by first | assumption | omega)) ?_
  have hf1 := bok_r k
  refine e_ishr dX2_longOfKind_6 ?_
  exact Ev.toI (e_ireturn dX2_longOfKind_7 rfl) (by exact lok_sh _) (by rfl)

set_option maxRecDepth 100000 in
set_option maxHeartbeats 4000000 in
theorem s_X2_beatLong (X : AX) (p : Int) (μ : Mu) (hI : PI μ p) : Ev (GG X) M_X2_beatLong 0 [(2, p)] [] μ (some (0, blg (μ p 2))) μ := by
  have hp := hI.at
  have hz := hI.sz
  rcases hp with rfl | rfl
  · skip
    refine e_aload_n dX2_beatLong_0 rfl rfl (by decide) ?_
    refine e_getIx (o := 20) (f := 2) (x := μ 20 2) fX2_beatLong_1 rfl rfl (Nat.le_of_ble_eq_true rfl) rfl rfl ?_
    have hr1 := PI.un hI
    rcases (show μ 20 2 = 2 ∨ μ 20 2 = 8 ∨ (¬ μ 20 2 = 2 ∧ ¬ μ 20 2 = 8) by omega) with q4 | q4 | q4
    · refine e_lookup (off := 28) (tgt := 32) dX2_beatLong_4 (by decide) (R32.in (by omega)) (by rw [q4]; rfl) rfl ?_
      refine e_bipush dX2_beatLong_32 (by decide) ?_
      exact Ev.toI (e_ireturn dX2_beatLong_34 rfl) (by simp [blg, *]) (by rfl)
    · refine e_lookup (off := 31) (tgt := 35) dX2_beatLong_4 (by decide) (R32.in (by omega)) (by rw [q4]; rfl) rfl ?_
      refine e_iconst dX2_beatLong_35 ?_
      exact Ev.toI (e_ireturn dX2_beatLong_36 rfl) (by simp [blg, *]) (by rfl)
    · refine e_lookup (off := 33) (tgt := 37) dX2_beatLong_4 (by decide) (R32.in (by omega)) (by simp [Op.lookupswitch.offset]; omega) rfl ?_
      refine e_bipush dX2_beatLong_37 (by decide) ?_
      exact Ev.toI (e_ireturn dX2_beatLong_39 rfl) (by simp [blg, *]) (by rfl)
  · skip
    refine e_aload_n dX2_beatLong_0 rfl rfl (by decide) ?_
    refine e_getIx (o := 31) (f := 2) (x := μ 31 2) fX2_beatLong_1 rfl rfl (Nat.le_of_ble_eq_true rfl) rfl rfl ?_
    have hr1 := PI.un hI
    rcases (show μ 31 2 = 2 ∨ μ 31 2 = 8 ∨ (¬ μ 31 2 = 2 ∧ ¬ μ 31 2 = 8) by omega) with q4 | q4 | q4
    · refine e_lookup (off := 28) (tgt := 32) dX2_beatLong_4 (by decide) (R32.in (by omega)) (by rw [q4]; rfl) rfl ?_
      refine e_bipush dX2_beatLong_32 (by decide) ?_
      exact Ev.toI (e_ireturn dX2_beatLong_34 rfl) (by simp [blg, *]) (by rfl)
    · refine e_lookup (off := 31) (tgt := 35) dX2_beatLong_4 (by decide) (R32.in (by omega)) (by rw [q4]; rfl) rfl ?_
      refine e_iconst dX2_beatLong_35 ?_
      exact Ev.toI (e_ireturn dX2_beatLong_36 rfl) (by simp [blg, *]) (by rfl)
    · refine e_lookup (off := 33) (tgt := 37) dX2_beatLong_4 (by decide) (R32.in (by omega)) (by simp [Op.lookupswitch.offset]; omega) rfl ?_
      refine e_bipush dX2_beatLong_37 (by decide) ?_
      exact Ev.toI (e_ireturn dX2_beatLong_39 rfl) (by simp [blg, *]) (by rfl)

set_option maxRecDepth 100000 in
set_option maxHeartbeats 4000000 in
theorem s_X2_measureLong (X : AX) (p : Int) (μ : Mu) (hI : PI μ p) : Ev (GG X) M_X2_measureLong 0 [(2, p)] [] μ (some (0, mlg μ p)) μ := by
  have hp := hI.at
  have hz := hI.sz
  rcases hp with rfl | rfl
  · skip
    have h9 := mlg_r hI
    unfold mlg at h9
    refine e_iconst dX2_measureLong_0 ?_
    refine e_aload_n dX2_measureLong_1 rfl rfl (by decide) ?_
    refine e_getIx (o := 20) (f := 1) (x := μ 20 1) fX2_measureLong_2 rfl rfl (Nat.le_of_ble_eq_true rfl) rfl rfl ?_
    have hr1 := PI.bt hI
    refine e_aload_n dX2_measureLong_5 rfl rfl (by decide) ?_
    refine e_callV1 (o := 20) (ci := 2) (as := []) (rest := [(0, μ 20 1), (0, 1)]) (k := 0) fX2_measureLong_6 rfl rfl rfl rfl rfl rfl rfl rfl (Nat.le_of_ble_eq_true rfl) (s_X2_beatLong X 20 μ (by first | assumption | omega)) ?_
    have hf2 := blg_r (μ 20 2)
    refine e_imul dX2_measureLong_9 ?_
    refine e_max fX2_measureLong_10 (R32.in (by decide)) (R32.in (by omega)) (Nat.le_of_ble_eq_true rfl) ?_
    exact Ev.toI (e_ireturn dX2_measureLong_13 rfl) (by unfold mlg; omega) (by rfl)
  · skip
    have h9 := mlg_r hI
    unfold mlg at h9
    refine e_iconst dX2_measureLong_0 ?_
    refine e_aload_n dX2_measureLong_1 rfl rfl (by decide) ?_
    refine e_getIx (o := 31) (f := 1) (x := μ 31 1) fX2_measureLong_2 rfl rfl (Nat.le_of_ble_eq_true rfl) rfl rfl ?_
    have hr1 := PI.bt hI
    refine e_aload_n dX2_measureLong_5 rfl rfl (by decide) ?_
    refine e_callV1 (o := 31) (ci := 2) (as := []) (rest := [(0, μ 31 1), (0, 1)]) (k := 0) fX2_measureLong_6 rfl rfl rfl rfl rfl rfl rfl rfl (Nat.le_of_ble_eq_true rfl) (s_X2_beatLong X 31 μ (by first | assumption | omega)) ?_
    have hf2 := blg_r (μ 31 2)
    refine e_imul dX2_measureLong_9 ?_
    refine e_max fX2_measureLong_10 (R32.in (by decide)) (R32.in (by omega)) (Nat.le_of_ble_eq_true rfl) ?_
    exact Ev.toI (e_ireturn dX2_measureLong_13 rfl) (by unfold mlg; omega) (by rfl)

set_option maxRecDepth 100000 in
set_option maxHeartbeats 4000000 in
theorem s_X2_beamsOf (X : AX) (p : Int) (i : Int) (μ : Mu) (hI : PI μ p) (hi : 0 ≤ i ∧ i < μ p 7) : Ev (GG X) M_X2_beamsOf 0 [(2, p), (0, i)] [] μ (some (0, bmz μ p i)) μ := by
  have hp := hI.at
  have hz := hI.sz
  rcases hp with rfl | rfl
  · skip
    refine e_aload_n dX2_beamsOf_0 rfl rfl (by decide) ?_
    refine e_getR (o := 20) (x := 24) fX2_beamsOf_1 rfl rfl rfl rfl ?_
    refine e_iload_n dX2_beamsOf_4 rfl rfl ?_
    refine e_zaldx (o := 24) (n := 64) (x := μ 24 i) dX2_beamsOf_5 rfl rfl (Nat.le_of_ble_eq_true rfl) (by omega) rfl ?_
    have hr1 := PI.so hI (q := 24) (i := i) rfl (by omega)
    refine e_if_eq (tgt := 21) dX2_beamsOf_6 rfl (R32.in (by omega)) (fun c6 => ?_) (fun c6 => ?_)
    · skip
      refine e_iconst dX2_beamsOf_21 ?_
      exact Ev.toI (e_ireturn dX2_beamsOf_22 rfl) (by simp [bmz, *]) (by rfl)
    · skip
      refine e_aload_n dX2_beamsOf_9 rfl rfl (by decide) ?_
      refine e_getR (o := 20) (x := 23) fX2_beamsOf_10 rfl rfl rfl rfl ?_
      refine e_iload_n dX2_beamsOf_13 rfl rfl ?_
      refine e_ialdx (o := 23) (n := 64) (x := μ 23 i) dX2_beamsOf_14 rfl rfl (Nat.le_of_ble_eq_true rfl) (by omega) rfl ?_
      have hr2 := PI.kr hI (q := 23) (i := i) rfl (by omega)
      refine e_callS1 (as := [(0, μ 23 i)]) (rest := []) (k := 0) fX2_beamsOf_15 rfl rfl rfl rfl rfl (Nat.le_of_ble_eq_true rfl) (s_X2_beamsOfKind X (μ 23 i) μ (by first | assumption | omega)) ?_
      have hf3 := bok_r (μ 23 i)
      refine e_goto (tgt := 22) dX2_beamsOf_18 rfl ?_
      exact Ev.toI (e_ireturn dX2_beamsOf_22 rfl) (by simp [bmz, *]) (by rfl)
  · skip
    refine e_aload_n dX2_beamsOf_0 rfl rfl (by decide) ?_
    refine e_getR (o := 31) (x := 35) fX2_beamsOf_1 rfl rfl rfl rfl ?_
    refine e_iload_n dX2_beamsOf_4 rfl rfl ?_
    refine e_zaldx (o := 35) (n := 64) (x := μ 35 i) dX2_beamsOf_5 rfl rfl (Nat.le_of_ble_eq_true rfl) (by omega) rfl ?_
    have hr1 := PI.so hI (q := 35) (i := i) rfl (by omega)
    refine e_if_eq (tgt := 21) dX2_beamsOf_6 rfl (R32.in (by omega)) (fun c6 => ?_) (fun c6 => ?_)
    · skip
      refine e_iconst dX2_beamsOf_21 ?_
      exact Ev.toI (e_ireturn dX2_beamsOf_22 rfl) (by simp [bmz, *]) (by rfl)
    · skip
      refine e_aload_n dX2_beamsOf_9 rfl rfl (by decide) ?_
      refine e_getR (o := 31) (x := 34) fX2_beamsOf_10 rfl rfl rfl rfl ?_
      refine e_iload_n dX2_beamsOf_13 rfl rfl ?_
      refine e_ialdx (o := 34) (n := 64) (x := μ 34 i) dX2_beamsOf_14 rfl rfl (Nat.le_of_ble_eq_true rfl) (by omega) rfl ?_
      have hr2 := PI.kr hI (q := 34) (i := i) rfl (by omega)
      refine e_callS1 (as := [(0, μ 34 i)]) (rest := []) (k := 0) fX2_beamsOf_15 rfl rfl rfl rfl rfl (Nat.le_of_ble_eq_true rfl) (s_X2_beamsOfKind X (μ 34 i) μ (by first | assumption | omega)) ?_
      have hf3 := bok_r (μ 34 i)
      refine e_goto (tgt := 22) dX2_beamsOf_18 rfl ?_
      exact Ev.toI (e_ireturn dX2_beamsOf_22 rfl) (by simp [bmz, *]) (by rfl)
