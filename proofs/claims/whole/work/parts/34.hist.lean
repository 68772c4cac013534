set_option maxRecDepth 100000 in
set_option maxHeartbeats 4000000 in
theorem s_X1_remember (X : AX) (i : Int) (q : Int) (μ : Mu) (hh : 0 ≤ μ 3 2 ∧ μ 3 2 ≤ 20) : Wp (GG X) M_X1_remember 0 [(2, 3), (0, i), (0, q)] [] μ (qV fun μ' => (Fr 3 5 1 0 μ' μ) ∧ (μ' 3 2 = min (μ 3 2 + 1) 20) ∧ (∀ j : Int, 0 ≤ j → j < min (μ 3 2 + 1) 20 → μ' 4 j = hsN (μ 4) (μ 3 2) i j) ∧ (∀ j : Int, 0 ≤ j → j < min (μ 3 2 + 1) 20 → μ' 5 j = hsN (μ 5) (μ 3 2) q j)) := by
  refine w_aload_n dX1_remember_0 rfl rfl (by first | decide | omega) ?_
  refine w_getIx (o := 3) (f := 2) (x := μ 3 2) fX1_remember_1 rfl rfl (Nat.le_of_ble_eq_true rfl) rfl rfl ?_
  refine w_bipush dX1_remember_4 (by decide) ?_
  refine w_icmp_ne (tgt := 49) dX1_remember_6 rfl (R32.in (by omega)) (R32.in (by decide)) (fun c6 => ?_) (fun c6 => ?_)
  · skip
    refine w_aload_n dX1_remember_49 rfl rfl (by first | decide | omega) ?_
    refine w_getR (o := 3) (x := 4) fX1_remember_50 rfl rfl rfl rfl ?_
    refine w_aload_n dX1_remember_53 rfl rfl (by first | decide | omega) ?_
    refine w_getIx (o := 3) (f := 2) (x := μ 3 2) fX1_remember_54 rfl rfl (Nat.le_of_ble_eq_true rfl) rfl rfl ?_
    refine w_iload_n dX1_remember_57 rfl rfl ?_
    refine w_iast (o := 4) (n := 20) dX1_remember_58 rfl rfl (Nat.le_of_ble_eq_true rfl) (by omega) (by omega) ?_
    refine w_aload_n dX1_remember_59 rfl rfl (by first | decide | omega) ?_
    refine w_getR (o := 3) (x := 5) fX1_remember_60 rfl rfl rfl rfl ?_
    refine w_aload_n dX1_remember_63 rfl rfl (by first | decide | omega) ?_
    refine w_getIx (o := 3) (f := 2) (x := μ 3 2) fX1_remember_64 rfl rfl (Nat.le_of_ble_eq_true rfl) rfl (congrFun (am_up_o (by first | decide | omega)) _) ?_
    refine w_iload_n dX1_remember_67 rfl rfl ?_
    refine w_iast (o := 5) (n := 20) dX1_remember_68 rfl rfl (Nat.le_of_ble_eq_true rfl) (by omega) (by omega) ?_
    refine w_aload_n dX1_remember_69 rfl rfl (by first | decide | omega) ?_
    refine w_dup dX1_remember_70 (by simp) ?_
    refine w_getIx (o := 3) (f := 2) (x := μ 3 2) fX1_remember_71 rfl rfl (Nat.le_of_ble_eq_true rfl) rfl ((congrFun (am_up_o (by first | decide | omega)) _).trans (congrFun (am_up_o (by first | decide | omega)) _)) ?_
    refine w_iconst dX1_remember_74 ?_
    refine w_iadd dX1_remember_75 ?_
    refine w_putI (o := 3) (f := 2) fX1_remember_76 rfl rfl rfl rfl rfl ?_
    exact w_retV dX1_remember_79 rfl ⟨(((Fr.rf.up (by omega)).up (by omega)).up (by omega)), (by rw [(show (am_up (am_up (am_up μ 4 (μ 3 2) i) 5 (μ 3 2) q) 3 2 ((μ 3 2) + 1)) 3 2 = (μ 3 2) + 1 from am_up_at)]; omega), (by intro j h1 h2; simp [am_up, am_cp, hsN, c6] <;> (repeat' split) <;> first | rfl | omega), (by intro j h1 h2; simp [am_up, am_cp, hsN, c6] <;> (repeat' split) <;> first | rfl | omega)⟩
  · skip
    refine w_aload_n dX1_remember_9 rfl rfl (by first | decide | omega) ?_
    refine w_getR (o := 3) (x := 4) fX1_remember_10 rfl rfl rfl rfl ?_
    refine w_iconst dX1_remember_13 ?_
    refine w_aload_n dX1_remember_14 rfl rfl (by first | decide | omega) ?_
    refine w_getR (o := 3) (x := 4) fX1_remember_15 rfl rfl rfl rfl ?_
    refine w_iconst dX1_remember_18 ?_
    refine w_bipush dX1_remember_19 (by decide) ?_
    refine w_copy (o := 4) (n := 20) fX1_remember_21 rfl rfl (Nat.le_of_ble_eq_true rfl) (by omega) (by omega) (Nat.le_of_ble_eq_true rfl) ?_
    refine w_aload_n dX1_remember_24 rfl rfl (by first | decide | omega) ?_
    refine w_getR (o := 3) (x := 5) fX1_remember_25 rfl rfl rfl rfl ?_
    refine w_iconst dX1_remember_28 ?_
    refine w_aload_n dX1_remember_29 rfl rfl (by first | decide | omega) ?_
    refine w_getR (o := 3) (x := 5) fX1_remember_30 rfl rfl rfl rfl ?_
    refine w_iconst dX1_remember_33 ?_
    refine w_bipush dX1_remember_34 (by decide) ?_
    refine w_copy (o := 5) (n := 20) fX1_remember_36 rfl rfl (Nat.le_of_ble_eq_true rfl) (by omega) (by omega) (Nat.le_of_ble_eq_true rfl) ?_
    refine w_aload_n dX1_remember_39 rfl rfl (by first | decide | omega) ?_
    refine w_dup dX1_remember_40 (by simp) ?_
    refine w_getIx (o := 3) (f := 2) (x := μ 3 2) fX1_remember_41 rfl rfl (Nat.le_of_ble_eq_true rfl) rfl ((congrFun (am_cp_o (by first | decide | omega)) _).trans (congrFun (am_cp_o (by first | decide | omega)) _)) ?_
    refine w_iconst dX1_remember_44 ?_
    refine w_isub dX1_remember_45 ?_
    refine w_putI (o := 3) (f := 2) fX1_remember_46 rfl rfl rfl rfl rfl ?_
    refine w_aload_n dX1_remember_49 rfl rfl (by first | decide | omega) ?_
    refine w_getR (o := 3) (x := 4) fX1_remember_50 rfl rfl rfl rfl ?_
    refine w_aload_n dX1_remember_53 rfl rfl (by first | decide | omega) ?_
    refine w_getIx (o := 3) (f := 2) (x := (μ 3 2) - 1) fX1_remember_54 rfl rfl (Nat.le_of_ble_eq_true rfl) rfl am_up_at ?_
    refine w_iload_n dX1_remember_57 rfl rfl ?_
    refine w_iast (o := 4) (n := 20) dX1_remember_58 rfl rfl (Nat.le_of_ble_eq_true rfl) (by omega) (by omega) ?_
    refine w_aload_n dX1_remember_59 rfl rfl (by first | decide | omega) ?_
    refine w_getR (o := 3) (x := 5) fX1_remember_60 rfl rfl rfl rfl ?_
    refine w_aload_n dX1_remember_63 rfl rfl (by first | decide | omega) ?_
    refine w_getIx (o := 3) (f := 2) (x := (μ 3 2) - 1) fX1_remember_64 rfl rfl (Nat.le_of_ble_eq_true rfl) rfl ((congrFun (am_up_o (by first | decide | omega)) _).trans am_up_at) ?_
    refine w_iload_n dX1_remember_67 rfl rfl ?_
    refine w_iast (o := 5) (n := 20) dX1_remember_68 rfl rfl (Nat.le_of_ble_eq_true rfl) (by omega) (by omega) ?_
    refine w_aload_n dX1_remember_69 rfl rfl (by first | decide | omega) ?_
    refine w_dup dX1_remember_70 (by simp) ?_
    refine w_getIx (o := 3) (f := 2) (x := (μ 3 2) - 1) fX1_remember_71 rfl rfl (Nat.le_of_ble_eq_true rfl) rfl ((congrFun (am_up_o (by first | decide | omega)) _).trans ((congrFun (am_up_o (by first | decide | omega)) _).trans am_up_at)) ?_
    refine w_iconst dX1_remember_74 ?_
    refine w_iadd dX1_remember_75 ?_
    refine w_putI (o := 3) (f := 2) fX1_remember_76 rfl rfl rfl rfl rfl ?_
    exact w_retV dX1_remember_79 rfl ⟨((((((Fr.rf.cp (by omega)).cp (by omega)).up (by omega)).up (by omega)).up (by omega)).up (by omega)), (by rw [(show (am_up (am_up (am_up (am_up (am_cp (am_cp μ 4 1 0 19) 5 1 0 19) 3 2 ((μ 3 2) - 1)) 4 ((μ 3 2) - 1) i) 5 ((μ 3 2) - 1) q) 3 2 (((μ 3 2) - 1) + 1)) 3 2 = ((μ 3 2) - 1) + 1 from am_up_at)]; omega), (by intro j h1 h2; simp [am_up, am_cp, hsN, c6] <;> (repeat' split) <;> first | rfl | omega), (by intro j h1 h2; simp [am_up, am_cp, hsN, c6] <;> (repeat' split) <;> first | rfl | omega)⟩

set_option maxRecDepth 100000 in
set_option maxHeartbeats 4000000 in
theorem s_X1_latestElement (X : AX) (μ : Mu) (hh : 0 ≤ μ 3 2 ∧ μ 3 2 ≤ 20) : Wp (GG X) M_X1_latestElement 0 [(2, 3)] [] μ (pP 0 (if 0 < μ 3 2 then μ 4 (μ 3 2 - 1) else -1) μ) := by
  refine w_aload_n dX1_latestElement_0 rfl rfl (by first | decide | omega) ?_
  refine w_getIx (o := 3) (f := 2) (x := μ 3 2) fX1_latestElement_1 rfl rfl (Nat.le_of_ble_eq_true rfl) rfl rfl ?_
  refine w_if_le (tgt := 21) dX1_latestElement_4 rfl (R32.in (by omega)) (fun c4 => ?_) (fun c4 => ?_)
  · skip
    refine w_iconst dX1_latestElement_21 ?_
    exact w_iretP dX1_latestElement_22 rfl (by first | exact ifT (by omega) rfl | exact ifF (by omega) rfl)
  · skip
    refine w_aload_n dX1_latestElement_7 rfl rfl (by first | decide | omega) ?_
    refine w_getR (o := 3) (x := 4) fX1_latestElement_8 rfl rfl rfl rfl ?_
    refine w_aload_n dX1_latestElement_11 rfl rfl (by first | decide | omega) ?_
    refine w_getIx (o := 3) (f := 2) (x := μ 3 2) fX1_latestElement_12 rfl rfl (Nat.le_of_ble_eq_true rfl) rfl rfl ?_
    refine w_iconst dX1_latestElement_15 ?_
    refine w_isub dX1_latestElement_16 ?_
    refine w_ialdx (o := 4) (n := 20) (x := μ 4 ((μ 3 2) - 1)) dX1_latestElement_17 rfl rfl (Nat.le_of_ble_eq_true rfl) (by omega) rfl ?_
    refine w_goto (tgt := 22) dX1_latestElement_18 rfl ?_
    exact w_iretP dX1_latestElement_22 rfl (by first | exact ifT (by omega) rfl | exact ifF (by omega) rfl)

set_option maxRecDepth 100000 in
set_option maxHeartbeats 4000000 in
theorem s_X1_latestPosition (X : AX) (μ : Mu) (hh : 0 ≤ μ 3 2 ∧ μ 3 2 ≤ 20) : Wp (GG X) M_X1_latestPosition 0 [(2, 3)] [] μ (pP 0 (if 0 < μ 3 2 then μ 5 (μ 3 2 - 1) else 0) μ) := by
  refine w_aload_n dX1_latestPosition_0 rfl rfl (by first | decide | omega) ?_
  refine w_getIx (o := 3) (f := 2) (x := μ 3 2) fX1_latestPosition_1 rfl rfl (Nat.le_of_ble_eq_true rfl) rfl rfl ?_
  refine w_if_le (tgt := 21) dX1_latestPosition_4 rfl (R32.in (by omega)) (fun c4 => ?_) (fun c4 => ?_)
  · skip
    refine w_iconst dX1_latestPosition_21 ?_
    exact w_iretP dX1_latestPosition_22 rfl (by first | exact ifT (by omega) rfl | exact ifF (by omega) rfl)
  · skip
    refine w_aload_n dX1_latestPosition_7 rfl rfl (by first | decide | omega) ?_
    refine w_getR (o := 3) (x := 5) fX1_latestPosition_8 rfl rfl rfl rfl ?_
    refine w_aload_n dX1_latestPosition_11 rfl rfl (by first | decide | omega) ?_
    refine w_getIx (o := 3) (f := 2) (x := μ 3 2) fX1_latestPosition_12 rfl rfl (Nat.le_of_ble_eq_true rfl) rfl rfl ?_
    refine w_iconst dX1_latestPosition_15 ?_
    refine w_isub dX1_latestPosition_16 ?_
    refine w_ialdx (o := 5) (n := 20) (x := μ 5 ((μ 3 2) - 1)) dX1_latestPosition_17 rfl rfl (Nat.le_of_ble_eq_true rfl) (by omega) rfl ?_
    refine w_goto (tgt := 22) dX1_latestPosition_18 rfl ?_
    exact w_iretP dX1_latestPosition_22 rfl (by first | exact ifT (by omega) rfl | exact ifF (by omega) rfl)

set_option maxRecDepth 100000 in
set_option maxHeartbeats 4000000 in
theorem s_X1_forgetLatest (X : AX) (μ : Mu) (hh : 0 ≤ μ 3 2 ∧ μ 3 2 ≤ 20) : Wp (GG X) M_X1_forgetLatest 0 [(2, 3)] [] μ (qV fun μ' => (Fr 3 3 1 0 μ' μ) ∧ (μ' 3 2 = max 0 (μ 3 2 - 1))) := by
  refine w_aload_n dX1_forgetLatest_0 rfl rfl (by first | decide | omega) ?_
  refine w_iconst dX1_forgetLatest_1 ?_
  refine w_aload_n dX1_forgetLatest_2 rfl rfl (by first | decide | omega) ?_
  refine w_getIx (o := 3) (f := 2) (x := μ 3 2) fX1_forgetLatest_3 rfl rfl (Nat.le_of_ble_eq_true rfl) rfl rfl ?_
  refine w_iconst dX1_forgetLatest_6 ?_
  refine w_isub dX1_forgetLatest_7 ?_
  refine w_max fX1_forgetLatest_8 (R32.in (by decide)) (R32.in (by omega)) (Nat.le_of_ble_eq_true rfl) ?_
  refine w_putI (o := 3) (f := 2) fX1_forgetLatest_11 rfl rfl rfl rfl rfl ?_
  exact w_retV dX1_forgetLatest_14 rfl ⟨(Fr.rf.up (by omega)), (by rw [(show (am_up μ 3 2 (max 0 ((μ 3 2) - 1))) 3 2 = max 0 ((μ 3 2) - 1) from am_up_at)])⟩

set_option maxRecDepth 100000 in
set_option maxHeartbeats 4000000 in
theorem s_X7_put (X : AX) (p : Int) (i : Int) (q : Int) (μ : Mu) (hC : CJ μ p) (hi : -2147483648 ≤ i ∧ i ≤ 2147483647) (hq : -2147483648 ≤ q ∧ q ≤ 2147483647) (hh : 0 ≤ μ 3 2 ∧ μ 3 2 ≤ 20) : Wp (GG X) M_X7_put 0 [(2, 0), (0, i), (0, q), (9, 0)] [] μ (qI 0 fun z μ' => (Fr 3 5 (p + 5) (p + 5) μ' μ) ∧ (putP μ p i q z μ')) := by
  have hI := hC.i
  have hG := hC.pg
  have hp := hI.at
  have hz := hI.sz
  have hgr := hG.gr
  have hkn := hC.kn
  refine w_aload_n dX7_put_0 rfl rfl (by first | decide | omega) ?_
  refine w_iload_n dX7_put_1 rfl rfl ?_
  refine w_callVP (o := 0) (ci := 7) (as := [(0, i)]) (rest := []) (k := 0) fX7_put_2 rfl rfl rfl rfl rfl rfl rfl rfl (Nat.le_of_ble_eq_true rfl) (s_X7_isNote X p i μ μ (fun o h1 => rfl) hC (by first | omega | assumption)) ?_
  have hf1 := am_b_r (0 ≤ i ∧ i < μ p 7 ∧ μ (p + 4) i = 1)
  refine w_if_eq (tgt := 15) dX7_put_5 rfl (R32.in (by have := am_b_r ((0 ≤ i ∧ i < μ p 7 ∧ μ (p + 4) i = 1)); omega)) (fun c5 => ?_) (fun c5 => ?_)
  · skip
    replace c5 := am_b0 c5
    refine w_ldc (n := -1000000) dX7_put_15 k_704 (by decide) ?_
    exact w_iretI dX7_put_17 rfl ⟨Fr.rf, (by exact Or.inr ⟨by omega, rfl, rfl⟩)⟩
  · skip
    replace c5 := am_b1 c5
    refine w_iload_n dX7_put_8 rfl rfl ?_
    refine w_callSP (as := [(0, q)]) (rest := []) (k := 0) fX7_put_9 rfl rfl rfl rfl rfl (Nat.le_of_ble_eq_true rfl) (s_X7_isPosition X q μ (by first | omega | assumption)) ?_
    have hf2 := am_b_r (-12 ≤ q ∧ q ≤ 12)
    refine w_if_ne (tgt := 18) dX7_put_12 rfl (R32.in (by have := am_b_r ((-12 ≤ q ∧ q ≤ 12)); omega)) (fun c12 => ?_) (fun c12 => ?_)
    · skip
      replace c12 := am_b1 c12
      refine w_aload_n dX7_put_18 rfl rfl (by first | decide | omega) ?_
      refine w_getDx (o := 0) (f := 7) (x := p) fX7_put_19 rfl rfl rfl rfl hC.p7 ?_
      refine w_getR (o := (p).toNat) (x := p + 5) fX7_put_22 (by omega) (pSh0 rfl rfl (by assumption)) rfl (pRf 10 5 rfl rfl (by assumption)) ?_
      refine w_iload_n dX7_put_25 rfl rfl ?_
      refine w_ialdx (o := (p + 5).toNat) (n := 64) (x := μ (p + 5) i) dX7_put_26 (by omega) (pSh 5 rfl rfl (by assumption)) (Nat.le_of_ble_eq_true rfl) (by omega) rfl ?_
      have hr3 := PI.hd hC.i (q := p + 5) (i := i) rfl (by omega)
      have hr4 := PI.hd hI (q := p + 5) (i := i) rfl (by omega)
      refine w_istore_n (ls' := [(2, 0), (0, i), (0, q), (0, μ (p + 5) i)]) dX7_put_27 rfl (Nat.le_of_ble_eq_true rfl) rfl rfl ?_
      refine w_aload_n dX7_put_28 rfl rfl (by first | decide | omega) ?_
      refine w_getR (o := 0) (x := 3) fX7_put_29 rfl rfl rfl rfl ?_
      refine w_iload_n dX7_put_32 rfl rfl ?_
      refine w_iload_n dX7_put_33 rfl rfl ?_
      refine w_callVV (o := 3) (ci := 1) (as := [(0, i), (0, μ (p + 5) i)]) (rest := []) (k := 0) fX7_put_34 rfl rfl rfl rfl rfl rfl rfl rfl (Nat.le_of_ble_eq_true rfl) (s_X1_remember X i (μ (p + 5) i) μ (by first | omega | assumption)) (fun μM hμM => ?_)
      obtain ⟨hFM, h2_M, hw_M, hq_M⟩ := hμM
      refine w_aload_n dX7_put_37 rfl rfl (by first | decide | omega) ?_
      refine w_getDx (o := 0) (f := 7) (x := p) fX7_put_38 rfl rfl rfl rfl ((congrFun (hFM.at (by omega) (by omega)) _).trans hC.p7) ?_
      refine w_getR (o := (p).toNat) (x := p + 5) fX7_put_41 (by omega) (pSh0 rfl rfl (by assumption)) rfl (pRf 10 5 rfl rfl (by assumption)) ?_
      refine w_iload_n dX7_put_44 rfl rfl ?_
      refine w_iload_n dX7_put_45 rfl rfl ?_
      refine w_iast (o := (p + 5).toNat) (n := 64) dX7_put_46 (by omega) (pSh 5 rfl rfl (by assumption)) (Nat.le_of_ble_eq_true rfl) (by omega) (by omega) ?_
      refine w_iload_n dX7_put_47 rfl rfl ?_
      exact w_iretI dX7_put_48 rfl ⟨((hFM.wd (by omega) (by omega)).up (by omega)), (by exact Or.inl ⟨by omega, rfl, by rw [am_up_o (by omega)]; exact h2_M, fun j h1 h2 => by rw [am_up_o (by omega)]; exact hw_M j h1 h2, fun j h1 h2 => by rw [am_up_o (by omega)]; exact hq_M j h1 h2, fun j => by rw [am_up_k, hFM.at (by omega) (by omega)]⟩)⟩
    · skip
      replace c12 := am_b0 c12
      refine w_ldc (n := -1000000) dX7_put_15 k_704 (by decide) ?_
      exact w_iretI dX7_put_17 rfl ⟨Fr.rf, (by exact Or.inr ⟨by omega, rfl, rfl⟩)⟩
