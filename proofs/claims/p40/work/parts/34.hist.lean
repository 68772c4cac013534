set_option maxRecDepth 100000 in
set_option maxHeartbeats 4000000 in
theorem s_X1_remember (X : AX) (i : Int) (q : Int) (μ : Mu) (hh : 0 ≤ μ 3 2 ∧ μ 3 2 ≤ 20) : Wp (GG X) M_X1_remember 0 [(2, 3), (0, i), (0, q)] [] μ (qV fun μ' => (Fr 3 5 1 0 μ' μ) ∧ (μ' 3 2 = min (μ 3 2 + 1) 20) ∧ (∀ j : Int, 0 ≤ j → j < min (μ 3 2 + 1) 20 → μ' 4 j = hsN (μ 4) (μ 3 2) i j) ∧ (∀ j : Int, 0 ≤ j → j < min (μ 3 2 + 1) 20 → μ' 5 j = hsN (μ 5) (μ 3 2) q j)) := by
  refine w_aload_n dX1_remember_0 rfl rfl (by first | decide | omega) ?_
  refine w_getIx (o := 3) (f := 2) (x := μ 3 2) fX1_remember_1 rfl rfl (Nat.le_of_ble_eq_true rfl) rfl rfl ?_
  refine w_bipush dX1_remember_4 (by decide) ?_
  refine w_icmp_ne (tgt := 49) dX1_remember_6 rfl (R32.in (by omega)) (R32.in (by decide)) (fun c6 => ?_) (fun c6 => ?_)
  · skip
    refine w_aload_n dX1_remember_49 rfl rfl (by first | decide | omega) ?_
    refine w_getR (o := 3) (x := 4) fX1_remember_50 rfl rfl rfl rfl ?_
    refine w_aload_n dX1_remember_53 rfl rfl (by first | decide | omega) ?_
    refine w_getIx (o := 3) (f := 2) (x := μ 3 2) fX1_remember_54 rfl rfl (Nat.le_of_ble_eq_true rfl) rfl rfl ?_
    refine w_iload_n dX1_remember_57 rfl rfl ?_
    refine w_iast (o := 4) (n := 20) dX1_remember_58 rfl rfl (Nat.le_of_ble_eq_true rfl) (by omega) (by omega) ?_
    refine w_aload_n dX1_remember_59 rfl rfl (by first | decide | omega) ?_
    refine w_getR (o := 3) (x := 5) fX1_remember_60 rfl rfl rfl rfl ?_
    refine w_aload_n dX1_remember_63 rfl rfl (by first | decide | omega) ?_
    refine w_getIx (o := 3) (f := 2) (x := μ 3 2) fX1_remember_64 rfl rfl (Nat.le_of_ble_eq_true rfl) rfl (congrFun (am_up_o (by first | decide | omega)) _) ?_
    refine w_iload_n dX1_remember_67 rfl rfl ?_
    refine w_iast (o := 5) (n := 20) dX1_remember_68 rfl rfl (Nat.le_of_ble_eq_true rfl) (by omega) (by omega) ?_
    refine w_aload_n dX1_remember_69 rfl rfl (by first | decide | omega) ?_
    refine w_dup dX1_remember_70 (by simp) ?_
    refine w_getIx (o := 3) (f := 2) (x := μ 3 2) fX1_remember_71 rfl rfl (Nat.le_of_ble_eq_true rfl) rfl ((congrFun (am_up_o (by first | decide | omega)) _).trans (congrFun (am_up_o (by first | decide | omega)) _)) ?_
    refine w_iconst dX1_remember_74 ?_
    refine w_iadd dX1_remember_75 ?_
    refine w_putI (o := 3) (f := 2) fX1_remember_76 rfl rfl rfl rfl rfl ?_
    exact w_retV dX1_remember_79 rfl ⟨(((Fr.rf.up (by omega)).up (by omega)).up (by omega)), (by rw [(show (am_up (am_up (am_up μ 4 (μ 3 2) i) 5 (μ 3 2) q) 3 2 ((μ 3 2) + 1)) 3 2 = (μ 3 2) + 1 from am_up_at)]; omega), (by intro j h1 h2; simp [am_up, am_cp, hsN, c6] <;> (repeat' split) <;> first | rfl | omega), (by intro j h1 h2; simp [am_up, am_cp, hsN, c6] <;> (repeat' split) <;> first | rfl | omega)⟩
  · skip
    refine w_aload_n dX1_remember_9 rfl rfl (by first | decide | omega) ?_
    refine w_getR (o := 3) (x := 4) fX1_remember_10 rfl rfl rfl rfl ?_
    refine w_iconst dX1_remember_13 ?_
    refine w_aload_n dX1_remember_14 rfl rfl (by first | decide | omega) ?_
    refine w_getR (o := 3) (x := 4) fX1_remember_15 rfl rfl rfl rfl ?_
    refine w_iconst dX1_remember_18 ?_
    refine w_bipush dX1_remember_19 (by decide) ?_
    refine w_copy (o := 4) (n := 20) fX1_remember_21 rfl rfl (Nat.le_of_ble_eq_true rfl) (by omega) (by omega) (Nat.le_of_ble_eq_true rfl) ?_
    refine w_aload_n dX1_remember_24 rfl rfl (by first | decide | omega) ?_
    refine w_getR (o := 3) (x := 5) fX1_remember_25 rfl rfl rfl rfl ?_
    refine w_iconst dX1_remember_28 ?_
    refine w_aload_n dX1_remember_29 rfl rfl (by first | decide | omega) ?_
    refine w_getR (o := 3) (x := 5) fX1_remember_30 rfl rfl rfl rfl ?_
    refine w_iconst dX1_remember_33 ?_
    refine w_bipush dX1_remember_34 (by decide) ?_
    refine w_copy (o := 5) (n := 20) fX1_remember_36 rfl rfl (Nat.le_of_ble_eq_true rfl) (by omega) (by omega) (Nat.le_of_ble_eq_true rfl) ?_
    refine w_aload_n dX1_remember_39 rfl rfl (by first | decide | omega) ?_
    refine w_dup dX1_remember_40 (by simp) ?_
    refine w_getIx (o := 3) (f := 2) (x := μ 3 2) fX1_remember_41 rfl rfl (Nat.le_of_ble_eq_true rfl) rfl ((congrFun (am_cp_o (by first | decide | omega)) _).trans (congrFun (am_cp_o (by first | decide | omega)) _)) ?_
    refine w_iconst dX1_remember_44 ?_
    refine w_isub dX1_remember_45 ?_
    refine w_putI (o := 3) (f := 2) fX1_remember_46 rfl rfl rfl rfl rfl ?_
    refine w_aload_n dX1_remember_49 rfl rfl (by first | decide | omega) ?_
    refine w_getR (o := 3) (x := 4) fX1_remember_50 rfl rfl rfl rfl ?_
    refine w_aload_n dX1_remember_53 rfl rfl (by first | decide | omega) ?_
    refine w_getIx (o := 3) (f := 2) (x := (μ 3 2) - 1) fX1_remember_54 rfl rfl (Nat.le_of_ble_eq_true rfl) rfl am_up_at ?_
    refine w_iload_n dX1_remember_57 rfl rfl ?_
    refine w_iast (o := 4) (n := 20) dX1_remember_58 rfl rfl (Nat.le_of_ble_eq_true rfl) (by omega) (by omega) ?_
    refine w_aload_n dX1_remember_59 rfl rfl (by first | decide | omega) ?_
    refine w_getR (o := 3) (x := 5) fX1_remember_60 rfl rfl rfl rfl ?_
    refine w_aload_n dX1_remember_63 rfl rfl (by first | decide | omega) ?_
    refine w_getIx (o := 3) (f := 2) (x := (μ 3 2) - 1) fX1_remember_64 rfl rfl (Nat.le_of_ble_eq_true rfl) rfl ((congrFun (am_up_o (by first | decide | omega)) _).trans am_up_at) ?_
    refine w_iload_n dX1_remember_67 rfl rfl ?_
    refine w_iast (o := 5) (n := 20) dX1_remember_68 rfl rfl (Nat.le_of_ble_eq_true rfl) (by omega) (by omega) ?_
    refine w_aload_n dX1_remember_69 rfl rfl (by first | decide | omega) ?_
    refine w_dup dX1_remember_70 (by simp) ?_
    refine w_getIx (o := 3) (f := 2) (x := (μ 3 2) - 1) fX1_remember_71 rfl rfl (Nat.le_of_ble_eq_true rfl) rfl ((congrFun (am_up_o (by first | decide | omega)) _).trans ((congrFun (am_up_o (by first | decide | omega)) _).trans am_up_at)) ?_
    refine w_iconst dX1_remember_74 ?_
    refine w_iadd dX1_remember_75 ?_
    refine w_putI (o := 3) (f := 2) fX1_remember_76 rfl rfl rfl rfl rfl ?_
    exact w_retV dX1_remember_79 rfl ⟨((((((Fr.rf.cp (by omega)).cp (by omega)).up (by omega)).up (by omega)).up (by omega)).up (by omega)), (by rw [(show (am_up (am_up (am_up (am_up (am_cp (am_cp μ 4 1 0 19) 5 1 0 19) 3 2 ((μ 3 2) - 1)) 4 ((μ 3 2) - 1) i) 5 ((μ 3 2) - 1) q) 3 2 (((μ 3 2) - 1) + 1)) 3 2 = ((μ 3 2) - 1) + 1 from am_up_at)]; omega), (by intro j h1 h2; simp [am_up, am_cp, hsN, c6] <;> (repeat' split) <;> first | rfl | omega), (by intro j h1 h2; simp [am_up, am_cp, hsN, c6] <;> (repeat' split) <;> first | rfl | omega)⟩

set_option maxRecDepth 100000 in
set_option maxHeartbeats 4000000 in
theorem s_X1_latestElement (X : AX) (μ ν : Mu) (hA9 : ∀ o : Int, (3 ≤ o ∧ o ≤ 5) → ν o = μ o) (hh : 0 ≤ μ 3 2 ∧ μ 3 2 ≤ 20) : Wp (GG X) M_X1_latestElement 0 [(2, 3)] [] ν (pP 0 (if 0 < μ 3 2 then μ 4 (μ 3 2 - 1) else -1) ν) := by
  refine w_aload_n dX1_latestElement_0 rfl rfl (by first | decide | omega) ?_
  refine w_getIx (o := 3) (f := 2) (x := μ 3 2) fX1_latestElement_1 rfl rfl (Nat.le_of_ble_eq_true rfl) rfl (congrFun (hA9 _ (by omega)) _) ?_
  refine w_if_le (tgt := 21) dX1_latestElement_4 rfl (R32.in (by omega)) (fun c4 => ?_) (fun c4 => ?_)
  · skip
    refine w_iconst dX1_latestElement_21 ?_
    exact w_iretP dX1_latestElement_22 rfl (by first | exact ifT (by omega) rfl | exact ifF (by omega) rfl)
  · skip
    refine w_aload_n dX1_latestElement_7 rfl rfl (by first | decide | omega) ?_
    refine w_getR (o := 3) (x := 4) fX1_latestElement_8 rfl rfl rfl rfl ?_
    refine w_aload_n dX1_latestElement_11 rfl rfl (by first | decide | omega) ?_
    refine w_getIx (o := 3) (f := 2) (x := μ 3 2) fX1_latestElement_12 rfl rfl (Nat.le_of_ble_eq_true rfl) rfl (congrFun (hA9 _ (by omega)) _) ?_
    refine w_iconst dX1_latestElement_15 ?_
    refine w_isub dX1_latestElement_16 ?_
    refine w_ialdx (o := 4) (n := 20) (x := μ 4 ((μ 3 2) - 1)) dX1_latestElement_17 rfl rfl (Nat.le_of_ble_eq_true rfl) (by omega) (congrFun (hA9 _ (by omega)) _) ?_
    refine w_goto (tgt := 22) dX1_latestElement_18 rfl ?_
    exact w_iretP dX1_latestElement_22 rfl (by first | exact ifT (by omega) rfl | exact ifF (by omega) rfl)

set_option maxRecDepth 100000 in
set_option maxHeartbeats 4000000 in
theorem s_X1_latestPosition (X : AX) (μ ν : Mu) (hA9 : ∀ o : Int, (3 ≤ o ∧ o ≤ 5) → ν o = μ o) (hh : 0 ≤ μ 3 2 ∧ μ 3 2 ≤ 20) : Wp (GG X) M_X1_latestPosition 0 [(2, 3)] [] ν (pP 0 (if 0 < μ 3 2 then μ 5 (μ 3 2 - 1) else 0) ν) := by
  refine w_aload_n dX1_latestPosition_0 rfl rfl (by first | decide | omega) ?_
  refine w_getIx (o := 3) (f := 2) (x := μ 3 2) fX1_latestPosition_1 rfl rfl (Nat.le_of_ble_eq_true rfl) rfl (congrFun (hA9 _ (by omega)) _) ?_
  refine w_if_le (tgt := 21) dX1_latestPosition_4 rfl (R32.in (by omega)) (fun c4 => ?_) (fun c4 => ?_)
  · skip
    refine w_iconst dX1_latestPosition_21 ?_
    exact w_iretP dX1_latestPosition_22 rfl (by first | exact ifT (by omega) rfl | exact ifF (by omega) rfl)
  · skip
    refine w_aload_n dX1_latestPosition_7 rfl rfl (by first | decide | omega) ?_
    refine w_getR (o := 3) (x := 5) fX1_latestPosition_8 rfl rfl rfl rfl ?_
    refine w_aload_n dX1_latestPosition_11 rfl rfl (by first | decide | omega) ?_
    refine w_getIx (o := 3) (f := 2) (x := μ 3 2) fX1_latestPosition_12 rfl rfl (Nat.le_of_ble_eq_true rfl) rfl (congrFun (hA9 _ (by omega)) _) ?_
    refine w_iconst dX1_latestPosition_15 ?_
    refine w_isub dX1_latestPosition_16 ?_
    refine w_ialdx (o := 5) (n := 20) (x := μ 5 ((μ 3 2) - 1)) dX1_latestPosition_17 rfl rfl (Nat.le_of_ble_eq_true rfl) (by omega) (congrFun (hA9 _ (by omega)) _) ?_
    refine w_goto (tgt := 22) dX1_latestPosition_18 rfl ?_
    exact w_iretP dX1_latestPosition_22 rfl (by first | exact ifT (by omega) rfl | exact ifF (by omega) rfl)

set_option maxRecDepth 100000 in
set_option maxHeartbeats 4000000 in
theorem s_X1_forgetLatest (X : AX) (μ ν : Mu) (hA9 : ∀ o : Int, (3 ≤ o ∧ o ≤ 5) → ν o = μ o) (hh : 0 ≤ μ 3 2 ∧ μ 3 2 ≤ 20) : Wp (GG X) M_X1_forgetLatest 0 [(2, 3)] [] ν (qV fun μ' => (Fr 3 3 1 0 μ' ν) ∧ (μ' 3 2 = max 0 (μ 3 2 - 1))) := by
  refine w_aload_n dX1_forgetLatest_0 rfl rfl (by first | decide | omega) ?_
  refine w_iconst dX1_forgetLatest_1 ?_
  refine w_aload_n dX1_forgetLatest_2 rfl rfl (by first | decide | omega) ?_
  refine w_getIx (o := 3) (f := 2) (x := μ 3 2) fX1_forgetLatest_3 rfl rfl (Nat.le_of_ble_eq_true rfl) rfl (congrFun (hA9 _ (by omega)) _) ?_
  refine w_iconst dX1_forgetLatest_6 ?_
  refine w_isub dX1_forgetLatest_7 ?_
  refine w_max fX1_forgetLatest_8 (R32.in (by decide)) (R32.in (by omega)) (Nat.le_of_ble_eq_true rfl) ?_
  refine w_putI (o := 3) (f := 2) fX1_forgetLatest_11 rfl rfl rfl rfl rfl ?_
  exact w_retV dX1_forgetLatest_14 rfl ⟨(Fr.rf.up (by omega)), (by rw [(show (am_up ν 3 2 (max 0 ((μ 3 2) - 1))) 3 2 = max 0 ((μ 3 2) - 1) from am_up_at)])⟩

set_option maxRecDepth 100000 in
set_option maxHeartbeats 4000000 in
theorem s_X7_put (X : AX) (p : Int) (i : Int) (q : Int) (μ : Mu) (hC : CJ μ p) (hi : -2147483648 ≤ i ∧ i ≤ 2147483647) (hq : -2147483648 ≤ q ∧ q ≤ 2147483647) (hh : 0 ≤ μ 3 2 ∧ μ 3 2 ≤ 20) : Wp (GG X) M_X7_put 0 [(2, 0), (0, i), (0, q), (9, 0)] [] μ (qI 0 fun z μ' => (Fr 3 5 (p + 5) (p + 5) μ' μ) ∧ (putP μ p i q z μ')) := by
  have hI := hC.i
  have hG := hC.pg
  have hp := hI.at
  have hz := hI.sz
  have hgr := hG.gr
  have hkn := hC.kn
  refine w_aload_n dX7_put_0 rfl rfl (by first | decide | omega) ?_
  refine w_iload_n dX7_put_1 rfl rfl ?_
  refine w_callVP (o := 0) (ci := 7) (as := [(0, i)]) (rest := []) (k := 0) fX7_put_2 rfl rfl rfl rfl rfl rfl rfl rfl (Nat.le_of_ble_eq_true rfl) (s_X7_isNote X p i μ μ (fun o h1 => rfl) hC (by first | omega | assumption)) ?_
  have hf1 := am_b_r (0 ≤ i ∧ i < μ p 7 ∧ μ (p + 4) i = 1)
  refine w_if_eq (tgt := 15) dX7_put_5 rfl (R32.in (by have := am_b_r ((0 ≤ i ∧ i < μ p 7 ∧ μ (p + 4) i = 1)); omega)) (fun c5 => ?_) (fun c5 => ?_)
  · skip
    replace c5 := am_b0 c5
    refine w_ldc (n := -1000000) dX7_put_15 k_597 (by decide) ?_
    exact w_iretI dX7_put_17 rfl ⟨Fr.rf, (by exact Or.inr ⟨by omega, rfl, rfl⟩)⟩
  · skip
    replace c5 := am_b1 c5
    refine w_iload_n dX7_put_8 rfl rfl ?_
    refine w_callSP (as := [(0, q)]) (rest := []) (k := 0) fX7_put_9 rfl rfl rfl rfl rfl (Nat.le_of_ble_eq_true rfl) (s_X7_isPosition X q μ (by first | omega | assumption)) ?_
    have hf2 := am_b_r (-12 ≤ q ∧ q ≤ 12)
    refine w_if_ne (tgt := 18) dX7_put_12 rfl (R32.in (by have := am_b_r ((-12 ≤ q ∧ q ≤ 12)); omega)) (fun c12 => ?_) (fun c12 => ?_)
    · skip
      replace c12 := am_b1 c12
      refine w_aload_n dX7_put_18 rfl rfl (by first | decide | omega) ?_
      refine w_getDx (o := 0) (f := 7) (x := p) fX7_put_19 rfl rfl rfl rfl hC.p7 ?_
      refine w_getR (o := (p).toNat) (x := p + 5) fX7_put_22 (by omega) (pSh0 rfl rfl (by assumption)) rfl (pRf 10 5 rfl rfl (by assumption)) ?_
      refine w_iload_n dX7_put_25 rfl rfl ?_
      refine w_ialdx (o := (p + 5).toNat) (n := 64) (x := μ (p + 5) i) dX7_put_26 (by omega) (pSh 5 rfl rfl (by assumption)) (Nat.le_of_ble_eq_true rfl) (by omega) rfl ?_
      have hr3 := PI.hd hC.i (q := p + 5) (i := i) rfl (by omega)
      have hr4 := PI.hd hI (q := p + 5) (i := i) rfl (by omega)
      refine w_istore_n (ls' := [(2, 0), (0, i), (0, q), (0, μ (p + 5) i)]) dX7_put_27 rfl (Nat.le_of_ble_eq_true rfl) rfl rfl ?_
      refine w_aload_n dX7_put_28 rfl rfl (by first | decide | omega) ?_
      refine w_getR (o := 0) (x := 3) fX7_put_29 rfl rfl rfl rfl ?_
      refine w_iload_n dX7_put_32 rfl rfl ?_
      refine w_iload_n dX7_put_33 rfl rfl ?_
      refine w_callVV (o := 3) (ci := 1) (as := [(0, i), (0, μ (p + 5) i)]) (rest := []) (k := 0) fX7_put_34 rfl rfl rfl rfl rfl rfl rfl rfl (Nat.le_of_ble_eq_true rfl) (s_X1_remember X i (μ (p + 5) i) μ (by first | omega | assumption)) (fun μM hμM => ?_)
      obtain ⟨hFM, h2_M, hw_M, hq_M⟩ := hμM
      refine w_aload_n dX7_put_37 rfl rfl (by first | decide | omega) ?_
      refine w_getDx (o := 0) (f := 7) (x := p) fX7_put_38 rfl rfl rfl rfl ((congrFun (hFM.at (by omega) (by omega)) _).trans hC.p7) ?_
      refine w_getR (o := (p).toNat) (x := p + 5) fX7_put_41 (by omega) (pSh0 rfl rfl (by assumption)) rfl (pRf 10 5 rfl rfl (by assumption)) ?_
      refine w_iload_n dX7_put_44 rfl rfl ?_
      refine w_iload_n dX7_put_45 rfl rfl ?_
      refine w_iast (o := (p + 5).toNat) (n := 64) dX7_put_46 (by omega) (pSh 5 rfl rfl (by assumption)) (Nat.le_of_ble_eq_true rfl) (by omega) (by omega) ?_
      refine w_iload_n dX7_put_47 rfl rfl ?_
      exact w_iretI dX7_put_48 rfl ⟨((hFM.wd (by omega) (by omega)).up (by omega)), (by exact Or.inl ⟨by omega, rfl, by rw [am_up_o (by omega)]; exact h2_M, fun j h1 h2 => by rw [am_up_o (by omega)]; exact hw_M j h1 h2, fun j h1 h2 => by rw [am_up_o (by omega)]; exact hq_M j h1 h2, fun j => by rw [am_up_k, hFM.at (by omega) (by omega)]⟩)⟩
    · skip
      replace c12 := am_b0 c12
      refine w_ldc (n := -1000000) dX7_put_15 k_597 (by decide) ?_
      exact w_iretI dX7_put_17 rfl ⟨Fr.rf, (by exact Or.inr ⟨by omega, rfl, rfl⟩)⟩

set_option maxRecDepth 100000 in
set_option maxHeartbeats 4000000 in
theorem s_X7_undo (X : AX) (p : Int) (μ : Mu) (hC : CJ μ p) (hh : 0 ≤ μ 3 2 ∧ μ 3 2 ≤ 20) (hwr : ∀ j : Int, 0 ≤ j → j < μ 3 2 → 0 ≤ μ 4 j ∧ μ 4 j < μ p 7) : Wp (GG X) M_X7_undo 0 [(2, 0), (9, 0)] [] μ (qI 0 fun z μ' => (Fr 3 3 (p + 5) (p + 5) μ' μ) ∧ (undP μ p z μ')) := by
  have hI := hC.i
  have hG := hC.pg
  have hp := hI.at
  have hz := hI.sz
  have hgr := hG.gr
  have hkn := hC.kn
  refine w_aload_n dX7_undo_0 rfl rfl (by first | decide | omega) ?_
  refine w_getR (o := 0) (x := 3) fX7_undo_1 rfl rfl rfl rfl ?_
  refine w_getIx (o := 3) (f := 2) (x := μ 3 2) fX7_undo_4 rfl rfl (Nat.le_of_ble_eq_true rfl) rfl rfl ?_
  refine w_if_ne (tgt := 12) dX7_undo_7 rfl (R32.in (by omega)) (fun c7 => ?_) (fun c7 => ?_)
  · skip
    refine w_aload_n dX7_undo_12 rfl rfl (by first | decide | omega) ?_
    refine w_getR (o := 0) (x := 3) fX7_undo_13 rfl rfl rfl rfl ?_
    refine w_callVP (o := 3) (ci := 1) (as := []) (rest := []) (k := 0) fX7_undo_16 rfl rfl rfl rfl rfl rfl rfl rfl (Nat.le_of_ble_eq_true rfl) (s_X1_latestElement X μ μ (fun o h1 => rfl) (by first | omega | assumption)) ?_
    refine Wp.topE (b := μ 4 (μ 3 2 - 1)) (if_pos (by omega)) ?_
    refine w_istore_n (ls' := [(2, 0), (0, μ 4 (μ 3 2 - 1))]) dX7_undo_19 rfl (Nat.le_of_ble_eq_true rfl) rfl rfl ?_
    have hwe := hwr (μ 3 2 - 1) (by omega) (by omega)
    refine w_aload_n dX7_undo_20 rfl rfl (by first | decide | omega) ?_
    refine w_iload_n dX7_undo_21 rfl rfl ?_
    refine w_callVP (o := 0) (ci := 7) (as := [(0, μ 4 (μ 3 2 - 1))]) (rest := []) (k := 0) fX7_undo_22 rfl rfl rfl rfl rfl rfl rfl rfl (Nat.le_of_ble_eq_true rfl) (s_X7_isElement X p (μ 4 (μ 3 2 - 1)) μ μ (fun o h1 => rfl) hC (by first | omega | assumption)) ?_
    have hf1 := am_b_r (0 ≤ (μ 4 (μ 3 2 - 1)) ∧ (μ 4 (μ 3 2 - 1)) < μ p 7)
    refine w_if_eq (tgt := 44) dX7_undo_25 rfl (R32.in (by have := am_b_r ((0 ≤ (μ 4 (μ 3 2 - 1)) ∧ (μ 4 (μ 3 2 - 1)) < μ p 7)); omega)) (fun c25 => ?_) (fun c25 => ?_)
    · skip
      replace c25 := am_b0 c25
      omega
    · skip
      replace c25 := am_b1 c25
      refine w_aload_n dX7_undo_28 rfl rfl (by first | decide | omega) ?_
      refine w_getDx (o := 0) (f := 7) (x := p) fX7_undo_29 rfl rfl rfl rfl hC.p7 ?_
      refine w_getR (o := (p).toNat) (x := p + 5) fX7_undo_32 (by omega) (pSh0 rfl rfl (by assumption)) rfl (pRf 10 5 rfl rfl (by assumption)) ?_
      refine w_iload_n dX7_undo_35 rfl rfl ?_
      refine w_aload_n dX7_undo_36 rfl rfl (by first | decide | omega) ?_
      refine w_getR (o := 0) (x := 3) fX7_undo_37 rfl rfl rfl rfl ?_
      refine w_callVP (o := 3) (ci := 1) (as := []) (rest := [(0, μ 4 (μ 3 2 - 1)), (2, p + 5)]) (k := 0) fX7_undo_40 rfl rfl rfl rfl rfl rfl rfl rfl (Nat.le_of_ble_eq_true rfl) (s_X1_latestPosition X μ μ (fun o h1 => rfl) (by first | omega | assumption)) ?_
      refine w_iast (o := (p + 5).toNat) (n := 64) dX7_undo_43 (by omega) (pSh 5 rfl rfl (by assumption)) (Nat.le_of_ble_eq_true rfl) (by omega) (by omega) ?_
      refine w_aload_n dX7_undo_44 rfl rfl (by first | decide | omega) ?_
      refine w_getR (o := 0) (x := 3) fX7_undo_45 rfl rfl rfl rfl ?_
      refine w_callVV (o := 3) (ci := 1) (as := []) (rest := []) (k := 0) fX7_undo_48 rfl rfl rfl rfl rfl rfl rfl rfl (Nat.le_of_ble_eq_true rfl) (s_X1_forgetLatest X μ (am_up μ (p + 5) (μ 4 (μ 3 2 - 1)) (if 0 < μ 3 2 then μ 5 (μ 3 2 - 1) else 0)) (fun o h1 => (am_up_o (by omega))) (by first | omega | assumption)) (fun μM hμM => ?_)
      obtain ⟨hFM, h2_M⟩ := hμM
      refine w_aload_n dX7_undo_51 rfl rfl (by first | decide | omega) ?_
      refine w_getR (o := 0) (x := 3) fX7_undo_52 rfl rfl rfl rfl ?_
      refine w_getIx (o := 3) (f := 2) (x := (μ 3 2 - 1)) fX7_undo_55 rfl rfl (Nat.le_of_ble_eq_true rfl) rfl (h2_M.trans (by omega)) ?_
      exact w_iretI dX7_undo_58 rfl ⟨((hFM.wd (by omega) (by omega)).tr (Fr.rf.up (by omega))), (by exact Or.inr ⟨by omega, by omega, h2_M.trans (by omega), fun j => by rw [hFM.at (by omega) (by omega), am_up_k]⟩)⟩
  · skip
    refine w_iconst dX7_undo_10 ?_
    exact w_iretI dX7_undo_11 rfl ⟨Fr.rf, (by exact Or.inl ⟨by omega, rfl, rfl⟩)⟩

set_option maxRecDepth 100000 in
set_option maxHeartbeats 4000000 in
theorem s_X5_hasRoomFor (X : AX) (m : Int) (μ : Mu) (ht : 0 ≤ μ 1 1 ∧ μ 1 1 ≤ 900) (hm : 0 ≤ m ∧ m ≤ 1000) : Wp (GG X) M_X5_hasRoomFor 0 [(2, 1), (0, m)] [] μ (pP 0 (am_b (μ 1 1 + m ≤ 900)) μ) := by
  refine w_aload_n dX5_hasRoomFor_0 rfl rfl (by first | decide | omega) ?_
  refine w_getIx (o := 1) (f := 1) (x := μ 1 1) fX5_hasRoomFor_1 rfl rfl (Nat.le_of_ble_eq_true rfl) rfl rfl ?_
  refine w_iload_n dX5_hasRoomFor_4 rfl rfl ?_
  refine w_iadd dX5_hasRoomFor_5 ?_
  refine w_sipush dX5_hasRoomFor_6 (by decide) ?_
  refine w_icmp_gt (tgt := 16) dX5_hasRoomFor_9 rfl (R32.in (by omega)) (R32.in (by decide)) (fun c9 => ?_) (fun c9 => ?_)
  · skip
    refine w_iconst dX5_hasRoomFor_16 ?_
    exact w_zretP dX5_hasRoomFor_17 rfl (Or.inl rfl) (by first | exact am_b_t (by omega) | exact am_b_f (by omega))
  · skip
    refine w_iconst dX5_hasRoomFor_12 ?_
    refine w_goto (tgt := 17) dX5_hasRoomFor_13 rfl ?_
    exact w_zretP dX5_hasRoomFor_17 rfl (Or.inr rfl) (by first | exact am_b_t (by omega) | exact am_b_f (by omega))

set_option maxRecDepth 100000 in
set_option maxHeartbeats 4000000 in
theorem s_X5_append (X : AX) (n : Int) (μ : Mu) (ht : 0 ≤ μ 1 1 ∧ μ 1 1 ≤ 896) (hn : -2147483648 ≤ n ∧ n ≤ 2147483647) : Wp (GG X) M_X5_append 0 [(2, 1), (0, n), (9, 0)] [] μ (qV fun μ' => (Fr 1 2 1 0 μ' μ) ∧ (μ' 1 1 = μ 1 1 + 4) ∧ (μ' 2 = apN (μ 2) (μ 1 1) n 4)) := by
  refine w_bipush dX5_append_0 (by decide) ?_
  refine w_istore_n (ls' := [(2, 1), (0, n), (0, 24)]) dX5_append_2 rfl (Nat.le_of_ble_eq_true rfl) rfl rfl ?_
  have hL3 : ∀ (n3 : Nat) (s : Int) (k : Int) (μ1 : Mu), (4 - k).toNat = n3 → Fr 1 2 1 0 μ1 μ → (0 ≤ k ∧ k ≤ 4) → (s = 24 - 8 * k) → (μ1 1 1 = μ 1 1 + k) → (μ1 2 = apN (μ 2) (μ 1 1) n k) → Wp (GG X) M_X5_append 3 [(2, 1), (0, n), (0, s)] [] μ1 (qV fun μ' => (Fr 1 2 1 0 μ' μ) ∧ (μ' 1 1 = μ 1 1 + 4) ∧ (μ' 2 = apN (μ 2) (μ 1 1) n 4)) := by
    intro n3
    induction n3 using Nat.strongRecOn with
    | ind n3 ih3 =>
      intro s k μ1 hn3 hF3 hk0 hs h11 hb
      refine w_iload_n dX5_append_3 rfl rfl ?_
      refine w_if_lt (tgt := 49) dX5_append_4 rfl (R32.in (by omega)) (fun c4 => ?_) (fun c4 => ?_)
      · skip
        exact w_retV dX5_append_49 rfl ⟨hF3, (by omega), (by rw [show (4 : Int) = k by omega]; exact hb)⟩
      · skip
        refine w_aload_n dX5_append_7 rfl rfl (by first | decide | omega) ?_
        refine w_getIx (o := 1) (f := 1) (x := μ 1 1 + k) fX5_append_8 rfl rfl (Nat.le_of_ble_eq_true rfl) rfl h11 ?_
        refine w_sipush dX5_append_11 (by decide) ?_
        refine w_icmp_ge (tgt := 49) dX5_append_14 rfl (R32.in (by omega)) (R32.in (by decide)) (fun c14 => ?_) (fun c14 => ?_)
        · skip
          omega
        · skip
          refine w_aload_n dX5_append_17 rfl rfl (by first | decide | omega) ?_
          refine w_getR (o := 1) (x := 2) fX5_append_18 rfl rfl rfl rfl ?_
          refine w_aload_n dX5_append_21 rfl rfl (by first | decide | omega) ?_
          refine w_getIx (o := 1) (f := 1) (x := μ 1 1 + k) fX5_append_22 rfl rfl (Nat.le_of_ble_eq_true rfl) rfl h11 ?_
          refine w_iload_n dX5_append_25 rfl rfl ?_
          refine w_iload_n dX5_append_26 rfl rfl ?_
          refine w_ishr dX5_append_27 ?_
          refine w_sipush dX5_append_28 (by decide) ?_
          refine w_iand255 dX5_append_31 ?_
          refine w_iast (o := 2) (n := 900) dX5_append_32 rfl rfl (Nat.le_of_ble_eq_true rfl) (by omega) (by omega) ?_
          refine w_aload_n dX5_append_33 rfl rfl (by first | decide | omega) ?_
          refine w_dup dX5_append_34 (by simp) ?_
          refine w_getIx (o := 1) (f := 1) (x := μ 1 1 + k) fX5_append_35 rfl rfl (Nat.le_of_ble_eq_true rfl) rfl ((congrFun (am_up_o (by first | decide | omega)) _).trans h11) ?_
          refine w_iconst dX5_append_38 ?_
          refine w_iadd dX5_append_39 ?_
          refine w_putI (o := 1) (f := 1) fX5_append_40 rfl rfl rfl rfl rfl ?_
          refine w_iinc (ls' := [(2, 1), (0, n), (0, s + (-8))]) dX5_append_43 rfl (Nat.le_of_ble_eq_true rfl) rfl rfl ?_
          refine w_goto (tgt := 3) dX5_append_46 rfl ?_
          exact ih3 _ (by omega) (s + (-8)) (k + 1) (am_up (am_up μ1 2 (μ 1 1 + k) ((am_ishr n s) % 256)) 1 1 ((μ 1 1 + k) + 1)) rfl ((hF3.up (by omega)).up (by omega)) (by first | omega | assumption) (by first | omega | assumption) (am_up_at.trans (by omega)) (by rw [am_up_o (by omega)]; exact apN_s hb hk0.1 (byt_i hn (by omega) hs))
  exact hL3 _ 24 0 μ rfl Fr.rf (by first | omega | assumption) (by first | omega | assumption) ((rfl : μ 1 1 = μ 1 1).trans (by omega)) (apN_0 (μ 2) (μ 1 1) n).symm

set_option maxRecDepth 100000 in
set_option maxHeartbeats 4000000 in
theorem s_X7_feed (X : AX) (p : Int) (a : Int) (b : Int) (c : Int) (d : Int) (e : Int) (μ : Mu) (hC : CJ μ p) (ha : -2147483648 ≤ a ∧ a ≤ 2147483647) (hb : -2147483648 ≤ b ∧ b ≤ 2147483647) (hc : -2147483648 ≤ c ∧ c ≤ 2147483647) (hd : -2147483648 ≤ d ∧ d ≤ 2147483647) (he : -2147483648 ≤ e ∧ e ≤ 2147483647) (ht : 0 ≤ μ 1 1 ∧ μ 1 1 ≤ 900) : Wp (GG X) M_X7_feed 0 [(2, 0), (0, a), (0, b), (0, c), (0, d), (0, e)] [] μ (qI 0 fun z μ' => (Fr 1 2 1 0 μ' μ) ∧ (feedP μ a b c d e z μ')) := by
  have hI := hC.i
  have hG := hC.pg
  have hp := hI.at
  have hz := hI.sz
  have hgr := hG.gr
  have hkn := hC.kn
  refine w_aload_n dX7_feed_0 rfl rfl (by first | decide | omega) ?_
  refine w_getR (o := 0) (x := 1) fX7_feed_1 rfl rfl rfl rfl ?_
  refine w_bipush dX7_feed_4 (by decide) ?_
  refine w_callVP (o := 1) (ci := 5) (as := [(0, 20)]) (rest := []) (k := 0) fX7_feed_6 rfl rfl rfl rfl rfl rfl rfl rfl (Nat.le_of_ble_eq_true rfl) (s_X5_hasRoomFor X 20 μ (by first | omega | assumption) (by first | omega | assumption)) ?_
  refine w_if_ne (tgt := 14) dX7_feed_9 rfl (R32.in (by have := am_b_r ((μ 1 1 + 20 ≤ 900)); omega)) (fun c9 => ?_) (fun c9 => ?_)
  · skip
    replace c9 := am_b1 c9
    refine w_aload_n dX7_feed_14 rfl rfl (by first | decide | omega) ?_
    refine w_getR (o := 0) (x := 1) fX7_feed_15 rfl rfl rfl rfl ?_
    refine w_iload_n dX7_feed_18 rfl rfl ?_
    refine w_callVV (o := 1) (ci := 5) (as := [(0, a)]) (rest := []) (k := 1) fX7_feed_19 rfl rfl rfl rfl rfl rfl rfl rfl (Nat.le_of_ble_eq_true rfl) (s_X5_append X a μ (by first | omega | assumption) (by first | omega | assumption)) (fun μA hμA => ?_)
    obtain ⟨hFA, h1_A, hb_A⟩ := hμA
    refine w_aload_n dX7_feed_22 rfl rfl (by first | decide | omega) ?_
    refine w_getR (o := 0) (x := 1) fX7_feed_23 rfl rfl rfl rfl ?_
    refine w_iload_n dX7_feed_26 rfl rfl ?_
    refine w_callVV (o := 1) (ci := 5) (as := [(0, b)]) (rest := []) (k := 1) fX7_feed_27 rfl rfl rfl rfl rfl rfl rfl rfl (Nat.le_of_ble_eq_true rfl) (s_X5_append X b μA (by first | omega | assumption) (by first | omega | assumption)) (fun μB hμB => ?_)
    obtain ⟨hFB, h1_B, hb_B⟩ := hμB
    refine w_aload_n dX7_feed_30 rfl rfl (by first | decide | omega) ?_
    refine w_getR (o := 0) (x := 1) fX7_feed_31 rfl rfl rfl rfl ?_
    refine w_iload_n dX7_feed_34 rfl rfl ?_
    refine w_callVV (o := 1) (ci := 5) (as := [(0, c)]) (rest := []) (k := 1) fX7_feed_35 rfl rfl rfl rfl rfl rfl rfl rfl (Nat.le_of_ble_eq_true rfl) (s_X5_append X c μB (by first | omega | assumption) (by first | omega | assumption)) (fun μC hμC => ?_)
    obtain ⟨hFC, h1_C, hb_C⟩ := hμC
    refine w_aload_n dX7_feed_38 rfl rfl (by first | decide | omega) ?_
    refine w_getR (o := 0) (x := 1) fX7_feed_39 rfl rfl rfl rfl ?_
    refine w_iload dX7_feed_42 rfl ?_
    refine w_callVV (o := 1) (ci := 5) (as := [(0, d)]) (rest := []) (k := 1) fX7_feed_44 rfl rfl rfl rfl rfl rfl rfl rfl (Nat.le_of_ble_eq_true rfl) (s_X5_append X d μC (by first | omega | assumption) (by first | omega | assumption)) (fun μD hμD => ?_)
    obtain ⟨hFD, h1_D, hb_D⟩ := hμD
    refine w_aload_n dX7_feed_47 rfl rfl (by first | decide | omega) ?_
    refine w_getR (o := 0) (x := 1) fX7_feed_48 rfl rfl rfl rfl ?_
    refine w_iload dX7_feed_51 rfl ?_
    refine w_callVV (o := 1) (ci := 5) (as := [(0, e)]) (rest := []) (k := 1) fX7_feed_53 rfl rfl rfl rfl rfl rfl rfl rfl (Nat.le_of_ble_eq_true rfl) (s_X5_append X e μD (by first | omega | assumption) (by first | omega | assumption)) (fun μE hμE => ?_)
    obtain ⟨hFE, h1_E, hb_E⟩ := hμE
    refine w_aload_n dX7_feed_56 rfl rfl (by first | decide | omega) ?_
    refine w_getR (o := 0) (x := 1) fX7_feed_57 rfl rfl rfl rfl ?_
    refine w_getIx (o := 1) (f := 1) (x := μE 1 1) fX7_feed_60 rfl rfl (Nat.le_of_ble_eq_true rfl) rfl rfl ?_
    exact w_iretI dX7_feed_63 rfl ⟨((hFE.wd (by omega) (by omega)).tr ((hFD.wd (by omega) (by omega)).tr ((hFC.wd (by omega) (by omega)).tr ((hFB.wd (by omega) (by omega)).tr hFA)))), (by exact Or.inl ⟨by omega, by omega, by omega, by rw [hb_E, hb_D, hb_C, hb_B, hb_A, h1_D, h1_C, h1_B, h1_A]; rfl⟩)⟩
  · skip
    replace c9 := am_b0 c9
    refine w_iconst dX7_feed_12 ?_
    exact w_iretI dX7_feed_13 rfl ⟨Fr.rf, (by exact Or.inr ⟨by omega, rfl, rfl⟩)⟩


set_option maxRecDepth 100000 in
set_option maxHeartbeats 4000000 in
theorem s_X7_count (X : AX) (p : Int) (w : Int) (μ : Mu) (hC : CJ μ p) (hw : -2147483648 ≤ w ∧ w ≤ 2147483647) : Wp (GG X) M_X7_count 0 [(2, 0), (0, w)] [] μ (pP 0 (cntC μ p w) μ) := by
  have hI := hC.i
  have hG := hC.pg
  have hp := hI.at
  have hz := hI.sz
  have hgr := hG.gr
  have hkn := hC.kn
  refine w_iload_n dX7_count_0 rfl rfl ?_
  rcases (show (w < 0 ∨ 14 < w) ∨ w = 0 ∨ w = 1 ∨ w = 2 ∨ w = 3 ∨ w = 4 ∨ w = 5 ∨ w = 6 ∨ w = 7 ∨ w = 8 ∨ w = 9 ∨ w = 10 ∨ w = 11 ∨ w = 12 ∨ w = 13 ∨ w = 14 by omega) with q1 | q1 | q1 | q1 | q1 | q1 | q1 | q1 | q1 | q1 | q1 | q1 | q1 | q1 | q1 | q1
  · refine w_tableOut (tgt := 204) dX7_count_1 (R32.in (by omega)) q1 rfl ?_
    refine w_iconst dX7_count_204 ?_
    exact w_iretP dX7_count_205 rfl (by first | (subst q1; rfl) | (unfold cntC; repeat rw [if_neg (by omega)]))
  · refine w_tableIn (off := 75) (tgt := 76) dX7_count_1 (R32.in (by omega)) (by omega) (by omega) (by rw [q1]; rfl) rfl ?_
    refine w_aload_n dX7_count_76 rfl rfl (by first | decide | omega) ?_
    refine w_getDx (o := 0) (f := 7) (x := p) fX7_count_77 rfl rfl rfl rfl hC.p7 ?_
    refine w_getIx (o := (p).toNat) (f := 0) (x := μ p 0) fX7_count_80 (by omega) (pSh0 rfl rfl (by assumption)) (Nat.le_of_ble_eq_true rfl) rfl rfl ?_
    exact w_iretP dX7_count_83 rfl (by first | (subst q1; rfl) | (unfold cntC; repeat rw [if_neg (by omega)]))
  · refine w_tableIn (off := 83) (tgt := 84) dX7_count_1 (R32.in (by omega)) (by omega) (by omega) (by rw [q1]; rfl) rfl ?_
    refine w_aload_n dX7_count_84 rfl rfl (by first | decide | omega) ?_
    refine w_getDx (o := 0) (f := 7) (x := p) fX7_count_85 rfl rfl rfl rfl hC.p7 ?_
    refine w_getIx (o := (p).toNat) (f := 7) (x := μ p 7) fX7_count_88 (by omega) (pSh0 rfl rfl (by assumption)) (Nat.le_of_ble_eq_true rfl) rfl rfl ?_
    have hr1 := PI.sz hC.i
    have hr2 := PI.sz hI
    exact w_iretP dX7_count_91 rfl (by first | (subst q1; rfl) | (unfold cntC; repeat rw [if_neg (by omega)]))
  · refine w_tableIn (off := 91) (tgt := 92) dX7_count_1 (R32.in (by omega)) (by omega) (by omega) (by rw [q1]; rfl) rfl ?_
    refine w_aload_n dX7_count_92 rfl rfl (by first | decide | omega) ?_
    refine w_getDx (o := 0) (f := 7) (x := p) fX7_count_93 rfl rfl rfl rfl hC.p7 ?_
    refine w_callVP (o := (p).toNat) (ci := 2) (as := []) (rest := []) (k := 2) fX7_count_96 rfl (by omega) (pSh0 rfl rfl (by assumption)) rfl rfl rfl rfl rfl (Nat.le_of_ble_eq_true rfl) (s_X2_countNotes X p μ μ (fun o h1 => rfl) hI) ?_
    exact w_iretP dX7_count_99 rfl (by first | (subst q1; rfl) | (unfold cntC; repeat rw [if_neg (by omega)]))
  · refine w_tableIn (off := 99) (tgt := 100) dX7_count_1 (R32.in (by omega)) (by omega) (by omega) (by rw [q1]; rfl) rfl ?_
    refine w_aload_n dX7_count_100 rfl rfl (by first | decide | omega) ?_
    refine w_getDx (o := 0) (f := 7) (x := p) fX7_count_101 rfl rfl rfl rfl hC.p7 ?_
    refine w_getIx (o := (p).toNat) (f := 14) (x := μ p 14) fX7_count_104 (by omega) (pSh0 rfl rfl (by assumption)) (Nat.le_of_ble_eq_true rfl) rfl rfl ?_
    have hr3 := PG.gr hC.pg
    have hr4 := PG.gr hG
    exact w_iretP dX7_count_107 rfl (by first | (subst q1; rfl) | (unfold cntC; repeat rw [if_neg (by omega)]))
  · refine w_tableIn (off := 107) (tgt := 108) dX7_count_1 (R32.in (by omega)) (by omega) (by omega) (by rw [q1]; rfl) rfl ?_
    refine w_aload_n dX7_count_108 rfl rfl (by first | decide | omega) ?_
    refine w_getDx (o := 0) (f := 7) (x := p) fX7_count_109 rfl rfl rfl rfl hC.p7 ?_
    refine w_callVP (o := (p).toNat) (ci := 2) (as := []) (rest := []) (k := 0) fX7_count_112 rfl (by omega) (pSh0 rfl rfl (by assumption)) rfl rfl rfl rfl rfl (Nat.le_of_ble_eq_true rfl) (s_X2_countMeasures X p μ μ (fun o h1 => rfl) hI) ?_
    exact w_iretP dX7_count_115 rfl (by first | (subst q1; rfl) | (unfold cntC; repeat rw [if_neg (by omega)]))
  · refine w_tableIn (off := 115) (tgt := 116) dX7_count_1 (R32.in (by omega)) (by omega) (by omega) (by rw [q1]; rfl) rfl ?_
    refine w_aload_n dX7_count_116 rfl rfl (by first | decide | omega) ?_
    refine w_getDx (o := 0) (f := 7) (x := p) fX7_count_117 rfl rfl rfl rfl hC.p7 ?_
    refine w_getIx (o := (p).toNat) (f := 1) (x := μ p 1) fX7_count_120 (by omega) (pSh0 rfl rfl (by assumption)) (Nat.le_of_ble_eq_true rfl) rfl rfl ?_
    have hr5 := PI.bt hC.i
    have hr6 := PI.bt hI
    exact w_iretP dX7_count_123 rfl (by first | (subst q1; rfl) | (unfold cntC; repeat rw [if_neg (by omega)]))
  · refine w_tableIn (off := 123) (tgt := 124) dX7_count_1 (R32.in (by omega)) (by omega) (by omega) (by rw [q1]; rfl) rfl ?_
    refine w_aload_n dX7_count_124 rfl rfl (by first | decide | omega) ?_
    refine w_getDx (o := 0) (f := 7) (x := p) fX7_count_125 rfl rfl rfl rfl hC.p7 ?_
    refine w_getIx (o := (p).toNat) (f := 2) (x := μ p 2) fX7_count_128 (by omega) (pSh0 rfl rfl (by assumption)) (Nat.le_of_ble_eq_true rfl) rfl rfl ?_
    have hr7 := PI.un hC.i
    have hr8 := PI.un hI
    exact w_iretP dX7_count_131 rfl (by first | (subst q1; rfl) | (unfold cntC; repeat rw [if_neg (by omega)]))
  · refine w_tableIn (off := 131) (tgt := 132) dX7_count_1 (R32.in (by omega)) (by omega) (by omega) (by rw [q1]; rfl) rfl ?_
    refine w_aload_n dX7_count_132 rfl rfl (by first | decide | omega) ?_
    refine w_getDx (o := 0) (f := 7) (x := p) fX7_count_133 rfl rfl rfl rfl hC.p7 ?_
    refine w_getIx (o := (p).toNat) (f := 3) (x := μ p 3) fX7_count_136 (by omega) (pSh0 rfl rfl (by assumption)) (Nat.le_of_ble_eq_true rfl) rfl rfl ?_
    have hr9 := hC.kn
    exact w_iretP dX7_count_139 rfl (by first | (subst q1; rfl) | (unfold cntC; repeat rw [if_neg (by omega)]))
  · refine w_tableIn (off := 139) (tgt := 140) dX7_count_1 (R32.in (by omega)) (by omega) (by omega) (by rw [q1]; rfl) rfl ?_
    refine w_aload_n dX7_count_140 rfl rfl (by first | decide | omega) ?_
    refine w_getDx (o := 0) (f := 7) (x := p) fX7_count_141 rfl rfl rfl rfl hC.p7 ?_
    refine w_getIx (o := (p).toNat) (f := 4) (x := μ p 4) fX7_count_144 (by omega) (pSh0 rfl rfl (by assumption)) (Nat.le_of_ble_eq_true rfl) rfl rfl ?_
    have hr10 := PI.pc hC.i
    have hr11 := PI.pc hI
    exact w_iretP dX7_count_147 rfl (by first | (subst q1; rfl) | (unfold cntC; repeat rw [if_neg (by omega)]))
  · refine w_tableIn (off := 147) (tgt := 148) dX7_count_1 (R32.in (by omega)) (by omega) (by omega) (by rw [q1]; rfl) rfl ?_
    refine w_aload_n dX7_count_148 rfl rfl (by first | decide | omega) ?_
    refine w_getR (o := 0) (x := 3) fX7_count_149 rfl rfl rfl rfl ?_
    refine w_getIx (o := 3) (f := 2) (x := μ 3 2) fX7_count_152 rfl rfl (Nat.le_of_ble_eq_true rfl) rfl rfl ?_
    exact w_iretP dX7_count_155 rfl (by first | (subst q1; rfl) | (unfold cntC; repeat rw [if_neg (by omega)]))
  · refine w_tableIn (off := 155) (tgt := 156) dX7_count_1 (R32.in (by omega)) (by omega) (by omega) (by rw [q1]; rfl) rfl ?_
    refine w_aload_n dX7_count_156 rfl rfl (by first | decide | omega) ?_
    refine w_getR (o := 0) (x := 1) fX7_count_157 rfl rfl rfl rfl ?_
    refine w_getIx (o := 1) (f := 1) (x := μ 1 1) fX7_count_160 rfl rfl (Nat.le_of_ble_eq_true rfl) rfl rfl ?_
    exact w_iretP dX7_count_163 rfl (by first | (subst q1; rfl) | (unfold cntC; repeat rw [if_neg (by omega)]))
  · refine w_tableIn (off := 163) (tgt := 164) dX7_count_1 (R32.in (by omega)) (by omega) (by omega) (by rw [q1]; rfl) rfl ?_
    refine w_aload_n dX7_count_164 rfl rfl (by first | decide | omega) ?_
    refine w_getDx (o := 0) (f := 7) (x := p) fX7_count_165 rfl rfl rfl rfl hC.p7 ?_
    refine w_getR (o := (p).toNat) (x := p + 2) fX7_count_168 (by omega) (pSh0 rfl rfl (by assumption)) rfl (pRf 6 2 rfl rfl (by assumption)) ?_
    refine w_iconst dX7_count_171 ?_
    refine w_ialdx (o := (p + 2).toNat) (n := 4) (x := μ (p + 2) 0) dX7_count_172 (by omega) (pSh 2 rfl rfl (by assumption)) (Nat.le_of_ble_eq_true rfl) (by omega) rfl ?_
    have hr12 := PI.wd hC.i (q := p + 2) (i := 0) rfl (by omega)
    have hr13 := PI.wd hI (q := p + 2) (i := 0) rfl (by omega)
    exact w_iretP dX7_count_173 rfl (by first | (subst q1; rfl) | (unfold cntC; repeat rw [if_neg (by omega)]))
  · refine w_tableIn (off := 173) (tgt := 174) dX7_count_1 (R32.in (by omega)) (by omega) (by omega) (by rw [q1]; rfl) rfl ?_
    refine w_aload_n dX7_count_174 rfl rfl (by first | decide | omega) ?_
    refine w_getDx (o := 0) (f := 7) (x := p) fX7_count_175 rfl rfl rfl rfl hC.p7 ?_
    refine w_getR (o := (p).toNat) (x := p + 2) fX7_count_178 (by omega) (pSh0 rfl rfl (by assumption)) rfl (pRf 6 2 rfl rfl (by assumption)) ?_
    refine w_iconst dX7_count_181 ?_
    refine w_ialdx (o := (p + 2).toNat) (n := 4) (x := μ (p + 2) 1) dX7_count_182 (by omega) (pSh 2 rfl rfl (by assumption)) (Nat.le_of_ble_eq_true rfl) (by omega) rfl ?_
    have hr14 := PI.wd hC.i (q := p + 2) (i := 1) rfl (by omega)
    have hr15 := PI.wd hI (q := p + 2) (i := 1) rfl (by omega)
    exact w_iretP dX7_count_183 rfl (by first | (subst q1; rfl) | (unfold cntC; repeat rw [if_neg (by omega)]))
  · refine w_tableIn (off := 183) (tgt := 184) dX7_count_1 (R32.in (by omega)) (by omega) (by omega) (by rw [q1]; rfl) rfl ?_
    refine w_aload_n dX7_count_184 rfl rfl (by first | decide | omega) ?_
    refine w_getDx (o := 0) (f := 7) (x := p) fX7_count_185 rfl rfl rfl rfl hC.p7 ?_
    refine w_getR (o := (p).toNat) (x := p + 2) fX7_count_188 (by omega) (pSh0 rfl rfl (by assumption)) rfl (pRf 6 2 rfl rfl (by assumption)) ?_
    refine w_iconst dX7_count_191 ?_
    refine w_ialdx (o := (p + 2).toNat) (n := 4) (x := μ (p + 2) 2) dX7_count_192 (by omega) (pSh 2 rfl rfl (by assumption)) (Nat.le_of_ble_eq_true rfl) (by omega) rfl ?_
    have hr16 := PI.wd hC.i (q := p + 2) (i := 2) rfl (by omega)
    have hr17 := PI.wd hI (q := p + 2) (i := 2) rfl (by omega)
    exact w_iretP dX7_count_193 rfl (by first | (subst q1; rfl) | (unfold cntC; repeat rw [if_neg (by omega)]))
  · refine w_tableIn (off := 193) (tgt := 194) dX7_count_1 (R32.in (by omega)) (by omega) (by omega) (by rw [q1]; rfl) rfl ?_
    refine w_aload_n dX7_count_194 rfl rfl (by first | decide | omega) ?_
    refine w_getDx (o := 0) (f := 7) (x := p) fX7_count_195 rfl rfl rfl rfl hC.p7 ?_
    refine w_getR (o := (p).toNat) (x := p + 2) fX7_count_198 (by omega) (pSh0 rfl rfl (by assumption)) rfl (pRf 6 2 rfl rfl (by assumption)) ?_
    refine w_iconst dX7_count_201 ?_
    refine w_ialdx (o := (p + 2).toNat) (n := 4) (x := μ (p + 2) 3) dX7_count_202 (by omega) (pSh 2 rfl rfl (by assumption)) (Nat.le_of_ble_eq_true rfl) (by omega) rfl ?_
    have hr18 := PI.wd hC.i (q := p + 2) (i := 3) rfl (by omega)
    have hr19 := PI.wd hI (q := p + 2) (i := 3) rfl (by omega)
    exact w_iretP dX7_count_203 rfl (by first | (subst q1; rfl) | (unfold cntC; repeat rw [if_neg (by omega)]))
