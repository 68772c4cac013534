

set_option maxRecDepth 100000 in
set_option maxHeartbeats 4000000 in
theorem s_X7_total (X : AX) (p : Int) (w : Int) (μ : Mu) (hC : CJ μ p) (hw : -2147483648 ≤ w ∧ w ≤ 2147483647) : Wp (GG X) M_X7_total 0 [(2, 0), (0, w)] [] μ (qI 0 fun z μ' => (Fr 6 15 1 0 μ' μ) ∧ (z = if 0 ≤ w ∧ w ≤ 3 then totA (tst (ddt μ p (p + 5) (μ p 3)) (μ p 14)) w else -1)) := by
  have hI := hC.i
  have hG := hC.pg
  have hp := hI.at
  have hz := hI.sz
  have hgr := hG.gr
  have hkn := hC.kn
  refine w_iload_n dX7_total_0 rfl rfl ?_
  refine w_callSP (as := [(0, w)]) (rest := []) (k := 0) fX7_total_1 rfl rfl rfl rfl rfl (Nat.le_of_ble_eq_true rfl) (s_X6_isWhat X w μ (by first | omega | assumption)) ?_
  have hf1 := am_b_r (0 ≤ w ∧ w ≤ 3)
  refine w_if_ne (tgt := 9) dX7_total_4 rfl (R32.in (by have := am_b_r ((0 ≤ w ∧ w ≤ 3)); omega)) (fun c4 => ?_) (fun c4 => ?_)
  · skip
    replace c4 := am_b1 c4
    refine w_aload_n dX7_total_9 rfl rfl (by first | decide | omega) ?_
    refine w_getR (o := 0) (x := 15) fX7_total_10 rfl rfl rfl rfl ?_
    refine w_aload_n dX7_total_13 rfl rfl (by first | decide | omega) ?_
    refine w_getDx (o := 0) (f := 7) (x := p) fX7_total_14 rfl rfl rfl rfl hC.p7 ?_
    refine w_aload_n dX7_total_17 rfl rfl (by first | decide | omega) ?_
    refine w_getDx (o := 0) (f := 7) (x := p) fX7_total_18 rfl rfl rfl rfl hC.p7 ?_
    refine w_getR (o := (p).toNat) (x := p + 5) fX7_total_21 (by omega) (pSh0 rfl rfl (by assumption)) rfl (pRf 10 5 rfl rfl (by assumption)) ?_
    refine w_aload_n dX7_total_24 rfl rfl (by first | decide | omega) ?_
    refine w_getDx (o := 0) (f := 7) (x := p) fX7_total_25 rfl rfl rfl rfl hC.p7 ?_
    refine w_getIx (o := (p).toNat) (f := 3) (x := μ p 3) fX7_total_28 (by omega) (pSh0 rfl rfl (by assumption)) (Nat.le_of_ble_eq_true rfl) rfl rfl ?_
    have hr2 := hC.kn
    refine w_aload_n dX7_total_31 rfl rfl (by first | decide | omega) ?_
    refine w_getR (o := 0) (x := 6) fX7_total_32 rfl rfl rfl rfl ?_
    refine w_callVV (o := 15) (ci := 6) (as := [(2, p), (2, p + 5), (0, μ p 3), (2, 6)]) (rest := []) (k := 5) fX7_total_35 rfl rfl rfl rfl rfl rfl rfl rfl (Nat.le_of_ble_eq_true rfl) (s_X6_take X p (μ p 3) μ μ (fun o h1 => rfl) hI hG (hC.lda hkn)) (fun μT hμT => ?_)
    obtain ⟨hFT, h0_T, h1_T, h2_T, h3_T⟩ := hμT
    refine w_aload_n dX7_total_38 rfl rfl (by first | decide | omega) ?_
    refine w_getR (o := 0) (x := 15) fX7_total_39 rfl rfl rfl rfl ?_
    refine w_iload_n dX7_total_42 rfl rfl ?_
    refine w_callVP (o := 15) (ci := 6) (as := [(0, w)]) (rest := []) (k := 0) fX7_total_43 rfl rfl rfl rfl rfl rfl rfl rfl (Nat.le_of_ble_eq_true rfl) (s_X6_tell X w μT (by first | omega | assumption)) ?_
    exact w_iretI dX7_total_46 rfl ⟨hFT, (by exact ifT (by omega) ((by unfold totA; rw [h0_T, h1_T, h2_T, h3_T])))⟩
  · skip
    replace c4 := am_b0 c4
    refine w_iconst dX7_total_7 ?_
    exact w_iretI dX7_total_8 rfl ⟨Fr.rf, (by exact ifF (by omega) (rfl))⟩



set_option maxRecDepth 100000 in
set_option maxHeartbeats 4000000 in
theorem s_X7_tryShifted (X : AX) (p : Int) (t : Int) (μ ν : Mu) (hA9 : ∀ o : Int, (0 ≤ o ∧ o ≤ 0) ∨ (p ≤ o ∧ o ≤ p + 10) → ν o = μ o) (hC : CJ μ p) (ht : -24 ≤ t ∧ t ≤ 24) : Wp (GG X) M_X7_tryShifted 0 [(2, 0), (0, t), (9, 0)] [] ν (qI 0 fun z μ' => (Fr 19 19 1 0 μ' ν) ∧ ((z = 0 ∧ ¬ shB μ p t = true) ∨ (z = 1 ∧ shB μ p t = true)) ∧ (z = 1 → ∀ j : Int, 0 ≤ j → j < μ p 7 → μ' 19 j = shF μ p t j)) := by
  have hI := hC.i
  have hG := hC.pg
  have hp := hI.at
  have hz := hI.sz
  have hgr := hG.gr
  have hkn := hC.kn
  refine w_iconst dX7_tryShifted_0 ?_
  refine w_istore_n (ls' := [(2, 0), (0, t), (0, 0)]) dX7_tryShifted_1 rfl (Nat.le_of_ble_eq_true rfl) rfl rfl ?_
  have hL2 : ∀ (n2 : Nat) (i : Int) (μ1 : Mu), (μ p 7 - i).toNat = n2 → Fr 19 19 1 0 μ1 ν → (0 ≤ i ∧ i ≤ μ p 7) → (shI μ p t i = true) → (∀ j : Int, 0 ≤ j → j < i → μ1 19 j = shF μ p t j) → Wp (GG X) M_X7_tryShifted 2 [(2, 0), (0, t), (0, i)] [] μ1 (qI 0 fun z μ' => (Fr 19 19 1 0 μ' ν) ∧ ((z = 0 ∧ ¬ shB μ p t = true) ∨ (z = 1 ∧ shB μ p t = true)) ∧ (z = 1 → ∀ j : Int, 0 ≤ j → j < μ p 7 → μ' 19 j = shF μ p t j)) := by
    intro n2
    induction n2 using Nat.strongRecOn with
    | ind n2 ih2 =>
      intro i μ1 hn2 hF2 hi0 hb ht2
      refine w_iload_n dX7_tryShifted_2 rfl rfl ?_
      refine w_aload_n dX7_tryShifted_3 rfl rfl (by first | decide | omega) ?_
      refine w_getDx (o := 0) (f := 7) (x := p) fX7_tryShifted_4 rfl rfl rfl rfl ((congrFun (hF2.at (by omega) (by omega)) _).trans ((congrFun (hA9 _ (by omega)) _).trans hC.p7)) ?_
      refine w_getIx (o := (p).toNat) (f := 7) (x := μ p 7) fX7_tryShifted_7 (by omega) (pSh0 rfl rfl (by assumption)) (Nat.le_of_ble_eq_true rfl) rfl ((congrFun (hF2.at (by omega) (by omega)) _).trans (congrFun (hA9 _ (by omega)) _)) ?_
      have hr1 := PI.sz hC.i
      have hr2 := PI.sz hI
      refine w_icmp_ge (tgt := 66) dX7_tryShifted_10 rfl (R32.in (by omega)) (R32.in (by omega)) (fun c10 => ?_) (fun c10 => ?_)
      · skip
        refine w_iconst dX7_tryShifted_66 ?_
        exact w_zretI dX7_tryShifted_67 rfl (Or.inr rfl) ⟨hF2, (by have he : i = μ p 7 := (by omega); exact Or.inr ⟨rfl, by unfold shB; rw [← he]; exact hb⟩), (by exact fun _ j h1 h2 => ht2 j h1 (by omega))⟩
      · skip
        refine w_aload_n dX7_tryShifted_13 rfl rfl (by first | decide | omega) ?_
        refine w_getR (o := 0) (x := 19) fX7_tryShifted_14 rfl rfl rfl rfl ?_
        refine w_iload_n dX7_tryShifted_17 rfl rfl ?_
        refine w_aload_n dX7_tryShifted_18 rfl rfl (by first | decide | omega) ?_
        refine w_getDx (o := 0) (f := 7) (x := p) fX7_tryShifted_19 rfl rfl rfl rfl ((congrFun (hF2.at (by omega) (by omega)) _).trans ((congrFun (hA9 _ (by omega)) _).trans hC.p7)) ?_
        refine w_getR (o := (p).toNat) (x := p + 4) fX7_tryShifted_22 (by omega) (pSh0 rfl rfl (by assumption)) rfl (pRf 9 4 rfl rfl (by assumption)) ?_
        refine w_iload_n dX7_tryShifted_25 rfl rfl ?_
        refine w_zaldx (o := (p + 4).toNat) (n := 64) (x := μ (p + 4) i) dX7_tryShifted_26 (by omega) (pSh 4 rfl rfl (by assumption)) (Nat.le_of_ble_eq_true rfl) (by omega) ((congrFun (hF2.at (by omega) (by omega)) _).trans (congrFun (hA9 _ (by omega)) _)) ?_
        have hr3 := PI.so hC.i (q := p + 4) (i := i) rfl (by omega)
        have hr4 := PI.so hI (q := p + 4) (i := i) rfl (by omega)
        have hJ27_1 : ∀ z1_0 : Int, z1_0 = (if (μ (p + 4) i) = 0 then 0 else (μ (p + 5) i) + t) → Wp (GG X) M_X7_tryShifted 45 [(2, 0), (0, t), (0, i)] [(0, z1_0), (0, i), (2, 19)] μ1 (qI 0 fun z μ' => (Fr 19 19 1 0 μ' ν) ∧ ((z = 0 ∧ ¬ shB μ p t = true) ∨ (z = 1 ∧ shB μ p t = true)) ∧ (z = 1 → ∀ j : Int, 0 ≤ j → j < μ p 7 → μ' 19 j = shF μ p t j)) := by
          intro z1_0 hz1_0
          refine Wp.topE (b := shF μ p t i) (by unfold shF; omega) ?_
          refine w_iast (o := 19) (n := 64) dX7_tryShifted_45 rfl rfl (Nat.le_of_ble_eq_true rfl) (by omega) (by omega) ?_
          have hsf : shF μ p t i = if μ (p + 4) i = 0 then 0 else μ (p + 5) i + t := rfl
          have hhd := hI.hd (q := p + 5) (i := i) rfl (by omega)
          refine w_aload_n dX7_tryShifted_46 rfl rfl (by first | decide | omega) ?_
          refine w_getR (o := 0) (x := 19) fX7_tryShifted_47 rfl rfl rfl rfl ?_
          refine w_iload_n dX7_tryShifted_50 rfl rfl ?_
          refine w_ialdx (o := 19) (n := 64) (x := shF μ p t i) dX7_tryShifted_51 rfl rfl (Nat.le_of_ble_eq_true rfl) (by omega) am_up_at ?_
          refine w_callSP (as := [(0, shF μ p t i)]) (rest := []) (k := 0) fX7_tryShifted_52 rfl rfl rfl rfl rfl (Nat.le_of_ble_eq_true rfl) (s_X7_isPosition X (shF μ p t i) (am_up μ1 19 i (shF μ p t i)) (by first | omega | assumption)) ?_
          have hf5 := am_b_r (-12 ≤ (shF μ p t i) ∧ (shF μ p t i) ≤ 12)
          refine w_if_ne (tgt := 60) dX7_tryShifted_55 rfl (R32.in (by have := am_b_r ((-12 ≤ (shF μ p t i) ∧ (shF μ p t i) ≤ 12)); omega)) (fun c55 => ?_) (fun c55 => ?_)
          · skip
            replace c55 := am_b1 c55
            refine w_iinc (ls' := [(2, 0), (0, t), (0, i + 1)]) dX7_tryShifted_60 rfl (Nat.le_of_ble_eq_true rfl) rfl rfl ?_
            refine w_goto (tgt := 2) dX7_tryShifted_63 rfl ?_
            exact ih2 _ (by omega) (i + 1) (am_up μ1 19 i (shF μ p t i)) rfl (hF2.up (by omega)) (by first | omega | assumption) (shI_go hi0.1 hb (by omega)) (fillr (f := shF μ p t) ht2 rfl)
          · skip
            replace c55 := am_b0 c55
            refine w_iconst dX7_tryShifted_58 ?_
            exact w_zretI dX7_tryShifted_59 rfl (Or.inl rfl) ⟨(hF2.up (by omega)), (by exact Or.inl ⟨rfl, shI_no ⟨hi0.1, by omega⟩ (by omega)⟩), (by exact fun q => by omega)⟩
        refine w_if_eq (tgt := 44) dX7_tryShifted_27 rfl (R32.in (by omega)) (fun c27 => ?_) (fun c27 => ?_)
        · skip
          refine w_iconst dX7_tryShifted_44 ?_
          exact hJ27_1 _ (by first | omega | simp [*])
        · skip
          refine w_aload_n dX7_tryShifted_30 rfl rfl (by first | decide | omega) ?_
          refine w_getDx (o := 0) (f := 7) (x := p) fX7_tryShifted_31 rfl rfl rfl rfl ((congrFun (hF2.at (by omega) (by omega)) _).trans ((congrFun (hA9 _ (by omega)) _).trans hC.p7)) ?_
          refine w_getR (o := (p).toNat) (x := p + 5) fX7_tryShifted_34 (by omega) (pSh0 rfl rfl (by assumption)) rfl (pRf 10 5 rfl rfl (by assumption)) ?_
          refine w_iload_n dX7_tryShifted_37 rfl rfl ?_
          refine w_ialdx (o := (p + 5).toNat) (n := 64) (x := μ (p + 5) i) dX7_tryShifted_38 (by omega) (pSh 5 rfl rfl (by assumption)) (Nat.le_of_ble_eq_true rfl) (by omega) ((congrFun (hF2.at (by omega) (by omega)) _).trans (congrFun (hA9 _ (by omega)) _)) ?_
          have hr6 := PI.hd hC.i (q := p + 5) (i := i) rfl (by omega)
          have hr7 := PI.hd hI (q := p + 5) (i := i) rfl (by omega)
          refine w_iload_n dX7_tryShifted_39 rfl rfl ?_
          refine w_iadd dX7_tryShifted_40 ?_
          refine w_goto (tgt := 45) dX7_tryShifted_41 rfl ?_
          exact hJ27_1 _ (by first | omega | simp [*])
  exact hL2 _ 0 ν rfl Fr.rf (by first | omega | assumption) rfl (fun j h1 h2 => by omega)





