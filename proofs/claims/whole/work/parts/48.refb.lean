set_option maxRecDepth 100000 in
set_option maxHeartbeats 4000000 in
theorem s_X8_stretches (X : AX) (p : Int) (g : Int) (k : Int) (μ : Mu) (hC : CJ μ p) (hJ : RJ μ p) (hg : -2147483648 ≤ g ∧ g ≤ 2147483647) (hk : -2147483648 ≤ k ∧ k ≤ 2147483647) : Wp (GG X) M_X8_stretches 0 [(2, 45), (0, g), (0, k), (9, 0)] [] μ (qI 0 fun z μ' => (Fr 45 45 57 61 μ' μ) ∧ (z = if (0 ≤ g ∧ g < μ p 14) ∧ 1 ≤ k ∧ k ≤ 3 then (stN μ p k (μ (p + 9) g) (μ (p + 10) g)) else -1) ∧ (RJ μ' p) ∧ (∀ k : Int, (¬ k = 0 ∧ ¬ (21 ≤ k ∧ k ≤ 24) ∧ ¬ (29 ≤ k ∧ k ≤ 33)) → μ' 45 k = μ 45 k)) := by
  have hI := hC.i
  have hG := hC.pg
  have hp := hI.at
  have hz := hI.sz
  have hgr := hG.gr
  have hkn := hC.kn
  have hRA := hJ.rag hC
  refine w_aload_n dX8_stretches_0 rfl rfl (by first | decide | omega) ?_
  refine w_iconst dX8_stretches_1 ?_
  refine w_putI (o := 45) (f := 0) fX8_stretches_2 rfl rfl rfl rfl rfl ?_
  have hF_μ4 : Fr 45 45 57 61 (am_up μ 45 0 0) μ := (Fr.rf.up (by omega))
  have hA4 : RAg (ddt μ p (p + 5) (μ p 3)) (μ (p + 9)) (μ p 14) (am_up μ 45 0 0) := (RAg.cg2 hRA (fun o h1 => (am_up_o (by omega))) (fun k h1 => (am_up_nk (by omega))))
  have hJ4 : RJ (am_up μ 45 0 0) p := (RJ.cg2 hJ (fun o h1 => (am_up_o (by omega))) (fun k h1 => (am_up_nk (by omega))))
  have hj4 : RJz (am_up μ 45 0 0) p := hJ4.j0
  have hC4 : CJ (am_up μ 45 0 0) p := (CJ.cg hC (fun o h1 => (am_up_o (by omega))))
  have h564 : ∀ j : Int, 0 ≤ j → j < μ p 7 → (am_up μ 45 0 0) 56 j = μ (p + 5) j := (fun j h1 h2 => ((congrFun (am_up_o (by omega)) _).trans ((fun j h1 h2 => hJ.ht ⟨h1, h2⟩) j h1 h2)))
  have h194 : (am_up μ 45 0 0) 45 19 = μ p 3 := (((am_up_nk (by omega)).trans hJ.f19).trans (by rfl))
  have hff4 : ∀ k : Int, ¬ k = 0 → (am_up μ 45 0 0) 45 k = μ 45 k := (fun k h1 => (am_up_nk (by omega)))
  refine Wp.mu (fun μ4 hμ4 => ?_)
  rw [← hμ4] at hF_μ4 hA4 hJ4 hj4 hC4 h564 h194 hff4
  clear hμ4
  have e4 : ∀ o : Int, p ≤ o ∧ o ≤ p + 10 → μ4 o = μ o := fun o h1 => hF_μ4.at (by omega) (by omega)
  have e47 : μ4 p 7 = μ p 7 := congrFun (e4 p (by omega)) _
  have e414 : μ4 p 14 = μ p 14 := congrFun (e4 p (by omega)) _
  refine w_aload_n dX8_stretches_5 rfl rfl (by first | decide | omega) ?_
  refine w_iload_n dX8_stretches_6 rfl rfl ?_
  refine w_callVP (o := 45) (ci := 8) (as := [(0, g)]) (rest := []) (k := 0) fX8_stretches_7 rfl rfl rfl rfl rfl rfl rfl rfl (Nat.le_of_ble_eq_true rfl) (s_X8_isGroup X p g μ4 hC4 hJ4 (by first | omega | assumption)) ?_
  have hf1 := am_b_r (0 ≤ g ∧ g < μ4 p 14)
  refine w_if_eq (tgt := 22) dX8_stretches_10 rfl (R32.in (by have := am_b_r ((0 ≤ g ∧ g < μ4 p 14)); omega)) (fun c10 => ?_) (fun c10 => ?_)
  · skip
    replace c10 := am_b0 c10
    refine w_iconst dX8_stretches_22 ?_
    exact w_iretI dX8_stretches_23 rfl ⟨hF_μ4, (by exact ifF (by omega) rfl), hJ4, (fun k h1 => (hff4 k (by omega)))⟩
  · skip
    replace c10 := am_b1 c10
    refine w_iload_n dX8_stretches_13 rfl rfl ?_
    refine w_iconst dX8_stretches_14 ?_
    refine w_iconst dX8_stretches_15 ?_
    refine w_callSP (as := [(0, k), (0, 1), (0, 3)]) (rest := []) (k := 0) fX8_stretches_16 rfl rfl rfl rfl rfl (Nat.le_of_ble_eq_true rfl) (s_X8_isIn X k 1 3 μ4 (by first | omega | assumption) (by first | omega | assumption) (by first | omega | assumption)) ?_
    have hf2 := am_b_r (1 ≤ k ∧ k ≤ 3)
    refine w_if_ne (tgt := 24) dX8_stretches_19 rfl (R32.in (by have := am_b_r ((1 ≤ k ∧ k ≤ 3)); omega)) (fun c19 => ?_) (fun c19 => ?_)
    · skip
      replace c19 := am_b1 c19
      refine w_iconst dX8_stretches_24 ?_
      refine w_istore_n (ls' := [(2, 45), (0, g), (0, k), (0, 0)]) dX8_stretches_25 rfl (Nat.le_of_ble_eq_true rfl) rfl rfl ?_
      have hL26 : ∀ (n26 : Nat) (n : Int) (μ1 : Mu), (μ (p + 10) g - n).toNat = n26 → Fr 45 45 57 61 μ1 μ → (0 ≤ n ∧ n ≤ (stN μ p k (μ (p + 9) g) (μ (p + 10) g))) → (RJ μ1 p) → (∀ k : Int, (¬ k = 0 ∧ ¬ (21 ≤ k ∧ k ≤ 24) ∧ ¬ (29 ≤ k ∧ k ≤ 33)) → μ1 45 k = μ 45 k) → Wp (GG X) M_X8_stretches 26 [(2, 45), (0, g), (0, k), (0, n)] [] μ1 (qI 0 fun z μ' => (Fr 45 45 57 61 μ' μ) ∧ (z = if (0 ≤ g ∧ g < μ p 14) ∧ 1 ≤ k ∧ k ≤ 3 then (stN μ p k (μ (p + 9) g) (μ (p + 10) g)) else -1) ∧ (RJ μ' p) ∧ (∀ k : Int, (¬ k = 0 ∧ ¬ (21 ≤ k ∧ k ≤ 24) ∧ ¬ (29 ≤ k ∧ k ≤ 33)) → μ' 45 k = μ 45 k)) := by
        intro n26
        induction n26 using Nat.strongRecOn with
        | ind n26 ih26 =>
          intro n μ1 hn26 hF26 hn0 hJ1 hfA
          have e1 : ∀ o : Int, p ≤ o ∧ o ≤ p + 10 → μ1 o = μ o := fun o h1 => hF26.at (by omega) (by omega)
          have hfl := hG.fl (g := g) (by omega)
          have hsr := stN_r (μ := μ) (p := p) (k := k) (f := (μ (p + 9) g)) (i := μ (p + 10) g) (by omega)
          refine w_aload_n dX8_stretches_26 rfl rfl (by first | decide | omega) ?_
          refine w_iload_n dX8_stretches_27 rfl rfl ?_
          refine w_iload_n dX8_stretches_28 rfl rfl ?_
          refine w_iload_n dX8_stretches_29 rfl rfl ?_
          refine w_callVI (o := 45) (ci := 8) (as := [(0, g), (0, k), (0, n)]) (rest := []) (k := 2) fX8_stretches_30 rfl rfl rfl rfl rfl rfl rfl rfl (Nat.le_of_ble_eq_true rfl) (s_X8_stretchAt X p g k n μ1 (CJ.cg hC (fun o h1 => (hF26.at (by omega) (by omega)))) hJ1 (by rw [e1 p (by omega)]; omega) (by first | omega | assumption) (by first | omega | assumption)) (fun xA μA hμA => ?_)
          obtain ⟨hFA, hz_A⟩ := hμA
          rw [SA_cg e1, e1 (p + 9) (by omega), e1 (p + 10) (by omega)] at hz_A
          have hxr : xA = -1 ∨ (0 ≤ xA ∧ xA < 64) := by rcases hz_A with q | q; exact Or.inl q.1; exact Or.inr (by omega)
          refine w_iconst dX8_stretches_33 ?_
          refine w_icmp_eq (tgt := 43) dX8_stretches_34 rfl (R32.in (by omega)) (R32.in (by decide)) (fun c34 => ?_) (fun c34 => ?_)
          · skip
            refine w_iload_n dX8_stretches_43 rfl rfl ?_
            exact w_iretI dX8_stretches_44 rfl ⟨((hFA.wd (by omega) (by omega)).tr hF26), (by rw [c34] at hz_A; exact ifT (by omega) (by have := SA_end hz_A hfl.1; omega)), (RJ.cg2 hJ1 (fun o h1 => (hFA.at (by omega) (by omega))) (fun k h1 => (congrFun (hFA.at (by omega) (by omega)) _))), (fun k h1 => ((congrFun (hFA.at (by omega) (by omega)) _).trans (hfA k (by omega))))⟩
          · skip
            have hmo := SA_more hz_A c34
            refine w_iinc (ls' := [(2, 45), (0, g), (0, k), (0, n + 1)]) dX8_stretches_37 rfl (Nat.le_of_ble_eq_true rfl) rfl rfl ?_
            refine w_goto (tgt := 26) dX8_stretches_40 rfl ?_
            exact ih26 _ (by omega) (n + 1) μA rfl ((hFA.wd (by omega) (by omega)).tr hF26) (by have := SA_more hz_A c34; omega) (RJ.cg2 hJ1 (fun o h1 => (hFA.at (by omega) (by omega))) (fun k h1 => (congrFun (hFA.at (by omega) (by omega)) _))) (fun k h1 => ((congrFun (hFA.at (by omega) (by omega)) _).trans (hfA k (by omega))))
      exact hL26 _ 0 μ4 rfl hF_μ4 (by have hfl := hG.fl (g := g) (by omega); have hsr := stN_r (μ := μ) (p := p) (k := k) (f := (μ (p + 9) g)) (i := μ (p + 10) g) (by omega); omega) hJ4 (fun k h1 => (hff4 k (by omega)))
    · skip
      replace c19 := am_b0 c19
      refine w_iconst dX8_stretches_22 ?_
      exact w_iretI dX8_stretches_23 rfl ⟨hF_μ4, (by exact ifF (by omega) rfl), hJ4, (fun k h1 => (hff4 k (by omega)))⟩

set_option maxRecDepth 100000 in
set_option maxHeartbeats 4000000 in
theorem s_X8_stretch (X : AX) (p : Int) (g : Int) (k : Int) (n : Int) (w : Int) (μ : Mu) (hC : CJ μ p) (hJ : RJ μ p) (hg : -2147483648 ≤ g ∧ g ≤ 2147483647) (hk : -2147483648 ≤ k ∧ k ≤ 2147483647) (hn : -2147483648 ≤ n ∧ n ≤ 2147483647) (hw : -2147483648 ≤ w ∧ w ≤ 2147483647) : Wp (GG X) M_X8_stretch 0 [(2, 45), (0, g), (0, k), (0, n), (0, w), (9, 0), (9, 0)] [] μ (qI 0 fun z μ' => (Fr 45 45 57 61 μ' μ) ∧ ((((0 ≤ g ∧ g < μ p 14) ∧ (1 ≤ k ∧ k ≤ 3) ∧ 0 ≤ n ∧ 0 ≤ w ∧ w ≤ 2) ∧ stP μ p k (μ (p + 9) g) (μ (p + 10) g) n w z) ∨ (¬ ((0 ≤ g ∧ g < μ p 14) ∧ (1 ≤ k ∧ k ≤ 3) ∧ 0 ≤ n ∧ 0 ≤ w ∧ w ≤ 2) ∧ z = -1)) ∧ (RJ μ' p) ∧ (∀ k : Int, (¬ k = 0 ∧ ¬ (21 ≤ k ∧ k ≤ 24) ∧ ¬ (29 ≤ k ∧ k ≤ 33)) → μ' 45 k = μ 45 k)) := by
  have hI := hC.i
  have hG := hC.pg
  have hp := hI.at
  have hz := hI.sz
  have hgr := hG.gr
  have hkn := hC.kn
  have hRA := hJ.rag hC
  refine w_aload_n dX8_stretch_0 rfl rfl (by first | decide | omega) ?_
  refine w_iconst dX8_stretch_1 ?_
  refine w_putI (o := 45) (f := 0) fX8_stretch_2 rfl rfl rfl rfl rfl ?_
  have hF_μ4 : Fr 45 45 57 61 (am_up μ 45 0 0) μ := (Fr.rf.up (by omega))
  have hA4 : RAg (ddt μ p (p + 5) (μ p 3)) (μ (p + 9)) (μ p 14) (am_up μ 45 0 0) := (RAg.cg2 hRA (fun o h1 => (am_up_o (by omega))) (fun k h1 => (am_up_nk (by omega))))
  have hJ4 : RJ (am_up μ 45 0 0) p := (RJ.cg2 hJ (fun o h1 => (am_up_o (by omega))) (fun k h1 => (am_up_nk (by omega))))
  have hj4 : RJz (am_up μ 45 0 0) p := hJ4.j0
  have hC4 : CJ (am_up μ 45 0 0) p := (CJ.cg hC (fun o h1 => (am_up_o (by omega))))
  have h564 : ∀ j : Int, 0 ≤ j → j < μ p 7 → (am_up μ 45 0 0) 56 j = μ (p + 5) j := (fun j h1 h2 => ((congrFun (am_up_o (by omega)) _).trans ((fun j h1 h2 => hJ.ht ⟨h1, h2⟩) j h1 h2)))
  have h194 : (am_up μ 45 0 0) 45 19 = μ p 3 := (((am_up_nk (by omega)).trans hJ.f19).trans (by rfl))
  have hff4 : ∀ k : Int, ¬ k = 0 → (am_up μ 45 0 0) 45 k = μ 45 k := (fun k h1 => (am_up_nk (by omega)))
  refine Wp.mu (fun μ4 hμ4 => ?_)
  rw [← hμ4] at hF_μ4 hA4 hJ4 hj4 hC4 h564 h194 hff4
  clear hμ4
  have e4 : ∀ o : Int, p ≤ o ∧ o ≤ p + 10 → μ4 o = μ o := fun o h1 => hF_μ4.at (by omega) (by omega)
  have e47 : μ4 p 7 = μ p 7 := congrFun (e4 p (by omega)) _
  have e414 : μ4 p 14 = μ p 14 := congrFun (e4 p (by omega)) _
  refine w_aload_n dX8_stretch_5 rfl rfl (by first | decide | omega) ?_
  refine w_iload_n dX8_stretch_6 rfl rfl ?_
  refine w_callVP (o := 45) (ci := 8) (as := [(0, g)]) (rest := []) (k := 0) fX8_stretch_7 rfl rfl rfl rfl rfl rfl rfl rfl (Nat.le_of_ble_eq_true rfl) (s_X8_isGroup X p g μ4 hC4 hJ4 (by first | omega | assumption)) ?_
  have hf1 := am_b_r (0 ≤ g ∧ g < μ4 p 14)
  refine w_if_eq (tgt := 36) dX8_stretch_10 rfl (R32.in (by have := am_b_r ((0 ≤ g ∧ g < μ4 p 14)); omega)) (fun c10 => ?_) (fun c10 => ?_)
  · skip
    replace c10 := am_b0 c10
    refine w_iconst dX8_stretch_36 ?_
    exact w_iretI dX8_stretch_37 rfl ⟨hF_μ4, (by exact Or.inr ⟨by omega, rfl⟩), hJ4, (fun k h1 => (hff4 k (by omega)))⟩
  · skip
    replace c10 := am_b1 c10
    refine w_iload_n dX8_stretch_13 rfl rfl ?_
    refine w_iconst dX8_stretch_14 ?_
    refine w_iconst dX8_stretch_15 ?_
    refine w_callSP (as := [(0, k), (0, 1), (0, 3)]) (rest := []) (k := 0) fX8_stretch_16 rfl rfl rfl rfl rfl (Nat.le_of_ble_eq_true rfl) (s_X8_isIn X k 1 3 μ4 (by first | omega | assumption) (by first | omega | assumption) (by first | omega | assumption)) ?_
    have hf2 := am_b_r (1 ≤ k ∧ k ≤ 3)
    refine w_if_eq (tgt := 36) dX8_stretch_19 rfl (R32.in (by have := am_b_r ((1 ≤ k ∧ k ≤ 3)); omega)) (fun c19 => ?_) (fun c19 => ?_)
    · skip
      replace c19 := am_b0 c19
      refine w_iconst dX8_stretch_36 ?_
      exact w_iretI dX8_stretch_37 rfl ⟨hF_μ4, (by exact Or.inr ⟨by omega, rfl⟩), hJ4, (fun k h1 => (hff4 k (by omega)))⟩
    · skip
      replace c19 := am_b1 c19
      refine w_iload_n dX8_stretch_22 rfl rfl ?_
      refine w_if_lt (tgt := 36) dX8_stretch_23 rfl (R32.in (by omega)) (fun c23 => ?_) (fun c23 => ?_)
      · skip
        refine w_iconst dX8_stretch_36 ?_
        exact w_iretI dX8_stretch_37 rfl ⟨hF_μ4, (by exact Or.inr ⟨by omega, rfl⟩), hJ4, (fun k h1 => (hff4 k (by omega)))⟩
      · skip
        refine w_iload dX8_stretch_26 rfl ?_
        refine w_iconst dX8_stretch_28 ?_
        refine w_iconst dX8_stretch_29 ?_
        refine w_callSP (as := [(0, w), (0, 0), (0, 2)]) (rest := []) (k := 0) fX8_stretch_30 rfl rfl rfl rfl rfl (Nat.le_of_ble_eq_true rfl) (s_X8_isIn X w 0 2 μ4 (by first | omega | assumption) (by first | omega | assumption) (by first | omega | assumption)) ?_
        have hf3 := am_b_r (0 ≤ w ∧ w ≤ 2)
        refine w_if_ne (tgt := 38) dX8_stretch_33 rfl (R32.in (by have := am_b_r ((0 ≤ w ∧ w ≤ 2)); omega)) (fun c33 => ?_) (fun c33 => ?_)
        · skip
          replace c33 := am_b1 c33
          refine w_aload_n dX8_stretch_38 rfl rfl (by first | decide | omega) ?_
          refine w_iload_n dX8_stretch_39 rfl rfl ?_
          refine w_iload_n dX8_stretch_40 rfl rfl ?_
          refine w_iload_n dX8_stretch_41 rfl rfl ?_
          refine w_callVI (o := 45) (ci := 8) (as := [(0, g), (0, k), (0, n)]) (rest := []) (k := 2) fX8_stretch_42 rfl rfl rfl rfl rfl rfl rfl rfl (Nat.le_of_ble_eq_true rfl) (s_X8_stretchAt X p g k n μ4 hC4 hJ4 (by omega) (by first | omega | assumption) (by first | omega | assumption)) (fun xA μA hμA => ?_)
          obtain ⟨hFA, hz_A⟩ := hμA
          rw [SA_cg e4, e4 (p + 9) (by omega), e4 (p + 10) (by omega)] at hz_A
          have hfl := hG.fl (g := g) (by omega)
          have eA : ∀ o : Int, p ≤ o ∧ o ≤ p + 10 → μA o = μ o := fun o h1 => (hFA.at (by omega) (by omega)).trans (e4 o h1)
          have hxr : xA = -1 ∨ (0 ≤ xA ∧ xA < 64) := by rcases hz_A with q | q; exact Or.inl q.1; exact Or.inr (by omega)
          refine w_istore (ls' := [(2, 45), (0, g), (0, k), (0, n), (0, w), (0, xA), (9, 0)]) dX8_stretch_45 (Nat.le_of_ble_eq_true rfl) rfl rfl ?_
          refine w_iload dX8_stretch_47 rfl ?_
          refine w_iconst dX8_stretch_49 ?_
          refine w_icmp_ne (tgt := 56) dX8_stretch_50 rfl (R32.in (by omega)) (R32.in (by decide)) (fun c50 => ?_) (fun c50 => ?_)
          · skip
            have hSA := (hz_A.resolve_left (fun h => c50 h.1)).1
            refine w_aload_n dX8_stretch_56 rfl rfl (by first | decide | omega) ?_
            refine w_iload_n dX8_stretch_57 rfl rfl ?_
            refine w_iload dX8_stretch_58 rfl ?_
            refine w_iload_n dX8_stretch_60 rfl rfl ?_
            refine w_callVI (o := 45) (ci := 8) (as := [(0, g), (0, xA), (0, k)]) (rest := []) (k := 1) fX8_stretch_61 rfl rfl rfl rfl rfl rfl rfl rfl (Nat.le_of_ble_eq_true rfl) (s_X8_stretchEnd X p g xA k μA (CJ.cg hC4 (fun o h1 => (hFA.at (by omega) (by omega)))) (RJ.cg2 hJ4 (fun o h1 => (hFA.at (by omega) (by omega))) (fun k h1 => (congrFun (hFA.at (by omega) (by omega)) _))) (by rw [eA p (by omega)]; omega) (by rw [eA (p + 9) (by omega), eA (p + 10) (by omega)]; omega) (by first | omega | assumption)) (fun xE μE hμE => ?_)
            obtain ⟨hFE, hz_E⟩ := hμE
            rw [SE_cg eA, eA (p + 9) (by omega), eA (p + 10) (by omega)] at hz_E
            have hSE := hz_E.1
            have hste := SE_ste (by omega) hz_E
            refine w_istore (ls' := [(2, 45), (0, g), (0, k), (0, n), (0, w), (0, xA), (0, xE)]) dX8_stretch_64 (Nat.le_of_ble_eq_true rfl) rfl rfl ?_
            refine w_iload dX8_stretch_66 rfl ?_
            refine w_if_ne (tgt := 76) dX8_stretch_68 rfl (R32.in (by omega)) (fun c68 => ?_) (fun c68 => ?_)
            · skip
              refine w_iload dX8_stretch_76 rfl ?_
              refine w_iconst dX8_stretch_78 ?_
              refine w_icmp_ne (tgt := 87) dX8_stretch_79 rfl (R32.in (by omega)) (R32.in (by decide)) (fun c79 => ?_) (fun c79 => ?_)
              · skip
                refine w_aload_n dX8_stretch_87 rfl rfl (by first | decide | omega) ?_
                refine w_getR (o := 45) (x := 52) fX8_stretch_88 rfl rfl rfl rfl ?_
                refine w_iload dX8_stretch_91 rfl ?_
                refine w_ialdx (o := 52) (n := 64) (x := μ (p + 7) xE) dX8_stretch_93 rfl rfl (Nat.le_of_ble_eq_true rfl) (by omega) ((congrFun (hFE.at (by omega) (by omega)) _).trans ((congrFun (hFA.at (by omega) (by omega)) _).trans ((congrFun (hF_μ4.at (by omega) (by omega)) _).trans (hJ.xs (by omega))))) ?_
                have hr6 := PI.xs hI (q := p + 7) (i := xE) rfl (by omega)
                refine w_aload_n dX8_stretch_94 rfl rfl (by first | decide | omega) ?_
                refine w_getR (o := 45) (x := 52) fX8_stretch_95 rfl rfl rfl rfl ?_
                refine w_iload dX8_stretch_98 rfl ?_
                refine w_ialdx (o := 52) (n := 64) (x := μ (p + 7) xA) dX8_stretch_100 rfl rfl (Nat.le_of_ble_eq_true rfl) (by omega) ((congrFun (hFE.at (by omega) (by omega)) _).trans ((congrFun (hFA.at (by omega) (by omega)) _).trans ((congrFun (hF_μ4.at (by omega) (by omega)) _).trans (hJ.xs (by omega))))) ?_
                have hr7 := PI.xs hI (q := p + 7) (i := xA) rfl (by omega)
                refine w_isub dX8_stretch_101 ?_
                exact w_iretI dX8_stretch_102 rfl ⟨((hFE.wd (by omega) (by omega)).tr ((hFA.wd (by omega) (by omega)).tr hF_μ4)), (by exact Or.inl ⟨by omega, SA_stP (e := 0) hz_A c50 (by rw [hste]; omega)⟩), (RJ.cg2 hJ4 (fun o h1 => ((hFE.at (by omega) (by omega)).trans (hFA.at (by omega) (by omega)))) (fun k h1 => ((congrFun (hFE.at (by omega) (by omega)) _).trans (congrFun (hFA.at (by omega) (by omega)) _)))), (fun k h1 => ((congrFun (hFE.at (by omega) (by omega)) _).trans ((congrFun (hFA.at (by omega) (by omega)) _).trans (hff4 k (by omega)))))⟩
              · skip
                refine w_iload dX8_stretch_82 rfl ?_
                refine w_goto (tgt := 102) dX8_stretch_84 rfl ?_
                exact w_iretI dX8_stretch_102 rfl ⟨((hFE.wd (by omega) (by omega)).tr ((hFA.wd (by omega) (by omega)).tr hF_μ4)), (by exact Or.inl ⟨by omega, SA_stP (e := 0) hz_A c50 (by rw [hste]; omega)⟩), (RJ.cg2 hJ4 (fun o h1 => ((hFE.at (by omega) (by omega)).trans (hFA.at (by omega) (by omega)))) (fun k h1 => ((congrFun (hFE.at (by omega) (by omega)) _).trans (congrFun (hFA.at (by omega) (by omega)) _)))), (fun k h1 => ((congrFun (hFE.at (by omega) (by omega)) _).trans ((congrFun (hFA.at (by omega) (by omega)) _).trans (hff4 k (by omega)))))⟩
            · skip
              refine w_iload dX8_stretch_71 rfl ?_
              refine w_goto (tgt := 102) dX8_stretch_73 rfl ?_
              exact w_iretI dX8_stretch_102 rfl ⟨((hFE.wd (by omega) (by omega)).tr ((hFA.wd (by omega) (by omega)).tr hF_μ4)), (by exact Or.inl ⟨by omega, SA_stP (e := 0) hz_A c50 (by rw [hste]; omega)⟩), (RJ.cg2 hJ4 (fun o h1 => ((hFE.at (by omega) (by omega)).trans (hFA.at (by omega) (by omega)))) (fun k h1 => ((congrFun (hFE.at (by omega) (by omega)) _).trans (congrFun (hFA.at (by omega) (by omega)) _)))), (fun k h1 => ((congrFun (hFE.at (by omega) (by omega)) _).trans ((congrFun (hFA.at (by omega) (by omega)) _).trans (hff4 k (by omega)))))⟩
          · skip
            refine w_bipush dX8_stretch_53 (by decide) ?_
            exact w_iretI dX8_stretch_55 rfl ⟨((hFA.wd (by omega) (by omega)).tr hF_μ4), (by rw [c50] at hz_A; exact Or.inl ⟨by omega, Or.inr ⟨SA_end hz_A hfl.1, rfl⟩⟩), (RJ.cg2 hJ4 (fun o h1 => (hFA.at (by omega) (by omega))) (fun k h1 => (congrFun (hFA.at (by omega) (by omega)) _))), (fun k h1 => ((congrFun (hFA.at (by omega) (by omega)) _).trans (hff4 k (by omega))))⟩
        · skip
          replace c33 := am_b0 c33
          refine w_iconst dX8_stretch_36 ?_
          exact w_iretI dX8_stretch_37 rfl ⟨hF_μ4, (by exact Or.inr ⟨by omega, rfl⟩), hJ4, (fun k h1 => (hff4 k (by omega)))⟩

set_option maxRecDepth 100000 in
set_option maxHeartbeats 4000000 in
theorem s_X8_uglyOf (X : AX) (p : Int) (g : Int) (f : Int) (m : Int) (μ : Mu) (hC : CJ μ p) (hJ : RJ μ p) (hg : 0 ≤ g ∧ g < μ p 14) (hfm : (μ (p + 9) g) ≤ f ∧ f + m ≤ (μ (p + 9) g) + μ (p + 10) g ∧ 1 ≤ m) : Wp (GG X) M_X8_uglyOf 0 [(2, 45), (0, f), (0, m)] [] μ (qI 0 fun z μ' => (Fr 45 45 54 61 μ' μ) ∧ (z = uglR (uglG μ p) f m) ∧ (RJ μ' p) ∧ (∀ k : Int, (¬ (21 ≤ k ∧ k ≤ 24) ∧ ¬ (29 ≤ k ∧ k ≤ 33)) → μ' 45 k = μ 45 k)) := by
  have hI := hC.i
  have hG := hC.pg
  have hp := hI.at
  have hz := hI.sz
  have hgr := hG.gr
  have hkn := hC.kn
  have hfl := hG.fl hg
  refine w_iload_n dX8_uglyOf_0 rfl rfl ?_
  refine w_iconst dX8_uglyOf_1 ?_
  refine w_icmp_ne (tgt := 7) dX8_uglyOf_2 rfl (R32.in (by omega)) (R32.in (by decide)) (fun c2 => ?_) (fun c2 => ?_)
  · skip
    refine w_aload_n dX8_uglyOf_7 rfl rfl (by first | decide | omega) ?_
    refine w_getR (o := 45) (x := 54) fX8_uglyOf_8 rfl rfl rfl rfl ?_
    refine w_bipush dX8_uglyOf_11 (by decide) ?_
    refine w_iload_n dX8_uglyOf_13 rfl rfl ?_
    refine w_iast (o := 54) (n := 33) dX8_uglyOf_14 rfl rfl (Nat.le_of_ble_eq_true rfl) (by omega) (by omega) ?_
    refine w_aload_n dX8_uglyOf_15 rfl rfl (by first | decide | omega) ?_
    refine w_getR (o := 45) (x := 55) fX8_uglyOf_16 rfl rfl rfl rfl ?_
    refine w_bipush dX8_uglyOf_19 (by decide) ?_
    refine w_iload_n dX8_uglyOf_21 rfl rfl ?_
    refine w_iast (o := 55) (n := 33) dX8_uglyOf_22 rfl rfl (Nat.le_of_ble_eq_true rfl) (by omega) (by omega) ?_
    have hF_μ5 : Fr 45 45 54 61 (am_up (am_up μ 54 32 f) 55 32 m) μ := ((Fr.rf.up (by omega)).up (by omega))
    have h545 : ∀ j : Int, 0 ≤ j → j < 32 → (am_up (am_up μ 54 32 f) 55 32 m) 54 j = μ 54 j := (fun j h1 h2 => (congrFun (am_up_o (by omega)) _).trans (am_up_nk (by omega)))
    have h555 : ∀ j : Int, 0 ≤ j → j < 32 → (am_up (am_up μ 54 32 f) 55 32 m) 55 j = μ 55 j := (fun j h1 h2 => (am_up_nk (by omega)).trans (congrFun (am_up_o (by omega)) _))
    have h565 : (am_up (am_up μ 54 32 f) 55 32 m) 56 = μ 56 := ((am_up_o (by omega)).trans (am_up_o (by omega)))
    have hs54 : (am_up (am_up μ 54 32 f) 55 32 m) 54 32 = f := (((congrFun (am_up_o (by first | decide | omega)) _).trans am_up_at).trans (by rfl))
    have hs55 : (am_up (am_up μ 54 32 f) 55 32 m) 55 32 = m := (am_up_at.trans (by rfl))
    have hff5 : ∀ k : Int, (0 : Int) = 0 → (am_up (am_up μ 54 32 f) 55 32 m) 45 k = μ 45 k := (fun k h1 => ((congrFun (am_up_o (by omega)) _).trans (congrFun (am_up_o (by omega)) _)))
    refine Wp.mu (fun μ5 hμ5 => ?_)
    rw [← hμ5] at hF_μ5 h545 h555 h565 hs54 hs55 hff5
    clear hμ5
    have e5 : ∀ o : Int, p ≤ o ∧ o ≤ p + 10 → μ5 o = μ o := fun o h1 => hF_μ5.at (by omega) (by omega)
    have hJ5 : RJ μ5 p := RJ.of_s hJ hC hF_μ5 (fun k h1 => hff5 k rfl) h545 h555 h565
    have hG5 : RGs (uglG μ p f m) f 32 μ5 := hJ5.j0.rgf (hf := μ (p + 5)) hC e5 (by omega) (by omega) hs54 hs55 hkn (hJ5.f19.trans (congrFun (e5 p (by omega)) 3)) (fun i a b => ⟨by have q9 := hG.of hg (i := i) (by omega); omega, hC.bm hg (by omega)⟩) (fun i a b => ⟨(congrFun h565 i).trans (hJ.ht (by omega)), hI.hd (q := p + 5) rfl (by omega)⟩)
    refine w_aload_n dX8_uglyOf_23 rfl rfl (by first | decide | omega) ?_
    refine w_bipush dX8_uglyOf_24 (by decide) ?_
    refine w_iconst dX8_uglyOf_26 ?_
    refine w_callVI (o := 45) (ci := 8) (as := [(0, 32), (0, 2)]) (rest := []) (k := 1) fX8_uglyOf_27 rfl rfl rfl rfl rfl rfl rfl rfl (Nat.le_of_ble_eq_true rfl) (s_X8_bestOf X (uglG μ p f m) f 32 2 μ5 hG5 (by first | omega | assumption)) (fun xB μB hμB => ?_)
    obtain ⟨hFB, hz_B, hS_B, hf_B⟩ := hμB
    exact w_iretI dX8_uglyOf_30 rfl ⟨((hFB.wd (by omega) (by omega)).tr hF_μ5), (by unfold uglR; exact hz_B.trans (if_neg c2).symm), (RJ.cg2 hJ5 (fun o h1 => (hFB.at (by omega) (by omega))) (fun k h1 => (hf_B _ (by omega)))), (fun k h1 => ((hf_B k (by omega)).trans (hff5 k (by omega))))⟩
  · skip
    refine w_iconst dX8_uglyOf_5 ?_
    exact w_iretI dX8_uglyOf_6 rfl ⟨Fr.rf, (by unfold uglR; exact (if_pos c2).symm), hJ, (fun k h1 => rfl)⟩

set_option maxRecDepth 100000 in
set_option maxHeartbeats 4000000 in
theorem s_X8_cutAt (X : AX) (p : Int) (g : Int) (k : Int) (μ : Mu) (hC : CJ μ p) (hJ : RJ μ p) (hg : 0 ≤ g ∧ g < μ p 14) (hk : 1 ≤ k ∧ k < μ (p + 10) g) : Wp (GG X) M_X8_cutAt 0 [(2, 45), (0, g), (0, k), (9, 0), (9, 0)] [] μ (qI 0 fun z μ' => (Fr 45 45 54 61 μ' μ) ∧ (z = cutP (uglG μ p) (μ (p + 9) g) (μ (p + 10) g) k ∧ -2 ≤ z ∧ z ≤ 11760) ∧ (RJ μ' p) ∧ (∀ k : Int, (¬ (21 ≤ k ∧ k ≤ 24) ∧ ¬ (29 ≤ k ∧ k ≤ 33)) → μ' 45 k = μ 45 k)) := by
  have hI := hC.i
  have hG := hC.pg
  have hp := hI.at
  have hz := hI.sz
  have hgr := hG.gr
  have hkn := hC.kn
  have hfl := hG.fl hg
  refine w_aload_n dX8_cutAt_0 rfl rfl (by first | decide | omega) ?_
  refine w_aload_n dX8_cutAt_1 rfl rfl (by first | decide | omega) ?_
  refine w_getR (o := 45) (x := 54) fX8_cutAt_2 rfl rfl rfl rfl ?_
  refine w_iload_n dX8_cutAt_5 rfl rfl ?_
  refine w_ialdx (o := 54) (n := 33) (x := μ (p + 9) g) dX8_cutAt_6 rfl rfl (Nat.le_of_ble_eq_true rfl) (by omega) (hJ.gf (by omega)) ?_
  have hr1 := PG.fl hG (g := g) (by omega)
  refine w_iload_n dX8_cutAt_7 rfl rfl ?_
  refine w_callVI (o := 45) (ci := 8) (as := [(0, μ (p + 9) g), (0, k)]) (rest := []) (k := 0) fX8_cutAt_8 rfl rfl rfl rfl rfl rfl rfl rfl (Nat.le_of_ble_eq_true rfl) (s_X8_uglyOf X p g (μ (p + 9) g) k μ hC hJ (by first | omega | assumption) (by first | omega | assumption)) (fun xA μA hμA => ?_)
  obtain ⟨hFA, hz_A, hJ_A, hf_A⟩ := hμA
  have eA : ∀ o : Int, p ≤ o ∧ o ≤ p + 10 → μA o = μ o := fun o h1 => hFA.at (by omega) (by omega)
  have hua := uglR_P (D := uglG μ p) (f := (μ (p + 9) g)) (m := k) (by by_cases q : k = 1; exact Or.inl q; exact Or.inr (gdt_ok hI hG (hC.ldc hg (f := (μ (p + 9) g)) (m := k) (by omega) (by omega) (by omega))))
  rw [← hz_A] at hua
  refine w_istore_n (ls' := [(2, 45), (0, g), (0, k), (0, xA), (9, 0)]) dX8_cutAt_11 rfl (Nat.le_of_ble_eq_true rfl) rfl rfl ?_
  refine w_aload_n dX8_cutAt_12 rfl rfl (by first | decide | omega) ?_
  refine w_aload_n dX8_cutAt_13 rfl rfl (by first | decide | omega) ?_
  refine w_getR (o := 45) (x := 54) fX8_cutAt_14 rfl rfl rfl rfl ?_
  refine w_iload_n dX8_cutAt_17 rfl rfl ?_
  refine w_ialdx (o := 54) (n := 33) (x := μ (p + 9) g) dX8_cutAt_18 rfl rfl (Nat.le_of_ble_eq_true rfl) (by omega) ((hJ_A.gf (by rw [eA p (by omega)]; omega)).trans (congrFun (eA (p + 9) (by omega)) _)) ?_
  refine w_iload_n dX8_cutAt_19 rfl rfl ?_
  refine w_iadd dX8_cutAt_20 ?_
  refine w_aload_n dX8_cutAt_21 rfl rfl (by first | decide | omega) ?_
  refine w_getR (o := 45) (x := 55) fX8_cutAt_22 rfl rfl rfl rfl ?_
  refine w_iload_n dX8_cutAt_25 rfl rfl ?_
  refine w_ialdx (o := 55) (n := 33) (x := μ (p + 10) g) dX8_cutAt_26 rfl rfl (Nat.le_of_ble_eq_true rfl) (by omega) ((hJ_A.gm (by rw [eA p (by omega)]; omega)).trans (congrFun (eA (p + 10) (by omega)) _)) ?_
  refine w_iload_n dX8_cutAt_27 rfl rfl ?_
  refine w_isub dX8_cutAt_28 ?_
  refine w_callVI (o := 45) (ci := 8) (as := [(0, (μ (p + 9) g) + k), (0, (μ (p + 10) g) - k)]) (rest := []) (k := 0) fX8_cutAt_29 rfl rfl rfl rfl rfl rfl rfl rfl (Nat.le_of_ble_eq_true rfl) (s_X8_uglyOf X p g ((μ (p + 9) g) + k) ((μ (p + 10) g) - k) μA (CJ.cg hC (fun o h1 => (hFA.at (by omega) (by omega)))) hJ_A (by rw [eA p (by omega)]; exact hg) (by rw [eA (p + 9) (by omega), eA (p + 10) (by omega)]; omega)) (fun xB μB hμB => ?_)
  obtain ⟨hFB, hz_B, hJ_B, hf_B⟩ := hμB
  rw [show uglG μA p = uglG μ p from funext (fun f => funext (fun m => uglG_cg eA))] at hz_B
  have hub := uglR_P (D := uglG μ p) (f := (μ (p + 9) g) + k) (m := μ (p + 10) g - k) (by by_cases q : μ (p + 10) g - k = 1; exact Or.inl q; exact Or.inr (gdt_ok hI hG (hC.ldc hg (f := (μ (p + 9) g) + k) (m := μ (p + 10) g - k) (by omega) (by omega) (by omega))))
  rw [← hz_B] at hub
  refine w_istore (ls' := [(2, 45), (0, g), (0, k), (0, xA), (0, xB)]) dX8_cutAt_32 (Nat.le_of_ble_eq_true rfl) rfl rfl ?_
  refine w_iload_n dX8_cutAt_34 rfl rfl ?_
  refine w_ldc (n := -1000000) dX8_cutAt_35 k_1620 (by decide) ?_
  refine w_icmp_eq (tgt := 47) dX8_cutAt_37 rfl (R32.in (by omega)) (R32.in (by decide)) (fun c37 => ?_) (fun c37 => ?_)
  · skip
    refine w_bipush dX8_cutAt_47 (by decide) ?_
    refine w_goto (tgt := 56) dX8_cutAt_49 rfl ?_
    exact w_iretI dX8_cutAt_56 rfl ⟨((hFB.wd (by omega) (by omega)).tr hFA), (by have q9 := cutP_R (D := uglG μ p) (f := (μ (p + 9) g)) (m := μ (p + 10) g) (k := k) (by by_cases q : k = 1; exact Or.inl q; exact Or.inr (gdt_ok hI hG (hC.ldc hg (f := (μ (p + 9) g)) (m := k) (by omega) (by omega) (by omega)))) (by by_cases q : μ (p + 10) g - k = 1; exact Or.inl q; exact Or.inr (gdt_ok hI hG (hC.ldc hg (f := (μ (p + 9) g) + k) (m := μ (p + 10) g - k) (by omega) (by omega) (by omega)))) hz_A hz_B; omega), hJ_B, (fun k h1 => ((hf_B k (by omega)).trans (hf_A k (by omega))))⟩
  · skip
    refine w_iload dX8_cutAt_40 rfl ?_
    refine w_ldc (n := -1000000) dX8_cutAt_42 k_1620 (by decide) ?_
    refine w_icmp_ne (tgt := 52) dX8_cutAt_44 rfl (R32.in (by omega)) (R32.in (by decide)) (fun c44 => ?_) (fun c44 => ?_)
    · skip
      refine w_iload_n dX8_cutAt_52 rfl rfl ?_
      refine w_iload dX8_cutAt_53 rfl ?_
      refine w_iadd dX8_cutAt_55 ?_
      exact w_iretI dX8_cutAt_56 rfl ⟨((hFB.wd (by omega) (by omega)).tr hFA), (by have q9 := cutP_R (D := uglG μ p) (f := (μ (p + 9) g)) (m := μ (p + 10) g) (k := k) (by by_cases q : k = 1; exact Or.inl q; exact Or.inr (gdt_ok hI hG (hC.ldc hg (f := (μ (p + 9) g)) (m := k) (by omega) (by omega) (by omega)))) (by by_cases q : μ (p + 10) g - k = 1; exact Or.inl q; exact Or.inr (gdt_ok hI hG (hC.ldc hg (f := (μ (p + 9) g) + k) (m := μ (p + 10) g - k) (by omega) (by omega) (by omega)))) hz_A hz_B; omega), hJ_B, (fun k h1 => ((hf_B k (by omega)).trans (hf_A k (by omega))))⟩
    · skip
      refine w_bipush dX8_cutAt_47 (by decide) ?_
      refine w_goto (tgt := 56) dX8_cutAt_49 rfl ?_
      exact w_iretI dX8_cutAt_56 rfl ⟨((hFB.wd (by omega) (by omega)).tr hFA), (by have q9 := cutP_R (D := uglG μ p) (f := (μ (p + 9) g)) (m := μ (p + 10) g) (k := k) (by by_cases q : k = 1; exact Or.inl q; exact Or.inr (gdt_ok hI hG (hC.ldc hg (f := (μ (p + 9) g)) (m := k) (by omega) (by omega) (by omega)))) (by by_cases q : μ (p + 10) g - k = 1; exact Or.inl q; exact Or.inr (gdt_ok hI hG (hC.ldc hg (f := (μ (p + 9) g) + k) (m := μ (p + 10) g - k) (by omega) (by omega) (by omega)))) hz_A hz_B; omega), hJ_B, (fun k h1 => ((hf_B k (by omega)).trans (hf_A k (by omega))))⟩

set_option maxRecDepth 100000 in
set_option maxHeartbeats 4000000 in
theorem s_X8_ifCut (X : AX) (p : Int) (g : Int) (k : Int) (μ : Mu) (hC : CJ μ p) (hJ : RJ μ p) (hg : -2147483648 ≤ g ∧ g ≤ 2147483647) (hk : -2147483648 ≤ k ∧ k ≤ 2147483647) : Wp (GG X) M_X8_ifCut 0 [(2, 45), (0, g), (0, k)] [] μ (qI 0 fun z μ' => (Fr 45 45 54 61 μ' μ) ∧ (z = if (0 ≤ g ∧ g < μ p 14) ∧ 1 ≤ k ∧ k < μ (p + 10) g then cutP (uglG μ p) (μ (p + 9) g) (μ (p + 10) g) k else -1) ∧ (RJ μ' p) ∧ (∀ k : Int, (¬ k = 0 ∧ ¬ (21 ≤ k ∧ k ≤ 24) ∧ ¬ (29 ≤ k ∧ k ≤ 33)) → μ' 45 k = μ 45 k)) := by
  have hI := hC.i
  have hG := hC.pg
  have hp := hI.at
  have hz := hI.sz
  have hgr := hG.gr
  have hkn := hC.kn
  have hRA := hJ.rag hC
  refine w_aload_n dX8_ifCut_0 rfl rfl (by first | decide | omega) ?_
  refine w_iconst dX8_ifCut_1 ?_
  refine w_putI (o := 45) (f := 0) fX8_ifCut_2 rfl rfl rfl rfl rfl ?_
  have hF_μ4 : Fr 45 45 57 61 (am_up μ 45 0 0) μ := (Fr.rf.up (by omega))
  have hA4 : RAg (ddt μ p (p + 5) (μ p 3)) (μ (p + 9)) (μ p 14) (am_up μ 45 0 0) := (RAg.cg2 hRA (fun o h1 => (am_up_o (by omega))) (fun k h1 => (am_up_nk (by omega))))
  have hJ4 : RJ (am_up μ 45 0 0) p := (RJ.cg2 hJ (fun o h1 => (am_up_o (by omega))) (fun k h1 => (am_up_nk (by omega))))
  have hj4 : RJz (am_up μ 45 0 0) p := hJ4.j0
  have hC4 : CJ (am_up μ 45 0 0) p := (CJ.cg hC (fun o h1 => (am_up_o (by omega))))
  have h564 : ∀ j : Int, 0 ≤ j → j < μ p 7 → (am_up μ 45 0 0) 56 j = μ (p + 5) j := (fun j h1 h2 => ((congrFun (am_up_o (by omega)) _).trans ((fun j h1 h2 => hJ.ht ⟨h1, h2⟩) j h1 h2)))
  have h194 : (am_up μ 45 0 0) 45 19 = μ p 3 := (((am_up_nk (by omega)).trans hJ.f19).trans (by rfl))
  have hff4 : ∀ k : Int, ¬ k = 0 → (am_up μ 45 0 0) 45 k = μ 45 k := (fun k h1 => (am_up_nk (by omega)))
  refine Wp.mu (fun μ4 hμ4 => ?_)
  rw [← hμ4] at hF_μ4 hA4 hJ4 hj4 hC4 h564 h194 hff4
  clear hμ4
  have e4 : ∀ o : Int, p ≤ o ∧ o ≤ p + 10 → μ4 o = μ o := fun o h1 => hF_μ4.at (by omega) (by omega)
  have e47 : μ4 p 7 = μ p 7 := congrFun (e4 p (by omega)) _
  have e414 : μ4 p 14 = μ p 14 := congrFun (e4 p (by omega)) _
  refine w_aload_n dX8_ifCut_5 rfl rfl (by first | decide | omega) ?_
  refine w_iload_n dX8_ifCut_6 rfl rfl ?_
  refine w_callVP (o := 45) (ci := 8) (as := [(0, g)]) (rest := []) (k := 0) fX8_ifCut_7 rfl rfl rfl rfl rfl rfl rfl rfl (Nat.le_of_ble_eq_true rfl) (s_X8_isGroup X p g μ4 hC4 hJ4 (by first | omega | assumption)) ?_
  have hf1 := am_b_r (0 ≤ g ∧ g < μ4 p 14)
  refine w_if_eq (tgt := 38) dX8_ifCut_10 rfl (R32.in (by have := am_b_r ((0 ≤ g ∧ g < μ4 p 14)); omega)) (fun c10 => ?_) (fun c10 => ?_)
  · skip
    replace c10 := am_b0 c10
    refine w_iconst dX8_ifCut_38 ?_
    exact w_iretI dX8_ifCut_39 rfl ⟨(hF_μ4.wd (by omega) (by omega)), (by first | exact ifT (by omega) hz_C.1 | exact ifF (by omega) rfl), hJ4, (fun k h1 => (hff4 k (by omega)))⟩
  · skip
    replace c10 := am_b1 c10
    refine w_iload_n dX8_ifCut_13 rfl rfl ?_
    refine w_iconst dX8_ifCut_14 ?_
    refine w_aload_n dX8_ifCut_15 rfl rfl (by first | decide | omega) ?_
    refine w_getR (o := 45) (x := 55) fX8_ifCut_16 rfl rfl rfl rfl ?_
    refine w_iload_n dX8_ifCut_19 rfl rfl ?_
    refine w_ialdx (o := 55) (n := 33) (x := μ (p + 10) g) dX8_ifCut_20 rfl rfl (Nat.le_of_ble_eq_true rfl) (by omega) ((congrFun (hF_μ4.at (by omega) (by omega)) _).trans (hJ.gm (by omega))) ?_
    have hr2 := PG.fl hG (g := g) (by omega)
    refine w_iconst dX8_ifCut_21 ?_
    refine w_isub dX8_ifCut_22 ?_
    refine w_callSP (as := [(0, k), (0, 1), (0, (μ (p + 10) g) - 1)]) (rest := []) (k := 0) fX8_ifCut_23 rfl rfl rfl rfl rfl (Nat.le_of_ble_eq_true rfl) (s_X8_isIn X k 1 ((μ (p + 10) g) - 1) μ4 (by first | omega | assumption) (by first | omega | assumption) (by first | omega | assumption)) ?_
    have hf3 := am_b_r (1 ≤ k ∧ k ≤ ((μ (p + 10) g) - 1))
    refine w_if_eq (tgt := 38) dX8_ifCut_26 rfl (R32.in (by have := am_b_r ((1 ≤ k ∧ k ≤ ((μ (p + 10) g) - 1))); omega)) (fun c26 => ?_) (fun c26 => ?_)
    · skip
      replace c26 := am_b0 c26
      refine w_iconst dX8_ifCut_38 ?_
      exact w_iretI dX8_ifCut_39 rfl ⟨(hF_μ4.wd (by omega) (by omega)), (by first | exact ifT (by omega) hz_C.1 | exact ifF (by omega) rfl), hJ4, (fun k h1 => (hff4 k (by omega)))⟩
    · skip
      replace c26 := am_b1 c26
      refine w_aload_n dX8_ifCut_29 rfl rfl (by first | decide | omega) ?_
      refine w_iload_n dX8_ifCut_30 rfl rfl ?_
      refine w_iload_n dX8_ifCut_31 rfl rfl ?_
      refine w_callVI (o := 45) (ci := 8) (as := [(0, g), (0, k)]) (rest := []) (k := 2) fX8_ifCut_32 rfl rfl rfl rfl rfl rfl rfl rfl (Nat.le_of_ble_eq_true rfl) (s_X8_cutAt X p g k μ4 hC4 hJ4 (by omega) (by rw [e4 (p + 10) (by omega)]; omega)) (fun xC μC hμC => ?_)
      obtain ⟨hFC, hz_C, hJ_C, hf_C⟩ := hμC
      rw [show uglG μ4 p = uglG μ p from funext (fun f => funext (fun m => uglG_cg e4))] at hz_C
      rw [e4 (p + 9) (by omega), e4 (p + 10) (by omega)] at hz_C
      refine w_goto (tgt := 39) dX8_ifCut_35 rfl ?_
      exact w_iretI dX8_ifCut_39 rfl ⟨((hFC.wd (by omega) (by omega)).tr (hF_μ4.wd (by omega) (by omega))), (by first | exact ifT (by omega) hz_C.1 | exact ifF (by omega) rfl), hJ_C, (fun k h1 => ((hf_C k (by omega)).trans (hff4 k (by omega))))⟩

set_option maxRecDepth 100000 in
set_option maxHeartbeats 4000000 in
theorem s_X8_cut (X : AX) (p : Int) (g : Int) (μ : Mu) (hC : CJ μ p) (hJ : RJ μ p) (hg : -2147483648 ≤ g ∧ g ≤ 2147483647) : Wp (GG X) M_X8_cut 0 [(2, 45), (0, g), (9, 0), (9, 0), (9, 0), (9, 0)] [] μ (qI 0 fun z μ' => (Fr 45 45 54 61 μ' μ) ∧ (z = if (0 ≤ g ∧ g < μ p 14) then (cutI (cutP (uglG μ p) (μ (p + 9) g) (μ (p + 10) g)) (μ (p + 10) g - 1)).1 else -1) ∧ (RJ μ' p) ∧ (∀ k : Int, (¬ k = 0 ∧ ¬ (21 ≤ k ∧ k ≤ 24) ∧ ¬ (29 ≤ k ∧ k ≤ 33)) → μ' 45 k = μ 45 k)) := by
  have hI := hC.i
  have hG := hC.pg
  have hp := hI.at
  have hz := hI.sz
  have hgr := hG.gr
  have hkn := hC.kn
  have hRA := hJ.rag hC
  refine w_aload_n dX8_cut_0 rfl rfl (by first | decide | omega) ?_
  refine w_iconst dX8_cut_1 ?_
  refine w_putI (o := 45) (f := 0) fX8_cut_2 rfl rfl rfl rfl rfl ?_
  have hF_μ4 : Fr 45 45 57 61 (am_up μ 45 0 0) μ := (Fr.rf.up (by omega))
  have hA4 : RAg (ddt μ p (p + 5) (μ p 3)) (μ (p + 9)) (μ p 14) (am_up μ 45 0 0) := (RAg.cg2 hRA (fun o h1 => (am_up_o (by omega))) (fun k h1 => (am_up_nk (by omega))))
  have hJ4 : RJ (am_up μ 45 0 0) p := (RJ.cg2 hJ (fun o h1 => (am_up_o (by omega))) (fun k h1 => (am_up_nk (by omega))))
  have hj4 : RJz (am_up μ 45 0 0) p := hJ4.j0
  have hC4 : CJ (am_up μ 45 0 0) p := (CJ.cg hC (fun o h1 => (am_up_o (by omega))))
  have h564 : ∀ j : Int, 0 ≤ j → j < μ p 7 → (am_up μ 45 0 0) 56 j = μ (p + 5) j := (fun j h1 h2 => ((congrFun (am_up_o (by omega)) _).trans ((fun j h1 h2 => hJ.ht ⟨h1, h2⟩) j h1 h2)))
  have h194 : (am_up μ 45 0 0) 45 19 = μ p 3 := (((am_up_nk (by omega)).trans hJ.f19).trans (by rfl))
  have hff4 : ∀ k : Int, ¬ k = 0 → (am_up μ 45 0 0) 45 k = μ 45 k := (fun k h1 => (am_up_nk (by omega)))
  refine Wp.mu (fun μ4 hμ4 => ?_)
  rw [← hμ4] at hF_μ4 hA4 hJ4 hj4 hC4 h564 h194 hff4
  clear hμ4
  have e4 : ∀ o : Int, p ≤ o ∧ o ≤ p + 10 → μ4 o = μ o := fun o h1 => hF_μ4.at (by omega) (by omega)
  have e47 : μ4 p 7 = μ p 7 := congrFun (e4 p (by omega)) _
  have e414 : μ4 p 14 = μ p 14 := congrFun (e4 p (by omega)) _
  refine w_aload_n dX8_cut_5 rfl rfl (by first | decide | omega) ?_
  refine w_iload_n dX8_cut_6 rfl rfl ?_
  refine w_callVP (o := 45) (ci := 8) (as := [(0, g)]) (rest := []) (k := 0) fX8_cut_7 rfl rfl rfl rfl rfl rfl rfl rfl (Nat.le_of_ble_eq_true rfl) (s_X8_isGroup X p g μ4 hC4 hJ4 (by first | omega | assumption)) ?_
  have hf1 := am_b_r (0 ≤ g ∧ g < μ4 p 14)
  refine w_if_ne (tgt := 15) dX8_cut_10 rfl (R32.in (by have := am_b_r ((0 ≤ g ∧ g < μ4 p 14)); omega)) (fun c10 => ?_) (fun c10 => ?_)
  · skip
    replace c10 := am_b1 c10
    refine w_bipush dX8_cut_15 (by decide) ?_
    refine w_istore_n (ls' := [(2, 45), (0, g), (0, -2), (9, 0), (9, 0), (9, 0)]) dX8_cut_17 rfl (Nat.le_of_ble_eq_true rfl) rfl rfl ?_
    refine w_iconst dX8_cut_18 ?_
    refine w_istore_n (ls' := [(2, 45), (0, g), (0, -2), (0, 0), (9, 0), (9, 0)]) dX8_cut_19 rfl (Nat.le_of_ble_eq_true rfl) rfl rfl ?_
    refine w_iconst dX8_cut_20 ?_
    refine w_istore (ls' := [(2, 45), (0, g), (0, -2), (0, 0), (0, 1), (9, 0)]) dX8_cut_21 (Nat.le_of_ble_eq_true rfl) rfl rfl ?_
    have hL23 : ∀ (n23 : Nat) (b : Int) (le : Int) (k : Int) (μ1 : Mu), (μ (p + 10) g - k).toNat = n23 → Fr 45 45 54 61 μ1 μ → (1 ≤ k ∧ k ≤ μ (p + 10) g) → ((b = -2 ∨ (1 ≤ b ∧ b < k)) ∧ (-2 ≤ le ∧ le ≤ 11760)) → (b = (cutI (cutP (uglG μ p) (μ (p + 9) g) (μ (p + 10) g)) (k - 1)).1 ∧ ((b = -2 ∧ (cutI (cutP (uglG μ p) (μ (p + 9) g) (μ (p + 10) g)) (k - 1)).2 = 2147483647) ∨ (¬ b = -2 ∧ le = (cutI (cutP (uglG μ p) (μ (p + 9) g) (μ (p + 10) g)) (k - 1)).2))) → (RJ μ1 p) → (∀ k : Int, (¬ k = 0 ∧ ¬ (21 ≤ k ∧ k ≤ 24) ∧ ¬ (29 ≤ k ∧ k ≤ 33)) → μ1 45 k = μ 45 k) → Wp (GG X) M_X8_cut 23 [(2, 45), (0, g), (0, b), (0, le), (0, k), (9, 0)] [] μ1 (qI 0 fun z μ' => (Fr 45 45 54 61 μ' μ) ∧ (z = if (0 ≤ g ∧ g < μ p 14) then (cutI (cutP (uglG μ p) (μ (p + 9) g) (μ (p + 10) g)) (μ (p + 10) g - 1)).1 else -1) ∧ (RJ μ' p) ∧ (∀ k : Int, (¬ k = 0 ∧ ¬ (21 ≤ k ∧ k ≤ 24) ∧ ¬ (29 ≤ k ∧ k ≤ 33)) → μ' 45 k = μ 45 k)) := by
      intro n23
      induction n23 using Nat.strongRecOn with
      | ind n23 ih23 =>
        intro b le k μ1 hn23 hF23 hk0 hbr hq hJ1 hfA
        have e1 : ∀ o : Int, p ≤ o ∧ o ≤ p + 10 → μ1 o = μ o := fun o h1 => hF23.at (by omega) (by omega)
        have hfl := hG.fl (g := g) (by omega)
        refine w_iload dX8_cut_23 rfl ?_
        refine w_aload_n dX8_cut_25 rfl rfl (by first | decide | omega) ?_
        refine w_getR (o := 45) (x := 55) fX8_cut_26 rfl rfl rfl rfl ?_
        refine w_iload_n dX8_cut_29 rfl rfl ?_
        refine w_ialdx (o := 55) (n := 33) (x := μ (p + 10) g) dX8_cut_30 rfl rfl (Nat.le_of_ble_eq_true rfl) (by omega) ((hJ1.gm (by rw [e1 p (by omega)]; omega)).trans (congrFun (e1 (p + 10) (by omega)) _)) ?_
        refine w_icmp_ge (tgt := 77) dX8_cut_31 rfl (R32.in (by omega)) (R32.in (by omega)) (fun c31 => ?_) (fun c31 => ?_)
        · skip
          refine w_iload_n dX8_cut_77 rfl rfl ?_
          exact w_iretI dX8_cut_78 rfl ⟨hF23, (by have he : μ (p + 10) g = k := (by omega); exact ifT (by omega) (by rw [show μ (p + 10) g - 1 = k - 1 by omega]; exact hq.1)), hJ1, (fun k h1 => (hfA k (by omega)))⟩
        · skip
          refine w_aload_n dX8_cut_34 rfl rfl (by first | decide | omega) ?_
          refine w_iload_n dX8_cut_35 rfl rfl ?_
          refine w_iload dX8_cut_36 rfl ?_
          refine w_callVI (o := 45) (ci := 8) (as := [(0, g), (0, k)]) (rest := []) (k := 2) fX8_cut_38 rfl rfl rfl rfl rfl rfl rfl rfl (Nat.le_of_ble_eq_true rfl) (s_X8_cutAt X p g k μ1 (CJ.cg hC (fun o h1 => (hF23.at (by omega) (by omega)))) hJ1 (by rw [e1 p (by omega)]; omega) (by rw [e1 (p + 10) (by omega)]; omega)) (fun xC μC hμC => ?_)
          obtain ⟨hFC, hz_C, hJ_C, hf_C⟩ := hμC
          rw [show uglG μ1 p = uglG μ p from funext (fun f => funext (fun m => uglG_cg e1))] at hz_C
          rw [e1 (p + 9) (by omega), e1 (p + 10) (by omega)] at hz_C
          refine w_istore (ls' := [(2, 45), (0, g), (0, b), (0, le), (0, k), (0, xC)]) dX8_cut_41 (Nat.le_of_ble_eq_true rfl) rfl rfl ?_
          refine w_iload dX8_cut_43 rfl ?_
          refine w_bipush dX8_cut_45 (by decide) ?_
          refine w_icmp_eq (tgt := 71) dX8_cut_47 rfl (R32.in (by omega)) (R32.in (by decide)) (fun c47 => ?_) (fun c47 => ?_)
          · skip
            refine w_iinc (ls' := [(2, 45), (0, g), (0, b), (0, le), (0, k + 1), (0, xC)]) dX8_cut_71 rfl (Nat.le_of_ble_eq_true rfl) rfl rfl ?_
            refine w_goto (tgt := 23) dX8_cut_74 rfl ?_
            refine Wp.fgl (ls' := [(2, 45), (0, g), (0, b), (0, le), (0, k + 1), (9, 0)]) 5 rfl ?_
            exact ih23 _ (by omega) b le (k + 1) μC rfl ((hFC.wd (by omega) (by omega)).tr hF23) (by omega) (by omega) (by rw [show k + 1 - 1 = k - 1 + 1 by omega, cutI_s (by omega), show k - 1 + 1 = k by omega, ← hz_C.1]; first | (rw [if_pos (by omega)]; dsimp only; omega) | (rw [if_neg (by omega)]; omega)) hJ_C (fun k h1 => ((hf_C k (by omega)).trans (hfA k (by omega))))
          · skip
            refine w_iload_n dX8_cut_50 rfl rfl ?_
            refine w_bipush dX8_cut_51 (by decide) ?_
            refine w_icmp_eq (tgt := 65) dX8_cut_53 rfl (R32.in (by omega)) (R32.in (by decide)) (fun c53 => ?_) (fun c53 => ?_)
            · skip
              refine w_iload dX8_cut_65 rfl ?_
              refine w_istore_n (ls' := [(2, 45), (0, g), (0, k), (0, le), (0, k), (0, xC)]) dX8_cut_67 rfl (Nat.le_of_ble_eq_true rfl) rfl rfl ?_
              refine w_iload dX8_cut_68 rfl ?_
              refine w_istore_n (ls' := [(2, 45), (0, g), (0, k), (0, xC), (0, k), (0, xC)]) dX8_cut_70 rfl (Nat.le_of_ble_eq_true rfl) rfl rfl ?_
              refine w_iinc (ls' := [(2, 45), (0, g), (0, k), (0, xC), (0, k + 1), (0, xC)]) dX8_cut_71 rfl (Nat.le_of_ble_eq_true rfl) rfl rfl ?_
              refine w_goto (tgt := 23) dX8_cut_74 rfl ?_
              refine Wp.fgl (ls' := [(2, 45), (0, g), (0, k), (0, xC), (0, k + 1), (9, 0)]) 5 rfl ?_
              exact ih23 _ (by omega) k xC (k + 1) μC rfl ((hFC.wd (by omega) (by omega)).tr hF23) (by omega) (by omega) (by rw [show k + 1 - 1 = k - 1 + 1 by omega, cutI_s (by omega), show k - 1 + 1 = k by omega, ← hz_C.1]; first | (rw [if_pos (by omega)]; dsimp only; omega) | (rw [if_neg (by omega)]; omega)) hJ_C (fun k h1 => ((hf_C k (by omega)).trans (hfA k (by omega))))
            · skip
              refine w_iload dX8_cut_56 rfl ?_
              refine w_iload_n dX8_cut_58 rfl rfl ?_
              refine w_icmp_lt (tgt := 65) dX8_cut_59 rfl (R32.in (by omega)) (R32.in (by omega)) (fun c59 => ?_) (fun c59 => ?_)
              · skip
                refine w_iload dX8_cut_65 rfl ?_
                refine w_istore_n (ls' := [(2, 45), (0, g), (0, k), (0, le), (0, k), (0, xC)]) dX8_cut_67 rfl (Nat.le_of_ble_eq_true rfl) rfl rfl ?_
                refine w_iload dX8_cut_68 rfl ?_
                refine w_istore_n (ls' := [(2, 45), (0, g), (0, k), (0, xC), (0, k), (0, xC)]) dX8_cut_70 rfl (Nat.le_of_ble_eq_true rfl) rfl rfl ?_
                refine w_iinc (ls' := [(2, 45), (0, g), (0, k), (0, xC), (0, k + 1), (0, xC)]) dX8_cut_71 rfl (Nat.le_of_ble_eq_true rfl) rfl rfl ?_
                refine w_goto (tgt := 23) dX8_cut_74 rfl ?_
                refine Wp.fgl (ls' := [(2, 45), (0, g), (0, k), (0, xC), (0, k + 1), (9, 0)]) 5 rfl ?_
                exact ih23 _ (by omega) k xC (k + 1) μC rfl ((hFC.wd (by omega) (by omega)).tr hF23) (by omega) (by omega) (by rw [show k + 1 - 1 = k - 1 + 1 by omega, cutI_s (by omega), show k - 1 + 1 = k by omega, ← hz_C.1]; first | (rw [if_pos (by omega)]; dsimp only; omega) | (rw [if_neg (by omega)]; omega)) hJ_C (fun k h1 => ((hf_C k (by omega)).trans (hfA k (by omega))))
              · skip
                refine w_goto (tgt := 71) dX8_cut_62 rfl ?_
                refine w_iinc (ls' := [(2, 45), (0, g), (0, b), (0, le), (0, k + 1), (0, xC)]) dX8_cut_71 rfl (Nat.le_of_ble_eq_true rfl) rfl rfl ?_
                refine w_goto (tgt := 23) dX8_cut_74 rfl ?_
                refine Wp.fgl (ls' := [(2, 45), (0, g), (0, b), (0, le), (0, k + 1), (9, 0)]) 5 rfl ?_
                exact ih23 _ (by omega) b le (k + 1) μC rfl ((hFC.wd (by omega) (by omega)).tr hF23) (by omega) (by omega) (by rw [show k + 1 - 1 = k - 1 + 1 by omega, cutI_s (by omega), show k - 1 + 1 = k by omega, ← hz_C.1]; first | (rw [if_pos (by omega)]; dsimp only; omega) | (rw [if_neg (by omega)]; omega)) hJ_C (fun k h1 => ((hf_C k (by omega)).trans (hfA k (by omega))))
    exact hL23 _ (-2) 0 1 μ4 rfl (hF_μ4.wd (by omega) (by omega)) (by have hfl := hG.fl (g := g) (by omega); omega) (by omega) ⟨rfl, Or.inl ⟨rfl, rfl⟩⟩ hJ4 (fun k h1 => (hff4 k (by omega)))
  · skip
    replace c10 := am_b0 c10
    refine w_iconst dX8_cut_13 ?_
    exact w_iretI dX8_cut_14 rfl ⟨(hF_μ4.wd (by omega) (by omega)), (by exact ifF (by omega) rfl), hJ4, (fun k h1 => (hff4 k (by omega)))⟩
