set_option maxRecDepth 100000 in
set_option maxHeartbeats 4000000 in
theorem s_X8_totalOf (X : AX) (DD : Int → GDt) (F : Int → Int) (ng : Int) (w : Int) (μ : Mu) (hA : RAg DD F ng μ) (hw : 0 ≤ w ∧ w ≤ 3) : Wp (GG X) M_X8_totalOf 0 [(2, 45), (0, w)] [] μ (qI 0 fun z μ' => (Fr 45 45 57 61 μ' μ) ∧ (z = totA (tst DD ng) w) ∧ (RAg DD F ng μ') ∧ (∀ k : Int, (¬ (21 ≤ k ∧ k ≤ 24) ∧ ¬ (29 ≤ k ∧ k ≤ 33)) → μ' 45 k = μ 45 k)) := by
  have hr := hA.r
  have hdd := hA.dd
  refine w_aload_n dX8_totalOf_0 rfl rfl (by first | decide | omega) ?_
  refine w_callVV (o := 45) (ci := 8) (as := []) (rest := []) (k := 3) fX8_totalOf_1 rfl rfl rfl rfl rfl rfl rfl rfl (Nat.le_of_ble_eq_true rfl) (s_X8_laysTotal X DD F ng μ hA) (fun μT hμT => ?_)
  obtain ⟨hFT, h0_T, h1_T, h2_T, h3_T, hA2_T, hf_T⟩ := hμT
  refine w_iload_n dX8_totalOf_4 rfl rfl ?_
  refine w_if_ne (tgt := 15) dX8_totalOf_5 rfl (R32.in (by omega)) (fun c5 => ?_) (fun c5 => ?_)
  · skip
    refine w_iload_n dX8_totalOf_15 rfl rfl ?_
    refine w_iconst dX8_totalOf_16 ?_
    refine w_icmp_ne (tgt := 27) dX8_totalOf_17 rfl (R32.in (by omega)) (R32.in (by decide)) (fun c17 => ?_) (fun c17 => ?_)
    · skip
      refine w_iload_n dX8_totalOf_27 rfl rfl ?_
      refine w_iconst dX8_totalOf_28 ?_
      refine w_icmp_ne (tgt := 39) dX8_totalOf_29 rfl (R32.in (by omega)) (R32.in (by decide)) (fun c29 => ?_) (fun c29 => ?_)
      · skip
        refine w_aload_n dX8_totalOf_39 rfl rfl (by first | decide | omega) ?_
        refine w_getIx (o := 45) (f := 33) (x := μT 45 33) fX8_totalOf_40 rfl rfl (Nat.le_of_ble_eq_true rfl) rfl rfl ?_
        exact w_iretI dX8_totalOf_43 rfl ⟨hFT, (by unfold totA; omega), hA2_T, (fun k h1 => (hf_T k (by omega)))⟩
      · skip
        refine w_aload_n dX8_totalOf_32 rfl rfl (by first | decide | omega) ?_
        refine w_getIx (o := 45) (f := 32) (x := μT 45 32) fX8_totalOf_33 rfl rfl (Nat.le_of_ble_eq_true rfl) rfl rfl ?_
        refine w_goto (tgt := 43) dX8_totalOf_36 rfl ?_
        exact w_iretI dX8_totalOf_43 rfl ⟨hFT, (by unfold totA; omega), hA2_T, (fun k h1 => (hf_T k (by omega)))⟩
    · skip
      refine w_aload_n dX8_totalOf_20 rfl rfl (by first | decide | omega) ?_
      refine w_getIx (o := 45) (f := 31) (x := μT 45 31) fX8_totalOf_21 rfl rfl (Nat.le_of_ble_eq_true rfl) rfl rfl ?_
      refine w_goto (tgt := 43) dX8_totalOf_24 rfl ?_
      exact w_iretI dX8_totalOf_43 rfl ⟨hFT, (by unfold totA; omega), hA2_T, (fun k h1 => (hf_T k (by omega)))⟩
  · skip
    refine w_aload_n dX8_totalOf_8 rfl rfl (by first | decide | omega) ?_
    refine w_getIx (o := 45) (f := 30) (x := μT 45 30) fX8_totalOf_9 rfl rfl (Nat.le_of_ble_eq_true rfl) rfl rfl ?_
    refine w_goto (tgt := 43) dX8_totalOf_12 rfl ?_
    exact w_iretI dX8_totalOf_43 rfl ⟨hFT, (by unfold totA; omega), hA2_T, (fun k h1 => (hf_T k (by omega)))⟩

set_option maxRecDepth 100000 in
set_option maxHeartbeats 4000000 in
theorem s_X8_total (X : AX) (p : Int) (w : Int) (μ : Mu) (hC : CJ μ p) (hJ : RJ μ p) (hw : -2147483648 ≤ w ∧ w ≤ 2147483647) : Wp (GG X) M_X8_total 0 [(2, 45), (0, w)] [] μ (qI 0 fun z μ' => (Fr 45 45 57 61 μ' μ) ∧ (z = if 0 ≤ w ∧ w ≤ 3 then totA (tst (ddt μ p (p + 5) (μ p 3)) (μ p 14)) w else -1) ∧ (RJ μ' p) ∧ (∀ k : Int, (¬ k = 0 ∧ ¬ (21 ≤ k ∧ k ≤ 24) ∧ ¬ (29 ≤ k ∧ k ≤ 33)) → μ' 45 k = μ 45 k)) := by
  have hI := hC.i
  have hG := hC.pg
  have hp := hI.at
  have hz := hI.sz
  have hgr := hG.gr
  have hkn := hC.kn
  have hRA := hJ.rag hC
  refine w_aload_n dX8_total_0 rfl rfl (by first | decide | omega) ?_
  refine w_iconst dX8_total_1 ?_
  refine w_putI (o := 45) (f := 0) fX8_total_2 rfl rfl rfl rfl rfl ?_
  have hF_μ4 : Fr 45 45 57 61 (am_up μ 45 0 0) μ := (Fr.rf.up (by omega))
  have hA4 : RAg (ddt μ p (p + 5) (μ p 3)) (μ (p + 9)) (μ p 14) (am_up μ 45 0 0) := (RAg.cg2 hRA (fun o h1 => (am_up_o (by omega))) (fun k h1 => (am_up_nk (by omega))))
  have hJ4 : RJ (am_up μ 45 0 0) p := (RJ.cg2 hJ (fun o h1 => (am_up_o (by omega))) (fun k h1 => (am_up_nk (by omega))))
  have hj4 : RJz (am_up μ 45 0 0) p := hJ4.j0
  have hC4 : CJ (am_up μ 45 0 0) p := (CJ.cg hC (fun o h1 => (am_up_o (by omega))))
  have h564 : ∀ j : Int, 0 ≤ j → j < μ p 7 → (am_up μ 45 0 0) 56 j = μ (p + 5) j := (fun j h1 h2 => ((congrFun (am_up_o (by omega)) _).trans ((fun j h1 h2 => hJ.ht ⟨h1, h2⟩) j h1 h2)))
  have h194 : (am_up μ 45 0 0) 45 19 = μ p 3 := (((am_up_nk (by omega)).trans hJ.f19).trans (by rfl))
  have hff4 : ∀ k : Int, ¬ k = 0 → (am_up μ 45 0 0) 45 k = μ 45 k := (fun k h1 => (am_up_nk (by omega)))
  refine Wp.mu (fun μ4 hμ4 => ?_)
  rw [← hμ4] at hF_μ4 hA4 hJ4 hj4 hC4 h564 h194 hff4
  clear hμ4
  have e4 : ∀ o : Int, p ≤ o ∧ o ≤ p + 10 → μ4 o = μ o := fun o h1 => hF_μ4.at (by omega) (by omega)
  have e47 : μ4 p 7 = μ p 7 := congrFun (e4 p (by omega)) _
  have e414 : μ4 p 14 = μ p 14 := congrFun (e4 p (by omega)) _
  refine w_iload_n dX8_total_5 rfl rfl ?_
  refine w_iconst dX8_total_6 ?_
  refine w_iconst dX8_total_7 ?_
  refine w_callSP (as := [(0, w), (0, 0), (0, 3)]) (rest := []) (k := 0) fX8_total_8 rfl rfl rfl rfl rfl (Nat.le_of_ble_eq_true rfl) (s_X8_isIn X w 0 3 μ4 (by first | omega | assumption) (by first | omega | assumption) (by first | omega | assumption)) ?_
  have hf1 := am_b_r (0 ≤ w ∧ w ≤ 3)
  refine w_if_eq (tgt := 22) dX8_total_11 rfl (R32.in (by have := am_b_r ((0 ≤ w ∧ w ≤ 3)); omega)) (fun c11 => ?_) (fun c11 => ?_)
  · skip
    replace c11 := am_b0 c11
    refine w_iconst dX8_total_22 ?_
    exact w_iretI dX8_total_23 rfl ⟨hF_μ4, (by first | exact ifT (by omega) hz_T | exact ifF (by omega) rfl), hJ4, (fun k h1 => (hff4 k (by omega)))⟩
  · skip
    replace c11 := am_b1 c11
    refine w_aload_n dX8_total_14 rfl rfl (by first | decide | omega) ?_
    refine w_iload_n dX8_total_15 rfl rfl ?_
    refine w_callVI (o := 45) (ci := 8) (as := [(0, w)]) (rest := []) (k := 0) fX8_total_16 rfl rfl rfl rfl rfl rfl rfl rfl (Nat.le_of_ble_eq_true rfl) (s_X8_totalOf X (ddt μ p (p + 5) (μ p 3)) (μ (p + 9)) (μ p 14) w μ4 hA4 (by first | omega | assumption)) (fun xT μT hμT => ?_)
    obtain ⟨hFT, hz_T, hA2_T, hf_T⟩ := hμT
    refine w_goto (tgt := 23) dX8_total_19 rfl ?_
    exact w_iretI dX8_total_23 rfl ⟨((hFT.wd (by omega) (by omega)).tr hF_μ4), (by first | exact ifT (by omega) hz_T | exact ifF (by omega) rfl), (RJ.cg2 hJ4 (fun o h1 => (hFT.at (by omega) (by omega))) (fun k h1 => (hf_T _ (by omega)))), (fun k h1 => ((hf_T k (by omega)).trans (hff4 k (by omega))))⟩

set_option maxRecDepth 100000 in
set_option maxHeartbeats 4000000 in
theorem s_X8_thinksPlainly (X : AX) (p : Int) (μ : Mu) (hC : CJ μ p) (hj : RJz μ p) : Wp (GG X) M_X8_thinksPlainly 0 [(2, 45), (9, 0)] [] μ (qV fun μ' => (Fr 45 45 56 56 μ' μ) ∧ (RJ μ' p) ∧ (∀ k : Int, ¬ k = 19 → μ' 45 k = μ 45 k)) := by
  have hI := hC.i
  have hG := hC.pg
  have hp := hI.at
  have hz := hI.sz
  have hgr := hG.gr
  have hkn := hC.kn
  refine w_iconst dX8_thinksPlainly_0 ?_
  refine w_istore_n (ls' := [(2, 45), (0, 0)]) dX8_thinksPlainly_1 rfl (Nat.le_of_ble_eq_true rfl) rfl rfl ?_
  have hL2 : ∀ (n2 : Nat) (i : Int) (μ1 : Mu), (64 - i).toNat = n2 → Fr 45 45 56 56 μ1 μ → (0 ≤ i ∧ i ≤ 64) → (∀ j : Int, 0 ≤ j → j < i → μ1 56 j = μ 50 j) → (∀ k : Int, ¬ k = 19 → μ1 45 k = μ 45 k) → Wp (GG X) M_X8_thinksPlainly 2 [(2, 45), (0, i)] [] μ1 (qV fun μ' => (Fr 45 45 56 56 μ' μ) ∧ (RJ μ' p) ∧ (∀ k : Int, ¬ k = 19 → μ' 45 k = μ 45 k)) := by
    intro n2
    induction n2 using Nat.strongRecOn with
    | ind n2 ih2 =>
      intro i μ1 hn2 hF2 hi0 h56 hfA
      refine w_iload_n dX8_thinksPlainly_2 rfl rfl ?_
      refine w_bipush dX8_thinksPlainly_3 (by decide) ?_
      refine w_icmp_ge (tgt := 26) dX8_thinksPlainly_5 rfl (R32.in (by omega)) (R32.in (by decide)) (fun c5 => ?_) (fun c5 => ?_)
      · skip
        refine w_aload_n dX8_thinksPlainly_26 rfl rfl (by first | decide | omega) ?_
        refine w_aload_n dX8_thinksPlainly_27 rfl rfl (by first | decide | omega) ?_
        refine w_getIx (o := 45) (f := 5) (x := μ p 3) fX8_thinksPlainly_28 rfl rfl (Nat.le_of_ble_eq_true rfl) rfl ((hfA _ (by omega)).trans hj.f5) ?_
        refine w_putI (o := 45) (f := 19) fX8_thinksPlainly_31 rfl rfl rfl rfl rfl ?_
        exact w_retV dX8_thinksPlainly_34 rfl ⟨(hF2.up (by omega)), RJz.of2 hp (hF2.up (by omega)) (by omega) (RJz.cg2 hj (fun o h1 => ((am_up_o (by omega)).trans (hF2.at (by omega) (by omega)))) (fun k h1 => ((am_up_nk (by omega)).trans (hfA _ (by omega))))) (am_up_at.trans (by rfl)) (fun j h1 h2 => ((congrFun (am_up_o (by omega)) _).trans ((fun j h1 h2 => (h56 j h1 (by omega)).trans (hj.po ⟨h1, h2⟩)) j h1 h2))), (fun k h1 => ((am_up_nk (by omega)).trans (hfA k (by omega))))⟩
      · skip
        refine w_aload_n dX8_thinksPlainly_8 rfl rfl (by first | decide | omega) ?_
        refine w_getR (o := 45) (x := 56) fX8_thinksPlainly_9 rfl rfl rfl rfl ?_
        refine w_iload_n dX8_thinksPlainly_12 rfl rfl ?_
        refine w_aload_n dX8_thinksPlainly_13 rfl rfl (by first | decide | omega) ?_
        refine w_getR (o := 45) (x := 50) fX8_thinksPlainly_14 rfl rfl rfl rfl ?_
        refine w_iload_n dX8_thinksPlainly_17 rfl rfl ?_
        refine w_ialdx (o := 50) (n := 64) (x := μ 50 i) dX8_thinksPlainly_18 rfl rfl (Nat.le_of_ble_eq_true rfl) (by omega) (congrFun (hF2.at (by omega) (by omega)) _) ?_
        refine w_iast (o := 56) (n := 64) dX8_thinksPlainly_19 rfl rfl (Nat.le_of_ble_eq_true rfl) (by omega) (by omega) ?_
        refine w_iinc (ls' := [(2, 45), (0, i + 1)]) dX8_thinksPlainly_20 rfl (Nat.le_of_ble_eq_true rfl) rfl rfl ?_
        refine w_goto (tgt := 2) dX8_thinksPlainly_23 rfl ?_
        exact ih2 _ (by omega) (i + 1) (am_up μ1 56 i (μ 50 i)) rfl (hF2.up (by omega)) (by first | omega | assumption) (fillr (f := μ 50) h56 rfl) (fun k h1 => ((congrFun (am_up_o (by omega)) _).trans (hfA k (by omega))))
  exact hL2 _ 0 μ rfl Fr.rf (by first | omega | assumption) (fun j h1 h2 => by omega) (fun k h1 => rfl)

set_option maxRecDepth 100000 in
set_option maxHeartbeats 4000000 in
theorem s_X8_shifts (X : AX) (p : Int) (t : Int) (μ : Mu) (hC : CJ μ p) (hj : RJz μ p) (ht : -12 ≤ t ∧ t ≤ 12) : Wp (GG X) M_X8_shifts 0 [(2, 45), (0, t), (9, 0), (9, 0)] [] μ (qI 0 fun z μ' => (Fr 56 56 1 0 μ' μ) ∧ ((z = 0 ∧ ¬ shB μ p t = true) ∨ (z = 1 ∧ shB μ p t = true)) ∧ (∀ j : Int, 0 ≤ j → j < μ p 7 → μ' 56 j = shF μ p t j) ∧ (RJz μ' p)) := by
  have hI := hC.i
  have hG := hC.pg
  have hp := hI.at
  have hz := hI.sz
  have hgr := hG.gr
  have hkn := hC.kn
  refine w_iconst dX8_shifts_0 ?_
  refine w_istore_n (ls' := [(2, 45), (0, t), (0, 1), (9, 0)]) dX8_shifts_1 rfl (Nat.le_of_ble_eq_true rfl) rfl rfl ?_
  refine w_iconst dX8_shifts_2 ?_
  refine w_istore_n (ls' := [(2, 45), (0, t), (0, 1), (0, 0)]) dX8_shifts_3 rfl (Nat.le_of_ble_eq_true rfl) rfl rfl ?_
  have hL4 : ∀ (n4 : Nat) (b : Int) (i : Int) (μ1 : Mu), (μ p 7 - i).toNat = n4 → Fr 56 56 1 0 μ1 μ → (0 ≤ i ∧ i ≤ μ p 7) → (b = 0 ∨ b = 1) → (b = am_b (shI μ p t i = true)) → (∀ j : Int, 0 ≤ j → j < i → μ1 56 j = shF μ p t j) → Wp (GG X) M_X8_shifts 4 [(2, 45), (0, t), (0, b), (0, i)] [] μ1 (qI 0 fun z μ' => (Fr 56 56 1 0 μ' μ) ∧ ((z = 0 ∧ ¬ shB μ p t = true) ∨ (z = 1 ∧ shB μ p t = true)) ∧ (∀ j : Int, 0 ≤ j → j < μ p 7 → μ' 56 j = shF μ p t j) ∧ (RJz μ' p)) := by
    intro n4
    induction n4 using Nat.strongRecOn with
    | ind n4 ih4 =>
      intro b i μ1 hn4 hF4 hi0 hb01 hb h56
      refine w_iload_n dX8_shifts_4 rfl rfl ?_
      refine w_aload_n dX8_shifts_5 rfl rfl (by first | decide | omega) ?_
      refine w_getIx (o := 45) (f := 7) (x := μ p 7) fX8_shifts_6 rfl rfl (Nat.le_of_ble_eq_true rfl) rfl ((congrFun (hF4.at (by omega) (by omega)) _).trans hj.f7) ?_
      refine w_icmp_ge (tgt := 71) dX8_shifts_9 rfl (R32.in (by omega)) (R32.in (by omega)) (fun c9 => ?_) (fun c9 => ?_)
      · skip
        refine w_iload_n dX8_shifts_71 rfl rfl ?_
        exact w_zretI dX8_shifts_72 rfl (by omega) ⟨hF4, (by have he : i = μ p 7 := (by omega); subst he; unfold shB; rcases am_b_01 (shI μ p t (μ p 7) = true) with q | q; exact Or.inl ⟨hb.trans q, am_b0 q⟩; exact Or.inr ⟨hb.trans q, am_b1 (by omega)⟩), (by exact fun j h1 h2 => h56 j h1 (by omega)), (RJz.cg2 hj (fun o h1 => (hF4.at (by omega) (by omega))) (fun k h1 => (congrFun (hF4.at (by omega) (by omega)) _)))⟩
      · skip
        refine w_aload_n dX8_shifts_12 rfl rfl (by first | decide | omega) ?_
        refine w_getR (o := 45) (x := 56) fX8_shifts_13 rfl rfl rfl rfl ?_
        refine w_iload_n dX8_shifts_16 rfl rfl ?_
        refine w_aload_n dX8_shifts_17 rfl rfl (by first | decide | omega) ?_
        refine w_getR (o := 45) (x := 49) fX8_shifts_18 rfl rfl rfl rfl ?_
        refine w_iload_n dX8_shifts_21 rfl rfl ?_
        refine w_zaldx (o := 49) (n := 64) (x := μ (p + 4) i) dX8_shifts_22 rfl rfl (Nat.le_of_ble_eq_true rfl) (by omega) ((congrFun (hF4.at (by omega) (by omega)) _).trans (hj.nt (by omega))) ?_
        have hr1 := PI.so hI (q := p + 4) (i := i) rfl (by omega)
        have hJ23_1 : ∀ z1_0 : Int, z1_0 = (if (μ (p + 4) i) = 0 then 0 else (μ (p + 5) i) + t) → Wp (GG X) M_X8_shifts 38 [(2, 45), (0, t), (0, b), (0, i)] [(0, z1_0), (0, i), (2, 56)] μ1 (qI 0 fun z μ' => (Fr 56 56 1 0 μ' μ) ∧ ((z = 0 ∧ ¬ shB μ p t = true) ∨ (z = 1 ∧ shB μ p t = true)) ∧ (∀ j : Int, 0 ≤ j → j < μ p 7 → μ' 56 j = shF μ p t j) ∧ (RJz μ' p)) := by
          intro z1_0 hz1_0
          have hhd := hI.hd (q := p + 5) (i := i) rfl (by omega)
          have hz1s : z1_0 = shF μ p t i := by unfold shF; omega
          refine w_iast (o := 56) (n := 64) dX8_shifts_38 rfl rfl (Nat.le_of_ble_eq_true rfl) (by omega) (by omega) ?_
          refine w_iload_n dX8_shifts_39 rfl rfl ?_
          have hJ40_2 : ∀ z2_0 : Int, z2_0 = (if b = 0 then 0 else (if ¬ ((-12) ≤ z1_0 ∧ z1_0 ≤ 12) then 0 else 1)) → Wp (GG X) M_X8_shifts 64 [(2, 45), (0, t), (0, b), (0, i)] [(0, z2_0)] (am_up μ1 56 i z1_0) (qI 0 fun z μ' => (Fr 56 56 1 0 μ' μ) ∧ ((z = 0 ∧ ¬ shB μ p t = true) ∨ (z = 1 ∧ shB μ p t = true)) ∧ (∀ j : Int, 0 ≤ j → j < μ p 7 → μ' 56 j = shF μ p t j) ∧ (RJz μ' p)) := by
            intro z2_0 hz2_0
            refine w_istore_n (ls' := [(2, 45), (0, t), (0, z2_0), (0, i)]) dX8_shifts_64 rfl (Nat.le_of_ble_eq_true rfl) rfl rfl ?_
            refine w_iinc (ls' := [(2, 45), (0, t), (0, z2_0), (0, i + 1)]) dX8_shifts_65 rfl (Nat.le_of_ble_eq_true rfl) rfl rfl ?_
            refine w_goto (tgt := 4) dX8_shifts_68 rfl ?_
            exact ih4 _ (by omega) z2_0 (i + 1) (am_up μ1 56 i z1_0) rfl (hF4.up (by omega)) (by first | omega | assumption) (by omega) (by rw [← shI_am hi0.1 hb, ← hz1s]; omega) (fillr (f := shF μ p t) h56 hz1s)
          refine w_if_eq (tgt := 63) dX8_shifts_40 rfl (R32.in (by omega)) (fun c40 => ?_) (fun c40 => ?_)
          · skip
            refine w_iconst dX8_shifts_63 ?_
            exact hJ40_2 _ (by first | omega | simp [*])
          · skip
            refine w_aload_n dX8_shifts_43 rfl rfl (by first | decide | omega) ?_
            refine w_getR (o := 45) (x := 56) fX8_shifts_44 rfl rfl rfl rfl ?_
            refine w_iload_n dX8_shifts_47 rfl rfl ?_
            refine w_ialdx (o := 56) (n := 64) (x := z1_0) dX8_shifts_48 rfl rfl (Nat.le_of_ble_eq_true rfl) (by omega) am_up_at ?_
            refine w_bipush dX8_shifts_49 (by decide) ?_
            refine w_bipush dX8_shifts_51 (by decide) ?_
            refine w_callSP (as := [(0, z1_0), (0, -12), (0, 12)]) (rest := []) (k := 0) fX8_shifts_53 rfl rfl rfl rfl rfl (Nat.le_of_ble_eq_true rfl) (s_X8_isIn X z1_0 (-12) 12 (am_up μ1 56 i z1_0) (by first | omega | assumption) (by first | omega | assumption) (by first | omega | assumption)) ?_
            have hf2 := am_b_r ((-12) ≤ z1_0 ∧ z1_0 ≤ 12)
            refine w_if_eq (tgt := 63) dX8_shifts_56 rfl (R32.in (by have := am_b_r (((-12) ≤ z1_0 ∧ z1_0 ≤ 12)); omega)) (fun c56 => ?_) (fun c56 => ?_)
            · skip
              replace c56 := am_b0 c56
              refine w_iconst dX8_shifts_63 ?_
              exact hJ40_2 _ (by first | omega | simp [*])
            · skip
              replace c56 := am_b1 c56
              refine w_iconst dX8_shifts_59 ?_
              refine w_goto (tgt := 64) dX8_shifts_60 rfl ?_
              exact hJ40_2 _ (by first | omega | simp [*])
        refine w_if_eq (tgt := 37) dX8_shifts_23 rfl (R32.in (by omega)) (fun c23 => ?_) (fun c23 => ?_)
        · skip
          refine w_iconst dX8_shifts_37 ?_
          exact hJ23_1 _ (by first | omega | simp [*])
        · skip
          refine w_aload_n dX8_shifts_26 rfl rfl (by first | decide | omega) ?_
          refine w_getR (o := 45) (x := 50) fX8_shifts_27 rfl rfl rfl rfl ?_
          refine w_iload_n dX8_shifts_30 rfl rfl ?_
          refine w_ialdx (o := 50) (n := 64) (x := μ (p + 5) i) dX8_shifts_31 rfl rfl (Nat.le_of_ble_eq_true rfl) (by omega) ((congrFun (hF4.at (by omega) (by omega)) _).trans (hj.po (by omega))) ?_
          have hr3 := PI.hd hI (q := p + 5) (i := i) rfl (by omega)
          refine w_iload_n dX8_shifts_32 rfl rfl ?_
          refine w_iadd dX8_shifts_33 ?_
          refine w_goto (tgt := 38) dX8_shifts_34 rfl ?_
          exact hJ23_1 _ (by first | omega | simp [*])
  exact hL4 _ 1 0 μ rfl Fr.rf (by first | omega | assumption) (by omega) rfl (fun j h1 h2 => by omega)

set_option maxRecDepth 100000 in
set_option maxHeartbeats 4000000 in
theorem s_X8_ifKnee (X : AX) (p : Int) (n : Int) (w : Int) (μ : Mu) (hC : CJ μ p) (hJ : RJ μ p) (hn : -2147483648 ≤ n ∧ n ≤ 2147483647) (hw : -2147483648 ≤ w ∧ w ≤ 2147483647) : Wp (GG X) M_X8_ifKnee 0 [(2, 45), (0, n), (0, w), (9, 0)] [] μ (qI 0 fun z μ' => (Fr 45 45 57 61 μ' μ) ∧ (z = if (4 ≤ n ∧ n ≤ 24) ∧ 0 ≤ w ∧ w ≤ 3 then totA (tst (ddt μ p (p + 5) n) (μ p 14)) w else -1) ∧ (RJ μ' p) ∧ (∀ k : Int, (¬ k = 0 ∧ ¬ k = 19 ∧ ¬ (21 ≤ k ∧ k ≤ 24) ∧ ¬ (29 ≤ k ∧ k ≤ 33)) → μ' 45 k = μ 45 k)) := by
  have hI := hC.i
  have hG := hC.pg
  have hp := hI.at
  have hz := hI.sz
  have hgr := hG.gr
  have hkn := hC.kn
  have hRA := hJ.rag hC
  refine w_aload_n dX8_ifKnee_0 rfl rfl (by first | decide | omega) ?_
  refine w_iconst dX8_ifKnee_1 ?_
  refine w_putI (o := 45) (f := 0) fX8_ifKnee_2 rfl rfl rfl rfl rfl ?_
  have hF_μ4 : Fr 45 45 57 61 (am_up μ 45 0 0) μ := (Fr.rf.up (by omega))
  have hA4 : RAg (ddt μ p (p + 5) (μ p 3)) (μ (p + 9)) (μ p 14) (am_up μ 45 0 0) := (RAg.cg2 hRA (fun o h1 => (am_up_o (by omega))) (fun k h1 => (am_up_nk (by omega))))
  have hJ4 : RJ (am_up μ 45 0 0) p := (RJ.cg2 hJ (fun o h1 => (am_up_o (by omega))) (fun k h1 => (am_up_nk (by omega))))
  have hj4 : RJz (am_up μ 45 0 0) p := hJ4.j0
  have hC4 : CJ (am_up μ 45 0 0) p := (CJ.cg hC (fun o h1 => (am_up_o (by omega))))
  have h564 : ∀ j : Int, 0 ≤ j → j < μ p 7 → (am_up μ 45 0 0) 56 j = μ (p + 5) j := (fun j h1 h2 => ((congrFun (am_up_o (by omega)) _).trans ((fun j h1 h2 => hJ.ht ⟨h1, h2⟩) j h1 h2)))
  have h194 : (am_up μ 45 0 0) 45 19 = μ p 3 := (((am_up_nk (by omega)).trans hJ.f19).trans (by rfl))
  have hff4 : ∀ k : Int, ¬ k = 0 → (am_up μ 45 0 0) 45 k = μ 45 k := (fun k h1 => (am_up_nk (by omega)))
  refine Wp.mu (fun μ4 hμ4 => ?_)
  rw [← hμ4] at hF_μ4 hA4 hJ4 hj4 hC4 h564 h194 hff4
  clear hμ4
  have e4 : ∀ o : Int, p ≤ o ∧ o ≤ p + 10 → μ4 o = μ o := fun o h1 => hF_μ4.at (by omega) (by omega)
  have e47 : μ4 p 7 = μ p 7 := congrFun (e4 p (by omega)) _
  have e414 : μ4 p 14 = μ p 14 := congrFun (e4 p (by omega)) _
  refine w_iload_n dX8_ifKnee_5 rfl rfl ?_
  refine w_iconst dX8_ifKnee_6 ?_
  refine w_bipush dX8_ifKnee_7 (by decide) ?_
  refine w_callSP (as := [(0, n), (0, 4), (0, 24)]) (rest := []) (k := 0) fX8_ifKnee_9 rfl rfl rfl rfl rfl (Nat.le_of_ble_eq_true rfl) (s_X8_isIn X n 4 24 μ4 (by first | omega | assumption) (by first | omega | assumption) (by first | omega | assumption)) ?_
  have hf1 := am_b_r (4 ≤ n ∧ n ≤ 24)
  refine w_if_eq (tgt := 24) dX8_ifKnee_12 rfl (R32.in (by have := am_b_r ((4 ≤ n ∧ n ≤ 24)); omega)) (fun c12 => ?_) (fun c12 => ?_)
  · skip
    replace c12 := am_b0 c12
    refine w_iconst dX8_ifKnee_24 ?_
    exact w_iretI dX8_ifKnee_25 rfl ⟨hF_μ4, (by exact ifF (by omega) rfl), hJ4, (fun k h1 => (hff4 k (by omega)))⟩
  · skip
    replace c12 := am_b1 c12
    refine w_iload_n dX8_ifKnee_15 rfl rfl ?_
    refine w_iconst dX8_ifKnee_16 ?_
    refine w_iconst dX8_ifKnee_17 ?_
    refine w_callSP (as := [(0, w), (0, 0), (0, 3)]) (rest := []) (k := 0) fX8_ifKnee_18 rfl rfl rfl rfl rfl (Nat.le_of_ble_eq_true rfl) (s_X8_isIn X w 0 3 μ4 (by first | omega | assumption) (by first | omega | assumption) (by first | omega | assumption)) ?_
    have hf2 := am_b_r (0 ≤ w ∧ w ≤ 3)
    refine w_if_ne (tgt := 26) dX8_ifKnee_21 rfl (R32.in (by have := am_b_r ((0 ≤ w ∧ w ≤ 3)); omega)) (fun c21 => ?_) (fun c21 => ?_)
    · skip
      replace c21 := am_b1 c21
      refine w_aload_n dX8_ifKnee_26 rfl rfl (by first | decide | omega) ?_
      refine w_iload_n dX8_ifKnee_27 rfl rfl ?_
      refine w_putI (o := 45) (f := 19) fX8_ifKnee_28 rfl rfl rfl rfl rfl ?_
      have hF_μ5 : Fr 45 45 57 61 (am_up μ4 45 19 n) μ := (hF_μ4.up (by omega))
      have hj5 : RJz (am_up μ4 45 19 n) p := (RJz.cg2 hj4 (fun o h1 => (am_up_o (by omega))) (fun k h1 => (am_up_nk (by omega))))
      have h195 : (am_up μ4 45 19 n) 45 19 = n := (am_up_at.trans (by rfl))
      have h565 : ∀ j : Int, 0 ≤ j → j < μ p 7 → (am_up μ4 45 19 n) 56 j = μ (p + 5) j := (fun j h1 h2 => ((congrFun (am_up_o (by omega)) _).trans (h564 j h1 h2)))
      have hff5 : ∀ k : Int, (¬ k = 0 ∧ ¬ k = 19) → (am_up μ4 45 19 n) 45 k = μ 45 k := (fun k h1 => ((am_up_nk (by omega)).trans (hff4 k (by omega))))
      refine Wp.mu (fun μ5 hμ5 => ?_)
      rw [← hμ5] at hF_μ5 hj5 h195 h565 hff5
      clear hμ5
      have hA5 : RAg (ddt μ p (p + 5) n) (μ (p + 9)) (μ p 14) μ5 := hj5.rag (hf := μ (p + 5)) hC (fun o h1 => hF_μ5.at (by omega) (by omega)) (by omega) h195 (fun i h1 h2 h3 => ⟨h565 i h1 h2, hI.hd (q := p + 5) rfl ⟨h1, h2⟩⟩)
      refine w_aload_n dX8_ifKnee_31 rfl rfl (by first | decide | omega) ?_
      refine w_iload_n dX8_ifKnee_32 rfl rfl ?_
      refine w_callVI (o := 45) (ci := 8) (as := [(0, w)]) (rest := []) (k := 0) fX8_ifKnee_33 rfl rfl rfl rfl rfl rfl rfl rfl (Nat.le_of_ble_eq_true rfl) (s_X8_totalOf X (ddt μ p (p + 5) n) (μ (p + 9)) (μ p 14) w μ5 hA5 (by first | omega | assumption)) (fun xT μT hμT => ?_)
      obtain ⟨hFT, hz_T, hA2_T, hf_T⟩ := hμT
      refine w_istore_n (ls' := [(2, 45), (0, n), (0, w), (0, xT)]) dX8_ifKnee_36 rfl (Nat.le_of_ble_eq_true rfl) rfl rfl ?_
      refine w_aload_n dX8_ifKnee_37 rfl rfl (by first | decide | omega) ?_
      refine w_aload_n dX8_ifKnee_38 rfl rfl (by first | decide | omega) ?_
      refine w_getIx (o := 45) (f := 5) (x := μ p 3) fX8_ifKnee_39 rfl rfl (Nat.le_of_ble_eq_true rfl) rfl ((hf_T _ (by omega)).trans ((hff5 _ (by omega)).trans hJ.f5)) ?_
      refine w_putI (o := 45) (f := 19) fX8_ifKnee_42 rfl rfl rfl rfl rfl ?_
      refine w_iload_n dX8_ifKnee_45 rfl rfl ?_
      exact w_iretI dX8_ifKnee_46 rfl ⟨(((hFT.wd (by omega) (by omega)).tr hF_μ5).up (by omega)), (by exact ifT (by omega) hz_T), RJz.of2 hp (((hFT.wd (by omega) (by omega)).tr hF_μ5).up (by omega)) (by omega) (RJz.cg2 hj5 (fun o h1 => ((am_up_o (by omega)).trans (hFT.at (by omega) (by omega)))) (fun k h1 => ((am_up_nk (by omega)).trans (hf_T _ (by omega))))) (am_up_at.trans (by rfl)) (fun j h1 h2 => ((congrFun (am_up_o (by omega)) _).trans ((congrFun (hFT.at (by omega) (by omega)) _).trans (h565 j h1 h2)))), (fun k h1 => ((am_up_nk (by omega)).trans ((hf_T k (by omega)).trans (hff5 k (by omega)))))⟩
    · skip
      replace c21 := am_b0 c21
      refine w_iconst dX8_ifKnee_24 ?_
      exact w_iretI dX8_ifKnee_25 rfl ⟨hF_μ4, (by exact ifF (by omega) rfl), hJ4, (fun k h1 => (hff4 k (by omega)))⟩

set_option maxRecDepth 100000 in
set_option maxHeartbeats 4000000 in
theorem s_X8_ifShifted (X : AX) (p : Int) (t : Int) (w : Int) (μ : Mu) (hC : CJ μ p) (hJ : RJ μ p) (ht : -2147483648 ≤ t ∧ t ≤ 2147483647) (hw : -2147483648 ≤ w ∧ w ≤ 2147483647) : Wp (GG X) M_X8_ifShifted 0 [(2, 45), (0, t), (0, w), (9, 0)] [] μ (qI 0 fun z μ' => (Fr 45 45 56 61 μ' μ) ∧ (z = if ((-12 ≤ t ∧ t ≤ 12) ∧ 0 ≤ w ∧ w ≤ 3) ∧ shB μ p t = true then totA (tst (ddS μ p t) (μ p 14)) w else -1) ∧ (RJ μ' p) ∧ (∀ k : Int, (¬ k = 0 ∧ ¬ k = 19 ∧ ¬ (21 ≤ k ∧ k ≤ 24) ∧ ¬ (29 ≤ k ∧ k ≤ 33)) → μ' 45 k = μ 45 k)) := by
  have hI := hC.i
  have hG := hC.pg
  have hp := hI.at
  have hz := hI.sz
  have hgr := hG.gr
  have hkn := hC.kn
  have hRA := hJ.rag hC
  refine w_aload_n dX8_ifShifted_0 rfl rfl (by first | decide | omega) ?_
  refine w_iconst dX8_ifShifted_1 ?_
  refine w_putI (o := 45) (f := 0) fX8_ifShifted_2 rfl rfl rfl rfl rfl ?_
  have hF_μ4 : Fr 45 45 57 61 (am_up μ 45 0 0) μ := (Fr.rf.up (by omega))
  have hA4 : RAg (ddt μ p (p + 5) (μ p 3)) (μ (p + 9)) (μ p 14) (am_up μ 45 0 0) := (RAg.cg2 hRA (fun o h1 => (am_up_o (by omega))) (fun k h1 => (am_up_nk (by omega))))
  have hJ4 : RJ (am_up μ 45 0 0) p := (RJ.cg2 hJ (fun o h1 => (am_up_o (by omega))) (fun k h1 => (am_up_nk (by omega))))
  have hj4 : RJz (am_up μ 45 0 0) p := hJ4.j0
  have hC4 : CJ (am_up μ 45 0 0) p := (CJ.cg hC (fun o h1 => (am_up_o (by omega))))
  have h564 : ∀ j : Int, 0 ≤ j → j < μ p 7 → (am_up μ 45 0 0) 56 j = μ (p + 5) j := (fun j h1 h2 => ((congrFun (am_up_o (by omega)) _).trans ((fun j h1 h2 => hJ.ht ⟨h1, h2⟩) j h1 h2)))
  have h194 : (am_up μ 45 0 0) 45 19 = μ p 3 := (((am_up_nk (by omega)).trans hJ.f19).trans (by rfl))
  have hff4 : ∀ k : Int, ¬ k = 0 → (am_up μ 45 0 0) 45 k = μ 45 k := (fun k h1 => (am_up_nk (by omega)))
  refine Wp.mu (fun μ4 hμ4 => ?_)
  rw [← hμ4] at hF_μ4 hA4 hJ4 hj4 hC4 h564 h194 hff4
  clear hμ4
  have e4 : ∀ o : Int, p ≤ o ∧ o ≤ p + 10 → μ4 o = μ o := fun o h1 => hF_μ4.at (by omega) (by omega)
  have e47 : μ4 p 7 = μ p 7 := congrFun (e4 p (by omega)) _
  have e414 : μ4 p 14 = μ p 14 := congrFun (e4 p (by omega)) _
  refine w_iload_n dX8_ifShifted_5 rfl rfl ?_
  refine w_bipush dX8_ifShifted_6 (by decide) ?_
  refine w_bipush dX8_ifShifted_8 (by decide) ?_
  refine w_callSP (as := [(0, t), (0, -12), (0, 12)]) (rest := []) (k := 0) fX8_ifShifted_10 rfl rfl rfl rfl rfl (Nat.le_of_ble_eq_true rfl) (s_X8_isIn X t (-12) 12 μ4 (by first | omega | assumption) (by first | omega | assumption) (by first | omega | assumption)) ?_
  have hf1 := am_b_r ((-12) ≤ t ∧ t ≤ 12)
  refine w_if_eq (tgt := 25) dX8_ifShifted_13 rfl (R32.in (by have := am_b_r (((-12) ≤ t ∧ t ≤ 12)); omega)) (fun c13 => ?_) (fun c13 => ?_)
  · skip
    replace c13 := am_b0 c13
    refine w_iconst dX8_ifShifted_25 ?_
    exact w_iretI dX8_ifShifted_26 rfl ⟨(hF_μ4.wd (by omega) (by omega)), (by exact ifF (fun q => by omega) rfl), hJ4, (fun k h1 => (hff4 k (by omega)))⟩
  · skip
    replace c13 := am_b1 c13
    refine w_iload_n dX8_ifShifted_16 rfl rfl ?_
    refine w_iconst dX8_ifShifted_17 ?_
    refine w_iconst dX8_ifShifted_18 ?_
    refine w_callSP (as := [(0, w), (0, 0), (0, 3)]) (rest := []) (k := 0) fX8_ifShifted_19 rfl rfl rfl rfl rfl (Nat.le_of_ble_eq_true rfl) (s_X8_isIn X w 0 3 μ4 (by first | omega | assumption) (by first | omega | assumption) (by first | omega | assumption)) ?_
    have hf2 := am_b_r (0 ≤ w ∧ w ≤ 3)
    refine w_if_ne (tgt := 27) dX8_ifShifted_22 rfl (R32.in (by have := am_b_r ((0 ≤ w ∧ w ≤ 3)); omega)) (fun c22 => ?_) (fun c22 => ?_)
    · skip
      replace c22 := am_b1 c22
      refine w_aload_n dX8_ifShifted_27 rfl rfl (by first | decide | omega) ?_
      refine w_iload_n dX8_ifShifted_28 rfl rfl ?_
      refine w_callVI (o := 45) (ci := 8) (as := [(0, t)]) (rest := []) (k := 2) fX8_ifShifted_29 rfl rfl rfl rfl rfl rfl rfl rfl (Nat.le_of_ble_eq_true rfl) (s_X8_shifts X p t μ4 hC4 hj4 (by first | omega | assumption)) (fun xS μS hμS => ?_)
      obtain ⟨hFS, hz_S, h56_S, hj_S⟩ := hμS
      have eS : ∀ o : Int, p ≤ o ∧ o ≤ p + 10 → μ4 o = μ o := e4
      rw [shB_cg eS] at hz_S
      have h56S : ∀ j : Int, 0 ≤ j → j < μ p 7 → μS 56 j = shF μ p t j := fun j h1 h2 => (h56_S j h1 (by rw [eS p (by omega)]; exact h2)).trans (shF_cg eS)
      have h19S : μS 45 19 = μ p 3 := (congrFun (hFS.at (by omega) (by omega)) 19).trans h194
      refine w_if_eq (tgt := 43) dX8_ifShifted_32 rfl (R32.in (by omega)) (fun c32 => ?_) (fun c32 => ?_)
      · skip
        have hsb : ¬ shB μ p t = true := hz_S.elim (fun h => h.2) (fun h => by omega)
        refine w_iconst dX8_ifShifted_43 ?_
        refine w_istore_n (ls' := [(2, 45), (0, t), (0, w), (0, -1)]) dX8_ifShifted_44 rfl (Nat.le_of_ble_eq_true rfl) rfl rfl ?_
        refine w_aload_n dX8_ifShifted_45 rfl rfl (by first | decide | omega) ?_
        refine w_callVV (o := 45) (ci := 8) (as := []) (rest := []) (k := 1) fX8_ifShifted_46 rfl rfl rfl rfl rfl rfl rfl rfl (Nat.le_of_ble_eq_true rfl) (s_X8_thinksPlainly X p μS (CJ.cg hC4 (fun o h1 => (hFS.at (by omega) (by omega)))) hj_S) (fun μP hμP => ?_)
        obtain ⟨hFP, hJ_P, hf_P⟩ := hμP
        refine w_iload_n dX8_ifShifted_49 rfl rfl ?_
        exact w_iretI dX8_ifShifted_50 rfl ⟨((hFP.wd (by omega) (by omega)).tr ((hFS.wd (by omega) (by omega)).tr (hF_μ4.wd (by omega) (by omega)))), (by first | exact ifT ⟨by omega, hsb⟩ hz_T | exact ifF (fun q => hsb q.2) rfl), hJ_P, (fun k h1 => ((hf_P k (by omega)).trans ((congrFun (hFS.at (by omega) (by omega)) _).trans (hff4 k (by omega)))))⟩
      · skip
        have hsb : shB μ p t = true := hz_S.elim (fun h => by omega) (fun h => h.2)
        have hA5 : RAg (ddS μ p t) (μ (p + 9)) (μ p 14) μS := hj_S.rag hC (fun o h1 => (hFS.at (by omega) (by omega)).trans (e4 o h1)) hkn h19S (fun i h1 h2 h3 => ⟨(h56S i h1 h2).trans (shF_1 h3), by have q9 := (shI_iff hz.1).mp hsb i h1 h2; rw [shF_1 h3] at q9; exact q9⟩)
        refine w_aload_n dX8_ifShifted_35 rfl rfl (by first | decide | omega) ?_
        refine w_iload_n dX8_ifShifted_36 rfl rfl ?_
        refine w_callVI (o := 45) (ci := 8) (as := [(0, w)]) (rest := []) (k := 0) fX8_ifShifted_37 rfl rfl rfl rfl rfl rfl rfl rfl (Nat.le_of_ble_eq_true rfl) (s_X8_totalOf X (ddS μ p t) (μ (p + 9)) (μ p 14) w μS hA5 (by first | omega | assumption)) (fun xT μT hμT => ?_)
        obtain ⟨hFT, hz_T, hA2_T, hf_T⟩ := hμT
        refine w_goto (tgt := 44) dX8_ifShifted_40 rfl ?_
        refine w_istore_n (ls' := [(2, 45), (0, t), (0, w), (0, xT)]) dX8_ifShifted_44 rfl (Nat.le_of_ble_eq_true rfl) rfl rfl ?_
        refine w_aload_n dX8_ifShifted_45 rfl rfl (by first | decide | omega) ?_
        refine w_callVV (o := 45) (ci := 8) (as := []) (rest := []) (k := 1) fX8_ifShifted_46 rfl rfl rfl rfl rfl rfl rfl rfl (Nat.le_of_ble_eq_true rfl) (s_X8_thinksPlainly X p μT (CJ.cg hC4 (fun o h1 => ((hFT.at (by omega) (by omega)).trans (hFS.at (by omega) (by omega))))) (RJz.cg2 hj_S (fun o h1 => (hFT.at (by omega) (by omega))) (fun k h1 => (hf_T _ (by omega))))) (fun μP hμP => ?_)
        obtain ⟨hFP, hJ_P, hf_P⟩ := hμP
        refine w_iload_n dX8_ifShifted_49 rfl rfl ?_
        exact w_iretI dX8_ifShifted_50 rfl ⟨((hFP.wd (by omega) (by omega)).tr ((hFT.wd (by omega) (by omega)).tr ((hFS.wd (by omega) (by omega)).tr (hF_μ4.wd (by omega) (by omega))))), (by first | exact ifT ⟨by omega, hsb⟩ hz_T | exact ifF (fun q => hsb q.2) rfl), hJ_P, (fun k h1 => ((hf_P k (by omega)).trans ((hf_T k (by omega)).trans ((congrFun (hFS.at (by omega) (by omega)) _).trans (hff4 k (by omega))))))⟩
    · skip
      replace c22 := am_b0 c22
      refine w_iconst dX8_ifShifted_25 ?_
      exact w_iretI dX8_ifShifted_26 rfl ⟨(hF_μ4.wd (by omega) (by omega)), (by exact ifF (fun q => by omega) rfl), hJ4, (fun k h1 => (hff4 k (by omega)))⟩

set_option maxRecDepth 100000 in
set_option maxHeartbeats 4000000 in
theorem s_X8_ifPut (X : AX) (p : Int) (i : Int) (q : Int) (w : Int) (μ : Mu) (hC : CJ μ p) (hJ : RJ μ p) (hi : -2147483648 ≤ i ∧ i ≤ 2147483647) (hq : -2147483648 ≤ q ∧ q ≤ 2147483647) (hw : -2147483648 ≤ w ∧ w ≤ 2147483647) : Wp (GG X) M_X8_ifPut 0 [(2, 45), (0, i), (0, q), (0, w), (9, 0)] [] μ (qI 0 fun z μ' => (Fr 45 45 56 61 μ' μ) ∧ (z = if (0 ≤ i ∧ i < μ p 7 ∧ 0 ≤ μ (p + 8) i) ∧ (-12 ≤ q ∧ q ≤ 12) ∧ 0 ≤ w ∧ w ≤ 5 then ansB (ddP μ p i q) w else -1000000) ∧ (RJ μ' p) ∧ (∀ k : Int, (¬ k = 0 ∧ ¬ k = 19 ∧ ¬ (21 ≤ k ∧ k ≤ 24) ∧ ¬ (29 ≤ k ∧ k ≤ 33)) → μ' 45 k = μ 45 k)) := by
  have hI := hC.i
  have hG := hC.pg
  have hp := hI.at
  have hz := hI.sz
  have hgr := hG.gr
  have hkn := hC.kn
  have hRA := hJ.rag hC
  refine w_aload_n dX8_ifPut_0 rfl rfl (by first | decide | omega) ?_
  refine w_iconst dX8_ifPut_1 ?_
  refine w_putI (o := 45) (f := 0) fX8_ifPut_2 rfl rfl rfl rfl rfl ?_
  have hF_μ4 : Fr 45 45 57 61 (am_up μ 45 0 0) μ := (Fr.rf.up (by omega))
  have hA4 : RAg (ddt μ p (p + 5) (μ p 3)) (μ (p + 9)) (μ p 14) (am_up μ 45 0 0) := (RAg.cg2 hRA (fun o h1 => (am_up_o (by omega))) (fun k h1 => (am_up_nk (by omega))))
  have hJ4 : RJ (am_up μ 45 0 0) p := (RJ.cg2 hJ (fun o h1 => (am_up_o (by omega))) (fun k h1 => (am_up_nk (by omega))))
  have hj4 : RJz (am_up μ 45 0 0) p := hJ4.j0
  have hC4 : CJ (am_up μ 45 0 0) p := (CJ.cg hC (fun o h1 => (am_up_o (by omega))))
  have h564 : ∀ j : Int, 0 ≤ j → j < μ p 7 → (am_up μ 45 0 0) 56 j = μ (p + 5) j := (fun j h1 h2 => ((congrFun (am_up_o (by omega)) _).trans ((fun j h1 h2 => hJ.ht ⟨h1, h2⟩) j h1 h2)))
  have h194 : (am_up μ 45 0 0) 45 19 = μ p 3 := (((am_up_nk (by omega)).trans hJ.f19).trans (by rfl))
  have hff4 : ∀ k : Int, ¬ k = 0 → (am_up μ 45 0 0) 45 k = μ 45 k := (fun k h1 => (am_up_nk (by omega)))
  refine Wp.mu (fun μ4 hμ4 => ?_)
  rw [← hμ4] at hF_μ4 hA4 hJ4 hj4 hC4 h564 h194 hff4
  clear hμ4
  have e4 : ∀ o : Int, p ≤ o ∧ o ≤ p + 10 → μ4 o = μ o := fun o h1 => hF_μ4.at (by omega) (by omega)
  have e47 : μ4 p 7 = μ p 7 := congrFun (e4 p (by omega)) _
  have e414 : μ4 p 14 = μ p 14 := congrFun (e4 p (by omega)) _
  have e48 : μ4 (p + 8) i = μ (p + 8) i := congrFun (e4 (p + 8) (by omega)) _
  have e44 : μ4 (p + 4) i = μ (p + 4) i := congrFun (e4 (p + 4) (by omega)) _
  refine w_aload_n dX8_ifPut_5 rfl rfl (by first | decide | omega) ?_
  refine w_iload_n dX8_ifPut_6 rfl rfl ?_
  refine w_callVP (o := 45) (ci := 8) (as := [(0, i)]) (rest := []) (k := 0) fX8_ifPut_7 rfl rfl rfl rfl rfl rfl rfl rfl (Nat.le_of_ble_eq_true rfl) (s_X8_isOfGroup X p i μ4 hC4 hJ4 (by first | omega | assumption)) ?_
  have hf1 := am_b_r (0 ≤ i ∧ i < μ4 p 7 ∧ 0 ≤ μ4 (p + 8) i)
  refine w_if_eq (tgt := 33) dX8_ifPut_10 rfl (R32.in (by have := am_b_r ((0 ≤ i ∧ i < μ4 p 7 ∧ 0 ≤ μ4 (p + 8) i)); omega)) (fun c10 => ?_) (fun c10 => ?_)
  · skip
    replace c10 := am_b0 c10
    refine w_ldc (n := -1000000) dX8_ifPut_33 k_1620 (by decide) ?_
    exact w_iretI dX8_ifPut_35 rfl ⟨(hF_μ4.wd (by omega) (by omega)), (by exact ifF (by omega) rfl), hJ4, (fun k h1 => (hff4 k (by omega)))⟩
  · skip
    replace c10 := am_b1 c10
    refine w_iload_n dX8_ifPut_13 rfl rfl ?_
    refine w_bipush dX8_ifPut_14 (by decide) ?_
    refine w_bipush dX8_ifPut_16 (by decide) ?_
    refine w_callSP (as := [(0, q), (0, -12), (0, 12)]) (rest := []) (k := 0) fX8_ifPut_18 rfl rfl rfl rfl rfl (Nat.le_of_ble_eq_true rfl) (s_X8_isIn X q (-12) 12 μ4 (by first | omega | assumption) (by first | omega | assumption) (by first | omega | assumption)) ?_
    have hf2 := am_b_r ((-12) ≤ q ∧ q ≤ 12)
    refine w_if_eq (tgt := 33) dX8_ifPut_21 rfl (R32.in (by have := am_b_r (((-12) ≤ q ∧ q ≤ 12)); omega)) (fun c21 => ?_) (fun c21 => ?_)
    · skip
      replace c21 := am_b0 c21
      refine w_ldc (n := -1000000) dX8_ifPut_33 k_1620 (by decide) ?_
      exact w_iretI dX8_ifPut_35 rfl ⟨(hF_μ4.wd (by omega) (by omega)), (by exact ifF (by omega) rfl), hJ4, (fun k h1 => (hff4 k (by omega)))⟩
    · skip
      replace c21 := am_b1 c21
      refine w_iload_n dX8_ifPut_24 rfl rfl ?_
      refine w_iconst dX8_ifPut_25 ?_
      refine w_iconst dX8_ifPut_26 ?_
      refine w_callSP (as := [(0, w), (0, 0), (0, 5)]) (rest := []) (k := 0) fX8_ifPut_27 rfl rfl rfl rfl rfl (Nat.le_of_ble_eq_true rfl) (s_X8_isIn X w 0 5 μ4 (by first | omega | assumption) (by first | omega | assumption) (by first | omega | assumption)) ?_
      have hf3 := am_b_r (0 ≤ w ∧ w ≤ 5)
      refine w_if_ne (tgt := 36) dX8_ifPut_30 rfl (R32.in (by have := am_b_r ((0 ≤ w ∧ w ≤ 5)); omega)) (fun c30 => ?_) (fun c30 => ?_)
      · skip
        replace c30 := am_b1 c30
        refine w_aload_n dX8_ifPut_36 rfl rfl (by first | decide | omega) ?_
        refine w_getR (o := 45) (x := 56) fX8_ifPut_37 rfl rfl rfl rfl ?_
        refine w_iload_n dX8_ifPut_40 rfl rfl ?_
        refine w_iload_n dX8_ifPut_41 rfl rfl ?_
        refine w_iast (o := 56) (n := 64) dX8_ifPut_42 rfl rfl (Nat.le_of_ble_eq_true rfl) (by omega) (by omega) ?_
        have hF_μ5 : Fr 45 45 56 61 (am_up μ4 56 i q) μ := ((hF_μ4.wd (by omega) (by omega)).up (by omega))
        have hj5 : RJz (am_up μ4 56 i q) p := (RJz.cg2 hj4 (fun o h1 => (am_up_o (by omega))) (fun k h1 => (congrFun (am_up_o (by omega)) _)))
        have h195 : (am_up μ4 56 i q) 45 19 = μ p 3 := (((congrFun (am_up_o (by first | decide | omega)) _).trans ((hff4 _ (by omega)).trans hJ.f19)).trans (by rfl))
        have h565 : ∀ j : Int, 0 ≤ j → j < μ p 7 → (am_up μ4 56 i q) 56 j = if j = i then q else μ (p + 5) j := (setr (g := fun j => if j = i then q else μ (p + 5) j) h564 (if_pos rfl).symm (fun j h1 h2 h3 => if_neg h3))
        have hff5 : ∀ k : Int, ¬ k = 0 → (am_up μ4 56 i q) 45 k = μ 45 k := (fun k h1 => ((congrFun (am_up_o (by omega)) _).trans (hff4 k (by omega))))
        refine Wp.mu (fun μ5 hμ5 => ?_)
        rw [← hμ5] at hF_μ5 hj5 h195 h565 hff5
        clear hμ5
        have hgo := hG.go (i := i) (by omega)
        have hgo2 := hG.go2 (i := i) ⟨by omega, by omega⟩ (by omega)
        have hgf := hG.fl (g := μ (p + 8) i) (by omega)
        have hG5 : RGs (ddP μ p i q) (μ (p + 9) (μ (p + 8) i)) (μ (p + 8) i) μ5 := hj5.rgs (hf := (fun j => if j = i then q else μ (p + 5) j)) hC (fun o h1 => hF_μ5.at (by omega) (by omega)) (by omega) hkn h195 (fun j h1 h2 => ⟨h565 j (by omega) (by omega), by have q9 := hI.hd (q := p + 5) (i := j) rfl (by omega); show -12 ≤ (if j = i then q else μ (p + 5) j) ∧ (if j = i then q else μ (p + 5) j) ≤ 12; split <;> omega⟩)
        refine w_aload_n dX8_ifPut_43 rfl rfl (by first | decide | omega) ?_
        refine w_aload_n dX8_ifPut_44 rfl rfl (by first | decide | omega) ?_
        refine w_getR (o := 45) (x := 53) fX8_ifPut_45 rfl rfl rfl rfl ?_
        refine w_iload_n dX8_ifPut_48 rfl rfl ?_
        refine w_ialdx (o := 53) (n := 64) (x := goR (μ (p + 8) i)) dX8_ifPut_49 rfl rfl (Nat.le_of_ble_eq_true rfl) (by omega) ((congrFun (hF_μ5.at (by omega) (by omega)) _).trans (hJ.go (by omega))) ?_
        have hr4 := goR_f (μ (p + 8) i)
        have hr5 := PG.go hG (i := i) (by omega)
        refine Wp.topE (b := μ (p + 8) i) (by omega) ?_
        refine w_iload_n dX8_ifPut_50 rfl rfl ?_
        refine w_callVI (o := 45) (ci := 8) (as := [(0, μ (p + 8) i), (0, w)]) (rest := []) (k := 1) fX8_ifPut_51 rfl rfl rfl rfl rfl rfl rfl rfl (Nat.le_of_ble_eq_true rfl) (s_X8_bestOf X (ddP μ p i q) (μ (p + 9) (μ (p + 8) i)) (μ (p + 8) i) w μ5 hG5 (by first | omega | assumption)) (fun xB μB hμB => ?_)
        obtain ⟨hFB, hz_B, hS_B, hf_B⟩ := hμB
        refine w_istore (ls' := [(2, 45), (0, i), (0, q), (0, w), (0, xB)]) dX8_ifPut_54 (Nat.le_of_ble_eq_true rfl) rfl rfl ?_
        refine w_aload_n dX8_ifPut_56 rfl rfl (by first | decide | omega) ?_
        refine w_callVV (o := 45) (ci := 8) (as := []) (rest := []) (k := 1) fX8_ifPut_57 rfl rfl rfl rfl rfl rfl rfl rfl (Nat.le_of_ble_eq_true rfl) (s_X8_thinksPlainly X p μB (CJ.cg hC (fun o h1 => ((hFB.at (by omega) (by omega)).trans (hF_μ5.at (by omega) (by omega))))) (RJz.cg2 hj5 (fun o h1 => (hFB.at (by omega) (by omega))) (fun k h1 => (hf_B _ (by omega))))) (fun μP hμP => ?_)
        obtain ⟨hFP, hJ_P, hf_P⟩ := hμP
        refine w_iload dX8_ifPut_60 rfl ?_
        exact w_iretI dX8_ifPut_62 rfl ⟨((hFP.wd (by omega) (by omega)).tr ((hFB.wd (by omega) (by omega)).tr hF_μ5)), (by exact ifT (by omega) hz_B), hJ_P, (fun k h1 => ((hf_P k (by omega)).trans ((hf_B k (by omega)).trans (hff5 k (by omega)))))⟩
      · skip
        replace c30 := am_b0 c30
        refine w_ldc (n := -1000000) dX8_ifPut_33 k_1620 (by decide) ?_
        exact w_iretI dX8_ifPut_35 rfl ⟨(hF_μ4.wd (by omega) (by omega)), (by exact ifF (by omega) rfl), hJ4, (fun k h1 => (hff4 k (by omega)))⟩

set_option maxRecDepth 100000 in
set_option maxHeartbeats 4000000 in
theorem s_X8_wish (X : AX) (p : Int) (i : Int) (μ : Mu) (hC : CJ μ p) (hJ : RJ μ p) (hi : -2147483648 ≤ i ∧ i ≤ 2147483647) : Wp (GG X) M_X8_wish 0 [(2, 45), (0, i), (9, 0), (9, 0), (9, 0), (9, 0), (9, 0)] [] μ (qI 0 fun z μ' => (Fr 45 45 56 61 μ' μ) ∧ (((0 ≤ i ∧ i < μ p 7 ∧ 0 ≤ μ (p + 8) i) ∧ wiR μ p i z) ∨ (¬ (0 ≤ i ∧ i < μ p 7 ∧ 0 ≤ μ (p + 8) i) ∧ z = -1000000)) ∧ (RJ μ' p) ∧ (∀ k : Int, (¬ k = 0 ∧ ¬ k = 19 ∧ ¬ (21 ≤ k ∧ k ≤ 24) ∧ ¬ (29 ≤ k ∧ k ≤ 33)) → μ' 45 k = μ 45 k)) := by
  have hI := hC.i
  have hG := hC.pg
  have hp := hI.at
  have hz := hI.sz
  have hgr := hG.gr
  have hkn := hC.kn
  have hRA := hJ.rag hC
  refine w_aload_n dX8_wish_0 rfl rfl (by first | decide | omega) ?_
  refine w_iconst dX8_wish_1 ?_
  refine w_putI (o := 45) (f := 0) fX8_wish_2 rfl rfl rfl rfl rfl ?_
  have hF_μ4 : Fr 45 45 57 61 (am_up μ 45 0 0) μ := (Fr.rf.up (by omega))
  have hA4 : RAg (ddt μ p (p + 5) (μ p 3)) (μ (p + 9)) (μ p 14) (am_up μ 45 0 0) := (RAg.cg2 hRA (fun o h1 => (am_up_o (by omega))) (fun k h1 => (am_up_nk (by omega))))
  have hJ4 : RJ (am_up μ 45 0 0) p := (RJ.cg2 hJ (fun o h1 => (am_up_o (by omega))) (fun k h1 => (am_up_nk (by omega))))
  have hj4 : RJz (am_up μ 45 0 0) p := hJ4.j0
  have hC4 : CJ (am_up μ 45 0 0) p := (CJ.cg hC (fun o h1 => (am_up_o (by omega))))
  have h564 : ∀ j : Int, 0 ≤ j → j < μ p 7 → (am_up μ 45 0 0) 56 j = μ (p + 5) j := (fun j h1 h2 => ((congrFun (am_up_o (by omega)) _).trans ((fun j h1 h2 => hJ.ht ⟨h1, h2⟩) j h1 h2)))
  have h194 : (am_up μ 45 0 0) 45 19 = μ p 3 := (((am_up_nk (by omega)).trans hJ.f19).trans (by rfl))
  have hff4 : ∀ k : Int, ¬ k = 0 → (am_up μ 45 0 0) 45 k = μ 45 k := (fun k h1 => (am_up_nk (by omega)))
  refine Wp.mu (fun μ4 hμ4 => ?_)
  rw [← hμ4] at hF_μ4 hA4 hJ4 hj4 hC4 h564 h194 hff4
  clear hμ4
  have e4 : ∀ o : Int, p ≤ o ∧ o ≤ p + 10 → μ4 o = μ o := fun o h1 => hF_μ4.at (by omega) (by omega)
  have e47 : μ4 p 7 = μ p 7 := congrFun (e4 p (by omega)) _
  have e414 : μ4 p 14 = μ p 14 := congrFun (e4 p (by omega)) _
  have e48 : μ4 (p + 8) i = μ (p + 8) i := congrFun (e4 (p + 8) (by omega)) _
  have e44 : μ4 (p + 4) i = μ (p + 4) i := congrFun (e4 (p + 4) (by omega)) _
  refine w_aload_n dX8_wish_5 rfl rfl (by first | decide | omega) ?_
  refine w_iload_n dX8_wish_6 rfl rfl ?_
  refine w_callVP (o := 45) (ci := 8) (as := [(0, i)]) (rest := []) (k := 0) fX8_wish_7 rfl rfl rfl rfl rfl rfl rfl rfl (Nat.le_of_ble_eq_true rfl) (s_X8_isOfGroup X p i μ4 hC4 hJ4 (by first | omega | assumption)) ?_
  have hf1 := am_b_r (0 ≤ i ∧ i < μ4 p 7 ∧ 0 ≤ μ4 (p + 8) i)
  refine w_if_ne (tgt := 16) dX8_wish_10 rfl (R32.in (by have := am_b_r ((0 ≤ i ∧ i < μ4 p 7 ∧ 0 ≤ μ4 (p + 8) i)); omega)) (fun c10 => ?_) (fun c10 => ?_)
  · skip
    replace c10 := am_b1 c10
    refine w_ldc (n := -1000000) dX8_wish_16 k_1620 (by decide) ?_
    refine w_istore_n (ls' := [(2, 45), (0, i), (0, -1000000), (9, 0), (9, 0), (9, 0), (9, 0)]) dX8_wish_18 rfl (Nat.le_of_ble_eq_true rfl) rfl rfl ?_
    refine w_iconst dX8_wish_19 ?_
    refine w_istore_n (ls' := [(2, 45), (0, i), (0, -1000000), (0, 0), (9, 0), (9, 0), (9, 0)]) dX8_wish_20 rfl (Nat.le_of_ble_eq_true rfl) rfl rfl ?_
    refine w_bipush dX8_wish_21 (by decide) ?_
    refine w_istore (ls' := [(2, 45), (0, i), (0, -1000000), (0, 0), (0, -12), (9, 0), (9, 0)]) dX8_wish_23 (Nat.le_of_ble_eq_true rfl) rfl rfl ?_
    have hL25 : ∀ (n25 : Nat) (b : Int) (le : Int) (t : Int) (μ1 : Mu), (13 - t).toNat = n25 → Fr 45 45 56 61 μ1 μ → (-12 ≤ t ∧ t ≤ 13) → (b = -1000000 ∨ (-12 ≤ b ∧ b ≤ 12)) → (0 ≤ le ∧ le ≤ 10000) → (wrQ μ p i t b le) → (RJz μ1 p) → (μ1 45 19 = μ p 3) → (∀ j : Int, 0 ≤ j → j < μ p 7 → ¬ j = i → μ1 56 j = μ (p + 5) j) → (∀ k : Int, (¬ k = 0 ∧ ¬ (21 ≤ k ∧ k ≤ 24) ∧ ¬ (29 ≤ k ∧ k ≤ 33)) → μ1 45 k = μ 45 k) → Wp (GG X) M_X8_wish 25 [(2, 45), (0, i), (0, b), (0, le), (0, t), (9, 0), (9, 0)] [] μ1 (qI 0 fun z μ' => (Fr 45 45 56 61 μ' μ) ∧ (((0 ≤ i ∧ i < μ p 7 ∧ 0 ≤ μ (p + 8) i) ∧ wiR μ p i z) ∨ (¬ (0 ≤ i ∧ i < μ p 7 ∧ 0 ≤ μ (p + 8) i) ∧ z = -1000000)) ∧ (RJ μ' p) ∧ (∀ k : Int, (¬ k = 0 ∧ ¬ k = 19 ∧ ¬ (21 ≤ k ∧ k ≤ 24) ∧ ¬ (29 ≤ k ∧ k ≤ 33)) → μ' 45 k = μ 45 k)) := by
      intro n25
      induction n25 using Nat.strongRecOn with
      | ind n25 ih25 =>
        intro b le t μ1 hn25 hF25 ht0 hbr hler hw hj1 h191 h561 hfA
        refine w_iload dX8_wish_25 rfl ?_
        refine w_bipush dX8_wish_27 (by decide) ?_
        refine w_icmp_gt (tgt := 140) dX8_wish_29 rfl (R32.in (by omega)) (R32.in (by decide)) (fun c29 => ?_) (fun c29 => ?_)
        · skip
          refine w_aload_n dX8_wish_140 rfl rfl (by first | decide | omega) ?_
          refine w_callVV (o := 45) (ci := 8) (as := []) (rest := []) (k := 1) fX8_wish_141 rfl rfl rfl rfl rfl rfl rfl rfl (Nat.le_of_ble_eq_true rfl) (s_X8_thinksPlainly X p μ1 (CJ.cg hC (fun o h1 => (hF25.at (by omega) (by omega)))) hj1) (fun μP hμP => ?_)
          obtain ⟨hFP, hJ_P, hf_P⟩ := hμP
          refine w_iload_n dX8_wish_144 rfl rfl ?_
          exact w_iretI dX8_wish_145 rfl ⟨((hFP.wd (by omega) (by omega)).tr hF25), (by have he : t = 13 := (by omega); subst he; exact Or.inl ⟨by omega, wrQ_end hC (by omega) hw⟩), hJ_P, (fun k h1 => ((hf_P k (by omega)).trans (hfA k (by omega))))⟩
        · skip
          refine w_aload_n dX8_wish_32 rfl rfl (by first | decide | omega) ?_
          refine w_getR (o := 45) (x := 56) fX8_wish_33 rfl rfl rfl rfl ?_
          refine w_iload_n dX8_wish_36 rfl rfl ?_
          refine w_iload dX8_wish_37 rfl ?_
          refine w_iast (o := 56) (n := 64) dX8_wish_39 rfl rfl (Nat.le_of_ble_eq_true rfl) (by omega) (by omega) ?_
          have hF_μ5 : Fr 45 45 56 61 (am_up μ1 56 i t) μ := (hF25.up (by omega))
          have hj5 : RJz (am_up μ1 56 i t) p := (RJz.cg2 hj1 (fun o h1 => (am_up_o (by omega))) (fun k h1 => (congrFun (am_up_o (by omega)) _)))
          have h195 : (am_up μ1 56 i t) 45 19 = μ p 3 := (((congrFun (am_up_o (by first | decide | omega)) _).trans h191).trans (by rfl))
          have h565 : ∀ j : Int, 0 ≤ j → j < μ p 7 → (am_up μ1 56 i t) 56 j = if j = i then t else μ (p + 5) j := (fun j h1 h2 => by by_cases hj : j = i; rw [hj, if_pos rfl, am_up_at]; rw [if_neg hj, am_up_nk hj]; exact h561 j h1 h2 hj)
          have hff5 : ∀ k : Int, (¬ k = 0 ∧ ¬ (21 ≤ k ∧ k ≤ 24) ∧ ¬ (29 ≤ k ∧ k ≤ 33)) → (am_up μ1 56 i t) 45 k = μ 45 k := (fun k h1 => ((congrFun (am_up_o (by omega)) _).trans (hfA k (by omega))))
          refine Wp.mu (fun μ5 hμ5 => ?_)
          rw [← hμ5] at hF_μ5 hj5 h195 h565 hff5
          clear hμ5
          have hgo := hG.go (i := i) (by omega)
          have hgo2 := hG.go2 (i := i) ⟨by omega, by omega⟩ (by omega)
          have hgf := hG.fl (g := μ (p + 8) i) (by omega)
          have hG5 : RGs (ddP μ p i t) (μ (p + 9) (μ (p + 8) i)) (μ (p + 8) i) μ5 := hj5.rgs (hf := (fun j => if j = i then t else μ (p + 5) j)) hC (fun o h1 => hF_μ5.at (by omega) (by omega)) (by omega) hkn h195 (fun j h1 h2 => ⟨h565 j (by omega) (by omega), by have q9 := hI.hd (q := p + 5) (i := j) rfl (by omega); show -12 ≤ (if j = i then t else μ (p + 5) j) ∧ (if j = i then t else μ (p + 5) j) ≤ 12; split <;> omega⟩)
          refine w_aload_n dX8_wish_40 rfl rfl (by first | decide | omega) ?_
          refine w_aload_n dX8_wish_41 rfl rfl (by first | decide | omega) ?_
          refine w_getR (o := 45) (x := 53) fX8_wish_42 rfl rfl rfl rfl ?_
          refine w_iload_n dX8_wish_45 rfl rfl ?_
          refine w_ialdx (o := 53) (n := 64) (x := goR (μ (p + 8) i)) dX8_wish_46 rfl rfl (Nat.le_of_ble_eq_true rfl) (by omega) ((congrFun (hF_μ5.at (by omega) (by omega)) _).trans (hJ.go (by omega))) ?_
          have hr3 := goR_f (μ (p + 8) i)
          have hr4 := PG.go hG (i := i) (by omega)
          refine Wp.topE (b := μ (p + 8) i) (by omega) ?_
          refine w_iconst dX8_wish_47 ?_
          refine w_callVI (o := 45) (ci := 8) (as := [(0, μ (p + 8) i), (0, 2)]) (rest := []) (k := 1) fX8_wish_48 rfl rfl rfl rfl rfl rfl rfl rfl (Nat.le_of_ble_eq_true rfl) (s_X8_bestOf X (ddP μ p i t) (μ (p + 9) (μ (p + 8) i)) (μ (p + 8) i) 2 μ5 hG5 (by first | omega | assumption)) (fun xB μB hμB => ?_)
          obtain ⟨hFB, hz_B, hS_B, hf_B⟩ := hμB
          have hgk := hS_B.ok
          have hans := ansB_2 hgk
          have hur := bU_r hgk
          refine w_istore (ls' := [(2, 45), (0, i), (0, b), (0, le), (0, t), (0, xB), (9, 0)]) dX8_wish_51 (Nat.le_of_ble_eq_true rfl) rfl rfl ?_
          refine w_iload dX8_wish_53 rfl ?_
          refine w_ldc (n := -1000000) dX8_wish_55 k_1620 (by decide) ?_
          refine w_icmp_ne (tgt := 63) dX8_wish_57 rfl (R32.in (by omega)) (R32.in (by decide)) (fun c57 => ?_) (fun c57 => ?_)
          · skip
            refine w_iload_n dX8_wish_63 rfl rfl ?_
            refine w_ldc (n := -1000000) dX8_wish_64 k_1620 (by decide) ?_
            have hJ66_1 : ∀ z1_0 : Int, z1_0 = (if b = (-1000000) then 0 else (if (ab (b - (μ (p + 5) i))) ≤ (ab (t - (μ (p + 5) i))) then 0 else 1)) → Wp (GG X) M_X8_wish 100 [(2, 45), (0, i), (0, b), (0, le), (0, t), (0, xB), (9, 0)] [(0, z1_0)] μB (qI 0 fun z μ' => (Fr 45 45 56 61 μ' μ) ∧ (((0 ≤ i ∧ i < μ p 7 ∧ 0 ≤ μ (p + 8) i) ∧ wiR μ p i z) ∨ (¬ (0 ≤ i ∧ i < μ p 7 ∧ 0 ≤ μ (p + 8) i) ∧ z = -1000000)) ∧ (RJ μ' p) ∧ (∀ k : Int, (¬ k = 0 ∧ ¬ k = 19 ∧ ¬ (21 ≤ k ∧ k ≤ 24) ∧ ¬ (29 ≤ k ∧ k ≤ 33)) → μ' 45 k = μ 45 k)) := by
              intro z1_0 hz1_0
              refine w_istore (ls' := [(2, 45), (0, i), (0, b), (0, le), (0, t), (0, xB), (0, z1_0)]) dX8_wish_100 (Nat.le_of_ble_eq_true rfl) rfl rfl ?_
              refine w_iload_n dX8_wish_102 rfl rfl ?_
              refine w_ldc (n := -1000000) dX8_wish_103 k_1620 (by decide) ?_
              refine w_icmp_eq (tgt := 128) dX8_wish_105 rfl (R32.in (by omega)) (R32.in (by decide)) (fun c105 => ?_) (fun c105 => ?_)
              · skip
                refine w_iload dX8_wish_128 rfl ?_
                refine w_istore_n (ls' := [(2, 45), (0, i), (0, t), (0, le), (0, t), (0, xB), (0, z1_0)]) dX8_wish_130 rfl (Nat.le_of_ble_eq_true rfl) rfl rfl ?_
                refine w_iload dX8_wish_131 rfl ?_
                refine w_istore_n (ls' := [(2, 45), (0, i), (0, t), (0, xB), (0, t), (0, xB), (0, z1_0)]) dX8_wish_133 rfl (Nat.le_of_ble_eq_true rfl) rfl rfl ?_
                refine w_iinc (ls' := [(2, 45), (0, i), (0, t), (0, xB), (0, t + 1), (0, xB), (0, z1_0)]) dX8_wish_134 rfl (Nat.le_of_ble_eq_true rfl) rfl rfl ?_
                refine w_goto (tgt := 25) dX8_wish_137 rfl ?_
                refine Wp.fgl (ls' := [(2, 45), (0, i), (0, t), (0, xB), (0, t + 1), (9, 0), (0, z1_0)]) 5 rfl ?_
                refine Wp.fgl (ls' := [(2, 45), (0, i), (0, t), (0, xB), (0, t + 1), (9, 0), (9, 0)]) 6 rfl ?_
                exact ih25 _ (by omega) t xB (t + 1) μB rfl ((hFB.wd (by omega) (by omega)).tr hF_μ5) (by first | omega | assumption) (by first | omega | assumption) (by omega) (by first | exact wrQ_no hw (fun q => q (by omega)) | exact wrQ_take hw ht0.1 (fun q => by omega) (by omega) (by omega) | exact wrQ_keep (u := xB) hw (by omega) ht0.1 (by omega) (by omega)) (RJz.cg2 hj5 (fun o h1 => (hFB.at (by omega) (by omega))) (fun k h1 => (hf_B _ (by omega)))) (((hf_B _ (by omega)).trans hG5.k).trans (by rfl)) (fun j h1 h2 h3 => ((congrFun (hFB.at (by omega) (by omega)) _).trans ((fun j h1 h2 h3 => (h565 j h1 h2).trans (if_neg h3)) j h1 h2 h3))) (fun k h1 => ((hf_B k (by omega)).trans (hff5 k (by omega))))
              · skip
                refine w_iload dX8_wish_108 rfl ?_
                refine w_iload_n dX8_wish_110 rfl rfl ?_
                refine w_icmp_lt (tgt := 128) dX8_wish_111 rfl (R32.in (by omega)) (R32.in (by omega)) (fun c111 => ?_) (fun c111 => ?_)
                · skip
                  refine w_iload dX8_wish_128 rfl ?_
                  refine w_istore_n (ls' := [(2, 45), (0, i), (0, t), (0, le), (0, t), (0, xB), (0, z1_0)]) dX8_wish_130 rfl (Nat.le_of_ble_eq_true rfl) rfl rfl ?_
                  refine w_iload dX8_wish_131 rfl ?_
                  refine w_istore_n (ls' := [(2, 45), (0, i), (0, t), (0, xB), (0, t), (0, xB), (0, z1_0)]) dX8_wish_133 rfl (Nat.le_of_ble_eq_true rfl) rfl rfl ?_
                  refine w_iinc (ls' := [(2, 45), (0, i), (0, t), (0, xB), (0, t + 1), (0, xB), (0, z1_0)]) dX8_wish_134 rfl (Nat.le_of_ble_eq_true rfl) rfl rfl ?_
                  refine w_goto (tgt := 25) dX8_wish_137 rfl ?_
                  refine Wp.fgl (ls' := [(2, 45), (0, i), (0, t), (0, xB), (0, t + 1), (9, 0), (0, z1_0)]) 5 rfl ?_
                  refine Wp.fgl (ls' := [(2, 45), (0, i), (0, t), (0, xB), (0, t + 1), (9, 0), (9, 0)]) 6 rfl ?_
                  exact ih25 _ (by omega) t xB (t + 1) μB rfl ((hFB.wd (by omega) (by omega)).tr hF_μ5) (by first | omega | assumption) (by first | omega | assumption) (by omega) (by first | exact wrQ_no hw (fun q => q (by omega)) | exact wrQ_take hw ht0.1 (fun q => by omega) (by omega) (by omega) | exact wrQ_keep (u := xB) hw (by omega) ht0.1 (by omega) (by omega)) (RJz.cg2 hj5 (fun o h1 => (hFB.at (by omega) (by omega))) (fun k h1 => (hf_B _ (by omega)))) (((hf_B _ (by omega)).trans hG5.k).trans (by rfl)) (fun j h1 h2 h3 => ((congrFun (hFB.at (by omega) (by omega)) _).trans ((fun j h1 h2 h3 => (h565 j h1 h2).trans (if_neg h3)) j h1 h2 h3))) (fun k h1 => ((hf_B k (by omega)).trans (hff5 k (by omega))))
                · skip
                  refine w_iload dX8_wish_114 rfl ?_
                  refine w_iload_n dX8_wish_116 rfl rfl ?_
                  refine w_icmp_ne (tgt := 134) dX8_wish_117 rfl (R32.in (by omega)) (R32.in (by omega)) (fun c117 => ?_) (fun c117 => ?_)
                  · skip
                    refine w_iinc (ls' := [(2, 45), (0, i), (0, b), (0, le), (0, t + 1), (0, xB), (0, z1_0)]) dX8_wish_134 rfl (Nat.le_of_ble_eq_true rfl) rfl rfl ?_
                    refine w_goto (tgt := 25) dX8_wish_137 rfl ?_
                    refine Wp.fgl (ls' := [(2, 45), (0, i), (0, b), (0, le), (0, t + 1), (9, 0), (0, z1_0)]) 5 rfl ?_
                    refine Wp.fgl (ls' := [(2, 45), (0, i), (0, b), (0, le), (0, t + 1), (9, 0), (9, 0)]) 6 rfl ?_
                    exact ih25 _ (by omega) b le (t + 1) μB rfl ((hFB.wd (by omega) (by omega)).tr hF_μ5) (by first | omega | assumption) (by first | omega | assumption) (by omega) (by first | exact wrQ_no hw (fun q => q (by omega)) | exact wrQ_take hw ht0.1 (fun q => by omega) (by omega) (by omega) | exact wrQ_keep (u := xB) hw (by omega) ht0.1 (by omega) (by omega)) (RJz.cg2 hj5 (fun o h1 => (hFB.at (by omega) (by omega))) (fun k h1 => (hf_B _ (by omega)))) (((hf_B _ (by omega)).trans hG5.k).trans (by rfl)) (fun j h1 h2 h3 => ((congrFun (hFB.at (by omega) (by omega)) _).trans ((fun j h1 h2 h3 => (h565 j h1 h2).trans (if_neg h3)) j h1 h2 h3))) (fun k h1 => ((hf_B k (by omega)).trans (hff5 k (by omega))))
                  · skip
                    refine w_iload dX8_wish_120 rfl ?_
                    refine w_if_ne (tgt := 128) dX8_wish_122 rfl (R32.in (by omega)) (fun c122 => ?_) (fun c122 => ?_)
                    · skip
                      refine w_iload dX8_wish_128 rfl ?_
                      refine w_istore_n (ls' := [(2, 45), (0, i), (0, t), (0, le), (0, t), (0, xB), (0, z1_0)]) dX8_wish_130 rfl (Nat.le_of_ble_eq_true rfl) rfl rfl ?_
                      refine w_iload dX8_wish_131 rfl ?_
                      refine w_istore_n (ls' := [(2, 45), (0, i), (0, t), (0, xB), (0, t), (0, xB), (0, z1_0)]) dX8_wish_133 rfl (Nat.le_of_ble_eq_true rfl) rfl rfl ?_
                      refine w_iinc (ls' := [(2, 45), (0, i), (0, t), (0, xB), (0, t + 1), (0, xB), (0, z1_0)]) dX8_wish_134 rfl (Nat.le_of_ble_eq_true rfl) rfl rfl ?_
                      refine w_goto (tgt := 25) dX8_wish_137 rfl ?_
                      refine Wp.fgl (ls' := [(2, 45), (0, i), (0, t), (0, xB), (0, t + 1), (9, 0), (0, z1_0)]) 5 rfl ?_
                      refine Wp.fgl (ls' := [(2, 45), (0, i), (0, t), (0, xB), (0, t + 1), (9, 0), (9, 0)]) 6 rfl ?_
                      exact ih25 _ (by omega) t xB (t + 1) μB rfl ((hFB.wd (by omega) (by omega)).tr hF_μ5) (by first | omega | assumption) (by first | omega | assumption) (by omega) (by first | exact wrQ_no hw (fun q => q (by omega)) | exact wrQ_take hw ht0.1 (fun q => by omega) (by omega) (by omega) | exact wrQ_keep (u := xB) hw (by omega) ht0.1 (by omega) (by omega)) (RJz.cg2 hj5 (fun o h1 => (hFB.at (by omega) (by omega))) (fun k h1 => (hf_B _ (by omega)))) (((hf_B _ (by omega)).trans hG5.k).trans (by rfl)) (fun j h1 h2 h3 => ((congrFun (hFB.at (by omega) (by omega)) _).trans ((fun j h1 h2 h3 => (h565 j h1 h2).trans (if_neg h3)) j h1 h2 h3))) (fun k h1 => ((hf_B k (by omega)).trans (hff5 k (by omega))))
                    · skip
                      refine w_goto (tgt := 134) dX8_wish_125 rfl ?_
                      refine w_iinc (ls' := [(2, 45), (0, i), (0, b), (0, le), (0, t + 1), (0, xB), (0, z1_0)]) dX8_wish_134 rfl (Nat.le_of_ble_eq_true rfl) rfl rfl ?_
                      refine w_goto (tgt := 25) dX8_wish_137 rfl ?_
                      refine Wp.fgl (ls' := [(2, 45), (0, i), (0, b), (0, le), (0, t + 1), (9, 0), (0, z1_0)]) 5 rfl ?_
                      refine Wp.fgl (ls' := [(2, 45), (0, i), (0, b), (0, le), (0, t + 1), (9, 0), (9, 0)]) 6 rfl ?_
                      exact ih25 _ (by omega) b le (t + 1) μB rfl ((hFB.wd (by omega) (by omega)).tr hF_μ5) (by first | omega | assumption) (by first | omega | assumption) (by omega) (by first | exact wrQ_no hw (fun q => q (by omega)) | exact wrQ_take hw ht0.1 (fun q => by omega) (by omega) (by omega) | exact wrQ_keep (u := xB) hw (by omega) ht0.1 (by omega) (by omega)) (RJz.cg2 hj5 (fun o h1 => (hFB.at (by omega) (by omega))) (fun k h1 => (hf_B _ (by omega)))) (((hf_B _ (by omega)).trans hG5.k).trans (by rfl)) (fun j h1 h2 h3 => ((congrFun (hFB.at (by omega) (by omega)) _).trans ((fun j h1 h2 h3 => (h565 j h1 h2).trans (if_neg h3)) j h1 h2 h3))) (fun k h1 => ((hf_B k (by omega)).trans (hff5 k (by omega))))
            refine w_icmp_eq (tgt := 99) dX8_wish_66 rfl (R32.in (by omega)) (R32.in (by decide)) (fun c66 => ?_) (fun c66 => ?_)
            · skip
              refine w_iconst dX8_wish_99 ?_
              exact hJ66_1 _ (by first | omega | simp [*])
            · skip
              refine w_iload dX8_wish_69 rfl ?_
              refine w_aload_n dX8_wish_71 rfl rfl (by first | decide | omega) ?_
              refine w_getR (o := 45) (x := 50) fX8_wish_72 rfl rfl rfl rfl ?_
              refine w_iload_n dX8_wish_75 rfl rfl ?_
              refine w_ialdx (o := 50) (n := 64) (x := μ (p + 5) i) dX8_wish_76 rfl rfl (Nat.le_of_ble_eq_true rfl) (by omega) ((congrFun (hFB.at (by omega) (by omega)) _).trans ((congrFun (hF_μ5.at (by omega) (by omega)) _).trans (hJ.po (by omega)))) ?_
              have hr6 := PI.hd hI (q := p + 5) (i := i) rfl (by omega)
              refine w_isub dX8_wish_77 ?_
              refine w_callSP (as := [(0, t - (μ (p + 5) i))]) (rest := []) (k := 0) fX8_wish_78 rfl rfl rfl rfl rfl (Nat.le_of_ble_eq_true rfl) (s_X8_far X (t - (μ (p + 5) i)) μB (by first | omega | assumption)) ?_
              have hf7 := ab_f (t - (μ (p + 5) i))
              refine w_iload_n dX8_wish_81 rfl rfl ?_
              refine w_aload_n dX8_wish_82 rfl rfl (by first | decide | omega) ?_
              refine w_getR (o := 45) (x := 50) fX8_wish_83 rfl rfl rfl rfl ?_
              refine w_iload_n dX8_wish_86 rfl rfl ?_
              refine w_ialdx (o := 50) (n := 64) (x := μ (p + 5) i) dX8_wish_87 rfl rfl (Nat.le_of_ble_eq_true rfl) (by omega) ((congrFun (hFB.at (by omega) (by omega)) _).trans ((congrFun (hF_μ5.at (by omega) (by omega)) _).trans (hJ.po (by omega)))) ?_
              refine w_isub dX8_wish_88 ?_
              refine w_callSP (as := [(0, b - (μ (p + 5) i))]) (rest := [(0, ab (t - (μ (p + 5) i)))]) (k := 0) fX8_wish_89 rfl rfl rfl rfl rfl (Nat.le_of_ble_eq_true rfl) (s_X8_far X (b - (μ (p + 5) i)) μB (by first | omega | assumption)) ?_
              have hf8 := ab_f (b - (μ (p + 5) i))
              refine w_icmp_ge (tgt := 99) dX8_wish_92 rfl (R32.in (by omega)) (R32.in (by omega)) (fun c92 => ?_) (fun c92 => ?_)
              · skip
                refine w_iconst dX8_wish_99 ?_
                exact hJ66_1 _ (by first | omega | simp [*])
              · skip
                refine w_iconst dX8_wish_95 ?_
                refine w_goto (tgt := 100) dX8_wish_96 rfl ?_
                exact hJ66_1 _ (by first | omega | simp [*])
          · skip
            refine w_goto (tgt := 134) dX8_wish_60 rfl ?_
            refine w_iinc (ls' := [(2, 45), (0, i), (0, b), (0, le), (0, t + 1), (0, xB), (9, 0)]) dX8_wish_134 rfl (Nat.le_of_ble_eq_true rfl) rfl rfl ?_
            refine w_goto (tgt := 25) dX8_wish_137 rfl ?_
            refine Wp.fgl (ls' := [(2, 45), (0, i), (0, b), (0, le), (0, t + 1), (9, 0), (9, 0)]) 5 rfl ?_
            exact ih25 _ (by omega) b le (t + 1) μB rfl ((hFB.wd (by omega) (by omega)).tr hF_μ5) (by first | omega | assumption) (by first | omega | assumption) (by omega) (by first | exact wrQ_no hw (fun q => q (by omega)) | exact wrQ_take hw ht0.1 (fun q => by omega) (by omega) (by omega) | exact wrQ_keep (u := xB) hw (by omega) ht0.1 (by omega) (by omega)) (RJz.cg2 hj5 (fun o h1 => (hFB.at (by omega) (by omega))) (fun k h1 => (hf_B _ (by omega)))) (((hf_B _ (by omega)).trans hG5.k).trans (by rfl)) (fun j h1 h2 h3 => ((congrFun (hFB.at (by omega) (by omega)) _).trans ((fun j h1 h2 h3 => (h565 j h1 h2).trans (if_neg h3)) j h1 h2 h3))) (fun k h1 => ((hf_B k (by omega)).trans (hff5 k (by omega))))
    exact hL25 _ (-1000000) 0 (-12) μ4 rfl (hF_μ4.wd (by omega) (by omega)) (by first | omega | assumption) (by first | omega | assumption) (by omega) wrQ_0 hj4 (((hff4 _ (by omega)).trans hJ.f19).trans (by rfl)) (fun j h1 h2 _ => h564 j h1 h2) (fun k h1 => (hff4 k (by omega)))
  · skip
    replace c10 := am_b0 c10
    refine w_ldc (n := -1000000) dX8_wish_13 k_1620 (by decide) ?_
    exact w_iretI dX8_wish_15 rfl ⟨(hF_μ4.wd (by omega) (by omega)), (by exact Or.inr ⟨by omega, rfl⟩), hJ4, (fun k h1 => (hff4 k (by omega)))⟩

set_option maxRecDepth 100000 in
set_option maxHeartbeats 4000000 in
theorem s_X8_shift (X : AX) (p : Int) (μ : Mu) (hC : CJ μ p) (hJ : RJ μ p) : Wp (GG X) M_X8_shift 0 [(2, 45), (9, 0), (9, 0), (9, 0), (9, 0), (9, 0), (9, 0)] [] μ (qI 0 fun z μ' => (Fr 45 45 56 61 μ' μ) ∧ ((μ p 14 = 0 ∧ z = -1000000) ∨ (¬ μ p 14 = 0 ∧ shR μ p z)) ∧ (RJ μ' p) ∧ (∀ k : Int, (¬ k = 0 ∧ ¬ k = 19 ∧ ¬ (21 ≤ k ∧ k ≤ 24) ∧ ¬ (29 ≤ k ∧ k ≤ 33)) → μ' 45 k = μ 45 k)) := by
  have hI := hC.i
  have hG := hC.pg
  have hp := hI.at
  have hz := hI.sz
  have hgr := hG.gr
  have hkn := hC.kn
  have hRA := hJ.rag hC
  refine w_aload_n dX8_shift_0 rfl rfl (by first | decide | omega) ?_
  refine w_iconst dX8_shift_1 ?_
  refine w_putI (o := 45) (f := 0) fX8_shift_2 rfl rfl rfl rfl rfl ?_
  have hF_μ4 : Fr 45 45 57 61 (am_up μ 45 0 0) μ := (Fr.rf.up (by omega))
  have hA4 : RAg (ddt μ p (p + 5) (μ p 3)) (μ (p + 9)) (μ p 14) (am_up μ 45 0 0) := (RAg.cg2 hRA (fun o h1 => (am_up_o (by omega))) (fun k h1 => (am_up_nk (by omega))))
  have hJ4 : RJ (am_up μ 45 0 0) p := (RJ.cg2 hJ (fun o h1 => (am_up_o (by omega))) (fun k h1 => (am_up_nk (by omega))))
  have hj4 : RJz (am_up μ 45 0 0) p := hJ4.j0
  have hC4 : CJ (am_up μ 45 0 0) p := (CJ.cg hC (fun o h1 => (am_up_o (by omega))))
  have h564 : ∀ j : Int, 0 ≤ j → j < μ p 7 → (am_up μ 45 0 0) 56 j = μ (p + 5) j := (fun j h1 h2 => ((congrFun (am_up_o (by omega)) _).trans ((fun j h1 h2 => hJ.ht ⟨h1, h2⟩) j h1 h2)))
  have h194 : (am_up μ 45 0 0) 45 19 = μ p 3 := (((am_up_nk (by omega)).trans hJ.f19).trans (by rfl))
  have hff4 : ∀ k : Int, ¬ k = 0 → (am_up μ 45 0 0) 45 k = μ 45 k := (fun k h1 => (am_up_nk (by omega)))
  refine Wp.mu (fun μ4 hμ4 => ?_)
  rw [← hμ4] at hF_μ4 hA4 hJ4 hj4 hC4 h564 h194 hff4
  clear hμ4
  have e4 : ∀ o : Int, p ≤ o ∧ o ≤ p + 10 → μ4 o = μ o := fun o h1 => hF_μ4.at (by omega) (by omega)
  have e47 : μ4 p 7 = μ p 7 := congrFun (e4 p (by omega)) _
  have e414 : μ4 p 14 = μ p 14 := congrFun (e4 p (by omega)) _
  refine w_aload_n dX8_shift_5 rfl rfl (by first | decide | omega) ?_
  refine w_getIx (o := 45) (f := 17) (x := (μ p 14)) fX8_shift_6 rfl rfl (Nat.le_of_ble_eq_true rfl) rfl hA4.n ?_
  have hr1 := hA4.r
  have hr2 := hRA.r
  refine w_if_ne (tgt := 15) dX8_shift_9 rfl (R32.in (by omega)) (fun c9 => ?_) (fun c9 => ?_)
  · skip
    refine w_ldc (n := -1000000) dX8_shift_15 k_1620 (by decide) ?_
    refine w_istore_n (ls' := [(2, 45), (0, -1000000), (9, 0), (9, 0), (9, 0), (9, 0), (9, 0)]) dX8_shift_17 rfl (Nat.le_of_ble_eq_true rfl) rfl rfl ?_
    refine w_iconst dX8_shift_18 ?_
    refine w_istore_n (ls' := [(2, 45), (0, -1000000), (0, 0), (9, 0), (9, 0), (9, 0), (9, 0)]) dX8_shift_19 rfl (Nat.le_of_ble_eq_true rfl) rfl rfl ?_
    refine w_iconst dX8_shift_20 ?_
    refine w_istore_n (ls' := [(2, 45), (0, -1000000), (0, 0), (0, 0), (9, 0), (9, 0), (9, 0)]) dX8_shift_21 rfl (Nat.le_of_ble_eq_true rfl) rfl rfl ?_
    refine w_bipush dX8_shift_22 (by decide) ?_
    refine w_istore (ls' := [(2, 45), (0, -1000000), (0, 0), (0, 0), (0, -12), (9, 0), (9, 0)]) dX8_shift_24 (Nat.le_of_ble_eq_true rfl) rfl rfl ?_
    have hL26 : ∀ (n26 : Nat) (b : Int) (fe : Int) (le : Int) (t : Int) (μ1 : Mu), (13 - t).toNat = n26 → Fr 45 45 56 61 μ1 μ → (-12 ≤ t ∧ t ≤ 13) → (b = -1000000 ∨ (-12 ≤ b ∧ b ≤ 12)) → ((0 ≤ le ∧ le ≤ 200000) ∧ (0 ≤ fe ∧ fe ≤ 32)) → (srQ μ p t b fe le) → (RJz μ1 p) → (μ1 45 19 = μ p 3) → (∀ k : Int, (¬ k = 0 ∧ ¬ (21 ≤ k ∧ k ≤ 24) ∧ ¬ (29 ≤ k ∧ k ≤ 33)) → μ1 45 k = μ 45 k) → Wp (GG X) M_X8_shift 26 [(2, 45), (0, b), (0, fe), (0, le), (0, t), (9, 0), (9, 0)] [] μ1 (qI 0 fun z μ' => (Fr 45 45 56 61 μ' μ) ∧ ((μ p 14 = 0 ∧ z = -1000000) ∨ (¬ μ p 14 = 0 ∧ shR μ p z)) ∧ (RJ μ' p) ∧ (∀ k : Int, (¬ k = 0 ∧ ¬ k = 19 ∧ ¬ (21 ≤ k ∧ k ≤ 24) ∧ ¬ (29 ≤ k ∧ k ≤ 33)) → μ' 45 k = μ 45 k)) := by
      intro n26
      induction n26 using Nat.strongRecOn with
      | ind n26 ih26 =>
        intro b fe le t μ1 hn26 hF26 ht0 hbr hler hw hj1 h191 hfA
        refine w_iload dX8_shift_26 rfl ?_
        refine w_bipush dX8_shift_28 (by decide) ?_
        refine w_icmp_gt (tgt := 159) dX8_shift_30 rfl (R32.in (by omega)) (R32.in (by decide)) (fun c30 => ?_) (fun c30 => ?_)
        · skip
          refine w_aload_n dX8_shift_159 rfl rfl (by first | decide | omega) ?_
          refine w_callVV (o := 45) (ci := 8) (as := []) (rest := []) (k := 1) fX8_shift_160 rfl rfl rfl rfl rfl rfl rfl rfl (Nat.le_of_ble_eq_true rfl) (s_X8_thinksPlainly X p μ1 (CJ.cg hC (fun o h1 => (hF26.at (by omega) (by omega)))) hj1) (fun μP hμP => ?_)
          obtain ⟨hFP, hJ_P, hf_P⟩ := hμP
          refine w_iload_n dX8_shift_163 rfl rfl ?_
          exact w_iretI dX8_shift_164 rfl ⟨((hFP.wd (by omega) (by omega)).tr hF26), (by have he : t = 13 := (by omega); subst he; exact Or.inr ⟨by omega, srQ_end hC hw⟩), hJ_P, (fun k h1 => ((hf_P k (by omega)).trans (hfA k (by omega))))⟩
        · skip
          refine w_aload_n dX8_shift_33 rfl rfl (by first | decide | omega) ?_
          refine w_iload dX8_shift_34 rfl ?_
          refine w_callVI (o := 45) (ci := 8) (as := [(0, t)]) (rest := []) (k := 2) fX8_shift_36 rfl rfl rfl rfl rfl rfl rfl rfl (Nat.le_of_ble_eq_true rfl) (s_X8_shifts X p t μ1 (CJ.cg hC (fun o h1 => (hF26.at (by omega) (by omega)))) hj1 (by first | omega | assumption)) (fun xS μS hμS => ?_)
          obtain ⟨hFS, hz_S, h56_S, hj_S⟩ := hμS
          have eS : ∀ o : Int, p ≤ o ∧ o ≤ p + 10 → μ1 o = μ o := fun o h1 => hF26.at (by omega) (by omega)
          rw [shB_cg eS] at hz_S
          have h56S : ∀ j : Int, 0 ≤ j → j < μ p 7 → μS 56 j = shF μ p t j := fun j h1 h2 => (h56_S j h1 (by rw [eS p (by omega)]; exact h2)).trans (shF_cg eS)
          have h19S : μS 45 19 = μ p 3 := (congrFun (hFS.at (by omega) (by omega)) 19).trans h191
          refine w_if_ne (tgt := 45) dX8_shift_39 rfl (R32.in (by omega)) (fun c39 => ?_) (fun c39 => ?_)
          · skip
            have hsb : shB μ p t = true := hz_S.elim (fun h => by omega) (fun h => h.2)
            have hA5 : RAg (ddS μ p t) (μ (p + 9)) (μ p 14) μS := hj_S.rag hC (fun o h1 => (hFS.at (by omega) (by omega)).trans (eS o h1)) hkn h19S (fun i h1 h2 h3 => ⟨(h56S i h1 h2).trans (shF_1 h3), by have q9 := (shI_iff hz.1).mp hsb i h1 h2; rw [shF_1 h3] at q9; exact q9⟩)
            refine w_aload_n dX8_shift_45 rfl rfl (by first | decide | omega) ?_
            refine w_callVV (o := 45) (ci := 8) (as := []) (rest := []) (k := 3) fX8_shift_46 rfl rfl rfl rfl rfl rfl rfl rfl (Nat.le_of_ble_eq_true rfl) (s_X8_laysTotal X (ddS μ p t) (μ (p + 9)) (μ p 14) μS hA5) (fun μT hμT => ?_)
            obtain ⟨hFT, h0_T, h1_T, h2_T, h3_T, hA2_T, hf_T⟩ := hμT
            have hwr := wor_r hC hsb
            have ha9 : asd μ p t = (tst (ddS μ p t) (μ p 14)).2.1 := rfl
            have hu9 : asu μ p t = (tst (ddS μ p t) (μ p 14)).1 := rfl
            refine w_iload_n dX8_shift_49 rfl rfl ?_
            refine w_ldc (n := -1000000) dX8_shift_50 k_1620 (by decide) ?_
            have hJ52_1 : ∀ z1_0 : Int, z1_0 = (if b = (-1000000) then 1 else (if (μT 45 31) < fe then 1 else (if ¬ (μT 45 31) = fe then 0 else (if le ≤ (μT 45 30) then 0 else 1)))) → Wp (GG X) M_X8_shift 84 [(2, 45), (0, b), (0, fe), (0, le), (0, t), (9, 0), (9, 0)] [(0, z1_0)] μT (qI 0 fun z μ' => (Fr 45 45 56 61 μ' μ) ∧ ((μ p 14 = 0 ∧ z = -1000000) ∨ (¬ μ p 14 = 0 ∧ shR μ p z)) ∧ (RJ μ' p) ∧ (∀ k : Int, (¬ k = 0 ∧ ¬ k = 19 ∧ ¬ (21 ≤ k ∧ k ≤ 24) ∧ ¬ (29 ≤ k ∧ k ≤ 33)) → μ' 45 k = μ 45 k)) := by
              intro z1_0 hz1_0
              refine w_istore (ls' := [(2, 45), (0, b), (0, fe), (0, le), (0, t), (0, z1_0), (9, 0)]) dX8_shift_84 (Nat.le_of_ble_eq_true rfl) rfl rfl ?_
              refine w_iload_n dX8_shift_86 rfl rfl ?_
              refine w_ldc (n := -1000000) dX8_shift_87 k_1620 (by decide) ?_
              have hJ89_2 : ∀ z2_0 : Int, z2_0 = (if b = (-1000000) then 0 else (if ¬ (μT 45 31) = fe then 0 else (if ¬ (μT 45 30) = le then 0 else (if (ab b) ≤ (ab t) then 0 else 1)))) → Wp (GG X) M_X8_shift 125 [(2, 45), (0, b), (0, fe), (0, le), (0, t), (0, z1_0), (9, 0)] [(0, z2_0)] μT (qI 0 fun z μ' => (Fr 45 45 56 61 μ' μ) ∧ ((μ p 14 = 0 ∧ z = -1000000) ∨ (¬ μ p 14 = 0 ∧ shR μ p z)) ∧ (RJ μ' p) ∧ (∀ k : Int, (¬ k = 0 ∧ ¬ k = 19 ∧ ¬ (21 ≤ k ∧ k ≤ 24) ∧ ¬ (29 ≤ k ∧ k ≤ 33)) → μ' 45 k = μ 45 k)) := by
                intro z2_0 hz2_0
                refine w_istore (ls' := [(2, 45), (0, b), (0, fe), (0, le), (0, t), (0, z1_0), (0, z2_0)]) dX8_shift_125 (Nat.le_of_ble_eq_true rfl) rfl rfl ?_
                refine w_iload dX8_shift_127 rfl ?_
                refine w_if_ne (tgt := 140) dX8_shift_129 rfl (R32.in (by omega)) (fun c129 => ?_) (fun c129 => ?_)
                · skip
                  refine w_iload dX8_shift_140 rfl ?_
                  refine w_istore_n (ls' := [(2, 45), (0, t), (0, fe), (0, le), (0, t), (0, z1_0), (0, z2_0)]) dX8_shift_142 rfl (Nat.le_of_ble_eq_true rfl) rfl rfl ?_
                  refine w_aload_n dX8_shift_143 rfl rfl (by first | decide | omega) ?_
                  refine w_getIx (o := 45) (f := 31) (x := μT 45 31) fX8_shift_144 rfl rfl (Nat.le_of_ble_eq_true rfl) rfl rfl ?_
                  refine w_istore_n (ls' := [(2, 45), (0, t), (0, μT 45 31), (0, le), (0, t), (0, z1_0), (0, z2_0)]) dX8_shift_147 rfl (Nat.le_of_ble_eq_true rfl) rfl rfl ?_
                  refine w_aload_n dX8_shift_148 rfl rfl (by first | decide | omega) ?_
                  refine w_getIx (o := 45) (f := 30) (x := μT 45 30) fX8_shift_149 rfl rfl (Nat.le_of_ble_eq_true rfl) rfl rfl ?_
                  refine w_istore_n (ls' := [(2, 45), (0, t), (0, μT 45 31), (0, μT 45 30), (0, t), (0, z1_0), (0, z2_0)]) dX8_shift_152 rfl (Nat.le_of_ble_eq_true rfl) rfl rfl ?_
                  refine w_iinc (ls' := [(2, 45), (0, t), (0, μT 45 31), (0, μT 45 30), (0, t + 1), (0, z1_0), (0, z2_0)]) dX8_shift_153 rfl (Nat.le_of_ble_eq_true rfl) rfl rfl ?_
                  refine w_goto (tgt := 26) dX8_shift_156 rfl ?_
                  refine Wp.fgl (ls' := [(2, 45), (0, t), (0, μT 45 31), (0, μT 45 30), (0, t + 1), (9, 0), (0, z2_0)]) 5 rfl ?_
                  refine Wp.fgl (ls' := [(2, 45), (0, t), (0, μT 45 31), (0, μT 45 30), (0, t + 1), (9, 0), (9, 0)]) 6 rfl ?_
                  exact ih26 _ (by omega) t (μT 45 31) (μT 45 30) (t + 1) μT rfl ((hFT.wd (by omega) (by omega)).tr ((hFS.wd (by omega) (by omega)).tr hF26)) (by first | omega | assumption) (by first | omega | assumption) (by omega) (by first | exact srQ_no hw hsb | exact srQ_take hw ht0.1 hsb (by omega) (by omega) (by omega) | exact srQ_keep hw (by omega) ht0.1 (by omega)) (RJz.cg2 hj_S (fun o h1 => (hFT.at (by omega) (by omega))) (fun k h1 => (hf_T _ (by omega)))) (((hf_T _ (by omega)).trans ((congrFun (hFS.at (by omega) (by omega)) _).trans h191)).trans (by rfl)) (fun k h1 => ((hf_T k (by omega)).trans ((congrFun (hFS.at (by omega) (by omega)) _).trans (hfA k (by omega)))))
                · skip
                  refine w_iload dX8_shift_132 rfl ?_
                  refine w_if_ne (tgt := 140) dX8_shift_134 rfl (R32.in (by omega)) (fun c134 => ?_) (fun c134 => ?_)
                  · skip
                    refine w_iload dX8_shift_140 rfl ?_
                    refine w_istore_n (ls' := [(2, 45), (0, t), (0, fe), (0, le), (0, t), (0, z1_0), (0, z2_0)]) dX8_shift_142 rfl (Nat.le_of_ble_eq_true rfl) rfl rfl ?_
                    refine w_aload_n dX8_shift_143 rfl rfl (by first | decide | omega) ?_
                    refine w_getIx (o := 45) (f := 31) (x := μT 45 31) fX8_shift_144 rfl rfl (Nat.le_of_ble_eq_true rfl) rfl rfl ?_
                    refine w_istore_n (ls' := [(2, 45), (0, t), (0, μT 45 31), (0, le), (0, t), (0, z1_0), (0, z2_0)]) dX8_shift_147 rfl (Nat.le_of_ble_eq_true rfl) rfl rfl ?_
                    refine w_aload_n dX8_shift_148 rfl rfl (by first | decide | omega) ?_
                    refine w_getIx (o := 45) (f := 30) (x := μT 45 30) fX8_shift_149 rfl rfl (Nat.le_of_ble_eq_true rfl) rfl rfl ?_
                    refine w_istore_n (ls' := [(2, 45), (0, t), (0, μT 45 31), (0, μT 45 30), (0, t), (0, z1_0), (0, z2_0)]) dX8_shift_152 rfl (Nat.le_of_ble_eq_true rfl) rfl rfl ?_
                    refine w_iinc (ls' := [(2, 45), (0, t), (0, μT 45 31), (0, μT 45 30), (0, t + 1), (0, z1_0), (0, z2_0)]) dX8_shift_153 rfl (Nat.le_of_ble_eq_true rfl) rfl rfl ?_
                    refine w_goto (tgt := 26) dX8_shift_156 rfl ?_
                    refine Wp.fgl (ls' := [(2, 45), (0, t), (0, μT 45 31), (0, μT 45 30), (0, t + 1), (9, 0), (0, z2_0)]) 5 rfl ?_
                    refine Wp.fgl (ls' := [(2, 45), (0, t), (0, μT 45 31), (0, μT 45 30), (0, t + 1), (9, 0), (9, 0)]) 6 rfl ?_
                    exact ih26 _ (by omega) t (μT 45 31) (μT 45 30) (t + 1) μT rfl ((hFT.wd (by omega) (by omega)).tr ((hFS.wd (by omega) (by omega)).tr hF26)) (by first | omega | assumption) (by first | omega | assumption) (by omega) (by first | exact srQ_no hw hsb | exact srQ_take hw ht0.1 hsb (by omega) (by omega) (by omega) | exact srQ_keep hw (by omega) ht0.1 (by omega)) (RJz.cg2 hj_S (fun o h1 => (hFT.at (by omega) (by omega))) (fun k h1 => (hf_T _ (by omega)))) (((hf_T _ (by omega)).trans ((congrFun (hFS.at (by omega) (by omega)) _).trans h191)).trans (by rfl)) (fun k h1 => ((hf_T k (by omega)).trans ((congrFun (hFS.at (by omega) (by omega)) _).trans (hfA k (by omega)))))
                  · skip
                    refine w_goto (tgt := 153) dX8_shift_137 rfl ?_
                    refine w_iinc (ls' := [(2, 45), (0, b), (0, fe), (0, le), (0, t + 1), (0, z1_0), (0, z2_0)]) dX8_shift_153 rfl (Nat.le_of_ble_eq_true rfl) rfl rfl ?_
                    refine w_goto (tgt := 26) dX8_shift_156 rfl ?_
                    refine Wp.fgl (ls' := [(2, 45), (0, b), (0, fe), (0, le), (0, t + 1), (9, 0), (0, z2_0)]) 5 rfl ?_
                    refine Wp.fgl (ls' := [(2, 45), (0, b), (0, fe), (0, le), (0, t + 1), (9, 0), (9, 0)]) 6 rfl ?_
                    exact ih26 _ (by omega) b fe le (t + 1) μT rfl ((hFT.wd (by omega) (by omega)).tr ((hFS.wd (by omega) (by omega)).tr hF26)) (by first | omega | assumption) (by first | omega | assumption) (by omega) (by first | exact srQ_no hw hsb | exact srQ_take hw ht0.1 hsb (by omega) (by omega) (by omega) | exact srQ_keep hw (by omega) ht0.1 (by omega)) (RJz.cg2 hj_S (fun o h1 => (hFT.at (by omega) (by omega))) (fun k h1 => (hf_T _ (by omega)))) (((hf_T _ (by omega)).trans ((congrFun (hFS.at (by omega) (by omega)) _).trans h191)).trans (by rfl)) (fun k h1 => ((hf_T k (by omega)).trans ((congrFun (hFS.at (by omega) (by omega)) _).trans (hfA k (by omega)))))
              refine w_icmp_eq (tgt := 124) dX8_shift_89 rfl (R32.in (by omega)) (R32.in (by decide)) (fun c89 => ?_) (fun c89 => ?_)
              · skip
                refine w_iconst dX8_shift_124 ?_
                exact hJ89_2 _ (by first | omega | simp [*])
              · skip
                refine w_aload_n dX8_shift_92 rfl rfl (by first | decide | omega) ?_
                refine w_getIx (o := 45) (f := 31) (x := μT 45 31) fX8_shift_93 rfl rfl (Nat.le_of_ble_eq_true rfl) rfl rfl ?_
                refine w_iload_n dX8_shift_96 rfl rfl ?_
                refine w_icmp_ne (tgt := 124) dX8_shift_97 rfl (R32.in (by omega)) (R32.in (by omega)) (fun c97 => ?_) (fun c97 => ?_)
                · skip
                  refine w_iconst dX8_shift_124 ?_
                  exact hJ89_2 _ (by first | omega | simp [*])
                · skip
                  refine w_aload_n dX8_shift_100 rfl rfl (by first | decide | omega) ?_
                  refine w_getIx (o := 45) (f := 30) (x := μT 45 30) fX8_shift_101 rfl rfl (Nat.le_of_ble_eq_true rfl) rfl rfl ?_
                  refine w_iload_n dX8_shift_104 rfl rfl ?_
                  refine w_icmp_ne (tgt := 124) dX8_shift_105 rfl (R32.in (by omega)) (R32.in (by omega)) (fun c105 => ?_) (fun c105 => ?_)
                  · skip
                    refine w_iconst dX8_shift_124 ?_
                    exact hJ89_2 _ (by first | omega | simp [*])
                  · skip
                    refine w_iload dX8_shift_108 rfl ?_
                    refine w_callSP (as := [(0, t)]) (rest := []) (k := 0) fX8_shift_110 rfl rfl rfl rfl rfl (Nat.le_of_ble_eq_true rfl) (s_X8_far X t μT (by first | omega | assumption)) ?_
                    have hf6 := ab_f t
                    refine w_iload_n dX8_shift_113 rfl rfl ?_
                    refine w_callSP (as := [(0, b)]) (rest := [(0, ab t)]) (k := 0) fX8_shift_114 rfl rfl rfl rfl rfl (Nat.le_of_ble_eq_true rfl) (s_X8_far X b μT (by first | omega | assumption)) ?_
                    have hf7 := ab_f b
                    refine w_icmp_ge (tgt := 124) dX8_shift_117 rfl (R32.in (by omega)) (R32.in (by omega)) (fun c117 => ?_) (fun c117 => ?_)
                    · skip
                      refine w_iconst dX8_shift_124 ?_
                      exact hJ89_2 _ (by first | omega | simp [*])
                    · skip
                      refine w_iconst dX8_shift_120 ?_
                      refine w_goto (tgt := 125) dX8_shift_121 rfl ?_
                      exact hJ89_2 _ (by first | omega | simp [*])
            refine w_icmp_eq (tgt := 79) dX8_shift_52 rfl (R32.in (by omega)) (R32.in (by decide)) (fun c52 => ?_) (fun c52 => ?_)
            · skip
              refine w_iconst dX8_shift_79 ?_
              refine w_goto (tgt := 84) dX8_shift_80 rfl ?_
              exact hJ52_1 _ (by first | omega | simp [*])
            · skip
              refine w_aload_n dX8_shift_55 rfl rfl (by first | decide | omega) ?_
              refine w_getIx (o := 45) (f := 31) (x := μT 45 31) fX8_shift_56 rfl rfl (Nat.le_of_ble_eq_true rfl) rfl rfl ?_
              refine w_iload_n dX8_shift_59 rfl rfl ?_
              refine w_icmp_lt (tgt := 79) dX8_shift_60 rfl (R32.in (by omega)) (R32.in (by omega)) (fun c60 => ?_) (fun c60 => ?_)
              · skip
                refine w_iconst dX8_shift_79 ?_
                refine w_goto (tgt := 84) dX8_shift_80 rfl ?_
                exact hJ52_1 _ (by first | omega | simp [*])
              · skip
                refine w_aload_n dX8_shift_63 rfl rfl (by first | decide | omega) ?_
                refine w_getIx (o := 45) (f := 31) (x := μT 45 31) fX8_shift_64 rfl rfl (Nat.le_of_ble_eq_true rfl) rfl rfl ?_
                refine w_iload_n dX8_shift_67 rfl rfl ?_
                refine w_icmp_ne (tgt := 83) dX8_shift_68 rfl (R32.in (by omega)) (R32.in (by omega)) (fun c68 => ?_) (fun c68 => ?_)
                · skip
                  refine w_iconst dX8_shift_83 ?_
                  exact hJ52_1 _ (by first | omega | simp [*])
                · skip
                  refine w_aload_n dX8_shift_71 rfl rfl (by first | decide | omega) ?_
                  refine w_getIx (o := 45) (f := 30) (x := μT 45 30) fX8_shift_72 rfl rfl (Nat.le_of_ble_eq_true rfl) rfl rfl ?_
                  refine w_iload_n dX8_shift_75 rfl rfl ?_
                  refine w_icmp_ge (tgt := 83) dX8_shift_76 rfl (R32.in (by omega)) (R32.in (by omega)) (fun c76 => ?_) (fun c76 => ?_)
                  · skip
                    refine w_iconst dX8_shift_83 ?_
                    exact hJ52_1 _ (by first | omega | simp [*])
                  · skip
                    refine w_iconst dX8_shift_79 ?_
                    refine w_goto (tgt := 84) dX8_shift_80 rfl ?_
                    exact hJ52_1 _ (by first | omega | simp [*])
          · skip
            have hsb : ¬ shB μ p t = true := hz_S.elim (fun h => h.2) (fun h => by omega)
            refine w_goto (tgt := 153) dX8_shift_42 rfl ?_
            refine w_iinc (ls' := [(2, 45), (0, b), (0, fe), (0, le), (0, t + 1), (9, 0), (9, 0)]) dX8_shift_153 rfl (Nat.le_of_ble_eq_true rfl) rfl rfl ?_
            refine w_goto (tgt := 26) dX8_shift_156 rfl ?_
            exact ih26 _ (by omega) b fe le (t + 1) μS rfl ((hFS.wd (by omega) (by omega)).tr hF26) (by first | omega | assumption) (by first | omega | assumption) (by omega) (by first | exact srQ_no hw hsb | exact srQ_take hw ht0.1 hsb (by omega) (by omega) (by omega) | exact srQ_keep hw (by omega) ht0.1 (by omega)) hj_S (((congrFun (hFS.at (by omega) (by omega)) _).trans h191).trans (by rfl)) (fun k h1 => ((congrFun (hFS.at (by omega) (by omega)) _).trans (hfA k (by omega))))
    exact hL26 _ (-1000000) 0 0 (-12) μ4 rfl (hF_μ4.wd (by omega) (by omega)) (by first | omega | assumption) (by first | omega | assumption) (by omega) srQ_0 hj4 (((hff4 _ (by omega)).trans hJ.f19).trans (by rfl)) (fun k h1 => (hff4 k (by omega)))
  · skip
    refine w_ldc (n := -1000000) dX8_shift_12 k_1620 (by decide) ?_
    exact w_iretI dX8_shift_14 rfl ⟨(hF_μ4.wd (by omega) (by omega)), (by exact Or.inl ⟨by omega, rfl⟩), hJ4, (fun k h1 => (hff4 k (by omega)))⟩

set_option maxRecDepth 100000 in
set_option maxHeartbeats 4000000 in
theorem s_X8_mirrored (X : AX) (p : Int) (g : Int) (μ : Mu) (hC : CJ μ p) (hJ : RJ μ p) (hg : -2147483648 ≤ g ∧ g ≤ 2147483647) : Wp (GG X) M_X8_mirrored 0 [(2, 45), (0, g), (9, 0), (9, 0), (9, 0), (9, 0)] [] μ (qI 0 fun z μ' => (Fr 45 45 56 61 μ' μ) ∧ (z = if (0 ≤ g ∧ g < μ p 14) then mirA (ddt μ p (p + 5) (μ p 3) g) (ddM μ p g) else -1) ∧ (RJ μ' p) ∧ (∀ k : Int, (¬ k = 0 ∧ ¬ k = 19 ∧ ¬ (21 ≤ k ∧ k ≤ 24) ∧ ¬ (29 ≤ k ∧ k ≤ 33)) → μ' 45 k = μ 45 k)) := by
  have hI := hC.i
  have hG := hC.pg
  have hp := hI.at
  have hz := hI.sz
  have hgr := hG.gr
  have hkn := hC.kn
  have hRA := hJ.rag hC
  refine w_aload_n dX8_mirrored_0 rfl rfl (by first | decide | omega) ?_
  refine w_iconst dX8_mirrored_1 ?_
  refine w_putI (o := 45) (f := 0) fX8_mirrored_2 rfl rfl rfl rfl rfl ?_
  have hF_μ4 : Fr 45 45 57 61 (am_up μ 45 0 0) μ := (Fr.rf.up (by omega))
  have hA4 : RAg (ddt μ p (p + 5) (μ p 3)) (μ (p + 9)) (μ p 14) (am_up μ 45 0 0) := (RAg.cg2 hRA (fun o h1 => (am_up_o (by omega))) (fun k h1 => (am_up_nk (by omega))))
  have hJ4 : RJ (am_up μ 45 0 0) p := (RJ.cg2 hJ (fun o h1 => (am_up_o (by omega))) (fun k h1 => (am_up_nk (by omega))))
  have hj4 : RJz (am_up μ 45 0 0) p := hJ4.j0
  have hC4 : CJ (am_up μ 45 0 0) p := (CJ.cg hC (fun o h1 => (am_up_o (by omega))))
  have h564 : ∀ j : Int, 0 ≤ j → j < μ p 7 → (am_up μ 45 0 0) 56 j = μ (p + 5) j := (fun j h1 h2 => ((congrFun (am_up_o (by omega)) _).trans ((fun j h1 h2 => hJ.ht ⟨h1, h2⟩) j h1 h2)))
  have h194 : (am_up μ 45 0 0) 45 19 = μ p 3 := (((am_up_nk (by omega)).trans hJ.f19).trans (by rfl))
  have hff4 : ∀ k : Int, ¬ k = 0 → (am_up μ 45 0 0) 45 k = μ 45 k := (fun k h1 => (am_up_nk (by omega)))
  refine Wp.mu (fun μ4 hμ4 => ?_)
  rw [← hμ4] at hF_μ4 hA4 hJ4 hj4 hC4 h564 h194 hff4
  clear hμ4
  have e4 : ∀ o : Int, p ≤ o ∧ o ≤ p + 10 → μ4 o = μ o := fun o h1 => hF_μ4.at (by omega) (by omega)
  have e47 : μ4 p 7 = μ p 7 := congrFun (e4 p (by omega)) _
  have e414 : μ4 p 14 = μ p 14 := congrFun (e4 p (by omega)) _
  refine w_aload_n dX8_mirrored_5 rfl rfl (by first | decide | omega) ?_
  refine w_iload_n dX8_mirrored_6 rfl rfl ?_
  refine w_callVP (o := 45) (ci := 8) (as := [(0, g)]) (rest := []) (k := 0) fX8_mirrored_7 rfl rfl rfl rfl rfl rfl rfl rfl (Nat.le_of_ble_eq_true rfl) (s_X8_isGroup X p g μ4 hC4 hJ4 (by first | omega | assumption)) ?_
  have hf1 := am_b_r (0 ≤ g ∧ g < μ4 p 14)
  refine w_if_ne (tgt := 15) dX8_mirrored_10 rfl (R32.in (by have := am_b_r ((0 ≤ g ∧ g < μ4 p 14)); omega)) (fun c10 => ?_) (fun c10 => ?_)
  · skip
    replace c10 := am_b1 c10
    refine w_aload_n dX8_mirrored_15 rfl rfl (by first | decide | omega) ?_
    refine w_iload_n dX8_mirrored_16 rfl rfl ?_
    refine w_callVV (o := 45) (ci := 8) (as := [(0, g)]) (rest := []) (k := 2) fX8_mirrored_17 rfl rfl rfl rfl rfl rfl rfl rfl (Nat.le_of_ble_eq_true rfl) (s_X8_laysSets X (ddt μ p (p + 5) (μ p 3) g) (μ (p + 9) g) g μ4 (hA4.gp (by omega))) (fun μS hμS => ?_)
    obtain ⟨hFS, hS_S, hf_S⟩ := hμS
    have hok := hS_S.ok
    have hcc := hS_S.c
    refine w_aload_n dX8_mirrored_20 rfl rfl (by first | decide | omega) ?_
    refine w_callVP (o := 45) (ci := 8) (as := []) (rest := []) (k := 2) fX8_mirrored_21 rfl rfl rfl rfl rfl rfl rfl rfl (Nat.le_of_ble_eq_true rfl) (s_X8_bestSet X (ddt μ p (p + 5) (μ p 3) g) (μ (p + 9) g) μS hS_S) ?_
    have hf3 := bstI_r (ddt μ p (p + 5) (μ p 3) g) (nS (ddt μ p (p + 5) (μ p 3) g)) (nS_0 (ddt μ p (p + 5) (μ p 3) g))
    refine w_istore_n (ls' := [(2, 45), (0, g), (0, bstI (ddt μ p (p + 5) (μ p 3) g) (nS (ddt μ p (p + 5) (μ p 3) g))), (9, 0), (9, 0), (9, 0)]) dX8_mirrored_24 rfl (Nat.le_of_ble_eq_true rfl) rfl rfl ?_
    refine w_iload_n dX8_mirrored_25 rfl rfl ?_
    refine w_iconst dX8_mirrored_26 ?_
    refine w_icmp_ne (tgt := 33) dX8_mirrored_27 rfl (R32.in (by omega)) (R32.in (by decide)) (fun c27 => ?_) (fun c27 => ?_)
    · skip
      have hbb := bst_lr hok c27
      have hqr := sq_r hok hbb.1
      have hfl := hG.fl (g := g) (by omega)
      refine w_aload_n dX8_mirrored_33 rfl rfl (by first | decide | omega) ?_
      refine w_getR (o := 45) (x := 58) fX8_mirrored_34 rfl rfl rfl rfl ?_
      refine w_iload_n dX8_mirrored_37 rfl rfl ?_
      refine w_ialdx (o := 58) (n := 2100) (x := (sq (ddt μ p (p + 5) (μ p 3) g) (bstI (ddt μ p (p + 5) (μ p 3) g) (nS (ddt μ p (p + 5) (μ p 3) g)))).1) dX8_mirrored_38 rfl rfl (Nat.le_of_ble_eq_true rfl) (by omega) (hS_S.2.2.1 _ (by omega) (by omega)) ?_
      have hr4 := (sq_r (hS_S.ok) (j := (bstI (ddt μ p (p + 5) (μ p 3) g) (nS (ddt μ p (p + 5) (μ p 3) g)))) (by omega)).1
      refine w_istore_n (ls' := [(2, 45), (0, g), (0, bstI (ddt μ p (p + 5) (μ p 3) g) (nS (ddt μ p (p + 5) (μ p 3) g))), (0, (sq (ddt μ p (p + 5) (μ p 3) g) (bstI (ddt μ p (p + 5) (μ p 3) g) (nS (ddt μ p (p + 5) (μ p 3) g)))).1), (9, 0), (9, 0)]) dX8_mirrored_39 rfl (Nat.le_of_ble_eq_true rfl) rfl rfl ?_
      refine w_aload_n dX8_mirrored_40 rfl rfl (by first | decide | omega) ?_
      refine w_getR (o := 45) (x := 59) fX8_mirrored_41 rfl rfl rfl rfl ?_
      refine w_iload_n dX8_mirrored_44 rfl rfl ?_
      refine w_ialdx (o := 59) (n := 2100) (x := (sq (ddt μ p (p + 5) (μ p 3) g) (bstI (ddt μ p (p + 5) (μ p 3) g) (nS (ddt μ p (p + 5) (μ p 3) g)))).2) dX8_mirrored_45 rfl rfl (Nat.le_of_ble_eq_true rfl) (by omega) (hS_S.2.2.2.1 _ (by omega) (by omega)) ?_
      have hr5 := (sq_r (hS_S.ok) (j := (bstI (ddt μ p (p + 5) (μ p 3) g) (nS (ddt μ p (p + 5) (μ p 3) g)))) (by omega)).2
      refine w_istore (ls' := [(2, 45), (0, g), (0, bstI (ddt μ p (p + 5) (μ p 3) g) (nS (ddt μ p (p + 5) (μ p 3) g))), (0, (sq (ddt μ p (p + 5) (μ p 3) g) (bstI (ddt μ p (p + 5) (μ p 3) g) (nS (ddt μ p (p + 5) (μ p 3) g)))).1), (0, (sq (ddt μ p (p + 5) (μ p 3) g) (bstI (ddt μ p (p + 5) (μ p 3) g) (nS (ddt μ p (p + 5) (μ p 3) g)))).2), (9, 0)]) dX8_mirrored_46 (Nat.le_of_ble_eq_true rfl) rfl rfl ?_
      refine w_iconst dX8_mirrored_48 ?_
      refine w_istore (ls' := [(2, 45), (0, g), (0, bstI (ddt μ p (p + 5) (μ p 3) g) (nS (ddt μ p (p + 5) (μ p 3) g))), (0, (sq (ddt μ p (p + 5) (μ p 3) g) (bstI (ddt μ p (p + 5) (μ p 3) g) (nS (ddt μ p (p + 5) (μ p 3) g)))).1), (0, (sq (ddt μ p (p + 5) (μ p 3) g) (bstI (ddt μ p (p + 5) (μ p 3) g) (nS (ddt μ p (p + 5) (μ p 3) g)))).2), (0, 0)]) dX8_mirrored_49 (Nat.le_of_ble_eq_true rfl) rfl rfl ?_
      have hL51 : ∀ (n51 : Nat) (n : Int) (μ1 : Mu), (μ (p + 10) g - n).toNat = n51 → Fr 45 45 56 61 μ1 μ → (0 ≤ n ∧ n ≤ μ (p + 10) g) → (RJz μ1 p) → (μ1 45 19 = μ p 3) → (∀ j : Int, 0 ≤ j → j < n → μ1 56 (μ (p + 9) g + j) = -μ (p + 5) (μ (p + 9) g + j)) → (∀ k : Int, (¬ k = 0 ∧ ¬ (21 ≤ k ∧ k ≤ 24) ∧ ¬ (29 ≤ k ∧ k ≤ 33)) → μ1 45 k = μ 45 k) → Wp (GG X) M_X8_mirrored 51 [(2, 45), (0, g), (0, bstI (ddt μ p (p + 5) (μ p 3) g) (nS (ddt μ p (p + 5) (μ p 3) g))), (0, (sq (ddt μ p (p + 5) (μ p 3) g) (bstI (ddt μ p (p + 5) (μ p 3) g) (nS (ddt μ p (p + 5) (μ p 3) g)))).1), (0, (sq (ddt μ p (p + 5) (μ p 3) g) (bstI (ddt μ p (p + 5) (μ p 3) g) (nS (ddt μ p (p + 5) (μ p 3) g)))).2), (0, n)] [] μ1 (qI 0 fun z μ' => (Fr 45 45 56 61 μ' μ) ∧ (z = if (0 ≤ g ∧ g < μ p 14) then mirA (ddt μ p (p + 5) (μ p 3) g) (ddM μ p g) else -1) ∧ (RJ μ' p) ∧ (∀ k : Int, (¬ k = 0 ∧ ¬ k = 19 ∧ ¬ (21 ≤ k ∧ k ≤ 24) ∧ ¬ (29 ≤ k ∧ k ≤ 33)) → μ' 45 k = μ 45 k)) := by
        intro n51
        induction n51 using Nat.strongRecOn with
        | ind n51 ih51 =>
          intro n μ1 hn51 hF51 hn0 hj1 h191 h561 hfA
          refine w_iload dX8_mirrored_51 rfl ?_
          refine w_aload_n dX8_mirrored_53 rfl rfl (by first | decide | omega) ?_
          refine w_getR (o := 45) (x := 55) fX8_mirrored_54 rfl rfl rfl rfl ?_
          refine w_iload_n dX8_mirrored_57 rfl rfl ?_
          refine w_ialdx (o := 55) (n := 33) (x := μ (p + 10) g) dX8_mirrored_58 rfl rfl (Nat.le_of_ble_eq_true rfl) (by omega) ((congrFun (hF51.at (by omega) (by omega)) _).trans (hJ.gm (by omega))) ?_
          have hr6 := PG.fl hG (g := g) (by omega)
          refine w_icmp_ge (tgt := 97) dX8_mirrored_59 rfl (R32.in (by omega)) (R32.in (by omega)) (fun c59 => ?_) (fun c59 => ?_)
          · skip
            have hG5 : RGs (ddM μ p g) (μ (p + 9) g) g μ1 := hj1.rgs (hf := fun j => -μ (p + 5) j) hC (fun o h1 => hF51.at (by omega) (by omega)) (by omega) hkn h191 (fun j h1 h2 => ⟨by have q8 := h561 (j - μ (p + 9) g) (by omega) (by omega); rw [show μ (p + 9) g + (j - μ (p + 9) g) = j by omega] at q8; exact q8, by have q9 := hI.hd (q := p + 5) (i := j) rfl (by omega); show -12 ≤ -μ (p + 5) j ∧ -μ (p + 5) j ≤ 12; omega⟩)
            refine w_aload_n dX8_mirrored_97 rfl rfl (by first | decide | omega) ?_
            refine w_iload_n dX8_mirrored_98 rfl rfl ?_
            refine w_callVV (o := 45) (ci := 8) (as := [(0, g)]) (rest := []) (k := 2) fX8_mirrored_99 rfl rfl rfl rfl rfl rfl rfl rfl (Nat.le_of_ble_eq_true rfl) (s_X8_laysSets X (ddM μ p g) (μ (p + 9) g) g μ1 hG5) (fun μM hμM => ?_)
            obtain ⟨hFM, hS_M, hf_M⟩ := hμM
            have hok2 := hS_M.ok
            have hc2 := hS_M.c
            refine w_aload_n dX8_mirrored_102 rfl rfl (by first | decide | omega) ?_
            refine w_callVP (o := 45) (ci := 8) (as := []) (rest := []) (k := 2) fX8_mirrored_103 rfl rfl rfl rfl rfl rfl rfl rfl (Nat.le_of_ble_eq_true rfl) (s_X8_bestSet X (ddM μ p g) (μ (p + 9) g) μM hS_M) ?_
            have hf8 := bstI_r (ddM μ p g) (nS (ddM μ p g)) (nS_0 (ddM μ p g))
            refine w_istore (ls' := [(2, 45), (0, g), (0, bstI (ddt μ p (p + 5) (μ p 3) g) (nS (ddt μ p (p + 5) (μ p 3) g))), (0, (sq (ddt μ p (p + 5) (μ p 3) g) (bstI (ddt μ p (p + 5) (μ p 3) g) (nS (ddt μ p (p + 5) (μ p 3) g)))).1), (0, (sq (ddt μ p (p + 5) (μ p 3) g) (bstI (ddt μ p (p + 5) (μ p 3) g) (nS (ddt μ p (p + 5) (μ p 3) g)))).2), (0, bstI (ddM μ p g) (nS (ddM μ p g)))]) dX8_mirrored_106 (Nat.le_of_ble_eq_true rfl) rfl rfl ?_
            refine w_aload_n dX8_mirrored_108 rfl rfl (by first | decide | omega) ?_
            refine w_callVV (o := 45) (ci := 8) (as := []) (rest := []) (k := 1) fX8_mirrored_109 rfl rfl rfl rfl rfl rfl rfl rfl (Nat.le_of_ble_eq_true rfl) (s_X8_thinksPlainly X p μM (CJ.cg hC (fun o h1 => ((hFM.at (by omega) (by omega)).trans (hF51.at (by omega) (by omega))))) (RJz.cg2 hj1 (fun o h1 => (hFM.at (by omega) (by omega))) (fun k h1 => (hf_M _ (by omega))))) (fun μP hμP => ?_)
            obtain ⟨hFP, hJ_P, hf_P⟩ := hμP
            refine w_iload dX8_mirrored_112 rfl ?_
            refine w_iconst dX8_mirrored_114 ?_
            refine w_icmp_ne (tgt := 121) dX8_mirrored_115 rfl (R32.in (by omega)) (R32.in (by decide)) (fun c115 => ?_) (fun c115 => ?_)
            · skip
              have hb2 := bst_lr hok2 c115
              have hqr2 := sq_r hok2 hb2.1
              refine w_aload_n dX8_mirrored_121 rfl rfl (by first | decide | omega) ?_
              refine w_getR (o := 45) (x := 58) fX8_mirrored_122 rfl rfl rfl rfl ?_
              refine w_iload dX8_mirrored_125 rfl ?_
              refine w_ialdx (o := 58) (n := 2100) (x := (sq (ddM μ p g) (bstI (ddM μ p g) (nS (ddM μ p g)))).1) dX8_mirrored_127 rfl rfl (Nat.le_of_ble_eq_true rfl) (by omega) ((congrFun (hFP.at (by omega) (by omega)) _).trans (hS_M.2.2.1 _ (by omega) (by omega))) ?_
              have hr10 := (sq_r (hS_M.ok) (j := (bstI (ddM μ p g) (nS (ddM μ p g)))) (by omega)).1
              refine w_iload_n dX8_mirrored_128 rfl rfl ?_
              refine w_ineg dX8_mirrored_129 ?_
              refine w_icmp_ne (tgt := 150) dX8_mirrored_130 rfl (R32.in (by omega)) (R32.in (by omega)) (fun c130 => ?_) (fun c130 => ?_)
              · skip
                refine w_iconst dX8_mirrored_150 ?_
                exact w_iretI dX8_mirrored_151 rfl ⟨((hFP.wd (by omega) (by omega)).tr ((hFM.wd (by omega) (by omega)).tr hF51)), (by exact ifT (by omega) (by unfold mirA; rw [if_neg hbb.2.1, if_neg hb2.2.1, ← hb2.2.2.1, ← hb2.2.2.2.1, ← hbb.2.2.1, ← hbb.2.2.2.1]; first | exact ifT (by omega) rfl | exact ifF (by omega) rfl)), hJ_P, (fun k h1 => ((hf_P k (by omega)).trans ((hf_M k (by omega)).trans (hfA k (by omega)))))⟩
              · skip
                refine w_aload_n dX8_mirrored_133 rfl rfl (by first | decide | omega) ?_
                refine w_getR (o := 45) (x := 59) fX8_mirrored_134 rfl rfl rfl rfl ?_
                refine w_iload dX8_mirrored_137 rfl ?_
                refine w_ialdx (o := 59) (n := 2100) (x := (sq (ddM μ p g) (bstI (ddM μ p g) (nS (ddM μ p g)))).2) dX8_mirrored_139 rfl rfl (Nat.le_of_ble_eq_true rfl) (by omega) ((congrFun (hFP.at (by omega) (by omega)) _).trans (hS_M.2.2.2.1 _ (by omega) (by omega))) ?_
                have hr11 := (sq_r (hS_M.ok) (j := (bstI (ddM μ p g) (nS (ddM μ p g)))) (by omega)).2
                refine w_iload dX8_mirrored_140 rfl ?_
                refine w_ineg dX8_mirrored_142 ?_
                refine w_icmp_ne (tgt := 150) dX8_mirrored_143 rfl (R32.in (by omega)) (R32.in (by omega)) (fun c143 => ?_) (fun c143 => ?_)
                · skip
                  refine w_iconst dX8_mirrored_150 ?_
                  exact w_iretI dX8_mirrored_151 rfl ⟨((hFP.wd (by omega) (by omega)).tr ((hFM.wd (by omega) (by omega)).tr hF51)), (by exact ifT (by omega) (by unfold mirA; rw [if_neg hbb.2.1, if_neg hb2.2.1, ← hb2.2.2.1, ← hb2.2.2.2.1, ← hbb.2.2.1, ← hbb.2.2.2.1]; first | exact ifT (by omega) rfl | exact ifF (by omega) rfl)), hJ_P, (fun k h1 => ((hf_P k (by omega)).trans ((hf_M k (by omega)).trans (hfA k (by omega)))))⟩
                · skip
                  refine w_iconst dX8_mirrored_146 ?_
                  refine w_goto (tgt := 151) dX8_mirrored_147 rfl ?_
                  exact w_iretI dX8_mirrored_151 rfl ⟨((hFP.wd (by omega) (by omega)).tr ((hFM.wd (by omega) (by omega)).tr hF51)), (by exact ifT (by omega) (by unfold mirA; rw [if_neg hbb.2.1, if_neg hb2.2.1, ← hb2.2.2.1, ← hb2.2.2.2.1, ← hbb.2.2.1, ← hbb.2.2.2.1]; first | exact ifT (by omega) rfl | exact ifF (by omega) rfl)), hJ_P, (fun k h1 => ((hf_P k (by omega)).trans ((hf_M k (by omega)).trans (hfA k (by omega)))))⟩
            · skip
              refine w_bipush dX8_mirrored_118 (by decide) ?_
              exact w_iretI dX8_mirrored_120 rfl ⟨((hFP.wd (by omega) (by omega)).tr ((hFM.wd (by omega) (by omega)).tr hF51)), (by exact ifT (by omega) (by unfold mirA; rw [if_neg hbb.2.1, if_pos (bst_no hok2 c115)])), hJ_P, (fun k h1 => ((hf_P k (by omega)).trans ((hf_M k (by omega)).trans (hfA k (by omega)))))⟩
          · skip
            refine w_aload_n dX8_mirrored_62 rfl rfl (by first | decide | omega) ?_
            refine w_getR (o := 45) (x := 56) fX8_mirrored_63 rfl rfl rfl rfl ?_
            refine w_aload_n dX8_mirrored_66 rfl rfl (by first | decide | omega) ?_
            refine w_getR (o := 45) (x := 54) fX8_mirrored_67 rfl rfl rfl rfl ?_
            refine w_iload_n dX8_mirrored_70 rfl rfl ?_
            refine w_ialdx (o := 54) (n := 33) (x := μ (p + 9) g) dX8_mirrored_71 rfl rfl (Nat.le_of_ble_eq_true rfl) (by omega) ((congrFun (hF51.at (by omega) (by omega)) _).trans (hJ.gf (by omega))) ?_
            refine w_iload dX8_mirrored_72 rfl ?_
            refine w_iadd dX8_mirrored_74 ?_
            refine w_aload_n dX8_mirrored_75 rfl rfl (by first | decide | omega) ?_
            refine w_getR (o := 45) (x := 50) fX8_mirrored_76 rfl rfl rfl rfl ?_
            refine w_aload_n dX8_mirrored_79 rfl rfl (by first | decide | omega) ?_
            refine w_getR (o := 45) (x := 54) fX8_mirrored_80 rfl rfl rfl rfl ?_
            refine w_iload_n dX8_mirrored_83 rfl rfl ?_
            refine w_ialdx (o := 54) (n := 33) (x := μ (p + 9) g) dX8_mirrored_84 rfl rfl (Nat.le_of_ble_eq_true rfl) (by omega) ((congrFun (hF51.at (by omega) (by omega)) _).trans (hJ.gf (by omega))) ?_
            refine w_iload dX8_mirrored_85 rfl ?_
            refine w_iadd dX8_mirrored_87 ?_
            refine w_ialdx (o := 50) (n := 64) (x := μ (p + 5) ((μ (p + 9) g) + n)) dX8_mirrored_88 rfl rfl (Nat.le_of_ble_eq_true rfl) (by omega) ((congrFun (hF51.at (by omega) (by omega)) _).trans (hJ.po (by omega))) ?_
            have hr12 := PI.hd hI (q := p + 5) (i := ((μ (p + 9) g) + n)) rfl (by omega)
            refine w_ineg dX8_mirrored_89 ?_
            refine w_iast (o := 56) (n := 64) dX8_mirrored_90 rfl rfl (Nat.le_of_ble_eq_true rfl) (by omega) (by omega) ?_
            refine w_iinc (ls' := [(2, 45), (0, g), (0, bstI (ddt μ p (p + 5) (μ p 3) g) (nS (ddt μ p (p + 5) (μ p 3) g))), (0, (sq (ddt μ p (p + 5) (μ p 3) g) (bstI (ddt μ p (p + 5) (μ p 3) g) (nS (ddt μ p (p + 5) (μ p 3) g)))).1), (0, (sq (ddt μ p (p + 5) (μ p 3) g) (bstI (ddt μ p (p + 5) (μ p 3) g) (nS (ddt μ p (p + 5) (μ p 3) g)))).2), (0, n + 1)]) dX8_mirrored_91 rfl (Nat.le_of_ble_eq_true rfl) rfl rfl ?_
            refine w_goto (tgt := 51) dX8_mirrored_94 rfl ?_
            exact ih51 _ (by omega) (n + 1) (am_up μ1 56 ((μ (p + 9) g) + n) (-(μ (p + 5) ((μ (p + 9) g) + n)))) rfl (hF51.up (by omega)) (by omega) (RJz.cg2 hj1 (fun o h1 => (am_up_o (by omega))) (fun k h1 => (congrFun (am_up_o (by omega)) _))) (((congrFun (am_up_o (by first | decide | omega)) _).trans h191).trans (by rfl)) (fillf (w := fun j => -μ (p + 5) (μ (p + 9) g + j)) h561 rfl) (fun k h1 => ((congrFun (am_up_o (by omega)) _).trans (hfA k (by omega))))
      exact hL51 _ 0 μS rfl ((hFS.wd (by omega) (by omega)).tr (hF_μ4.wd (by omega) (by omega))) (by omega) (RJz.cg2 hj4 (fun o h1 => (hFS.at (by omega) (by omega))) (fun k h1 => (hf_S _ (by omega)))) (((hf_S _ (by omega)).trans ((hff4 _ (by omega)).trans hJ.f19)).trans (by rfl)) (fun j h1 h2 => by omega) (fun k h1 => ((hf_S k (by omega)).trans (hff4 k (by omega))))
    · skip
      refine w_bipush dX8_mirrored_30 (by decide) ?_
      exact w_iretI dX8_mirrored_32 rfl ⟨((hFS.wd (by omega) (by omega)).tr (hF_μ4.wd (by omega) (by omega))), (by exact ifT (by omega) (by unfold mirA; rw [if_pos (bst_no hok c27)])), (RJ.cg2 hJ4 (fun o h1 => (hFS.at (by omega) (by omega))) (fun k h1 => (hf_S _ (by omega)))), (fun k h1 => ((hf_S k (by omega)).trans (hff4 k (by omega))))⟩
  · skip
    replace c10 := am_b0 c10
    refine w_iconst dX8_mirrored_13 ?_
    exact w_iretI dX8_mirrored_14 rfl ⟨(hF_μ4.wd (by omega) (by omega)), (by exact ifF (by omega) rfl), hJ4, (fun k h1 => (hff4 k (by omega)))⟩
