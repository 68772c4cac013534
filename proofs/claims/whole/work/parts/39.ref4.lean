set_option maxRecDepth 100000 in
set_option maxHeartbeats 4000000 in
theorem s_X8_laysSets (X : AX) (D : GDt) (f : Int) (g : Int) (μ : Mu) (hG : RGs D f g μ) : Wp (GG X) M_X8_laysSets 0 [(2, 45), (0, g), (9, 0), (9, 0)] [] μ (qV fun μ' => (Fr 45 45 57 61 μ' μ) ∧ (RS D f μ') ∧ (∀ k : Int, (¬ k = 21 ∧ ¬ k = 22 ∧ ¬ k = 23 ∧ ¬ k = 24 ∧ ¬ k = 29) → μ' 45 k = μ 45 k)) := by
  have hok := hG.ok
  have hn := hok.n
  have hfr := hG.r
  refine w_aload_n dX8_laysSets_0 rfl rfl (by first | decide | omega) ?_
  refine w_iload_n dX8_laysSets_1 rfl rfl ?_
  refine w_callVV (o := 45) (ci := 8) (as := [(0, g)]) (rest := []) (k := 0) fX8_laysSets_2 rfl rfl rfl rfl rfl rfl rfl rfl (Nat.le_of_ble_eq_true rfl) (s_X8_opens X D f g μ hG) (fun μ_1 hμ1 => ?_)
  obtain ⟨hF1, hO_1, hf_1⟩ := hμ1
  refine w_aload_n dX8_laysSets_5 rfl rfl (by first | decide | omega) ?_
  refine w_iconst dX8_laysSets_6 ?_
  refine w_putI (o := 45) (f := 29) fX8_laysSets_7 rfl rfl rfl rfl rfl ?_
  refine w_bipush dX8_laysSets_10 (by decide) ?_
  refine w_istore_n (ls' := [(2, 45), (0, g), (0, -60), (9, 0)]) dX8_laysSets_12 rfl (Nat.le_of_ble_eq_true rfl) rfl rfl ?_
  have hL13 : ∀ (n13 : Nat) (l : Int) (μ1 : Mu), (61 - l).toNat = n13 → Fr 45 45 57 61 μ1 μ → (-60 ≤ l ∧ l ≤ 61) → (RO D f μ1) → (μ1 45 29 = cN D (121 * (l + 60) + (-60 + 60))) → (0 ≤ cN D (121 * (l + 60) + (-60 + 60)) ∧ cN D (121 * (l + 60) + (-60 + 60)) ≤ 17 * (l + 60)) → (∀ j : Int, 0 ≤ j → j < cN D (121 * (l + 60) + (-60 + 60)) → μ1 58 j = (sq D j).1) → (∀ j : Int, 0 ≤ j → j < cN D (121 * (l + 60) + (-60 + 60)) → μ1 59 j = (sq D j).2) → (∀ j : Int, 0 ≤ j → j < cN D (121 * (l + 60) + (-60 + 60)) → μ1 60 j = squ D j) → (∀ j : Int, 0 ≤ j → j < cN D (121 * (l + 60) + (-60 + 60)) → μ1 61 j = sqn D j) → (∀ k : Int, (¬ k = 21 ∧ ¬ k = 22 ∧ ¬ k = 23 ∧ ¬ k = 24 ∧ ¬ k = 29) → μ1 45 k = μ 45 k) → Wp (GG X) M_X8_laysSets 13 [(2, 45), (0, g), (0, l), (9, 0)] [] μ1 (qV fun μ' => (Fr 45 45 57 61 μ' μ) ∧ (RS D f μ') ∧ (∀ k : Int, (¬ k = 21 ∧ ¬ k = 22 ∧ ¬ k = 23 ∧ ¬ k = 24 ∧ ¬ k = 29) → μ' 45 k = μ 45 k)) := by
    intro n13
    induction n13 using Nat.strongRecOn with
    | ind n13 ih13 =>
      intro l μ1 hn13 hF13 hl1 hO1 hc1 hb1 h158 h159 h160 h161 hfA
      refine w_iload_n dX8_laysSets_13 rfl rfl ?_
      refine w_bipush dX8_laysSets_14 (by decide) ?_
      refine w_icmp_gt (tgt := 123) dX8_laysSets_16 rfl (R32.in (by omega)) (R32.in (by decide)) (fun c16 => ?_) (fun c16 => ?_)
      · skip
        exact w_retV dX8_laysSets_123 rfl ⟨hF13, (by have he : l = 61 := (by omega); subst he; have e : (121 * (61 + 60) + (-60 + 60) : Int) = 14641 := (by omega); rw [e] at hc1 hb1 h158 h159 h160 h161; exact ⟨hO1, ⟨hc1, (by unfold nS; omega)⟩, h158, h159, h160, h161⟩), (fun k h1 => (hfA k (by omega)))⟩
      · skip
        refine w_bipush dX8_laysSets_19 (by decide) ?_
        refine w_istore_n (ls' := [(2, 45), (0, g), (0, l), (0, -60)]) dX8_laysSets_21 rfl (Nat.le_of_ble_eq_true rfl) rfl rfl ?_
        have hL22 : ∀ (n22 : Nat) (r : Int) (μ2 : Mu), (61 - r).toNat = n22 → Fr 45 45 57 61 μ2 μ → (-60 ≤ l ∧ l ≤ 60) → (-60 ≤ r ∧ r ≤ 61) → (RO D f μ2) → (μ2 45 29 = cN D (121 * (l + 60) + (r + 60))) → (0 ≤ cN D (121 * (l + 60) + (r + 60)) ∧ cN D (121 * (l + 60) + (r + 60)) ≤ 17 * (l + 60) + max 0 (min 17 (r - l + 8))) → (∀ j : Int, 0 ≤ j → j < cN D (121 * (l + 60) + (r + 60)) → μ2 58 j = (sq D j).1) → (∀ j : Int, 0 ≤ j → j < cN D (121 * (l + 60) + (r + 60)) → μ2 59 j = (sq D j).2) → (∀ j : Int, 0 ≤ j → j < cN D (121 * (l + 60) + (r + 60)) → μ2 60 j = squ D j) → (∀ j : Int, 0 ≤ j → j < cN D (121 * (l + 60) + (r + 60)) → μ2 61 j = sqn D j) → (∀ k : Int, (¬ k = 21 ∧ ¬ k = 22 ∧ ¬ k = 23 ∧ ¬ k = 24 ∧ ¬ k = 29) → μ2 45 k = μ 45 k) → Wp (GG X) M_X8_laysSets 22 [(2, 45), (0, g), (0, l), (0, r)] [] μ2 (qV fun μ' => (Fr 45 45 57 61 μ' μ) ∧ (RS D f μ') ∧ (∀ k : Int, (¬ k = 21 ∧ ¬ k = 22 ∧ ¬ k = 23 ∧ ¬ k = 24 ∧ ¬ k = 29) → μ' 45 k = μ 45 k)) := by
          intro n22
          induction n22 using Nat.strongRecOn with
          | ind n22 ih22 =>
            intro r μ2 hn22 hF22 hl0 hr1 hO2 hc2 hb2 h258 h259 h260 h261 hfB
            refine w_iload_n dX8_laysSets_22 rfl rfl ?_
            refine w_bipush dX8_laysSets_23 (by decide) ?_
            refine w_icmp_gt (tgt := 117) dX8_laysSets_25 rfl (R32.in (by omega)) (R32.in (by decide)) (fun c25 => ?_) (fun c25 => ?_)
            · skip
              refine w_iinc (ls' := [(2, 45), (0, g), (0, l + 1), (0, r)]) dX8_laysSets_117 rfl (Nat.le_of_ble_eq_true rfl) rfl rfl ?_
              refine w_goto (tgt := 13) dX8_laysSets_120 rfl ?_
              refine Wp.fgl (ls' := [(2, 45), (0, g), (0, l + 1), (9, 0)]) 3 rfl ?_
              exact ih13 _ (by omega) (l + 1) μ2 rfl hF22 (by first | omega | assumption) hO2 (hc2.trans (by rw [show 121 * (l + 1 + 60) + (-60 + 60) = 121 * (l + 60) + (r + 60) by omega])) (by rw [show 121 * (l + 1 + 60) + (-60 + 60) = 121 * (l + 60) + (r + 60) by omega]; omega) (RSn_n (congrArg (cN D) (by omega)) h258) (RSn_n (congrArg (cN D) (by omega)) h259) (RSn_n (congrArg (cN D) (by omega)) h260) (RSn_n (congrArg (cN D) (by omega)) h261) (fun k h1 => (hfB k (by omega)))
            · skip
              have hr0 : -60 ≤ r ∧ r ≤ 60 := (by omega)
              refine w_iload_n dX8_laysSets_28 rfl rfl ?_
              refine w_iload_n dX8_laysSets_29 rfl rfl ?_
              refine w_isub dX8_laysSets_30 ?_
              refine w_callSP (as := [(0, r - l)]) (rest := []) (k := 0) fX8_laysSets_31 rfl rfl rfl rfl rfl (Nat.le_of_ble_eq_true rfl) (s_X8_far X (r - l) μ2 (by first | omega | assumption)) ?_
              have hf2 := ab_f (r - l)
              refine w_bipush dX8_laysSets_34 (by decide) ?_
              refine w_icmp_gt (tgt := 111) dX8_laysSets_36 rfl (R32.in (by omega)) (R32.in (by decide)) (fun c36 => ?_) (fun c36 => ?_)
              · skip
                refine w_iinc (ls' := [(2, 45), (0, g), (0, l), (0, r + 1)]) dX8_laysSets_111 rfl (Nat.le_of_ble_eq_true rfl) rfl rfl ?_
                refine w_goto (tgt := 22) dX8_laysSets_114 rfl ?_
                exact ih22 _ (by omega) (r + 1) μ2 rfl hF22 (by first | omega | assumption) (by first | omega | assumption) hO2 (hc2.trans (by first | exact (cN_y hl0 hr0 hd c45).symm | exact (cN_n hl0 hr0 (by omega)).symm | exact (cN_n hl0 hr0 (fun q => c45 q.2)).symm)) (by first | (rw [cN_y hl0 hr0 hd c45]; omega) | (rw [cN_n hl0 hr0 (by omega)]; omega) | (rw [cN_n hl0 hr0 (fun q => c45 q.2)]; omega)) (RSn_n (by first | exact cN_n hl0 hr0 (by omega) | exact cN_n hl0 hr0 (fun q => c45 q.2)) h258) (RSn_n (by first | exact cN_n hl0 hr0 (by omega) | exact cN_n hl0 hr0 (fun q => c45 q.2)) h259) (RSn_n (by first | exact cN_n hl0 hr0 (by omega) | exact cN_n hl0 hr0 (fun q => c45 q.2)) h260) (RSn_n (by first | exact cN_n hl0 hr0 (by omega) | exact cN_n hl0 hr0 (fun q => c45 q.2)) h261) (fun k h1 => (hfB k (by omega)))
              · skip
                have hd : -8 ≤ r - l ∧ r - l ≤ 8 := (by unfold ab at *; omega)
                refine w_aload_n dX8_laysSets_39 rfl rfl (by first | decide | omega) ?_
                refine w_iload_n dX8_laysSets_40 rfl rfl ?_
                refine w_iload_n dX8_laysSets_41 rfl rfl ?_
                refine w_callVP (o := 45) (ci := 8) (as := [(0, l), (0, r)]) (rest := []) (k := 2) fX8_laysSets_42 rfl rfl rfl rfl rfl rfl rfl rfl (Nat.le_of_ble_eq_true rfl) (s_X8_isAllowed X D f l r μ2 hO2 (by first | omega | assumption)) ?_
                have hf3 := am_b_r (alwB D (r - l) l = true)
                refine w_if_ne (tgt := 51) dX8_laysSets_45 rfl (R32.in (by have := am_b_r ((alwB D (r - l) l = true)); omega)) (fun c45 => ?_) (fun c45 => ?_)
                · skip
                  replace c45 := am_b1 c45
                  refine w_aload_n dX8_laysSets_51 rfl rfl (by first | decide | omega) ?_
                  refine w_getR (o := 45) (x := 58) fX8_laysSets_52 rfl rfl rfl rfl ?_
                  refine w_aload_n dX8_laysSets_55 rfl rfl (by first | decide | omega) ?_
                  refine w_getIx (o := 45) (f := 29) (x := cN D (121 * (l + 60) + (r + 60))) fX8_laysSets_56 rfl rfl (Nat.le_of_ble_eq_true rfl) rfl hc2 ?_
                  have hr4 := hb2
                  refine w_iload_n dX8_laysSets_59 rfl rfl ?_
                  refine w_iast (o := 58) (n := 2100) dX8_laysSets_60 rfl rfl (Nat.le_of_ble_eq_true rfl) (by omega) (by omega) ?_
                  refine w_aload_n dX8_laysSets_61 rfl rfl (by first | decide | omega) ?_
                  refine w_getR (o := 45) (x := 59) fX8_laysSets_62 rfl rfl rfl rfl ?_
                  refine w_aload_n dX8_laysSets_65 rfl rfl (by first | decide | omega) ?_
                  refine w_getIx (o := 45) (f := 29) (x := cN D (121 * (l + 60) + (r + 60))) fX8_laysSets_66 rfl rfl (Nat.le_of_ble_eq_true rfl) rfl ((congrFun (am_up_o (by first | decide | omega)) _).trans hc2) ?_
                  refine w_iload_n dX8_laysSets_69 rfl rfl ?_
                  refine w_iast (o := 59) (n := 2100) dX8_laysSets_70 rfl rfl (Nat.le_of_ble_eq_true rfl) (by omega) (by omega) ?_
                  refine w_aload_n dX8_laysSets_71 rfl rfl (by first | decide | omega) ?_
                  refine w_getR (o := 45) (x := 60) fX8_laysSets_72 rfl rfl rfl rfl ?_
                  refine w_aload_n dX8_laysSets_75 rfl rfl (by first | decide | omega) ?_
                  refine w_getIx (o := 45) (f := 29) (x := cN D (121 * (l + 60) + (r + 60))) fX8_laysSets_76 rfl rfl (Nat.le_of_ble_eq_true rfl) rfl ((congrFun (am_up_o (by first | decide | omega)) _).trans ((congrFun (am_up_o (by first | decide | omega)) _).trans hc2)) ?_
                  refine w_aload_n dX8_laysSets_79 rfl rfl (by first | decide | omega) ?_
                  refine w_iload_n dX8_laysSets_80 rfl rfl ?_
                  refine w_iload_n dX8_laysSets_81 rfl rfl ?_
                  refine w_callVP (o := 45) (ci := 8) (as := [(0, l), (0, r)]) (rest := [(0, cN D (121 * (l + 60) + (r + 60))), (2, 60)]) (k := 0) fX8_laysSets_82 rfl rfl rfl rfl rfl rfl rfl rfl (Nat.le_of_ble_eq_true rfl) (s_X8_uglinessOf X D f l r (am_up (am_up μ2 58 (cN D (121 * (l + 60) + (r + 60))) l) 59 (cN D (121 * (l + 60) + (r + 60))) r) (RO.cg2 hO2 (fun o h1 => ((am_up_o (by omega)).trans (am_up_o (by omega)))) (fun k h1 => ((congrFun (am_up_o (by omega)) _).trans (congrFun (am_up_o (by omega)) _)))) (by first | omega | assumption)) ?_
                  have hf5 := ugl_fr D l r (by assumption) (by omega)
                  refine w_iast (o := 60) (n := 2100) dX8_laysSets_85 rfl rfl (Nat.le_of_ble_eq_true rfl) (by omega) (by omega) ?_
                  refine w_aload_n dX8_laysSets_86 rfl rfl (by first | decide | omega) ?_
                  refine w_getR (o := 45) (x := 61) fX8_laysSets_87 rfl rfl rfl rfl ?_
                  refine w_aload_n dX8_laysSets_90 rfl rfl (by first | decide | omega) ?_
                  refine w_getIx (o := 45) (f := 29) (x := cN D (121 * (l + 60) + (r + 60))) fX8_laysSets_91 rfl rfl (Nat.le_of_ble_eq_true rfl) rfl ((congrFun (am_up_o (by first | decide | omega)) _).trans ((congrFun (am_up_o (by first | decide | omega)) _).trans ((congrFun (am_up_o (by first | decide | omega)) _).trans hc2))) ?_
                  refine w_aload_n dX8_laysSets_94 rfl rfl (by first | decide | omega) ?_
                  refine w_iload_n dX8_laysSets_95 rfl rfl ?_
                  refine w_iload_n dX8_laysSets_96 rfl rfl ?_
                  refine w_callVP (o := 45) (ci := 8) (as := [(0, l), (0, r)]) (rest := [(0, cN D (121 * (l + 60) + (r + 60))), (2, 61)]) (k := 2) fX8_laysSets_97 rfl rfl rfl rfl rfl rfl rfl rfl (Nat.le_of_ble_eq_true rfl) (s_X8_lengthsOf X D f l r (am_up (am_up (am_up μ2 58 (cN D (121 * (l + 60) + (r + 60))) l) 59 (cN D (121 * (l + 60) + (r + 60))) r) 60 (cN D (121 * (l + 60) + (r + 60))) (ugl D (r - l) l)) (RO.cg2 hO2 (fun o h1 => ((am_up_o (by omega)).trans ((am_up_o (by omega)).trans (am_up_o (by omega))))) (fun k h1 => ((congrFun (am_up_o (by omega)) _).trans ((congrFun (am_up_o (by omega)) _).trans (congrFun (am_up_o (by omega)) _))))) (by first | omega | assumption)) ?_
                  have hf6 := lns_fr D l r (by assumption) (by omega)
                  refine w_iast (o := 61) (n := 2100) dX8_laysSets_100 rfl rfl (Nat.le_of_ble_eq_true rfl) (by omega) (by omega) ?_
                  refine w_aload_n dX8_laysSets_101 rfl rfl (by first | decide | omega) ?_
                  refine w_dup dX8_laysSets_102 (by simp) ?_
                  refine w_getIx (o := 45) (f := 29) (x := cN D (121 * (l + 60) + (r + 60))) fX8_laysSets_103 rfl rfl (Nat.le_of_ble_eq_true rfl) rfl ((congrFun (am_up_o (by first | decide | omega)) _).trans ((congrFun (am_up_o (by first | decide | omega)) _).trans ((congrFun (am_up_o (by first | decide | omega)) _).trans ((congrFun (am_up_o (by first | decide | omega)) _).trans hc2)))) ?_
                  refine w_iconst dX8_laysSets_106 ?_
                  refine w_iadd dX8_laysSets_107 ?_
                  refine w_putI (o := 45) (f := 29) fX8_laysSets_108 rfl rfl rfl rfl rfl ?_
                  refine w_iinc (ls' := [(2, 45), (0, g), (0, l), (0, r + 1)]) dX8_laysSets_111 rfl (Nat.le_of_ble_eq_true rfl) rfl rfl ?_
                  refine w_goto (tgt := 22) dX8_laysSets_114 rfl ?_
                  exact ih22 _ (by omega) (r + 1) (am_up (am_up (am_up (am_up (am_up μ2 58 (cN D (121 * (l + 60) + (r + 60))) l) 59 (cN D (121 * (l + 60) + (r + 60))) r) 60 (cN D (121 * (l + 60) + (r + 60))) (ugl D (r - l) l)) 61 (cN D (121 * (l + 60) + (r + 60))) (lns D (r - l) l)) 45 29 ((cN D (121 * (l + 60) + (r + 60))) + 1)) rfl (((((hF22.up (by omega)).up (by omega)).up (by omega)).up (by omega)).up (by omega)) (by first | omega | assumption) (by first | omega | assumption) (RO.cg2 hO2 (fun o h1 => ((am_up_o (by omega)).trans ((am_up_o (by omega)).trans ((am_up_o (by omega)).trans ((am_up_o (by omega)).trans (am_up_o (by omega))))))) (fun k h1 => ((am_up_nk (by omega)).trans ((congrFun (am_up_o (by omega)) _).trans ((congrFun (am_up_o (by omega)) _).trans ((congrFun (am_up_o (by omega)) _).trans (congrFun (am_up_o (by omega)) _))))))) (am_up_at.trans (by first | exact (cN_y hl0 hr0 hd c45).symm | exact (cN_n hl0 hr0 (by omega)).symm | exact (cN_n hl0 hr0 (fun q => c45 q.2)).symm)) (by first | (rw [cN_y hl0 hr0 hd c45]; omega) | (rw [cN_n hl0 hr0 (by omega)]; omega) | (rw [cN_n hl0 hr0 (fun q => c45 q.2)]; omega)) (fun j h1 h2 => ((congrFun (am_up_o (by omega)) _).trans ((congrFun (am_up_o (by omega)) _).trans ((congrFun (am_up_o (by omega)) _).trans ((congrFun (am_up_o (by omega)) _).trans ((RSn_y (F := fun j => (sq D j).1) (cN_y hl0 hr0 hd c45) h258 (by rw [sq_lr hl0 hr0 hd c45])) j h1 h2)))))) (fun j h1 h2 => ((congrFun (am_up_o (by omega)) _).trans ((congrFun (am_up_o (by omega)) _).trans ((congrFun (am_up_o (by omega)) _).trans ((RSn_y (F := fun j => (sq D j).2) (cN_y hl0 hr0 hd c45) h259 (by rw [sq_lr hl0 hr0 hd c45])) j h1 h2))))) (fun j h1 h2 => ((congrFun (am_up_o (by omega)) _).trans ((congrFun (am_up_o (by omega)) _).trans ((RSn_y (F := squ D) (cN_y hl0 hr0 hd c45) h260 (by unfold squ; rw [sq_lr hl0 hr0 hd c45])) j h1 h2)))) (fun j h1 h2 => ((congrFun (am_up_o (by omega)) _).trans ((RSn_y (F := sqn D) (cN_y hl0 hr0 hd c45) h261 (by unfold sqn; rw [sq_lr hl0 hr0 hd c45])) j h1 h2))) (fun k h1 => ((am_up_nk (by omega)).trans ((congrFun (am_up_o (by omega)) _).trans ((congrFun (am_up_o (by omega)) _).trans ((congrFun (am_up_o (by omega)) _).trans ((congrFun (am_up_o (by omega)) _).trans (hfB k (by omega))))))))
                · skip
                  replace c45 := am_b0 c45
                  refine w_goto (tgt := 111) dX8_laysSets_48 rfl ?_
                  refine w_iinc (ls' := [(2, 45), (0, g), (0, l), (0, r + 1)]) dX8_laysSets_111 rfl (Nat.le_of_ble_eq_true rfl) rfl rfl ?_
                  refine w_goto (tgt := 22) dX8_laysSets_114 rfl ?_
                  exact ih22 _ (by omega) (r + 1) μ2 rfl hF22 (by first | omega | assumption) (by first | omega | assumption) hO2 (hc2.trans (by first | exact (cN_y hl0 hr0 hd c45).symm | exact (cN_n hl0 hr0 (by omega)).symm | exact (cN_n hl0 hr0 (fun q => c45 q.2)).symm)) (by first | (rw [cN_y hl0 hr0 hd c45]; omega) | (rw [cN_n hl0 hr0 (by omega)]; omega) | (rw [cN_n hl0 hr0 (fun q => c45 q.2)]; omega)) (RSn_n (by first | exact cN_n hl0 hr0 (by omega) | exact cN_n hl0 hr0 (fun q => c45 q.2)) h258) (RSn_n (by first | exact cN_n hl0 hr0 (by omega) | exact cN_n hl0 hr0 (fun q => c45 q.2)) h259) (RSn_n (by first | exact cN_n hl0 hr0 (by omega) | exact cN_n hl0 hr0 (fun q => c45 q.2)) h260) (RSn_n (by first | exact cN_n hl0 hr0 (by omega) | exact cN_n hl0 hr0 (fun q => c45 q.2)) h261) (fun k h1 => (hfB k (by omega)))
        exact hL22 _ (-60) μ1 rfl hF13 (by first | omega | assumption) (by first | omega | assumption) hO1 (hc1.trans (by rfl)) (by omega) h158 h159 h160 h161 (fun k h1 => (hfA k (by omega)))
  exact hL13 _ (-60) (am_up μ_1 45 29 0) rfl ((hF1.wd (by omega) (by omega)).up (by omega)) (by first | omega | assumption) (RO.cg2 hO_1 (fun o h1 => (am_up_o (by omega))) (fun k h1 => (am_up_nk (by omega)))) (am_up_at.trans (by rfl)) (by show (0 : Int) ≤ 0 ∧ (0 : Int) ≤ 0; omega) (fun j h1 h2 => by have h3 : j < 0 := h2; omega) (fun j h1 h2 => by have h3 : j < 0 := h2; omega) (fun j h1 h2 => by have h3 : j < 0 := h2; omega) (fun j h1 h2 => by have h3 : j < 0 := h2; omega) (fun k h1 => ((am_up_nk (by omega)).trans (hf_1 k (by omega))))
