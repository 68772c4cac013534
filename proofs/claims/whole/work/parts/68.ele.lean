set_option maxRecDepth 100000 in
set_option maxHeartbeats 4000000 in
theorem s_X8_elementHere (X : AX) (b : Int → Int) (n : Int) (σ : Mu) (a : Int) (e : Int) (so : Int) (w : Int) (μ : Mu) (hR : RTc b n μ) (hP : RPS σ μ) (hK : TK b n (sk b n a) μ) (ha : 0 ≤ a ∧ a ≤ n) (he : μ 45 37 = e) (hae : 0 ≤ e ∧ e ≤ n) (hb : μ 45 43 = 0) (hw : (so = 1 ∧ w = 4) ∨ (so = 0 ∧ w = 5)) : Wp (GG X) M_X8_elementHere 0 [(2, 45), (0, so), (9, 0), (9, 0)] [] μ (qV fun μ' => (Fr 45 45 63 68 μ' μ) ∧ (tkL b n (ln0 b n σ w (sk b n a) e) μ μ') ∧ (∀ k9 : Int, (¬ k9 = 37 ∧ ¬ k9 = 38 ∧ ¬ k9 = 39 ∧ ¬ k9 = 40 ∧ ¬ k9 = 41 ∧ ¬ k9 = 42 ∧ ¬ k9 = 43 ∧ ¬ k9 = 44 ∧ ¬ k9 = 45 ∧ ¬ k9 = 46 ∧ ¬ k9 = 47 ∧ ¬ k9 = 48 ∧ ¬ k9 = 49 ∧ ¬ k9 = 50 ∧ ¬ k9 = 51 ∧ ¬ k9 = 52 ∧ ¬ k9 = 53 ∧ ¬ k9 = 54 ∧ ¬ k9 = 55 ∧ ¬ k9 = 56 ∧ ¬ k9 = 57) → μ' 45 k9 = μ 45 k9) ∧ (RTc b n μ') ∧ ((0 ≤ μ' 45 39 ∧ μ' 45 39 ≤ 4) ∧ (-1 ≤ μ' 45 40 ∧ μ' 45 40 < 1073741824))) := by
  have hn := hR.n
  have hbb := hR.bb
  have hr39 := hK.r
  have hr40 := hK.v hbb ha
  have hok := hP.ok
  have h00 := hok.1.1
  have h05 := hok.1.2.2.2.2.2.1
  have hskr := sk_r b n a ha.2
  have hn1 : ¬ (w = -1 ∨ tooL σ w) := by unfold tooL; omega
  have hn3 : ¬ (w ≤ 2 ∧ ¬ tldS σ w = 0) := by omega
  have hml := mls_eq hok
  have hmd : 0 ≤ tS σ % mlS σ ∧ tS σ % mlS σ < mlS σ := ⟨Int.emod_nonneg _ (by omega), Int.emod_lt_of_pos _ (by omega)⟩
  have htx := hok.tx
  refine w_aload_n dX8_elementHere_0 rfl rfl (by first | decide | omega) ?_
  refine w_aload_n dX8_elementHere_1 rfl rfl (by first | decide | omega) ?_
  refine w_getIx (o := 45) (f := 50) (x := σ 0 0) fX8_elementHere_2 rfl rfl (Nat.le_of_ble_eq_true rfl) rfl hP.el ?_
  have hr1 := hP.ok.1.1
  refine w_bipush dX8_elementHere_5 (by decide) ?_
  refine w_icmp_ge (tgt := 14) dX8_elementHere_7 rfl (R32.in (by omega)) (R32.in (by decide)) (fun c7 => ?_) (fun c7 => ?_)
  · skip
    refine w_iconst dX8_elementHere_14 ?_
    refine w_iconst dX8_elementHere_15 ?_
    refine w_callVV (o := 45) (ci := 8) (as := [(0, 0), (0, 4)]) (rest := []) (k := 0) fX8_elementHere_16 rfl rfl rfl rfl rfl rfl rfl rfl (Nat.le_of_ble_eq_true rfl) (s_X8_must_f X 0 4 μ hb rfl) (fun μ_2 hμ2 => ?_)
    obtain ⟨hF2, hb_2, h1_2, h2_2, hf_2⟩ := hμ2
    refine w_aload_n dX8_elementHere_19 rfl rfl (by first | decide | omega) ?_
    refine w_getIx (o := 45) (f := 43) (x := 1) fX8_elementHere_20 rfl rfl (Nat.le_of_ble_eq_true rfl) rfl hb_2 ?_
    refine w_if_ne (tgt := 30) dX8_elementHere_23 rfl (R32.in (by decide)) (fun c23 => ?_) (fun c23 => ?_)
    · skip
      refine w_aload_n dX8_elementHere_30 rfl rfl (by first | decide | omega) ?_
      refine w_aload_n dX8_elementHere_31 rfl rfl (by first | decide | omega) ?_
      refine w_getIx (o := 45) (f := 39) (x := μ 45 39) fX8_elementHere_32 rfl rfl (Nat.le_of_ble_eq_true rfl) rfl (hf_2 _ (by omega)) ?_
      refine w_iconst dX8_elementHere_35 ?_
      refine w_icmp_ne (tgt := 43) dX8_elementHere_36 rfl (R32.in (by omega)) (R32.in (by decide)) (fun c36 => ?_) (fun c36 => ?_)
      · skip
        refine w_iconst dX8_elementHere_43 ?_
        refine w_iconst dX8_elementHere_44 ?_
        refine w_callVV (o := 45) (ci := 8) (as := [(0, 0), (0, 1)]) (rest := []) (k := 0) fX8_elementHere_45 rfl rfl rfl rfl rfl rfl rfl rfl (Nat.le_of_ble_eq_true rfl) (s_X8_must_b X 0 1 μ_2 hb_2) (fun μ_3 hμ3 => ?_)
        have hF3 := hμ3
        refine w_aload_n dX8_elementHere_48 rfl rfl (by first | decide | omega) ?_
        refine w_getIx (o := 45) (f := 40) (x := μ 45 40) fX8_elementHere_49 rfl rfl (Nat.le_of_ble_eq_true rfl) rfl ((congrFun (hF3.at (by omega) (by omega)) _).trans (hf_2 _ (by omega))) ?_
        refine w_callSP (as := [(0, μ 45 40)]) (rest := []) (k := 0) fX8_elementHere_52 rfl rfl rfl rfl rfl (Nat.le_of_ble_eq_true rfl) (s_X8_kindOf X (μ 45 40) μ_3 (by first | omega | assumption)) ?_
        have hf4 := kdo_r (μ 45 40)
        refine w_istore_n (ls' := [(2, 45), (0, so), (0, kdo (μ 45 40)), (9, 0)]) dX8_elementHere_55 rfl (Nat.le_of_ble_eq_true rfl) rfl rfl ?_
        refine w_aload_n dX8_elementHere_56 rfl rfl (by first | decide | omega) ?_
        refine w_iload_n dX8_elementHere_57 rfl rfl ?_
        refine w_iconst dX8_elementHere_58 ?_
        refine w_icmp_eq (tgt := 66) dX8_elementHere_59 rfl (R32.in (by omega)) (R32.in (by decide)) (fun c59 => ?_) (fun c59 => ?_)
        · skip
          refine w_iconst dX8_elementHere_66 ?_
          refine w_iconst dX8_elementHere_67 ?_
          refine w_callVV (o := 45) (ci := 8) (as := [(0, 0), (0, 2)]) (rest := []) (k := 0) fX8_elementHere_68 rfl rfl rfl rfl rfl rfl rfl rfl (Nat.le_of_ble_eq_true rfl) (s_X8_must_b X 0 2 μ_3 ((congrFun (hF3.at (by omega) (by omega)) _).trans hb_2)) (fun μ_5 hμ5 => ?_)
          have hF5 := hμ5
          refine w_aload_n dX8_elementHere_71 rfl rfl (by first | decide | omega) ?_
          refine w_getIx (o := 45) (f := 44) (x := σ 0 2) fX8_elementHere_72 rfl rfl (Nat.le_of_ble_eq_true rfl) rfl ((congrFun (hF5.at (by omega) (by omega)) _).trans ((congrFun (hF3.at (by omega) (by omega)) _).trans ((hf_2 _ (by omega)).trans hP.bt))) ?_
          have hr6 := hP.ok.1.2.2.1
          refine w_aload_n dX8_elementHere_75 rfl rfl (by first | decide | omega) ?_
          refine w_getIx (o := 45) (f := 45) (x := σ 0 3) fX8_elementHere_76 rfl rfl (Nat.le_of_ble_eq_true rfl) rfl ((congrFun (hF5.at (by omega) (by omega)) _).trans ((congrFun (hF3.at (by omega) (by omega)) _).trans ((hf_2 _ (by omega)).trans hP.un))) ?_
          refine w_callSP (as := [(0, σ 0 2), (0, σ 0 3)]) (rest := []) (k := 0) fX8_elementHere_79 rfl rfl rfl rfl rfl (Nat.le_of_ble_eq_true rfl) (s_X8_measureOf X (σ 0 2) (σ 0 3) μ_5 (by omega) (by exact hok.1.2.2.2.1)) ?_
          refine Wp.topE (b := mlS σ) hml.1 ?_
          refine w_istore_n (ls' := [(2, 45), (0, so), (0, kdo (μ 45 40)), (0, mlS σ)]) dX8_elementHere_82 rfl (Nat.le_of_ble_eq_true rfl) rfl rfl ?_
          refine w_aload_n dX8_elementHere_83 rfl rfl (by first | decide | omega) ?_
          refine w_aload_n dX8_elementHere_84 rfl rfl (by first | decide | omega) ?_
          refine w_getIx (o := 45) (f := 43) (x := 1) fX8_elementHere_85 rfl rfl (Nat.le_of_ble_eq_true rfl) rfl ((congrFun (hF5.at (by omega) (by omega)) _).trans ((congrFun (hF3.at (by omega) (by omega)) _).trans hb_2)) ?_
          refine w_if_ne (tgt := 106) dX8_elementHere_88 rfl (R32.in (by decide)) (fun c88 => ?_) (fun c88 => ?_)
          · skip
            refine w_iconst dX8_elementHere_106 ?_
            refine w_goto (tgt := 111) dX8_elementHere_107 rfl ?_
            refine w_iconst dX8_elementHere_111 ?_
            refine w_callVV (o := 45) (ci := 8) (as := [(0, 1), (0, 5)]) (rest := []) (k := 0) fX8_elementHere_112 rfl rfl rfl rfl rfl rfl rfl rfl (Nat.le_of_ble_eq_true rfl) (s_X8_must_t X 1 5 μ_5 (Or.inr ((congrFun (hF5.at (by omega) (by omega)) _).trans ((congrFun (hF3.at (by omega) (by omega)) _).trans hb_2))) rfl) (fun μ_7 hμ7 => ?_)
            have hF7 := hμ7
            refine w_aload_n dX8_elementHere_115 rfl rfl (by first | decide | omega) ?_
            refine w_getIx (o := 45) (f := 43) (x := 1) fX8_elementHere_116 rfl rfl (Nat.le_of_ble_eq_true rfl) rfl ((congrFun (hF7.at (by omega) (by omega)) _).trans ((congrFun (hF5.at (by omega) (by omega)) _).trans ((congrFun (hF3.at (by omega) (by omega)) _).trans hb_2))) ?_
            refine w_if_eq (tgt := 123) dX8_elementHere_119 rfl (R32.in (by decide)) (fun c119 => ?_) (fun c119 => ?_)
            · skip
              exact absurd c119 (by decide)
            · skip
              have hP9 : tkL b n (ln0 b n σ w (sk b n a) e) μ μ_7 := tkL_no (ln0_4 hn1 hn3 ⟨by omega, by omega⟩) (by omega) (((congrFun (hF7.at (by omega) (by omega)) _).trans ((congrFun (hF5.at (by omega) (by omega)) _).trans ((congrFun (hF3.at (by omega) (by omega)) _).trans hb_2))).trans (by rfl)) (((congrFun (hF7.at (by omega) (by omega)) _).trans ((congrFun (hF5.at (by omega) (by omega)) _).trans ((congrFun (hF3.at (by omega) (by omega)) _).trans h1_2))).trans (by rfl)) (((congrFun (hF7.at (by omega) (by omega)) _).trans ((congrFun (hF5.at (by omega) (by omega)) _).trans ((congrFun (hF3.at (by omega) (by omega)) _).trans (h2_2.trans rfl)))).trans (by exact hK.1))
              exact w_retV dX8_elementHere_122 rfl ⟨((hF7.wd (by omega) (by omega)).tr ((hF5.wd (by omega) (by omega)).tr ((hF3.wd (by omega) (by omega)).tr (hF2.wd (by omega) (by omega))))), (by exact hP9), (fun k h1 => ((congrFun (hF7.at (by omega) (by omega)) _).trans ((congrFun (hF5.at (by omega) (by omega)) _).trans ((congrFun (hF3.at (by omega) (by omega)) _).trans (hf_2 k (by omega)))))), (RTc.cg2 hR (fun o h1 => ((hF7.at (by omega) (by omega)).trans ((hF5.at (by omega) (by omega)).trans ((hF3.at (by omega) (by omega)).trans (hF2.at (by omega) (by omega)))))) (fun k h1 => ((congrFun (hF7.at (by omega) (by omega)) _).trans ((congrFun (hF5.at (by omega) (by omega)) _).trans ((congrFun (hF3.at (by omega) (by omega)) _).trans (hf_2 _ (by omega))))))), (by rw [(((congrFun (hF7.at (by omega) (by omega)) _).trans ((congrFun (hF5.at (by omega) (by omega)) _).trans ((congrFun (hF3.at (by omega) (by omega)) _).trans (hf_2 _ (by omega))))).trans (by rfl)), (((congrFun (hF7.at (by omega) (by omega)) _).trans ((congrFun (hF5.at (by omega) (by omega)) _).trans ((congrFun (hF3.at (by omega) (by omega)) _).trans (hf_2 _ (by omega))))).trans (by rfl))]; omega)⟩
          · skip
            exact absurd c88 (by decide)
        · skip
          refine w_iconst dX8_elementHere_62 ?_
          refine w_goto (tgt := 67) dX8_elementHere_63 rfl ?_
          refine w_iconst dX8_elementHere_67 ?_
          refine w_callVV (o := 45) (ci := 8) (as := [(0, 1), (0, 2)]) (rest := []) (k := 0) fX8_elementHere_68 rfl rfl rfl rfl rfl rfl rfl rfl (Nat.le_of_ble_eq_true rfl) (s_X8_must_t X 1 2 μ_3 (Or.inr ((congrFun (hF3.at (by omega) (by omega)) _).trans hb_2)) rfl) (fun μ_8 hμ8 => ?_)
          have hF8 := hμ8
          refine w_aload_n dX8_elementHere_71 rfl rfl (by first | decide | omega) ?_
          refine w_getIx (o := 45) (f := 44) (x := σ 0 2) fX8_elementHere_72 rfl rfl (Nat.le_of_ble_eq_true rfl) rfl ((congrFun (hF8.at (by omega) (by omega)) _).trans ((congrFun (hF3.at (by omega) (by omega)) _).trans ((hf_2 _ (by omega)).trans hP.bt))) ?_
          have hr9 := hP.ok.1.2.2.1
          refine w_aload_n dX8_elementHere_75 rfl rfl (by first | decide | omega) ?_
          refine w_getIx (o := 45) (f := 45) (x := σ 0 3) fX8_elementHere_76 rfl rfl (Nat.le_of_ble_eq_true rfl) rfl ((congrFun (hF8.at (by omega) (by omega)) _).trans ((congrFun (hF3.at (by omega) (by omega)) _).trans ((hf_2 _ (by omega)).trans hP.un))) ?_
          refine w_callSP (as := [(0, σ 0 2), (0, σ 0 3)]) (rest := []) (k := 0) fX8_elementHere_79 rfl rfl rfl rfl rfl (Nat.le_of_ble_eq_true rfl) (s_X8_measureOf X (σ 0 2) (σ 0 3) μ_8 (by omega) (by exact hok.1.2.2.2.1)) ?_
          refine Wp.topE (b := mlS σ) hml.1 ?_
          refine w_istore_n (ls' := [(2, 45), (0, so), (0, kdo (μ 45 40)), (0, mlS σ)]) dX8_elementHere_82 rfl (Nat.le_of_ble_eq_true rfl) rfl rfl ?_
          refine w_aload_n dX8_elementHere_83 rfl rfl (by first | decide | omega) ?_
          refine w_aload_n dX8_elementHere_84 rfl rfl (by first | decide | omega) ?_
          refine w_getIx (o := 45) (f := 43) (x := 1) fX8_elementHere_85 rfl rfl (Nat.le_of_ble_eq_true rfl) rfl ((congrFun (hF8.at (by omega) (by omega)) _).trans ((congrFun (hF3.at (by omega) (by omega)) _).trans hb_2)) ?_
          refine w_if_ne (tgt := 106) dX8_elementHere_88 rfl (R32.in (by decide)) (fun c88 => ?_) (fun c88 => ?_)
          · skip
            refine w_iconst dX8_elementHere_106 ?_
            refine w_goto (tgt := 111) dX8_elementHere_107 rfl ?_
            refine w_iconst dX8_elementHere_111 ?_
            refine w_callVV (o := 45) (ci := 8) (as := [(0, 1), (0, 5)]) (rest := []) (k := 0) fX8_elementHere_112 rfl rfl rfl rfl rfl rfl rfl rfl (Nat.le_of_ble_eq_true rfl) (s_X8_must_t X 1 5 μ_8 (Or.inr ((congrFun (hF8.at (by omega) (by omega)) _).trans ((congrFun (hF3.at (by omega) (by omega)) _).trans hb_2))) rfl) (fun μ_10 hμ10 => ?_)
            have hF10 := hμ10
            refine w_aload_n dX8_elementHere_115 rfl rfl (by first | decide | omega) ?_
            refine w_getIx (o := 45) (f := 43) (x := 1) fX8_elementHere_116 rfl rfl (Nat.le_of_ble_eq_true rfl) rfl ((congrFun (hF10.at (by omega) (by omega)) _).trans ((congrFun (hF8.at (by omega) (by omega)) _).trans ((congrFun (hF3.at (by omega) (by omega)) _).trans hb_2))) ?_
            refine w_if_eq (tgt := 123) dX8_elementHere_119 rfl (R32.in (by decide)) (fun c119 => ?_) (fun c119 => ?_)
            · skip
              exact absurd c119 (by decide)
            · skip
              have hP9 : tkL b n (ln0 b n σ w (sk b n a) e) μ μ_10 := tkL_no (ln0_4 hn1 hn3 ⟨by omega, by omega⟩) (by omega) (((congrFun (hF10.at (by omega) (by omega)) _).trans ((congrFun (hF8.at (by omega) (by omega)) _).trans ((congrFun (hF3.at (by omega) (by omega)) _).trans hb_2))).trans (by rfl)) (((congrFun (hF10.at (by omega) (by omega)) _).trans ((congrFun (hF8.at (by omega) (by omega)) _).trans ((congrFun (hF3.at (by omega) (by omega)) _).trans h1_2))).trans (by rfl)) (((congrFun (hF10.at (by omega) (by omega)) _).trans ((congrFun (hF8.at (by omega) (by omega)) _).trans ((congrFun (hF3.at (by omega) (by omega)) _).trans (h2_2.trans rfl)))).trans (by exact hK.1))
              exact w_retV dX8_elementHere_122 rfl ⟨((hF10.wd (by omega) (by omega)).tr ((hF8.wd (by omega) (by omega)).tr ((hF3.wd (by omega) (by omega)).tr (hF2.wd (by omega) (by omega))))), (by exact hP9), (fun k h1 => ((congrFun (hF10.at (by omega) (by omega)) _).trans ((congrFun (hF8.at (by omega) (by omega)) _).trans ((congrFun (hF3.at (by omega) (by omega)) _).trans (hf_2 k (by omega)))))), (RTc.cg2 hR (fun o h1 => ((hF10.at (by omega) (by omega)).trans ((hF8.at (by omega) (by omega)).trans ((hF3.at (by omega) (by omega)).trans (hF2.at (by omega) (by omega)))))) (fun k h1 => ((congrFun (hF10.at (by omega) (by omega)) _).trans ((congrFun (hF8.at (by omega) (by omega)) _).trans ((congrFun (hF3.at (by omega) (by omega)) _).trans (hf_2 _ (by omega))))))), (by rw [(((congrFun (hF10.at (by omega) (by omega)) _).trans ((congrFun (hF8.at (by omega) (by omega)) _).trans ((congrFun (hF3.at (by omega) (by omega)) _).trans (hf_2 _ (by omega))))).trans (by rfl)), (((congrFun (hF10.at (by omega) (by omega)) _).trans ((congrFun (hF8.at (by omega) (by omega)) _).trans ((congrFun (hF3.at (by omega) (by omega)) _).trans (hf_2 _ (by omega))))).trans (by rfl))]; omega)⟩
          · skip
            exact absurd c88 (by decide)
      · skip
        refine w_iconst dX8_elementHere_39 ?_
        refine w_goto (tgt := 44) dX8_elementHere_40 rfl ?_
        refine w_iconst dX8_elementHere_44 ?_
        refine w_callVV (o := 45) (ci := 8) (as := [(0, 1), (0, 1)]) (rest := []) (k := 0) fX8_elementHere_45 rfl rfl rfl rfl rfl rfl rfl rfl (Nat.le_of_ble_eq_true rfl) (s_X8_must_t X 1 1 μ_2 (Or.inr hb_2) rfl) (fun μ_11 hμ11 => ?_)
        have hF11 := hμ11
        refine w_aload_n dX8_elementHere_48 rfl rfl (by first | decide | omega) ?_
        refine w_getIx (o := 45) (f := 40) (x := μ 45 40) fX8_elementHere_49 rfl rfl (Nat.le_of_ble_eq_true rfl) rfl ((congrFun (hF11.at (by omega) (by omega)) _).trans (hf_2 _ (by omega))) ?_
        refine w_callSP (as := [(0, μ 45 40)]) (rest := []) (k := 0) fX8_elementHere_52 rfl rfl rfl rfl rfl (Nat.le_of_ble_eq_true rfl) (s_X8_kindOf X (μ 45 40) μ_11 (by first | omega | assumption)) ?_
        have hf12 := kdo_r (μ 45 40)
        refine w_istore_n (ls' := [(2, 45), (0, so), (0, kdo (μ 45 40)), (9, 0)]) dX8_elementHere_55 rfl (Nat.le_of_ble_eq_true rfl) rfl rfl ?_
        refine w_aload_n dX8_elementHere_56 rfl rfl (by first | decide | omega) ?_
        refine w_iload_n dX8_elementHere_57 rfl rfl ?_
        refine w_iconst dX8_elementHere_58 ?_
        refine w_icmp_eq (tgt := 66) dX8_elementHere_59 rfl (R32.in (by omega)) (R32.in (by decide)) (fun c59 => ?_) (fun c59 => ?_)
        · skip
          refine w_iconst dX8_elementHere_66 ?_
          refine w_iconst dX8_elementHere_67 ?_
          refine w_callVV (o := 45) (ci := 8) (as := [(0, 0), (0, 2)]) (rest := []) (k := 0) fX8_elementHere_68 rfl rfl rfl rfl rfl rfl rfl rfl (Nat.le_of_ble_eq_true rfl) (s_X8_must_b X 0 2 μ_11 ((congrFun (hF11.at (by omega) (by omega)) _).trans hb_2)) (fun μ_13 hμ13 => ?_)
          have hF13 := hμ13
          refine w_aload_n dX8_elementHere_71 rfl rfl (by first | decide | omega) ?_
          refine w_getIx (o := 45) (f := 44) (x := σ 0 2) fX8_elementHere_72 rfl rfl (Nat.le_of_ble_eq_true rfl) rfl ((congrFun (hF13.at (by omega) (by omega)) _).trans ((congrFun (hF11.at (by omega) (by omega)) _).trans ((hf_2 _ (by omega)).trans hP.bt))) ?_
          have hr14 := hP.ok.1.2.2.1
          refine w_aload_n dX8_elementHere_75 rfl rfl (by first | decide | omega) ?_
          refine w_getIx (o := 45) (f := 45) (x := σ 0 3) fX8_elementHere_76 rfl rfl (Nat.le_of_ble_eq_true rfl) rfl ((congrFun (hF13.at (by omega) (by omega)) _).trans ((congrFun (hF11.at (by omega) (by omega)) _).trans ((hf_2 _ (by omega)).trans hP.un))) ?_
          refine w_callSP (as := [(0, σ 0 2), (0, σ 0 3)]) (rest := []) (k := 0) fX8_elementHere_79 rfl rfl rfl rfl rfl (Nat.le_of_ble_eq_true rfl) (s_X8_measureOf X (σ 0 2) (σ 0 3) μ_13 (by omega) (by exact hok.1.2.2.2.1)) ?_
          refine Wp.topE (b := mlS σ) hml.1 ?_
          refine w_istore_n (ls' := [(2, 45), (0, so), (0, kdo (μ 45 40)), (0, mlS σ)]) dX8_elementHere_82 rfl (Nat.le_of_ble_eq_true rfl) rfl rfl ?_
          refine w_aload_n dX8_elementHere_83 rfl rfl (by first | decide | omega) ?_
          refine w_aload_n dX8_elementHere_84 rfl rfl (by first | decide | omega) ?_
          refine w_getIx (o := 45) (f := 43) (x := 1) fX8_elementHere_85 rfl rfl (Nat.le_of_ble_eq_true rfl) rfl ((congrFun (hF13.at (by omega) (by omega)) _).trans ((congrFun (hF11.at (by omega) (by omega)) _).trans hb_2)) ?_
          refine w_if_ne (tgt := 106) dX8_elementHere_88 rfl (R32.in (by decide)) (fun c88 => ?_) (fun c88 => ?_)
          · skip
            refine w_iconst dX8_elementHere_106 ?_
            refine w_goto (tgt := 111) dX8_elementHere_107 rfl ?_
            refine w_iconst dX8_elementHere_111 ?_
            refine w_callVV (o := 45) (ci := 8) (as := [(0, 1), (0, 5)]) (rest := []) (k := 0) fX8_elementHere_112 rfl rfl rfl rfl rfl rfl rfl rfl (Nat.le_of_ble_eq_true rfl) (s_X8_must_t X 1 5 μ_13 (Or.inr ((congrFun (hF13.at (by omega) (by omega)) _).trans ((congrFun (hF11.at (by omega) (by omega)) _).trans hb_2))) rfl) (fun μ_15 hμ15 => ?_)
            have hF15 := hμ15
            refine w_aload_n dX8_elementHere_115 rfl rfl (by first | decide | omega) ?_
            refine w_getIx (o := 45) (f := 43) (x := 1) fX8_elementHere_116 rfl rfl (Nat.le_of_ble_eq_true rfl) rfl ((congrFun (hF15.at (by omega) (by omega)) _).trans ((congrFun (hF13.at (by omega) (by omega)) _).trans ((congrFun (hF11.at (by omega) (by omega)) _).trans hb_2))) ?_
            refine w_if_eq (tgt := 123) dX8_elementHere_119 rfl (R32.in (by decide)) (fun c119 => ?_) (fun c119 => ?_)
            · skip
              exact absurd c119 (by decide)
            · skip
              have hP9 : tkL b n (ln0 b n σ w (sk b n a) e) μ μ_15 := tkL_no (ln0_4 hn1 hn3 ⟨by omega, by omega⟩) (by omega) (((congrFun (hF15.at (by omega) (by omega)) _).trans ((congrFun (hF13.at (by omega) (by omega)) _).trans ((congrFun (hF11.at (by omega) (by omega)) _).trans hb_2))).trans (by rfl)) (((congrFun (hF15.at (by omega) (by omega)) _).trans ((congrFun (hF13.at (by omega) (by omega)) _).trans ((congrFun (hF11.at (by omega) (by omega)) _).trans h1_2))).trans (by rfl)) (((congrFun (hF15.at (by omega) (by omega)) _).trans ((congrFun (hF13.at (by omega) (by omega)) _).trans ((congrFun (hF11.at (by omega) (by omega)) _).trans (h2_2.trans rfl)))).trans (by exact hK.1))
              exact w_retV dX8_elementHere_122 rfl ⟨((hF15.wd (by omega) (by omega)).tr ((hF13.wd (by omega) (by omega)).tr ((hF11.wd (by omega) (by omega)).tr (hF2.wd (by omega) (by omega))))), (by exact hP9), (fun k h1 => ((congrFun (hF15.at (by omega) (by omega)) _).trans ((congrFun (hF13.at (by omega) (by omega)) _).trans ((congrFun (hF11.at (by omega) (by omega)) _).trans (hf_2 k (by omega)))))), (RTc.cg2 hR (fun o h1 => ((hF15.at (by omega) (by omega)).trans ((hF13.at (by omega) (by omega)).trans ((hF11.at (by omega) (by omega)).trans (hF2.at (by omega) (by omega)))))) (fun k h1 => ((congrFun (hF15.at (by omega) (by omega)) _).trans ((congrFun (hF13.at (by omega) (by omega)) _).trans ((congrFun (hF11.at (by omega) (by omega)) _).trans (hf_2 _ (by omega))))))), (by rw [(((congrFun (hF15.at (by omega) (by omega)) _).trans ((congrFun (hF13.at (by omega) (by omega)) _).trans ((congrFun (hF11.at (by omega) (by omega)) _).trans (hf_2 _ (by omega))))).trans (by rfl)), (((congrFun (hF15.at (by omega) (by omega)) _).trans ((congrFun (hF13.at (by omega) (by omega)) _).trans ((congrFun (hF11.at (by omega) (by omega)) _).trans (hf_2 _ (by omega))))).trans (by rfl))]; omega)⟩
          · skip
            exact absurd c88 (by decide)
        · skip
          refine w_iconst dX8_elementHere_62 ?_
          refine w_goto (tgt := 67) dX8_elementHere_63 rfl ?_
          refine w_iconst dX8_elementHere_67 ?_
          refine w_callVV (o := 45) (ci := 8) (as := [(0, 1), (0, 2)]) (rest := []) (k := 0) fX8_elementHere_68 rfl rfl rfl rfl rfl rfl rfl rfl (Nat.le_of_ble_eq_true rfl) (s_X8_must_t X 1 2 μ_11 (Or.inr ((congrFun (hF11.at (by omega) (by omega)) _).trans hb_2)) rfl) (fun μ_16 hμ16 => ?_)
          have hF16 := hμ16
          refine w_aload_n dX8_elementHere_71 rfl rfl (by first | decide | omega) ?_
          refine w_getIx (o := 45) (f := 44) (x := σ 0 2) fX8_elementHere_72 rfl rfl (Nat.le_of_ble_eq_true rfl) rfl ((congrFun (hF16.at (by omega) (by omega)) _).trans ((congrFun (hF11.at (by omega) (by omega)) _).trans ((hf_2 _ (by omega)).trans hP.bt))) ?_
          have hr17 := hP.ok.1.2.2.1
          refine w_aload_n dX8_elementHere_75 rfl rfl (by first | decide | omega) ?_
          refine w_getIx (o := 45) (f := 45) (x := σ 0 3) fX8_elementHere_76 rfl rfl (Nat.le_of_ble_eq_true rfl) rfl ((congrFun (hF16.at (by omega) (by omega)) _).trans ((congrFun (hF11.at (by omega) (by omega)) _).trans ((hf_2 _ (by omega)).trans hP.un))) ?_
          refine w_callSP (as := [(0, σ 0 2), (0, σ 0 3)]) (rest := []) (k := 0) fX8_elementHere_79 rfl rfl rfl rfl rfl (Nat.le_of_ble_eq_true rfl) (s_X8_measureOf X (σ 0 2) (σ 0 3) μ_16 (by omega) (by exact hok.1.2.2.2.1)) ?_
          refine Wp.topE (b := mlS σ) hml.1 ?_
          refine w_istore_n (ls' := [(2, 45), (0, so), (0, kdo (μ 45 40)), (0, mlS σ)]) dX8_elementHere_82 rfl (Nat.le_of_ble_eq_true rfl) rfl rfl ?_
          refine w_aload_n dX8_elementHere_83 rfl rfl (by first | decide | omega) ?_
          refine w_aload_n dX8_elementHere_84 rfl rfl (by first | decide | omega) ?_
          refine w_getIx (o := 45) (f := 43) (x := 1) fX8_elementHere_85 rfl rfl (Nat.le_of_ble_eq_true rfl) rfl ((congrFun (hF16.at (by omega) (by omega)) _).trans ((congrFun (hF11.at (by omega) (by omega)) _).trans hb_2)) ?_
          refine w_if_ne (tgt := 106) dX8_elementHere_88 rfl (R32.in (by decide)) (fun c88 => ?_) (fun c88 => ?_)
          · skip
            refine w_iconst dX8_elementHere_106 ?_
            refine w_goto (tgt := 111) dX8_elementHere_107 rfl ?_
            refine w_iconst dX8_elementHere_111 ?_
            refine w_callVV (o := 45) (ci := 8) (as := [(0, 1), (0, 5)]) (rest := []) (k := 0) fX8_elementHere_112 rfl rfl rfl rfl rfl rfl rfl rfl (Nat.le_of_ble_eq_true rfl) (s_X8_must_t X 1 5 μ_16 (Or.inr ((congrFun (hF16.at (by omega) (by omega)) _).trans ((congrFun (hF11.at (by omega) (by omega)) _).trans hb_2))) rfl) (fun μ_18 hμ18 => ?_)
            have hF18 := hμ18
            refine w_aload_n dX8_elementHere_115 rfl rfl (by first | decide | omega) ?_
            refine w_getIx (o := 45) (f := 43) (x := 1) fX8_elementHere_116 rfl rfl (Nat.le_of_ble_eq_true rfl) rfl ((congrFun (hF18.at (by omega) (by omega)) _).trans ((congrFun (hF16.at (by omega) (by omega)) _).trans ((congrFun (hF11.at (by omega) (by omega)) _).trans hb_2))) ?_
            refine w_if_eq (tgt := 123) dX8_elementHere_119 rfl (R32.in (by decide)) (fun c119 => ?_) (fun c119 => ?_)
            · skip
              exact absurd c119 (by decide)
            · skip
              have hP9 : tkL b n (ln0 b n σ w (sk b n a) e) μ μ_18 := tkL_no (ln0_4 hn1 hn3 ⟨by omega, by omega⟩) (by omega) (((congrFun (hF18.at (by omega) (by omega)) _).trans ((congrFun (hF16.at (by omega) (by omega)) _).trans ((congrFun (hF11.at (by omega) (by omega)) _).trans hb_2))).trans (by rfl)) (((congrFun (hF18.at (by omega) (by omega)) _).trans ((congrFun (hF16.at (by omega) (by omega)) _).trans ((congrFun (hF11.at (by omega) (by omega)) _).trans h1_2))).trans (by rfl)) (((congrFun (hF18.at (by omega) (by omega)) _).trans ((congrFun (hF16.at (by omega) (by omega)) _).trans ((congrFun (hF11.at (by omega) (by omega)) _).trans (h2_2.trans rfl)))).trans (by exact hK.1))
              exact w_retV dX8_elementHere_122 rfl ⟨((hF18.wd (by omega) (by omega)).tr ((hF16.wd (by omega) (by omega)).tr ((hF11.wd (by omega) (by omega)).tr (hF2.wd (by omega) (by omega))))), (by exact hP9), (fun k h1 => ((congrFun (hF18.at (by omega) (by omega)) _).trans ((congrFun (hF16.at (by omega) (by omega)) _).trans ((congrFun (hF11.at (by omega) (by omega)) _).trans (hf_2 k (by omega)))))), (RTc.cg2 hR (fun o h1 => ((hF18.at (by omega) (by omega)).trans ((hF16.at (by omega) (by omega)).trans ((hF11.at (by omega) (by omega)).trans (hF2.at (by omega) (by omega)))))) (fun k h1 => ((congrFun (hF18.at (by omega) (by omega)) _).trans ((congrFun (hF16.at (by omega) (by omega)) _).trans ((congrFun (hF11.at (by omega) (by omega)) _).trans (hf_2 _ (by omega))))))), (by rw [(((congrFun (hF18.at (by omega) (by omega)) _).trans ((congrFun (hF16.at (by omega) (by omega)) _).trans ((congrFun (hF11.at (by omega) (by omega)) _).trans (hf_2 _ (by omega))))).trans (by rfl)), (((congrFun (hF18.at (by omega) (by omega)) _).trans ((congrFun (hF16.at (by omega) (by omega)) _).trans ((congrFun (hF11.at (by omega) (by omega)) _).trans (hf_2 _ (by omega))))).trans (by rfl))]; omega)⟩
          · skip
            exact absurd c88 (by decide)
    · skip
      exact absurd c23 (by decide)
  · skip
    have hl9 : ln0 b n σ w (sk b n a) e = lEle b n σ so e := by rcases hw with ⟨e1, e2⟩ | ⟨e1, e2⟩ <;> rw [ln0_b hn1 hn3 (by omega), lBod_e (by omega)] <;> exact congrArg (fun z => lEle b n σ z e) (by first | (rw [if_pos e2]; exact e1.symm) | (rw [if_neg (by omega)]; exact e1.symm))
    refine w_iconst dX8_elementHere_10 ?_
    refine w_goto (tgt := 15) dX8_elementHere_11 rfl ?_
    refine w_iconst dX8_elementHere_15 ?_
    refine w_callVV (o := 45) (ci := 8) (as := [(0, 1), (0, 4)]) (rest := []) (k := 0) fX8_elementHere_16 rfl rfl rfl rfl rfl rfl rfl rfl (Nat.le_of_ble_eq_true rfl) (s_X8_must_t X 1 4 μ (Or.inl hb) rfl) (fun μ_19 hμ19 => ?_)
    have hF19 := hμ19
    refine w_aload_n dX8_elementHere_19 rfl rfl (by first | decide | omega) ?_
    refine w_getIx (o := 45) (f := 43) (x := 0) fX8_elementHere_20 rfl rfl (Nat.le_of_ble_eq_true rfl) rfl ((congrFun (hF19.at (by omega) (by omega)) _).trans hb) ?_
    refine w_if_ne (tgt := 30) dX8_elementHere_23 rfl (R32.in (by decide)) (fun c23 => ?_) (fun c23 => ?_)
    · skip
      exact absurd c23 (by decide)
    · skip
      have h37c : μ_19 45 37 = e := ((congrFun (hF19.at (by omega) (by omega)) _).trans (by exact he))
      have hatc : 0 ≤ μ_19 45 37 ∧ μ_19 45 37 ≤ n := by rw [h37c]; exact hae
      refine w_aload_n dX8_elementHere_26 rfl rfl (by first | decide | omega) ?_
      refine w_callVV (o := 45) (ci := 8) (as := []) (rest := []) (k := 1) fX8_elementHere_27 rfl rfl rfl rfl rfl rfl rfl rfl (Nat.le_of_ble_eq_true rfl) (s_X8_advance X b n μ_19 (RTc.cg2 hR (fun o h1 => (hF19.at (by omega) (by omega))) (fun k h1 => (congrFun (hF19.at (by omega) (by omega)) _))) hatc) (fun μV hμV => ?_)
      obtain ⟨hFV, htk_V, hf_V, hR_V, hat_V⟩ := hμV
      rw [h37c] at htk_V
      have hrV := htk_V.r
      have hvV := htk_V.v hbb hae
      have hatV := htk_V.at hae
      refine w_aload_n dX8_elementHere_30 rfl rfl (by first | decide | omega) ?_
      refine w_aload_n dX8_elementHere_31 rfl rfl (by first | decide | omega) ?_
      refine w_getIx (o := 45) (f := 39) (x := μV 45 39) fX8_elementHere_32 rfl rfl (Nat.le_of_ble_eq_true rfl) rfl rfl ?_
      refine w_iconst dX8_elementHere_35 ?_
      refine w_icmp_ne (tgt := 43) dX8_elementHere_36 rfl (R32.in (by omega)) (R32.in (by decide)) (fun c36 => ?_) (fun c36 => ?_)
      · skip
        have hM2 := htk_V.n2 c36
        refine w_iconst dX8_elementHere_43 ?_
        refine w_iconst dX8_elementHere_44 ?_
        refine w_callVV (o := 45) (ci := 8) (as := [(0, 0), (0, 1)]) (rest := []) (k := 0) fX8_elementHere_45 rfl rfl rfl rfl rfl rfl rfl rfl (Nat.le_of_ble_eq_true rfl) (s_X8_must_f X 0 1 μV ((hf_V _ (by omega)).trans ((congrFun (hF19.at (by omega) (by omega)) _).trans hb)) rfl) (fun μ_21 hμ21 => ?_)
        obtain ⟨hF21, hb_21, h1_21, h2_21, hf_21⟩ := hμ21
        refine w_aload_n dX8_elementHere_48 rfl rfl (by first | decide | omega) ?_
        refine w_getIx (o := 45) (f := 40) (x := μV 45 40) fX8_elementHere_49 rfl rfl (Nat.le_of_ble_eq_true rfl) rfl (hf_21 _ (by omega)) ?_
        refine w_callSP (as := [(0, μV 45 40)]) (rest := []) (k := 0) fX8_elementHere_52 rfl rfl rfl rfl rfl (Nat.le_of_ble_eq_true rfl) (s_X8_kindOf X (μV 45 40) μ_21 (by first | omega | assumption)) ?_
        have hf22 := kdo_r (μV 45 40)
        refine w_istore_n (ls' := [(2, 45), (0, so), (0, kdo (μV 45 40)), (9, 0)]) dX8_elementHere_55 rfl (Nat.le_of_ble_eq_true rfl) rfl rfl ?_
        refine w_aload_n dX8_elementHere_56 rfl rfl (by first | decide | omega) ?_
        refine w_iload_n dX8_elementHere_57 rfl rfl ?_
        refine w_iconst dX8_elementHere_58 ?_
        refine w_icmp_eq (tgt := 66) dX8_elementHere_59 rfl (R32.in (by omega)) (R32.in (by decide)) (fun c59 => ?_) (fun c59 => ?_)
        · skip
          refine w_iconst dX8_elementHere_66 ?_
          refine w_iconst dX8_elementHere_67 ?_
          refine w_callVV (o := 45) (ci := 8) (as := [(0, 0), (0, 2)]) (rest := []) (k := 0) fX8_elementHere_68 rfl rfl rfl rfl rfl rfl rfl rfl (Nat.le_of_ble_eq_true rfl) (s_X8_must_b X 0 2 μ_21 hb_21) (fun μ_23 hμ23 => ?_)
          have hF23 := hμ23
          refine w_aload_n dX8_elementHere_71 rfl rfl (by first | decide | omega) ?_
          refine w_getIx (o := 45) (f := 44) (x := σ 0 2) fX8_elementHere_72 rfl rfl (Nat.le_of_ble_eq_true rfl) rfl ((congrFun (hF23.at (by omega) (by omega)) _).trans ((hf_21 _ (by omega)).trans ((hf_V _ (by omega)).trans ((congrFun (hF19.at (by omega) (by omega)) _).trans hP.bt)))) ?_
          have hr24 := hP.ok.1.2.2.1
          refine w_aload_n dX8_elementHere_75 rfl rfl (by first | decide | omega) ?_
          refine w_getIx (o := 45) (f := 45) (x := σ 0 3) fX8_elementHere_76 rfl rfl (Nat.le_of_ble_eq_true rfl) rfl ((congrFun (hF23.at (by omega) (by omega)) _).trans ((hf_21 _ (by omega)).trans ((hf_V _ (by omega)).trans ((congrFun (hF19.at (by omega) (by omega)) _).trans hP.un)))) ?_
          refine w_callSP (as := [(0, σ 0 2), (0, σ 0 3)]) (rest := []) (k := 0) fX8_elementHere_79 rfl rfl rfl rfl rfl (Nat.le_of_ble_eq_true rfl) (s_X8_measureOf X (σ 0 2) (σ 0 3) μ_23 (by omega) (by exact hok.1.2.2.2.1)) ?_
          refine Wp.topE (b := mlS σ) hml.1 ?_
          refine w_istore_n (ls' := [(2, 45), (0, so), (0, kdo (μV 45 40)), (0, mlS σ)]) dX8_elementHere_82 rfl (Nat.le_of_ble_eq_true rfl) rfl rfl ?_
          refine w_aload_n dX8_elementHere_83 rfl rfl (by first | decide | omega) ?_
          refine w_aload_n dX8_elementHere_84 rfl rfl (by first | decide | omega) ?_
          refine w_getIx (o := 45) (f := 43) (x := 1) fX8_elementHere_85 rfl rfl (Nat.le_of_ble_eq_true rfl) rfl ((congrFun (hF23.at (by omega) (by omega)) _).trans hb_21) ?_
          refine w_if_ne (tgt := 106) dX8_elementHere_88 rfl (R32.in (by decide)) (fun c88 => ?_) (fun c88 => ?_)
          · skip
            refine w_iconst dX8_elementHere_106 ?_
            refine w_goto (tgt := 111) dX8_elementHere_107 rfl ?_
            refine w_iconst dX8_elementHere_111 ?_
            refine w_callVV (o := 45) (ci := 8) (as := [(0, 1), (0, 5)]) (rest := []) (k := 0) fX8_elementHere_112 rfl rfl rfl rfl rfl rfl rfl rfl (Nat.le_of_ble_eq_true rfl) (s_X8_must_t X 1 5 μ_23 (Or.inr ((congrFun (hF23.at (by omega) (by omega)) _).trans hb_21)) rfl) (fun μ_25 hμ25 => ?_)
            have hF25 := hμ25
            refine w_aload_n dX8_elementHere_115 rfl rfl (by first | decide | omega) ?_
            refine w_getIx (o := 45) (f := 43) (x := 1) fX8_elementHere_116 rfl rfl (Nat.le_of_ble_eq_true rfl) rfl ((congrFun (hF25.at (by omega) (by omega)) _).trans ((congrFun (hF23.at (by omega) (by omega)) _).trans hb_21)) ?_
            refine w_if_eq (tgt := 123) dX8_elementHere_119 rfl (R32.in (by decide)) (fun c119 => ?_) (fun c119 => ?_)
            · skip
              exact absurd c119 (by decide)
            · skip
              have hP9 : tkL b n (ln0 b n σ w (sk b n a) e) μ μ_25 := tkL_no (by rw [hl9]; unfold lEle; rw [nK_1 hM2]; exact if_pos (show ¬ (1 : Int) = 0 by decide)) (by omega) (((congrFun (hF25.at (by omega) (by omega)) _).trans ((congrFun (hF23.at (by omega) (by omega)) _).trans hb_21)).trans (by rfl)) (((congrFun (hF25.at (by omega) (by omega)) _).trans ((congrFun (hF23.at (by omega) (by omega)) _).trans h1_21)).trans (by rfl)) (((congrFun (hF25.at (by omega) (by omega)) _).trans ((congrFun (hF23.at (by omega) (by omega)) _).trans (h2_21.trans rfl))).trans (by exact htk_V.1))
              exact w_retV dX8_elementHere_122 rfl ⟨((hF25.wd (by omega) (by omega)).tr ((hF23.wd (by omega) (by omega)).tr ((hF21.wd (by omega) (by omega)).tr ((hFV.wd (by omega) (by omega)).tr (hF19.wd (by omega) (by omega)))))), (by exact hP9), (fun k h1 => ((congrFun (hF25.at (by omega) (by omega)) _).trans ((congrFun (hF23.at (by omega) (by omega)) _).trans ((hf_21 k (by omega)).trans ((hf_V k (by omega)).trans (congrFun (hF19.at (by omega) (by omega)) _)))))), (RTc.cg2 hR_V (fun o h1 => ((hF25.at (by omega) (by omega)).trans ((hF23.at (by omega) (by omega)).trans (hF21.at (by omega) (by omega))))) (fun k h1 => ((congrFun (hF25.at (by omega) (by omega)) _).trans ((congrFun (hF23.at (by omega) (by omega)) _).trans (hf_21 _ (by omega)))))), (by rw [(((congrFun (hF25.at (by omega) (by omega)) _).trans ((congrFun (hF23.at (by omega) (by omega)) _).trans (hf_21 _ (by omega)))).trans (by rfl)), (((congrFun (hF25.at (by omega) (by omega)) _).trans ((congrFun (hF23.at (by omega) (by omega)) _).trans (hf_21 _ (by omega)))).trans (by rfl))]; omega)⟩
          · skip
            exact absurd c88 (by decide)
        · skip
          refine w_iconst dX8_elementHere_62 ?_
          refine w_goto (tgt := 67) dX8_elementHere_63 rfl ?_
          refine w_iconst dX8_elementHere_67 ?_
          refine w_callVV (o := 45) (ci := 8) (as := [(0, 1), (0, 2)]) (rest := []) (k := 0) fX8_elementHere_68 rfl rfl rfl rfl rfl rfl rfl rfl (Nat.le_of_ble_eq_true rfl) (s_X8_must_t X 1 2 μ_21 (Or.inr hb_21) rfl) (fun μ_26 hμ26 => ?_)
          have hF26 := hμ26
          refine w_aload_n dX8_elementHere_71 rfl rfl (by first | decide | omega) ?_
          refine w_getIx (o := 45) (f := 44) (x := σ 0 2) fX8_elementHere_72 rfl rfl (Nat.le_of_ble_eq_true rfl) rfl ((congrFun (hF26.at (by omega) (by omega)) _).trans ((hf_21 _ (by omega)).trans ((hf_V _ (by omega)).trans ((congrFun (hF19.at (by omega) (by omega)) _).trans hP.bt)))) ?_
          have hr27 := hP.ok.1.2.2.1
          refine w_aload_n dX8_elementHere_75 rfl rfl (by first | decide | omega) ?_
          refine w_getIx (o := 45) (f := 45) (x := σ 0 3) fX8_elementHere_76 rfl rfl (Nat.le_of_ble_eq_true rfl) rfl ((congrFun (hF26.at (by omega) (by omega)) _).trans ((hf_21 _ (by omega)).trans ((hf_V _ (by omega)).trans ((congrFun (hF19.at (by omega) (by omega)) _).trans hP.un)))) ?_
          refine w_callSP (as := [(0, σ 0 2), (0, σ 0 3)]) (rest := []) (k := 0) fX8_elementHere_79 rfl rfl rfl rfl rfl (Nat.le_of_ble_eq_true rfl) (s_X8_measureOf X (σ 0 2) (σ 0 3) μ_26 (by omega) (by exact hok.1.2.2.2.1)) ?_
          refine Wp.topE (b := mlS σ) hml.1 ?_
          refine w_istore_n (ls' := [(2, 45), (0, so), (0, kdo (μV 45 40)), (0, mlS σ)]) dX8_elementHere_82 rfl (Nat.le_of_ble_eq_true rfl) rfl rfl ?_
          refine w_aload_n dX8_elementHere_83 rfl rfl (by first | decide | omega) ?_
          refine w_aload_n dX8_elementHere_84 rfl rfl (by first | decide | omega) ?_
          refine w_getIx (o := 45) (f := 43) (x := 1) fX8_elementHere_85 rfl rfl (Nat.le_of_ble_eq_true rfl) rfl ((congrFun (hF26.at (by omega) (by omega)) _).trans hb_21) ?_
          refine w_if_ne (tgt := 106) dX8_elementHere_88 rfl (R32.in (by decide)) (fun c88 => ?_) (fun c88 => ?_)
          · skip
            refine w_iconst dX8_elementHere_106 ?_
            refine w_goto (tgt := 111) dX8_elementHere_107 rfl ?_
            refine w_iconst dX8_elementHere_111 ?_
            refine w_callVV (o := 45) (ci := 8) (as := [(0, 1), (0, 5)]) (rest := []) (k := 0) fX8_elementHere_112 rfl rfl rfl rfl rfl rfl rfl rfl (Nat.le_of_ble_eq_true rfl) (s_X8_must_t X 1 5 μ_26 (Or.inr ((congrFun (hF26.at (by omega) (by omega)) _).trans hb_21)) rfl) (fun μ_28 hμ28 => ?_)
            have hF28 := hμ28
            refine w_aload_n dX8_elementHere_115 rfl rfl (by first | decide | omega) ?_
            refine w_getIx (o := 45) (f := 43) (x := 1) fX8_elementHere_116 rfl rfl (Nat.le_of_ble_eq_true rfl) rfl ((congrFun (hF28.at (by omega) (by omega)) _).trans ((congrFun (hF26.at (by omega) (by omega)) _).trans hb_21)) ?_
            refine w_if_eq (tgt := 123) dX8_elementHere_119 rfl (R32.in (by decide)) (fun c119 => ?_) (fun c119 => ?_)
            · skip
              exact absurd c119 (by decide)
            · skip
              have hP9 : tkL b n (ln0 b n σ w (sk b n a) e) μ μ_28 := tkL_no (by rw [hl9]; unfold lEle; rw [nK_1 hM2]; exact if_pos (show ¬ (1 : Int) = 0 by decide)) (by omega) (((congrFun (hF28.at (by omega) (by omega)) _).trans ((congrFun (hF26.at (by omega) (by omega)) _).trans hb_21)).trans (by rfl)) (((congrFun (hF28.at (by omega) (by omega)) _).trans ((congrFun (hF26.at (by omega) (by omega)) _).trans h1_21)).trans (by rfl)) (((congrFun (hF28.at (by omega) (by omega)) _).trans ((congrFun (hF26.at (by omega) (by omega)) _).trans (h2_21.trans rfl))).trans (by exact htk_V.1))
              exact w_retV dX8_elementHere_122 rfl ⟨((hF28.wd (by omega) (by omega)).tr ((hF26.wd (by omega) (by omega)).tr ((hF21.wd (by omega) (by omega)).tr ((hFV.wd (by omega) (by omega)).tr (hF19.wd (by omega) (by omega)))))), (by exact hP9), (fun k h1 => ((congrFun (hF28.at (by omega) (by omega)) _).trans ((congrFun (hF26.at (by omega) (by omega)) _).trans ((hf_21 k (by omega)).trans ((hf_V k (by omega)).trans (congrFun (hF19.at (by omega) (by omega)) _)))))), (RTc.cg2 hR_V (fun o h1 => ((hF28.at (by omega) (by omega)).trans ((hF26.at (by omega) (by omega)).trans (hF21.at (by omega) (by omega))))) (fun k h1 => ((congrFun (hF28.at (by omega) (by omega)) _).trans ((congrFun (hF26.at (by omega) (by omega)) _).trans (hf_21 _ (by omega)))))), (by rw [(((congrFun (hF28.at (by omega) (by omega)) _).trans ((congrFun (hF26.at (by omega) (by omega)) _).trans (hf_21 _ (by omega)))).trans (by rfl)), (((congrFun (hF28.at (by omega) (by omega)) _).trans ((congrFun (hF26.at (by omega) (by omega)) _).trans (hf_21 _ (by omega)))).trans (by rfl))]; omega)⟩
          · skip
            exact absurd c88 (by decide)
      · skip
        have hM := htk_V.t2 c36 hae
        have hskM := sk_r b n e hae.2
        have hdeM := de_r b n (sk b n e) hskM.2
        refine w_iconst dX8_elementHere_39 ?_
        refine w_goto (tgt := 44) dX8_elementHere_40 rfl ?_
        refine w_iconst dX8_elementHere_44 ?_
        refine w_callVV (o := 45) (ci := 8) (as := [(0, 1), (0, 1)]) (rest := []) (k := 0) fX8_elementHere_45 rfl rfl rfl rfl rfl rfl rfl rfl (Nat.le_of_ble_eq_true rfl) (s_X8_must_t X 1 1 μV (Or.inl ((hf_V _ (by omega)).trans ((congrFun (hF19.at (by omega) (by omega)) _).trans hb))) rfl) (fun μ_29 hμ29 => ?_)
        have hF29 := hμ29
        refine w_aload_n dX8_elementHere_48 rfl rfl (by first | decide | omega) ?_
        refine w_getIx (o := 45) (f := 40) (x := μV 45 40) fX8_elementHere_49 rfl rfl (Nat.le_of_ble_eq_true rfl) rfl (congrFun (hF29.at (by omega) (by omega)) _) ?_
        refine w_callSP (as := [(0, μV 45 40)]) (rest := []) (k := 0) fX8_elementHere_52 rfl rfl rfl rfl rfl (Nat.le_of_ble_eq_true rfl) (s_X8_kindOf X (μV 45 40) μ_29 (by first | omega | assumption)) ?_
        have hf30 := kdo_r (μV 45 40)
        refine w_istore_n (ls' := [(2, 45), (0, so), (0, kdo (μV 45 40)), (9, 0)]) dX8_elementHere_55 rfl (Nat.le_of_ble_eq_true rfl) rfl rfl ?_
        refine w_aload_n dX8_elementHere_56 rfl rfl (by first | decide | omega) ?_
        refine w_iload_n dX8_elementHere_57 rfl rfl ?_
        refine w_iconst dX8_elementHere_58 ?_
        refine w_icmp_eq (tgt := 66) dX8_elementHere_59 rfl (R32.in (by omega)) (R32.in (by decide)) (fun c59 => ?_) (fun c59 => ?_)
        · skip
          have hk2 := nK_2 hM.1 (by have := hM.2.2; have := kdo_m c59; omega)
          refine w_iconst dX8_elementHere_66 ?_
          refine w_iconst dX8_elementHere_67 ?_
          refine w_callVV (o := 45) (ci := 8) (as := [(0, 0), (0, 2)]) (rest := []) (k := 0) fX8_elementHere_68 rfl rfl rfl rfl rfl rfl rfl rfl (Nat.le_of_ble_eq_true rfl) (s_X8_must_f X 0 2 μ_29 ((congrFun (hF29.at (by omega) (by omega)) _).trans ((hf_V _ (by omega)).trans ((congrFun (hF19.at (by omega) (by omega)) _).trans hb))) rfl) (fun μ_31 hμ31 => ?_)
          obtain ⟨hF31, hb_31, h1_31, h2_31, hf_31⟩ := hμ31
          refine w_aload_n dX8_elementHere_71 rfl rfl (by first | decide | omega) ?_
          refine w_getIx (o := 45) (f := 44) (x := σ 0 2) fX8_elementHere_72 rfl rfl (Nat.le_of_ble_eq_true rfl) rfl ((hf_31 _ (by omega)).trans ((congrFun (hF29.at (by omega) (by omega)) _).trans ((hf_V _ (by omega)).trans ((congrFun (hF19.at (by omega) (by omega)) _).trans hP.bt)))) ?_
          have hr32 := hP.ok.1.2.2.1
          refine w_aload_n dX8_elementHere_75 rfl rfl (by first | decide | omega) ?_
          refine w_getIx (o := 45) (f := 45) (x := σ 0 3) fX8_elementHere_76 rfl rfl (Nat.le_of_ble_eq_true rfl) rfl ((hf_31 _ (by omega)).trans ((congrFun (hF29.at (by omega) (by omega)) _).trans ((hf_V _ (by omega)).trans ((congrFun (hF19.at (by omega) (by omega)) _).trans hP.un)))) ?_
          refine w_callSP (as := [(0, σ 0 2), (0, σ 0 3)]) (rest := []) (k := 0) fX8_elementHere_79 rfl rfl rfl rfl rfl (Nat.le_of_ble_eq_true rfl) (s_X8_measureOf X (σ 0 2) (σ 0 3) μ_31 (by omega) (by exact hok.1.2.2.2.1)) ?_
          refine Wp.topE (b := mlS σ) hml.1 ?_
          refine w_istore_n (ls' := [(2, 45), (0, so), (0, kdo (μV 45 40)), (0, mlS σ)]) dX8_elementHere_82 rfl (Nat.le_of_ble_eq_true rfl) rfl rfl ?_
          refine w_aload_n dX8_elementHere_83 rfl rfl (by first | decide | omega) ?_
          refine w_aload_n dX8_elementHere_84 rfl rfl (by first | decide | omega) ?_
          refine w_getIx (o := 45) (f := 43) (x := 1) fX8_elementHere_85 rfl rfl (Nat.le_of_ble_eq_true rfl) rfl hb_31 ?_
          refine w_if_ne (tgt := 106) dX8_elementHere_88 rfl (R32.in (by decide)) (fun c88 => ?_) (fun c88 => ?_)
          · skip
            refine w_iconst dX8_elementHere_106 ?_
            refine w_goto (tgt := 111) dX8_elementHere_107 rfl ?_
            refine w_iconst dX8_elementHere_111 ?_
            refine w_callVV (o := 45) (ci := 8) (as := [(0, 1), (0, 5)]) (rest := []) (k := 0) fX8_elementHere_112 rfl rfl rfl rfl rfl rfl rfl rfl (Nat.le_of_ble_eq_true rfl) (s_X8_must_t X 1 5 μ_31 (Or.inr hb_31) rfl) (fun μ_33 hμ33 => ?_)
            have hF33 := hμ33
            refine w_aload_n dX8_elementHere_115 rfl rfl (by first | decide | omega) ?_
            refine w_getIx (o := 45) (f := 43) (x := 1) fX8_elementHere_116 rfl rfl (Nat.le_of_ble_eq_true rfl) rfl ((congrFun (hF33.at (by omega) (by omega)) _).trans hb_31) ?_
            refine w_if_eq (tgt := 123) dX8_elementHere_119 rfl (R32.in (by decide)) (fun c119 => ?_) (fun c119 => ?_)
            · skip
              exact absurd c119 (by decide)
            · skip
              have hP9 : tkL b n (ln0 b n σ w (sk b n a) e) μ μ_33 := tkL_no (by rw [hl9]; unfold lEle; rw [hk2]; exact if_pos (show ¬ (2 : Int) = 0 by decide)) (by omega) (((congrFun (hF33.at (by omega) (by omega)) _).trans hb_31).trans (by rfl)) (((congrFun (hF33.at (by omega) (by omega)) _).trans h1_31).trans (by rfl)) (((congrFun (hF33.at (by omega) (by omega)) _).trans (h2_31.trans (congrFun (hF29.at (by omega) (by omega)) _))).trans (by exact htk_V.1))
              exact w_retV dX8_elementHere_122 rfl ⟨((hF33.wd (by omega) (by omega)).tr ((hF31.wd (by omega) (by omega)).tr ((hF29.wd (by omega) (by omega)).tr ((hFV.wd (by omega) (by omega)).tr (hF19.wd (by omega) (by omega)))))), (by exact hP9), (fun k h1 => ((congrFun (hF33.at (by omega) (by omega)) _).trans ((hf_31 k (by omega)).trans ((congrFun (hF29.at (by omega) (by omega)) _).trans ((hf_V k (by omega)).trans (congrFun (hF19.at (by omega) (by omega)) _)))))), (RTc.cg2 hR_V (fun o h1 => ((hF33.at (by omega) (by omega)).trans ((hF31.at (by omega) (by omega)).trans (hF29.at (by omega) (by omega))))) (fun k h1 => ((congrFun (hF33.at (by omega) (by omega)) _).trans ((hf_31 _ (by omega)).trans (congrFun (hF29.at (by omega) (by omega)) _))))), (by rw [(((congrFun (hF33.at (by omega) (by omega)) _).trans ((hf_31 _ (by omega)).trans (congrFun (hF29.at (by omega) (by omega)) _))).trans (by rfl)), (((congrFun (hF33.at (by omega) (by omega)) _).trans ((hf_31 _ (by omega)).trans (congrFun (hF29.at (by omega) (by omega)) _))).trans (by rfl))]; omega)⟩
          · skip
            exact absurd c88 (by decide)
        · skip
          have hkp := kdo_p c59
          have hvq : μV 45 40 = nval b n e := by have := hM.2.2; omega
          have hk4 : nval b n e = 4 ∨ nval b n e = 8 ∨ nval b n e = 16 ∨ nval b n e = 32 := by rw [← hvq]; exact hkp.1
          have hk0 := nK_0 hM.1 hk4
          have hlr := lok_r (μV 45 40)
          refine w_iconst dX8_elementHere_62 ?_
          refine w_goto (tgt := 67) dX8_elementHere_63 rfl ?_
          refine w_iconst dX8_elementHere_67 ?_
          refine w_callVV (o := 45) (ci := 8) (as := [(0, 1), (0, 2)]) (rest := []) (k := 0) fX8_elementHere_68 rfl rfl rfl rfl rfl rfl rfl rfl (Nat.le_of_ble_eq_true rfl) (s_X8_must_t X 1 2 μ_29 (Or.inl ((congrFun (hF29.at (by omega) (by omega)) _).trans ((hf_V _ (by omega)).trans ((congrFun (hF19.at (by omega) (by omega)) _).trans hb)))) rfl) (fun μ_34 hμ34 => ?_)
          have hF34 := hμ34
          refine w_aload_n dX8_elementHere_71 rfl rfl (by first | decide | omega) ?_
          refine w_getIx (o := 45) (f := 44) (x := σ 0 2) fX8_elementHere_72 rfl rfl (Nat.le_of_ble_eq_true rfl) rfl ((congrFun (hF34.at (by omega) (by omega)) _).trans ((congrFun (hF29.at (by omega) (by omega)) _).trans ((hf_V _ (by omega)).trans ((congrFun (hF19.at (by omega) (by omega)) _).trans hP.bt)))) ?_
          have hr35 := hP.ok.1.2.2.1
          refine w_aload_n dX8_elementHere_75 rfl rfl (by first | decide | omega) ?_
          refine w_getIx (o := 45) (f := 45) (x := σ 0 3) fX8_elementHere_76 rfl rfl (Nat.le_of_ble_eq_true rfl) rfl ((congrFun (hF34.at (by omega) (by omega)) _).trans ((congrFun (hF29.at (by omega) (by omega)) _).trans ((hf_V _ (by omega)).trans ((congrFun (hF19.at (by omega) (by omega)) _).trans hP.un)))) ?_
          refine w_callSP (as := [(0, σ 0 2), (0, σ 0 3)]) (rest := []) (k := 0) fX8_elementHere_79 rfl rfl rfl rfl rfl (Nat.le_of_ble_eq_true rfl) (s_X8_measureOf X (σ 0 2) (σ 0 3) μ_34 (by omega) (by exact hok.1.2.2.2.1)) ?_
          refine Wp.topE (b := mlS σ) hml.1 ?_
          refine w_istore_n (ls' := [(2, 45), (0, so), (0, kdo (μV 45 40)), (0, mlS σ)]) dX8_elementHere_82 rfl (Nat.le_of_ble_eq_true rfl) rfl rfl ?_
          refine w_aload_n dX8_elementHere_83 rfl rfl (by first | decide | omega) ?_
          refine w_aload_n dX8_elementHere_84 rfl rfl (by first | decide | omega) ?_
          refine w_getIx (o := 45) (f := 43) (x := 0) fX8_elementHere_85 rfl rfl (Nat.le_of_ble_eq_true rfl) rfl ((congrFun (hF34.at (by omega) (by omega)) _).trans ((congrFun (hF29.at (by omega) (by omega)) _).trans ((hf_V _ (by omega)).trans ((congrFun (hF19.at (by omega) (by omega)) _).trans hb)))) ?_
          refine w_if_ne (tgt := 106) dX8_elementHere_88 rfl (R32.in (by decide)) (fun c88 => ?_) (fun c88 => ?_)
          · skip
            exact absurd c88 (by decide)
          · skip
            refine w_aload_n dX8_elementHere_91 rfl rfl (by first | decide | omega) ?_
            refine w_getIx (o := 45) (f := 57) (x := tS σ) fX8_elementHere_92 rfl rfl (Nat.le_of_ble_eq_true rfl) rfl ((congrFun (hF34.at (by omega) (by omega)) _).trans ((congrFun (hF29.at (by omega) (by omega)) _).trans ((hf_V _ (by omega)).trans ((congrFun (hF19.at (by omega) (by omega)) _).trans hP.nt)))) ?_
            have hr36 := hP.ok.tx
            refine w_iload_n dX8_elementHere_95 rfl rfl ?_
            refine w_iremP dX8_elementHere_96 (by omega) ?_
            refine w_iload_n dX8_elementHere_97 rfl rfl ?_
            refine Wp.topE (b := bok (μV 45 40)) hkp.2 ?_
            refine w_callSP (as := [(0, bok (μV 45 40))]) (rest := [(0, (tS σ) % (mlS σ)), (2, 45)]) (k := 0) fX8_elementHere_98 rfl rfl rfl rfl rfl (Nat.le_of_ble_eq_true rfl) (s_X8_longOf X (μV 45 40) μ_34) ?_
            have hf37 := lok_r (μV 45 40)
            refine w_iadd dX8_elementHere_101 ?_
            refine w_iload_n dX8_elementHere_102 rfl rfl ?_
            refine w_icmp_gt (tgt := 110) dX8_elementHere_103 rfl (R32.in (by omega)) (R32.in (by omega)) (fun c103 => ?_) (fun c103 => ?_)
            · skip
              refine w_iconst dX8_elementHere_110 ?_
              refine w_iconst dX8_elementHere_111 ?_
              refine w_callVV (o := 45) (ci := 8) (as := [(0, 0), (0, 5)]) (rest := []) (k := 0) fX8_elementHere_112 rfl rfl rfl rfl rfl rfl rfl rfl (Nat.le_of_ble_eq_true rfl) (s_X8_must_f X 0 5 μ_34 ((congrFun (hF34.at (by omega) (by omega)) _).trans ((congrFun (hF29.at (by omega) (by omega)) _).trans ((hf_V _ (by omega)).trans ((congrFun (hF19.at (by omega) (by omega)) _).trans hb)))) rfl) (fun μ_38 hμ38 => ?_)
              obtain ⟨hF38, hb_38, h1_38, h2_38, hf_38⟩ := hμ38
              refine w_aload_n dX8_elementHere_115 rfl rfl (by first | decide | omega) ?_
              refine w_getIx (o := 45) (f := 43) (x := 1) fX8_elementHere_116 rfl rfl (Nat.le_of_ble_eq_true rfl) rfl hb_38 ?_
              refine w_if_eq (tgt := 123) dX8_elementHere_119 rfl (R32.in (by decide)) (fun c119 => ?_) (fun c119 => ?_)
              · skip
                exact absurd c119 (by decide)
              · skip
                have hP9 : tkL b n (ln0 b n σ w (sk b n a) e) μ μ_38 := tkL_no (by rw [hl9]; unfold lEle; rw [hk0]; dsimp only; exact (if_neg (show ¬ ¬ (0 : Int) = 0 by decide)).trans (if_pos (show ¬ tS σ % mlS σ + lok (nval b n e) ≤ mlS σ by rw [← hvq]; omega))) (by omega) (hb_38.trans (by rfl)) (h1_38.trans (by rfl)) ((h2_38.trans ((congrFun (hF34.at (by omega) (by omega)) _).trans (congrFun (hF29.at (by omega) (by omega)) _))).trans (by exact htk_V.1))
                exact w_retV dX8_elementHere_122 rfl ⟨((hF38.wd (by omega) (by omega)).tr ((hF34.wd (by omega) (by omega)).tr ((hF29.wd (by omega) (by omega)).tr ((hFV.wd (by omega) (by omega)).tr (hF19.wd (by omega) (by omega)))))), (by exact hP9), (fun k h1 => ((hf_38 k (by omega)).trans ((congrFun (hF34.at (by omega) (by omega)) _).trans ((congrFun (hF29.at (by omega) (by omega)) _).trans ((hf_V k (by omega)).trans (congrFun (hF19.at (by omega) (by omega)) _)))))), (RTc.cg2 hR_V (fun o h1 => ((hF38.at (by omega) (by omega)).trans ((hF34.at (by omega) (by omega)).trans (hF29.at (by omega) (by omega))))) (fun k h1 => ((hf_38 _ (by omega)).trans ((congrFun (hF34.at (by omega) (by omega)) _).trans (congrFun (hF29.at (by omega) (by omega)) _))))), (by rw [(((hf_38 _ (by omega)).trans ((congrFun (hF34.at (by omega) (by omega)) _).trans (congrFun (hF29.at (by omega) (by omega)) _))).trans (by rfl)), (((hf_38 _ (by omega)).trans ((congrFun (hF34.at (by omega) (by omega)) _).trans (congrFun (hF29.at (by omega) (by omega)) _))).trans (by rfl))]; omega)⟩
            · skip
              refine w_iconst dX8_elementHere_106 ?_
              refine w_goto (tgt := 111) dX8_elementHere_107 rfl ?_
              refine w_iconst dX8_elementHere_111 ?_
              refine w_callVV (o := 45) (ci := 8) (as := [(0, 1), (0, 5)]) (rest := []) (k := 0) fX8_elementHere_112 rfl rfl rfl rfl rfl rfl rfl rfl (Nat.le_of_ble_eq_true rfl) (s_X8_must_t X 1 5 μ_34 (Or.inl ((congrFun (hF34.at (by omega) (by omega)) _).trans ((congrFun (hF29.at (by omega) (by omega)) _).trans ((hf_V _ (by omega)).trans ((congrFun (hF19.at (by omega) (by omega)) _).trans hb))))) rfl) (fun μ_39 hμ39 => ?_)
              have hF39 := hμ39
              refine w_aload_n dX8_elementHere_115 rfl rfl (by first | decide | omega) ?_
              refine w_getIx (o := 45) (f := 43) (x := 0) fX8_elementHere_116 rfl rfl (Nat.le_of_ble_eq_true rfl) rfl ((congrFun (hF39.at (by omega) (by omega)) _).trans ((congrFun (hF34.at (by omega) (by omega)) _).trans ((congrFun (hF29.at (by omega) (by omega)) _).trans ((hf_V _ (by omega)).trans ((congrFun (hF19.at (by omega) (by omega)) _).trans hb))))) ?_
              refine w_if_eq (tgt := 123) dX8_elementHere_119 rfl (R32.in (by decide)) (fun c119 => ?_) (fun c119 => ?_)
              · skip
                have h37w : μ_39 45 37 = μV 45 37 := (((congrFun (hF39.at (by omega) (by omega)) _).trans ((congrFun (hF34.at (by omega) (by omega)) _).trans (congrFun (hF29.at (by omega) (by omega)) _))).trans (by rfl))
                have hatw : 0 ≤ μ_39 45 37 ∧ μ_39 45 37 ≤ n := by rw [h37w]; exact hatV
                refine w_aload_n dX8_elementHere_123 rfl rfl (by first | decide | omega) ?_
                refine w_callVV (o := 45) (ci := 8) (as := []) (rest := []) (k := 1) fX8_elementHere_124 rfl rfl rfl rfl rfl rfl rfl rfl (Nat.le_of_ble_eq_true rfl) (s_X8_advance X b n μ_39 (RTc.cg2 hR_V (fun o h1 => ((hF39.at (by omega) (by omega)).trans ((hF34.at (by omega) (by omega)).trans (hF29.at (by omega) (by omega))))) (fun k h1 => ((congrFun (hF39.at (by omega) (by omega)) _).trans ((congrFun (hF34.at (by omega) (by omega)) _).trans (congrFun (hF29.at (by omega) (by omega)) _))))) hatw) (fun μW hμW => ?_)
                obtain ⟨hFW, htk_W, hf_W, hR_W, hat_W⟩ := hμW
                rw [h37w, hM.2.1] at htk_W
                have hrW := htk_W.r
                have hvW := htk_W.v hbb (by omega)
                have h65W : μW 65 = μ 65 := ((hFW.at (by omega) (by omega)).trans ((hF39.at (by omega) (by omega)).trans ((hF34.at (by omega) (by omega)).trans ((hF29.at (by omega) (by omega)).trans ((hFV.at (by omega) (by omega)).trans (hF19.at (by omega) (by omega)))))))
                have h66W : μW 66 = μ 66 := ((hFW.at (by omega) (by omega)).trans ((hF39.at (by omega) (by omega)).trans ((hF34.at (by omega) (by omega)).trans ((hF29.at (by omega) (by omega)).trans ((hFV.at (by omega) (by omega)).trans (hF19.at (by omega) (by omega)))))))
                have h67W : μW 67 = μ 67 := ((hFW.at (by omega) (by omega)).trans ((hF39.at (by omega) (by omega)).trans ((hF34.at (by omega) (by omega)).trans ((hF29.at (by omega) (by omega)).trans ((hFV.at (by omega) (by omega)).trans (hF19.at (by omega) (by omega)))))))
                refine w_aload_n dX8_elementHere_127 rfl rfl (by first | decide | omega) ?_
                refine w_getR (o := 45) (x := 65) fX8_elementHere_128 rfl rfl rfl rfl ?_
                refine w_aload_n dX8_elementHere_131 rfl rfl (by first | decide | omega) ?_
                refine w_getIx (o := 45) (f := 50) (x := σ 0 0) fX8_elementHere_132 rfl rfl (Nat.le_of_ble_eq_true rfl) rfl ((hf_W _ (by omega)).trans ((congrFun (hF39.at (by omega) (by omega)) _).trans ((congrFun (hF34.at (by omega) (by omega)) _).trans ((congrFun (hF29.at (by omega) (by omega)) _).trans ((hf_V _ (by omega)).trans ((congrFun (hF19.at (by omega) (by omega)) _).trans hP.el)))))) ?_
                refine w_iload_n dX8_elementHere_135 rfl rfl ?_
                refine w_iast (o := 65) (n := 64) dX8_elementHere_136 rfl rfl (Nat.le_of_ble_eq_true rfl) (by omega) (by omega) ?_
                refine w_aload_n dX8_elementHere_137 rfl rfl (by first | decide | omega) ?_
                refine w_getR (o := 45) (x := 66) fX8_elementHere_138 rfl rfl rfl rfl ?_
                refine w_aload_n dX8_elementHere_141 rfl rfl (by first | decide | omega) ?_
                refine w_getIx (o := 45) (f := 50) (x := σ 0 0) fX8_elementHere_142 rfl rfl (Nat.le_of_ble_eq_true rfl) rfl ((congrFun (am_up_o (by first | decide | omega)) _).trans ((hf_W _ (by omega)).trans ((congrFun (hF39.at (by omega) (by omega)) _).trans ((congrFun (hF34.at (by omega) (by omega)) _).trans ((congrFun (hF29.at (by omega) (by omega)) _).trans ((hf_V _ (by omega)).trans ((congrFun (hF19.at (by omega) (by omega)) _).trans hP.el))))))) ?_
                refine w_iload_n dX8_elementHere_145 rfl rfl ?_
                refine w_zast (o := 66) (n := 64) dX8_elementHere_146 rfl rfl (Nat.le_of_ble_eq_true rfl) (by omega) (by omega) (by omega) ?_
                refine w_aload_n dX8_elementHere_147 rfl rfl (by first | decide | omega) ?_
                refine w_getR (o := 45) (x := 67) fX8_elementHere_148 rfl rfl rfl rfl ?_
                refine w_aload_n dX8_elementHere_151 rfl rfl (by first | decide | omega) ?_
                refine w_getIx (o := 45) (f := 50) (x := σ 0 0) fX8_elementHere_152 rfl rfl (Nat.le_of_ble_eq_true rfl) rfl ((congrFun (am_up_o (by first | decide | omega)) _).trans ((congrFun (am_up_o (by first | decide | omega)) _).trans ((hf_W _ (by omega)).trans ((congrFun (hF39.at (by omega) (by omega)) _).trans ((congrFun (hF34.at (by omega) (by omega)) _).trans ((congrFun (hF29.at (by omega) (by omega)) _).trans ((hf_V _ (by omega)).trans ((congrFun (hF19.at (by omega) (by omega)) _).trans hP.el)))))))) ?_
                refine w_iload_n dX8_elementHere_155 rfl rfl ?_
                refine w_if_eq (tgt := 166) dX8_elementHere_156 rfl (R32.in (by omega)) (fun c156 => ?_) (fun c156 => ?_)
                · skip
                  refine w_iconst dX8_elementHere_166 ?_
                  refine w_iast (o := 67) (n := 64) dX8_elementHere_167 rfl rfl (Nat.le_of_ble_eq_true rfl) (by omega) (by omega) ?_
                  refine w_aload_n dX8_elementHere_168 rfl rfl (by first | decide | omega) ?_
                  refine w_dup dX8_elementHere_169 (by simp) ?_
                  refine w_getIx (o := 45) (f := 57) (x := tS σ) fX8_elementHere_170 rfl rfl (Nat.le_of_ble_eq_true rfl) rfl ((congrFun (am_up_o (by first | decide | omega)) _).trans ((congrFun (am_up_o (by first | decide | omega)) _).trans ((congrFun (am_up_o (by first | decide | omega)) _).trans ((hf_W _ (by omega)).trans ((congrFun (hF39.at (by omega) (by omega)) _).trans ((congrFun (hF34.at (by omega) (by omega)) _).trans ((congrFun (hF29.at (by omega) (by omega)) _).trans ((hf_V _ (by omega)).trans ((congrFun (hF19.at (by omega) (by omega)) _).trans hP.nt))))))))) ?_
                  refine w_iload_n dX8_elementHere_173 rfl rfl ?_
                  refine Wp.topE (b := bok (μV 45 40)) hkp.2 ?_
                  refine w_callSP (as := [(0, bok (μV 45 40))]) (rest := [(0, tS σ), (2, 45)]) (k := 0) fX8_elementHere_174 rfl rfl rfl rfl rfl (Nat.le_of_ble_eq_true rfl) (s_X8_longOf X (μV 45 40) (am_up (am_up (am_up μW 65 (σ 0 0) (kdo (μV 45 40))) 66 (σ 0 0) so) 67 (σ 0 0) 0)) ?_
                  have hf41 := lok_r (μV 45 40)
                  refine w_iadd dX8_elementHere_177 ?_
                  refine w_putI (o := 45) (f := 57) fX8_elementHere_178 rfl rfl rfl rfl rfl ?_
                  refine w_aload_n dX8_elementHere_181 rfl rfl (by first | decide | omega) ?_
                  refine w_dup dX8_elementHere_182 (by simp) ?_
                  refine w_getIx (o := 45) (f := 50) (x := σ 0 0) fX8_elementHere_183 rfl rfl (Nat.le_of_ble_eq_true rfl) rfl ((am_up_nk (by omega)).trans ((congrFun (am_up_o (by first | decide | omega)) _).trans ((congrFun (am_up_o (by first | decide | omega)) _).trans ((congrFun (am_up_o (by first | decide | omega)) _).trans ((hf_W _ (by omega)).trans ((congrFun (hF39.at (by omega) (by omega)) _).trans ((congrFun (hF34.at (by omega) (by omega)) _).trans ((congrFun (hF29.at (by omega) (by omega)) _).trans ((hf_V _ (by omega)).trans ((congrFun (hF19.at (by omega) (by omega)) _).trans hP.el)))))))))) ?_
                  refine w_iconst dX8_elementHere_186 ?_
                  refine w_iadd dX8_elementHere_187 ?_
                  refine w_putI (o := 45) (f := 50) fX8_elementHere_188 rfl rfl rfl rfl rfl ?_
                  have hP9 : tkL b n (ln0 b n σ w (sk b n a) e) μ (am_up (am_up (am_up (am_up (am_up μW 65 (σ 0 0) (kdo (μV 45 40))) 66 (σ 0 0) so) 67 (σ 0 0) 0) 45 57 ((tS σ) + (lok (μV 45 40)))) 45 50 ((σ 0 0) + 1)) := tkL_ok (by rw [hl9]; unfold lEle; rw [hk0]; dsimp only; exact (if_neg (show ¬ ¬ (0 : Int) = 0 by decide)).trans ((if_neg (fun q9 => q9 (show tS σ % mlS σ + lok (nval b n e) ≤ mlS σ by rw [← hvq]; omega))).trans (by subst c156; exact if_pos rfl))) (RPS_add hP (by omega) hk4 (by omega) (by omega) (fun o h1 => ((am_up_o (by omega)).trans ((am_up_o (by omega)).trans ((am_up_o (by omega)).trans ((am_up_o (by omega)).trans ((am_up_o (by omega)).trans ((hFW.at (by omega) (by omega)).trans ((hF39.at (by omega) (by omega)).trans ((hF34.at (by omega) (by omega)).trans ((hF29.at (by omega) (by omega)).trans ((hFV.at (by omega) (by omega)).trans (hF19.at (by omega) (by omega))))))))))))) (fun o h1 => ((am_up_o (by omega)).trans ((am_up_o (by omega)).trans ((am_up_o (by omega)).trans ((am_up_o (by omega)).trans ((am_up_o (by omega)).trans ((hFW.at (by omega) (by omega)).trans ((hF39.at (by omega) (by omega)).trans ((hF34.at (by omega) (by omega)).trans ((hF29.at (by omega) (by omega)).trans ((hFV.at (by omega) (by omega)).trans (hF19.at (by omega) (by omega))))))))))))) (fun k h1 => ((am_up_nk (by omega)).trans ((am_up_nk (by omega)).trans ((congrFun (am_up_o (by omega)) _).trans ((congrFun (am_up_o (by omega)) _).trans ((congrFun (am_up_o (by omega)) _).trans ((hf_W k (by omega)).trans ((congrFun (hF39.at (by omega) (by omega)) _).trans ((congrFun (hF34.at (by omega) (by omega)) _).trans ((congrFun (hF29.at (by omega) (by omega)) _).trans ((hf_V k (by omega)).trans (congrFun (hF19.at (by omega) (by omega)) _)))))))))))) (am_up_at.trans (by rfl)) (((am_up_nk (by omega)).trans am_up_at).trans (by rw [hvq])) (fun j => (by rw [am_up_o (by omega), am_up_o (by omega), am_up_o (by omega), am_up_o (by omega), up_if, hkp.2, hvq, h65W])) (fun j => (by rw [am_up_o (by omega), am_up_o (by omega), am_up_o (by omega), up_if, am_up_o (by omega), h66W, show so = 0 by omega])) (fun j => (by rw [am_up_o (by omega), am_up_o (by omega), up_if, am_up_o (by omega), am_up_o (by omega), h67W]))) (((am_up_nk (by omega)).trans ((am_up_nk (by omega)).trans ((congrFun (am_up_o (by first | decide | omega)) _).trans ((congrFun (am_up_o (by first | decide | omega)) _).trans ((congrFun (am_up_o (by first | decide | omega)) _).trans ((hf_W _ (by omega)).trans ((congrFun (hF39.at (by omega) (by omega)) _).trans ((congrFun (hF34.at (by omega) (by omega)) _).trans ((congrFun (hF29.at (by omega) (by omega)) _).trans ((hf_V _ (by omega)).trans ((congrFun (hF19.at (by omega) (by omega)) _).trans hb))))))))))).trans (by rfl)) (htk_W.cg (fun k h1 h2 => (am_up_nk (by omega)).trans ((am_up_nk (by omega)).trans ((congrFun (am_up_o (by omega)) k).trans ((congrFun (am_up_o (by omega)) k).trans (congrFun (am_up_o (by omega)) k)))))) (by omega) (((am_up_nk (by omega)).trans ((am_up_nk (by omega)).trans ((congrFun (am_up_o (by first | decide | omega)) _).trans ((congrFun (am_up_o (by first | decide | omega)) _).trans ((congrFun (am_up_o (by first | decide | omega)) _).trans ((hf_W _ (by omega)).trans ((congrFun (hF39.at (by omega) (by omega)) _).trans ((congrFun (hF34.at (by omega) (by omega)) _).trans ((congrFun (hF29.at (by omega) (by omega)) _).trans ((hf_V _ (by omega)).trans (congrFun (hF19.at (by omega) (by omega)) _))))))))))).trans (by rfl)) (((am_up_nk (by omega)).trans ((am_up_nk (by omega)).trans ((congrFun (am_up_o (by first | decide | omega)) _).trans ((congrFun (am_up_o (by first | decide | omega)) _).trans ((congrFun (am_up_o (by first | decide | omega)) _).trans ((hf_W _ (by omega)).trans ((congrFun (hF39.at (by omega) (by omega)) _).trans ((congrFun (hF34.at (by omega) (by omega)) _).trans ((congrFun (hF29.at (by omega) (by omega)) _).trans ((hf_V _ (by omega)).trans (congrFun (hF19.at (by omega) (by omega)) _))))))))))).trans (by rfl))
                  exact w_retV dX8_elementHere_191 rfl ⟨(((((((hFW.wd (by omega) (by omega)).tr ((hF39.wd (by omega) (by omega)).tr ((hF34.wd (by omega) (by omega)).tr ((hF29.wd (by omega) (by omega)).tr ((hFV.wd (by omega) (by omega)).tr (hF19.wd (by omega) (by omega))))))).up (by omega)).up (by omega)).up (by omega)).up (by omega)).up (by omega)), (by exact hP9), (fun k h1 => ((am_up_nk (by omega)).trans ((am_up_nk (by omega)).trans ((congrFun (am_up_o (by omega)) _).trans ((congrFun (am_up_o (by omega)) _).trans ((congrFun (am_up_o (by omega)) _).trans ((hf_W k (by omega)).trans ((congrFun (hF39.at (by omega) (by omega)) _).trans ((congrFun (hF34.at (by omega) (by omega)) _).trans ((congrFun (hF29.at (by omega) (by omega)) _).trans ((hf_V k (by omega)).trans (congrFun (hF19.at (by omega) (by omega)) _)))))))))))), (RTc.cg2 hR_W (fun o h1 => ((am_up_o (by omega)).trans ((am_up_o (by omega)).trans ((am_up_o (by omega)).trans ((am_up_o (by omega)).trans (am_up_o (by omega))))))) (fun k h1 => ((am_up_nk (by omega)).trans ((am_up_nk (by omega)).trans ((congrFun (am_up_o (by omega)) _).trans ((congrFun (am_up_o (by omega)) _).trans (congrFun (am_up_o (by omega)) _))))))), (by rw [(((am_up_nk (by omega)).trans ((am_up_nk (by omega)).trans ((congrFun (am_up_o (by first | decide | omega)) _).trans ((congrFun (am_up_o (by first | decide | omega)) _).trans (congrFun (am_up_o (by first | decide | omega)) _))))).trans (by rfl)), (((am_up_nk (by omega)).trans ((am_up_nk (by omega)).trans ((congrFun (am_up_o (by first | decide | omega)) _).trans ((congrFun (am_up_o (by first | decide | omega)) _).trans (congrFun (am_up_o (by first | decide | omega)) _))))).trans (by rfl))]; omega)⟩
                · skip
                  have hb9 : (am_up (am_up μW 65 (σ 0 0) (kdo (μV 45 40))) 66 (σ 0 0) so) 45 43 = 0 := (((congrFun (am_up_o (by first | decide | omega)) _).trans ((congrFun (am_up_o (by first | decide | omega)) _).trans ((hf_W _ (by omega)).trans ((congrFun (hF39.at (by omega) (by omega)) _).trans ((congrFun (hF34.at (by omega) (by omega)) _).trans ((congrFun (hF29.at (by omega) (by omega)) _).trans ((hf_V _ (by omega)).trans ((congrFun (hF19.at (by omega) (by omega)) _).trans hb)))))))).trans (by rfl))
                  have h379 : (am_up (am_up μW 65 (σ 0 0) (kdo (μV 45 40))) 66 (σ 0 0) so) 45 37 = μW 45 37 := (((congrFun (am_up_o (by first | decide | omega)) _).trans (congrFun (am_up_o (by first | decide | omega)) _)).trans (by rfl))
                  have hat9 : 0 ≤ (am_up (am_up μW 65 (σ 0 0) (kdo (μV 45 40))) 66 (σ 0 0) so) 45 37 ∧ (am_up (am_up μW 65 (σ 0 0) (kdo (μV 45 40))) 66 (σ 0 0) so) 45 37 ≤ n := by rw [h379]; exact htk_W.at (by omega)
                  have h41V : (am_up (am_up μW 65 (σ 0 0) (kdo (μV 45 40))) 66 (σ 0 0) so) 45 41 = μ 45 41 := (((congrFun (am_up_o (by first | decide | omega)) _).trans ((congrFun (am_up_o (by first | decide | omega)) _).trans ((hf_W _ (by omega)).trans ((congrFun (hF39.at (by omega) (by omega)) _).trans ((congrFun (hF34.at (by omega) (by omega)) _).trans ((congrFun (hF29.at (by omega) (by omega)) _).trans ((hf_V _ (by omega)).trans (congrFun (hF19.at (by omega) (by omega)) _)))))))).trans (by rfl))
                  have h42V : (am_up (am_up μW 65 (σ 0 0) (kdo (μV 45 40))) 66 (σ 0 0) so) 45 42 = μ 45 42 := (((congrFun (am_up_o (by first | decide | omega)) _).trans ((congrFun (am_up_o (by first | decide | omega)) _).trans ((hf_W _ (by omega)).trans ((congrFun (hF39.at (by omega) (by omega)) _).trans ((congrFun (hF34.at (by omega) (by omega)) _).trans ((congrFun (hF29.at (by omega) (by omega)) _).trans ((hf_V _ (by omega)).trans (congrFun (hF19.at (by omega) (by omega)) _)))))))).trans (by rfl))
                  refine w_aload_n dX8_elementHere_159 rfl rfl (by first | decide | omega) ?_
                  refine w_callVI (o := 45) (ci := 8) (as := []) (rest := [(0, σ 0 0), (2, 67)]) (k := 3) fX8_elementHere_160 rfl rfl rfl rfl rfl rfl rfl rfl (Nat.le_of_ble_eq_true rfl) (s_X8_positionHere X b n (de b n (sk b n e)) (am_up (am_up μW 65 (σ 0 0) (kdo (μV 45 40))) 66 (σ 0 0) so) (RTc.cg2 hR_W (fun o h1 => ((am_up_o (by omega)).trans (am_up_o (by omega)))) (fun k h1 => ((congrFun (am_up_o (by omega)) _).trans (congrFun (am_up_o (by omega)) _)))) hat9 (htk_W.cg (fun k h1 h2 => (congrFun (am_up_o (by omega)) k).trans (congrFun (am_up_o (by omega)) k))) (by omega) hb9) (fun xN μN hμN => ?_)
                  obtain ⟨hFN, hz_N, hf_N, hR_N, htr_N⟩ := hμN
                  rcases hz_N with hN | hN
                  · skip
                    have hKN := hN.2.2.2.1
                    have hrN := hKN.r
                    have hvN := hKN.v hbb hN.2.2.2.2.1
                    have hatN := hKN.at hN.2.2.2.2.1
                    have hp9 := nP_z (a := (de b n (sk b n e))) (by omega) hN.1
                    refine w_goto (tgt := 167) dX8_elementHere_163 rfl ?_
                    refine w_iast (o := 67) (n := 64) dX8_elementHere_167 rfl rfl (Nat.le_of_ble_eq_true rfl) (by omega) (by omega) ?_
                    refine w_aload_n dX8_elementHere_168 rfl rfl (by first | decide | omega) ?_
                    refine w_dup dX8_elementHere_169 (by simp) ?_
                    refine w_getIx (o := 45) (f := 57) (x := tS σ) fX8_elementHere_170 rfl rfl (Nat.le_of_ble_eq_true rfl) rfl ((congrFun (am_up_o (by first | decide | omega)) _).trans ((hf_N _ (by omega)).trans ((congrFun (am_up_o (by first | decide | omega)) _).trans ((congrFun (am_up_o (by first | decide | omega)) _).trans ((hf_W _ (by omega)).trans ((congrFun (hF39.at (by omega) (by omega)) _).trans ((congrFun (hF34.at (by omega) (by omega)) _).trans ((congrFun (hF29.at (by omega) (by omega)) _).trans ((hf_V _ (by omega)).trans ((congrFun (hF19.at (by omega) (by omega)) _).trans hP.nt)))))))))) ?_
                    refine w_iload_n dX8_elementHere_173 rfl rfl ?_
                    refine Wp.topE (b := bok (μV 45 40)) hkp.2 ?_
                    refine w_callSP (as := [(0, bok (μV 45 40))]) (rest := [(0, tS σ), (2, 45)]) (k := 0) fX8_elementHere_174 rfl rfl rfl rfl rfl (Nat.le_of_ble_eq_true rfl) (s_X8_longOf X (μV 45 40) (am_up μN 67 (σ 0 0) xN)) ?_
                    have hf43 := lok_r (μV 45 40)
                    refine w_iadd dX8_elementHere_177 ?_
                    refine w_putI (o := 45) (f := 57) fX8_elementHere_178 rfl rfl rfl rfl rfl ?_
                    refine w_aload_n dX8_elementHere_181 rfl rfl (by first | decide | omega) ?_
                    refine w_dup dX8_elementHere_182 (by simp) ?_
                    refine w_getIx (o := 45) (f := 50) (x := σ 0 0) fX8_elementHere_183 rfl rfl (Nat.le_of_ble_eq_true rfl) rfl ((am_up_nk (by omega)).trans ((congrFun (am_up_o (by first | decide | omega)) _).trans ((hf_N _ (by omega)).trans ((congrFun (am_up_o (by first | decide | omega)) _).trans ((congrFun (am_up_o (by first | decide | omega)) _).trans ((hf_W _ (by omega)).trans ((congrFun (hF39.at (by omega) (by omega)) _).trans ((congrFun (hF34.at (by omega) (by omega)) _).trans ((congrFun (hF29.at (by omega) (by omega)) _).trans ((hf_V _ (by omega)).trans ((congrFun (hF19.at (by omega) (by omega)) _).trans hP.el))))))))))) ?_
                    refine w_iconst dX8_elementHere_186 ?_
                    refine w_iadd dX8_elementHere_187 ?_
                    refine w_putI (o := 45) (f := 50) fX8_elementHere_188 rfl rfl rfl rfl rfl ?_
                    have hP9 : tkL b n (ln0 b n σ w (sk b n a) e) μ (am_up (am_up (am_up μN 67 (σ 0 0) xN) 45 57 ((tS σ) + (lok (μV 45 40)))) 45 50 ((σ 0 0) + 1)) := tkL_ok (by rw [hl9]; unfold lEle; rw [hk0]; dsimp only; exact (if_neg (show ¬ ¬ (0 : Int) = 0 by decide)).trans ((if_neg (fun q9 => q9 (show tS σ % mlS σ + lok (nval b n e) ≤ mlS σ by rw [← hvq]; omega))).trans ((if_neg c156).trans (if_neg (fun q9 => q9 hN.1))))) (RPS_add hP (by omega) hk4 (by omega) (by omega) (fun o h1 => ((am_up_o (by omega)).trans ((am_up_o (by omega)).trans ((am_up_o (by omega)).trans ((hFN.at (by omega) (by omega)).trans ((am_up_o (by omega)).trans ((am_up_o (by omega)).trans ((hFW.at (by omega) (by omega)).trans ((hF39.at (by omega) (by omega)).trans ((hF34.at (by omega) (by omega)).trans ((hF29.at (by omega) (by omega)).trans ((hFV.at (by omega) (by omega)).trans (hF19.at (by omega) (by omega)))))))))))))) (fun o h1 => ((am_up_o (by omega)).trans ((am_up_o (by omega)).trans ((am_up_o (by omega)).trans ((hFN.at (by omega) (by omega)).trans ((am_up_o (by omega)).trans ((am_up_o (by omega)).trans ((hFW.at (by omega) (by omega)).trans ((hF39.at (by omega) (by omega)).trans ((hF34.at (by omega) (by omega)).trans ((hF29.at (by omega) (by omega)).trans ((hFV.at (by omega) (by omega)).trans (hF19.at (by omega) (by omega)))))))))))))) (fun k h1 => ((am_up_nk (by omega)).trans ((am_up_nk (by omega)).trans ((congrFun (am_up_o (by omega)) _).trans ((hf_N k (by omega)).trans ((congrFun (am_up_o (by omega)) _).trans ((congrFun (am_up_o (by omega)) _).trans ((hf_W k (by omega)).trans ((congrFun (hF39.at (by omega) (by omega)) _).trans ((congrFun (hF34.at (by omega) (by omega)) _).trans ((congrFun (hF29.at (by omega) (by omega)) _).trans ((hf_V k (by omega)).trans (congrFun (hF19.at (by omega) (by omega)) _))))))))))))) (am_up_at.trans (by rfl)) (((am_up_nk (by omega)).trans am_up_at).trans (by rw [hvq])) (fun j => (by rw [am_up_o (by omega), am_up_o (by omega), am_up_o (by omega), hFN.at (o := 65) (by omega) (by omega), am_up_o (by omega), up_if, hkp.2, hvq, h65W])) (fun j => (by rw [am_up_o (by omega), am_up_o (by omega), am_up_o (by omega), hFN.at (o := 66) (by omega) (by omega), up_if, am_up_o (by omega), h66W, show so = 1 by omega])) (fun j => (by rw [am_up_o (by omega), am_up_o (by omega), up_if, hFN.at (o := 67) (by omega) (by omega), am_up_o (by omega), am_up_o (by omega), h67W, hN.2.1]))) (((am_up_nk (by omega)).trans ((am_up_nk (by omega)).trans ((congrFun (am_up_o (by first | decide | omega)) _).trans hN.2.2.1))).trans (by rfl)) (hKN.cg (fun k h1 h2 => (am_up_nk (by omega)).trans ((am_up_nk (by omega)).trans (congrFun (am_up_o (by omega)) k)))) hN.2.2.2.2.1 (((am_up_nk (by omega)).trans ((am_up_nk (by omega)).trans ((congrFun (am_up_o (by first | decide | omega)) _).trans (hN.2.2.2.2.2.1.trans h41V)))).trans (by rfl)) (((am_up_nk (by omega)).trans ((am_up_nk (by omega)).trans ((congrFun (am_up_o (by first | decide | omega)) _).trans (hN.2.2.2.2.2.2.trans h42V)))).trans (by rfl))
                    exact w_retV dX8_elementHere_191 rfl ⟨(((((hFN.wd (by omega) (by omega)).tr ((((hFW.wd (by omega) (by omega)).tr ((hF39.wd (by omega) (by omega)).tr ((hF34.wd (by omega) (by omega)).tr ((hF29.wd (by omega) (by omega)).tr ((hFV.wd (by omega) (by omega)).tr (hF19.wd (by omega) (by omega))))))).up (by omega)).up (by omega))).up (by omega)).up (by omega)).up (by omega)), (by exact hP9), (fun k h1 => ((am_up_nk (by omega)).trans ((am_up_nk (by omega)).trans ((congrFun (am_up_o (by omega)) _).trans ((hf_N k (by omega)).trans ((congrFun (am_up_o (by omega)) _).trans ((congrFun (am_up_o (by omega)) _).trans ((hf_W k (by omega)).trans ((congrFun (hF39.at (by omega) (by omega)) _).trans ((congrFun (hF34.at (by omega) (by omega)) _).trans ((congrFun (hF29.at (by omega) (by omega)) _).trans ((hf_V k (by omega)).trans (congrFun (hF19.at (by omega) (by omega)) _))))))))))))), (RTc.cg2 hR_N (fun o h1 => ((am_up_o (by omega)).trans ((am_up_o (by omega)).trans (am_up_o (by omega))))) (fun k h1 => ((am_up_nk (by omega)).trans ((am_up_nk (by omega)).trans (congrFun (am_up_o (by omega)) _))))), (by rw [(((am_up_nk (by omega)).trans ((am_up_nk (by omega)).trans (congrFun (am_up_o (by first | decide | omega)) _))).trans (by rfl)), (((am_up_nk (by omega)).trans ((am_up_nk (by omega)).trans (congrFun (am_up_o (by first | decide | omega)) _))).trans (by rfl))]; omega)⟩
                  · skip
                    refine w_goto (tgt := 167) dX8_elementHere_163 rfl ?_
                    refine w_iast (o := 67) (n := 64) dX8_elementHere_167 rfl rfl (Nat.le_of_ble_eq_true rfl) (by omega) (by omega) ?_
                    refine w_aload_n dX8_elementHere_168 rfl rfl (by first | decide | omega) ?_
                    refine w_dup dX8_elementHere_169 (by simp) ?_
                    refine w_getIx (o := 45) (f := 57) (x := tS σ) fX8_elementHere_170 rfl rfl (Nat.le_of_ble_eq_true rfl) rfl ((congrFun (am_up_o (by first | decide | omega)) _).trans ((hf_N _ (by omega)).trans ((congrFun (am_up_o (by first | decide | omega)) _).trans ((congrFun (am_up_o (by first | decide | omega)) _).trans ((hf_W _ (by omega)).trans ((congrFun (hF39.at (by omega) (by omega)) _).trans ((congrFun (hF34.at (by omega) (by omega)) _).trans ((congrFun (hF29.at (by omega) (by omega)) _).trans ((hf_V _ (by omega)).trans ((congrFun (hF19.at (by omega) (by omega)) _).trans hP.nt)))))))))) ?_
                    refine w_iload_n dX8_elementHere_173 rfl rfl ?_
                    refine Wp.topE (b := bok (μV 45 40)) hkp.2 ?_
                    refine w_callSP (as := [(0, bok (μV 45 40))]) (rest := [(0, tS σ), (2, 45)]) (k := 0) fX8_elementHere_174 rfl rfl rfl rfl rfl (Nat.le_of_ble_eq_true rfl) (s_X8_longOf X (μV 45 40) (am_up μN 67 (σ 0 0) xN)) ?_
                    have hf44 := lok_r (μV 45 40)
                    refine w_iadd dX8_elementHere_177 ?_
                    refine w_putI (o := 45) (f := 57) fX8_elementHere_178 rfl rfl rfl rfl rfl ?_
                    refine w_aload_n dX8_elementHere_181 rfl rfl (by first | decide | omega) ?_
                    refine w_dup dX8_elementHere_182 (by simp) ?_
                    refine w_getIx (o := 45) (f := 50) (x := σ 0 0) fX8_elementHere_183 rfl rfl (Nat.le_of_ble_eq_true rfl) rfl ((am_up_nk (by omega)).trans ((congrFun (am_up_o (by first | decide | omega)) _).trans ((hf_N _ (by omega)).trans ((congrFun (am_up_o (by first | decide | omega)) _).trans ((congrFun (am_up_o (by first | decide | omega)) _).trans ((hf_W _ (by omega)).trans ((congrFun (hF39.at (by omega) (by omega)) _).trans ((congrFun (hF34.at (by omega) (by omega)) _).trans ((congrFun (hF29.at (by omega) (by omega)) _).trans ((hf_V _ (by omega)).trans ((congrFun (hF19.at (by omega) (by omega)) _).trans hP.el))))))))))) ?_
                    refine w_iconst dX8_elementHere_186 ?_
                    refine w_iadd dX8_elementHere_187 ?_
                    refine w_putI (o := 45) (f := 50) fX8_elementHere_188 rfl rfl rfl rfl rfl ?_
                    have hP9 : tkL b n (ln0 b n σ w (sk b n a) e) μ (am_up (am_up (am_up μN 67 (σ 0 0) xN) 45 57 ((tS σ) + (lok (μV 45 40)))) 45 50 ((σ 0 0) + 1)) := tkL_no (by rw [hl9]; unfold lEle; rw [hk0]; dsimp only; exact (if_neg (show ¬ ¬ (0 : Int) = 0 by decide)).trans ((if_neg (fun q9 => q9 (show tS σ % mlS σ + lok (nval b n e) ≤ mlS σ by rw [← hvq]; omega))).trans ((if_neg c156).trans (if_pos hN.1)))) hN.1 (((am_up_nk (by omega)).trans ((am_up_nk (by omega)).trans ((congrFun (am_up_o (by first | decide | omega)) _).trans hN.2.1))).trans (by rfl)) (((am_up_nk (by omega)).trans ((am_up_nk (by omega)).trans ((congrFun (am_up_o (by first | decide | omega)) _).trans hN.2.2.1))).trans (by rfl)) (((am_up_nk (by omega)).trans ((am_up_nk (by omega)).trans ((congrFun (am_up_o (by first | decide | omega)) _).trans hN.2.2.2))).trans (by rfl))
                    exact w_retV dX8_elementHere_191 rfl ⟨(((((hFN.wd (by omega) (by omega)).tr ((((hFW.wd (by omega) (by omega)).tr ((hF39.wd (by omega) (by omega)).tr ((hF34.wd (by omega) (by omega)).tr ((hF29.wd (by omega) (by omega)).tr ((hFV.wd (by omega) (by omega)).tr (hF19.wd (by omega) (by omega))))))).up (by omega)).up (by omega))).up (by omega)).up (by omega)).up (by omega)), (by exact hP9), (fun k h1 => ((am_up_nk (by omega)).trans ((am_up_nk (by omega)).trans ((congrFun (am_up_o (by omega)) _).trans ((hf_N k (by omega)).trans ((congrFun (am_up_o (by omega)) _).trans ((congrFun (am_up_o (by omega)) _).trans ((hf_W k (by omega)).trans ((congrFun (hF39.at (by omega) (by omega)) _).trans ((congrFun (hF34.at (by omega) (by omega)) _).trans ((congrFun (hF29.at (by omega) (by omega)) _).trans ((hf_V k (by omega)).trans (congrFun (hF19.at (by omega) (by omega)) _))))))))))))), (RTc.cg2 hR_N (fun o h1 => ((am_up_o (by omega)).trans ((am_up_o (by omega)).trans (am_up_o (by omega))))) (fun k h1 => ((am_up_nk (by omega)).trans ((am_up_nk (by omega)).trans (congrFun (am_up_o (by omega)) _))))), (by rw [(((am_up_nk (by omega)).trans ((am_up_nk (by omega)).trans (congrFun (am_up_o (by first | decide | omega)) _))).trans (by rfl)), (((am_up_nk (by omega)).trans ((am_up_nk (by omega)).trans (congrFun (am_up_o (by first | decide | omega)) _))).trans (by rfl))]; omega)⟩
              · skip
                exact absurd c119 (by decide)
