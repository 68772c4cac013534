set_option maxRecDepth 100000 in
set_option maxHeartbeats 4000000 in
theorem s_X8_wideHere (X : AX) (b : Int → Int) (n : Int) (σ : Mu) (a : Int) (e : Int) (μ : Mu) (hR : RTc b n μ) (hP : RPS σ μ) (hK : TK b n (sk b n a) μ) (ha : 0 ≤ a ∧ a ≤ n) (he : μ 45 37 = e) (hae : 0 ≤ e ∧ e ≤ n) (hb : μ 45 43 = 0) : Wp (GG X) M_X8_wideHere 0 [(2, 45), (9, 0)] [] μ (qV fun μ' => (Fr 45 45 63 68 μ' μ) ∧ (tkL b n (ln0 b n σ 3 (sk b n a) e) μ μ') ∧ (∀ k9 : Int, (¬ k9 = 37 ∧ ¬ k9 = 38 ∧ ¬ k9 = 39 ∧ ¬ k9 = 40 ∧ ¬ k9 = 41 ∧ ¬ k9 = 42 ∧ ¬ k9 = 43 ∧ ¬ k9 = 44 ∧ ¬ k9 = 45 ∧ ¬ k9 = 46 ∧ ¬ k9 = 47 ∧ ¬ k9 = 48 ∧ ¬ k9 = 49 ∧ ¬ k9 = 50 ∧ ¬ k9 = 51 ∧ ¬ k9 = 52 ∧ ¬ k9 = 53 ∧ ¬ k9 = 54 ∧ ¬ k9 = 55 ∧ ¬ k9 = 56 ∧ ¬ k9 = 57) → μ' 45 k9 = μ 45 k9) ∧ (RTc b n μ') ∧ ((0 ≤ μ' 45 39 ∧ μ' 45 39 ≤ 4) ∧ (-1 ≤ μ' 45 40 ∧ μ' 45 40 < 1073741824))) := by
  have hn := hR.n
  have hbb := hR.bb
  have hr39 := hK.r
  have hr40 := hK.v hbb ha
  have hok := hP.ok
  have h00 := hok.1.1
  have h05 := hok.1.2.2.2.2.2.1
  have hskr := sk_r b n a ha.2
  refine w_aload_n dX8_wideHere_0 rfl rfl (by first | decide | omega) ?_
  refine w_aload_n dX8_wideHere_1 rfl rfl (by first | decide | omega) ?_
  refine w_getIx (o := 45) (f := 50) (x := σ 0 0) fX8_wideHere_2 rfl rfl (Nat.le_of_ble_eq_true rfl) rfl hP.el ?_
  have hr1 := hP.ok.1.1
  refine w_if_ne (tgt := 12) dX8_wideHere_5 rfl (R32.in (by omega)) (fun c5 => ?_) (fun c5 => ?_)
  · skip
    refine w_iconst dX8_wideHere_12 ?_
    refine w_iconst dX8_wideHere_13 ?_
    refine w_callVV (o := 45) (ci := 8) (as := [(0, 0), (0, 1)]) (rest := []) (k := 0) fX8_wideHere_14 rfl rfl rfl rfl rfl rfl rfl rfl (Nat.le_of_ble_eq_true rfl) (s_X8_must_f X 0 1 μ hb rfl) (fun μ_2 hμ2 => ?_)
    obtain ⟨hF2, hb_2, h1_2, h2_2, hf_2⟩ := hμ2
    refine w_aload_n dX8_wideHere_17 rfl rfl (by first | decide | omega) ?_
    refine w_getIx (o := 45) (f := 43) (x := 1) fX8_wideHere_18 rfl rfl (Nat.le_of_ble_eq_true rfl) rfl hb_2 ?_
    refine w_if_ne (tgt := 28) dX8_wideHere_21 rfl (R32.in (by decide)) (fun c21 => ?_) (fun c21 => ?_)
    · skip
      refine w_aload_n dX8_wideHere_28 rfl rfl (by first | decide | omega) ?_
      refine w_aload_n dX8_wideHere_29 rfl rfl (by first | decide | omega) ?_
      refine w_getIx (o := 45) (f := 39) (x := μ 45 39) fX8_wideHere_30 rfl rfl (Nat.le_of_ble_eq_true rfl) rfl (hf_2 _ (by omega)) ?_
      refine w_iconst dX8_wideHere_33 ?_
      refine w_icmp_ne (tgt := 41) dX8_wideHere_34 rfl (R32.in (by omega)) (R32.in (by decide)) (fun c34 => ?_) (fun c34 => ?_)
      · skip
        refine w_iconst dX8_wideHere_41 ?_
        refine w_iconst dX8_wideHere_42 ?_
        refine w_callVV (o := 45) (ci := 8) (as := [(0, 0), (0, 1)]) (rest := []) (k := 0) fX8_wideHere_43 rfl rfl rfl rfl rfl rfl rfl rfl (Nat.le_of_ble_eq_true rfl) (s_X8_must_b X 0 1 μ_2 hb_2) (fun μ_3 hμ3 => ?_)
        have hF3 := hμ3
        refine w_aload_n dX8_wideHere_46 rfl rfl (by first | decide | omega) ?_
        refine w_getIx (o := 45) (f := 40) (x := μ 45 40) fX8_wideHere_47 rfl rfl (Nat.le_of_ble_eq_true rfl) rfl ((congrFun (hF3.at (by omega) (by omega)) _).trans (hf_2 _ (by omega))) ?_
        refine w_callSP (as := [(0, μ 45 40)]) (rest := []) (k := 0) fX8_wideHere_50 rfl rfl rfl rfl rfl (Nat.le_of_ble_eq_true rfl) (s_X8_kindOf X (μ 45 40) μ_3 (by first | omega | assumption)) ?_
        have hf4 := kdo_r (μ 45 40)
        refine w_istore_n (ls' := [(2, 45), (0, kdo (μ 45 40))]) dX8_wideHere_53 rfl (Nat.le_of_ble_eq_true rfl) rfl rfl ?_
        refine w_aload_n dX8_wideHere_54 rfl rfl (by first | decide | omega) ?_
        refine w_iload_n dX8_wideHere_55 rfl rfl ?_
        refine w_iconst dX8_wideHere_56 ?_
        refine w_icmp_eq (tgt := 64) dX8_wideHere_57 rfl (R32.in (by omega)) (R32.in (by decide)) (fun c57 => ?_) (fun c57 => ?_)
        · skip
          refine w_iconst dX8_wideHere_64 ?_
          refine w_iconst dX8_wideHere_65 ?_
          refine w_callVV (o := 45) (ci := 8) (as := [(0, 0), (0, 2)]) (rest := []) (k := 0) fX8_wideHere_66 rfl rfl rfl rfl rfl rfl rfl rfl (Nat.le_of_ble_eq_true rfl) (s_X8_must_b X 0 2 μ_3 ((congrFun (hF3.at (by omega) (by omega)) _).trans hb_2)) (fun μ_5 hμ5 => ?_)
          have hF5 := hμ5
          refine w_aload_n dX8_wideHere_69 rfl rfl (by first | decide | omega) ?_
          refine w_aload_n dX8_wideHere_70 rfl rfl (by first | decide | omega) ?_
          refine w_getIx (o := 45) (f := 43) (x := 1) fX8_wideHere_71 rfl rfl (Nat.le_of_ble_eq_true rfl) rfl ((congrFun (hF5.at (by omega) (by omega)) _).trans ((congrFun (hF3.at (by omega) (by omega)) _).trans hb_2)) ?_
          refine w_if_ne (tgt := 86) dX8_wideHere_74 rfl (R32.in (by decide)) (fun c74 => ?_) (fun c74 => ?_)
          · skip
            refine w_iconst dX8_wideHere_86 ?_
            refine w_goto (tgt := 91) dX8_wideHere_87 rfl ?_
            refine w_iconst dX8_wideHere_91 ?_
            refine w_callVV (o := 45) (ci := 8) (as := [(0, 1), (0, 3)]) (rest := []) (k := 0) fX8_wideHere_92 rfl rfl rfl rfl rfl rfl rfl rfl (Nat.le_of_ble_eq_true rfl) (s_X8_must_t X 1 3 μ_5 (Or.inr ((congrFun (hF5.at (by omega) (by omega)) _).trans ((congrFun (hF3.at (by omega) (by omega)) _).trans hb_2))) rfl) (fun μ_6 hμ6 => ?_)
            have hF6 := hμ6
            refine w_aload_n dX8_wideHere_95 rfl rfl (by first | decide | omega) ?_
            refine w_getIx (o := 45) (f := 43) (x := 1) fX8_wideHere_96 rfl rfl (Nat.le_of_ble_eq_true rfl) rfl ((congrFun (hF6.at (by omega) (by omega)) _).trans ((congrFun (hF5.at (by omega) (by omega)) _).trans ((congrFun (hF3.at (by omega) (by omega)) _).trans hb_2))) ?_
            refine w_if_eq (tgt := 103) dX8_wideHere_99 rfl (R32.in (by decide)) (fun c99 => ?_) (fun c99 => ?_)
            · skip
              exact absurd c99 (by decide)
            · skip
              have hP9 : tkL b n (ln0 b n σ 3 (sk b n a) e) μ μ_6 := tkL_no (ln0_1 (Or.inr (by unfold tooL; omega))) (by omega) (((congrFun (hF6.at (by omega) (by omega)) _).trans ((congrFun (hF5.at (by omega) (by omega)) _).trans ((congrFun (hF3.at (by omega) (by omega)) _).trans hb_2))).trans (by rfl)) (((congrFun (hF6.at (by omega) (by omega)) _).trans ((congrFun (hF5.at (by omega) (by omega)) _).trans ((congrFun (hF3.at (by omega) (by omega)) _).trans h1_2))).trans (by rfl)) (((congrFun (hF6.at (by omega) (by omega)) _).trans ((congrFun (hF5.at (by omega) (by omega)) _).trans ((congrFun (hF3.at (by omega) (by omega)) _).trans (h2_2.trans rfl)))).trans (by exact hK.1))
              exact w_retV dX8_wideHere_102 rfl ⟨((hF6.wd (by omega) (by omega)).tr ((hF5.wd (by omega) (by omega)).tr ((hF3.wd (by omega) (by omega)).tr (hF2.wd (by omega) (by omega))))), (by exact hP9), (fun k h1 => ((congrFun (hF6.at (by omega) (by omega)) _).trans ((congrFun (hF5.at (by omega) (by omega)) _).trans ((congrFun (hF3.at (by omega) (by omega)) _).trans (hf_2 k (by omega)))))), (RTc.cg2 hR (fun o h1 => ((hF6.at (by omega) (by omega)).trans ((hF5.at (by omega) (by omega)).trans ((hF3.at (by omega) (by omega)).trans (hF2.at (by omega) (by omega)))))) (fun k h1 => ((congrFun (hF6.at (by omega) (by omega)) _).trans ((congrFun (hF5.at (by omega) (by omega)) _).trans ((congrFun (hF3.at (by omega) (by omega)) _).trans (hf_2 _ (by omega))))))), (by rw [(((congrFun (hF6.at (by omega) (by omega)) _).trans ((congrFun (hF5.at (by omega) (by omega)) _).trans ((congrFun (hF3.at (by omega) (by omega)) _).trans (hf_2 _ (by omega))))).trans (by rfl)), (((congrFun (hF6.at (by omega) (by omega)) _).trans ((congrFun (hF5.at (by omega) (by omega)) _).trans ((congrFun (hF3.at (by omega) (by omega)) _).trans (hf_2 _ (by omega))))).trans (by rfl))]; omega)⟩
          · skip
            exact absurd c74 (by decide)
        · skip
          refine w_iconst dX8_wideHere_60 ?_
          refine w_goto (tgt := 65) dX8_wideHere_61 rfl ?_
          refine w_iconst dX8_wideHere_65 ?_
          refine w_callVV (o := 45) (ci := 8) (as := [(0, 1), (0, 2)]) (rest := []) (k := 0) fX8_wideHere_66 rfl rfl rfl rfl rfl rfl rfl rfl (Nat.le_of_ble_eq_true rfl) (s_X8_must_t X 1 2 μ_3 (Or.inr ((congrFun (hF3.at (by omega) (by omega)) _).trans hb_2)) rfl) (fun μ_7 hμ7 => ?_)
          have hF7 := hμ7
          refine w_aload_n dX8_wideHere_69 rfl rfl (by first | decide | omega) ?_
          refine w_aload_n dX8_wideHere_70 rfl rfl (by first | decide | omega) ?_
          refine w_getIx (o := 45) (f := 43) (x := 1) fX8_wideHere_71 rfl rfl (Nat.le_of_ble_eq_true rfl) rfl ((congrFun (hF7.at (by omega) (by omega)) _).trans ((congrFun (hF3.at (by omega) (by omega)) _).trans hb_2)) ?_
          refine w_if_ne (tgt := 86) dX8_wideHere_74 rfl (R32.in (by decide)) (fun c74 => ?_) (fun c74 => ?_)
          · skip
            refine w_iconst dX8_wideHere_86 ?_
            refine w_goto (tgt := 91) dX8_wideHere_87 rfl ?_
            refine w_iconst dX8_wideHere_91 ?_
            refine w_callVV (o := 45) (ci := 8) (as := [(0, 1), (0, 3)]) (rest := []) (k := 0) fX8_wideHere_92 rfl rfl rfl rfl rfl rfl rfl rfl (Nat.le_of_ble_eq_true rfl) (s_X8_must_t X 1 3 μ_7 (Or.inr ((congrFun (hF7.at (by omega) (by omega)) _).trans ((congrFun (hF3.at (by omega) (by omega)) _).trans hb_2))) rfl) (fun μ_8 hμ8 => ?_)
            have hF8 := hμ8
            refine w_aload_n dX8_wideHere_95 rfl rfl (by first | decide | omega) ?_
            refine w_getIx (o := 45) (f := 43) (x := 1) fX8_wideHere_96 rfl rfl (Nat.le_of_ble_eq_true rfl) rfl ((congrFun (hF8.at (by omega) (by omega)) _).trans ((congrFun (hF7.at (by omega) (by omega)) _).trans ((congrFun (hF3.at (by omega) (by omega)) _).trans hb_2))) ?_
            refine w_if_eq (tgt := 103) dX8_wideHere_99 rfl (R32.in (by decide)) (fun c99 => ?_) (fun c99 => ?_)
            · skip
              exact absurd c99 (by decide)
            · skip
              have hP9 : tkL b n (ln0 b n σ 3 (sk b n a) e) μ μ_8 := tkL_no (ln0_1 (Or.inr (by unfold tooL; omega))) (by omega) (((congrFun (hF8.at (by omega) (by omega)) _).trans ((congrFun (hF7.at (by omega) (by omega)) _).trans ((congrFun (hF3.at (by omega) (by omega)) _).trans hb_2))).trans (by rfl)) (((congrFun (hF8.at (by omega) (by omega)) _).trans ((congrFun (hF7.at (by omega) (by omega)) _).trans ((congrFun (hF3.at (by omega) (by omega)) _).trans h1_2))).trans (by rfl)) (((congrFun (hF8.at (by omega) (by omega)) _).trans ((congrFun (hF7.at (by omega) (by omega)) _).trans ((congrFun (hF3.at (by omega) (by omega)) _).trans (h2_2.trans rfl)))).trans (by exact hK.1))
              exact w_retV dX8_wideHere_102 rfl ⟨((hF8.wd (by omega) (by omega)).tr ((hF7.wd (by omega) (by omega)).tr ((hF3.wd (by omega) (by omega)).tr (hF2.wd (by omega) (by omega))))), (by exact hP9), (fun k h1 => ((congrFun (hF8.at (by omega) (by omega)) _).trans ((congrFun (hF7.at (by omega) (by omega)) _).trans ((congrFun (hF3.at (by omega) (by omega)) _).trans (hf_2 k (by omega)))))), (RTc.cg2 hR (fun o h1 => ((hF8.at (by omega) (by omega)).trans ((hF7.at (by omega) (by omega)).trans ((hF3.at (by omega) (by omega)).trans (hF2.at (by omega) (by omega)))))) (fun k h1 => ((congrFun (hF8.at (by omega) (by omega)) _).trans ((congrFun (hF7.at (by omega) (by omega)) _).trans ((congrFun (hF3.at (by omega) (by omega)) _).trans (hf_2 _ (by omega))))))), (by rw [(((congrFun (hF8.at (by omega) (by omega)) _).trans ((congrFun (hF7.at (by omega) (by omega)) _).trans ((congrFun (hF3.at (by omega) (by omega)) _).trans (hf_2 _ (by omega))))).trans (by rfl)), (((congrFun (hF8.at (by omega) (by omega)) _).trans ((congrFun (hF7.at (by omega) (by omega)) _).trans ((congrFun (hF3.at (by omega) (by omega)) _).trans (hf_2 _ (by omega))))).trans (by rfl))]; omega)⟩
          · skip
            exact absurd c74 (by decide)
      · skip
        refine w_iconst dX8_wideHere_37 ?_
        refine w_goto (tgt := 42) dX8_wideHere_38 rfl ?_
        refine w_iconst dX8_wideHere_42 ?_
        refine w_callVV (o := 45) (ci := 8) (as := [(0, 1), (0, 1)]) (rest := []) (k := 0) fX8_wideHere_43 rfl rfl rfl rfl rfl rfl rfl rfl (Nat.le_of_ble_eq_true rfl) (s_X8_must_t X 1 1 μ_2 (Or.inr hb_2) rfl) (fun μ_9 hμ9 => ?_)
        have hF9 := hμ9
        refine w_aload_n dX8_wideHere_46 rfl rfl (by first | decide | omega) ?_
        refine w_getIx (o := 45) (f := 40) (x := μ 45 40) fX8_wideHere_47 rfl rfl (Nat.le_of_ble_eq_true rfl) rfl ((congrFun (hF9.at (by omega) (by omega)) _).trans (hf_2 _ (by omega))) ?_
        refine w_callSP (as := [(0, μ 45 40)]) (rest := []) (k := 0) fX8_wideHere_50 rfl rfl rfl rfl rfl (Nat.le_of_ble_eq_true rfl) (s_X8_kindOf X (μ 45 40) μ_9 (by first | omega | assumption)) ?_
        have hf10 := kdo_r (μ 45 40)
        refine w_istore_n (ls' := [(2, 45), (0, kdo (μ 45 40))]) dX8_wideHere_53 rfl (Nat.le_of_ble_eq_true rfl) rfl rfl ?_
        refine w_aload_n dX8_wideHere_54 rfl rfl (by first | decide | omega) ?_
        refine w_iload_n dX8_wideHere_55 rfl rfl ?_
        refine w_iconst dX8_wideHere_56 ?_
        refine w_icmp_eq (tgt := 64) dX8_wideHere_57 rfl (R32.in (by omega)) (R32.in (by decide)) (fun c57 => ?_) (fun c57 => ?_)
        · skip
          refine w_iconst dX8_wideHere_64 ?_
          refine w_iconst dX8_wideHere_65 ?_
          refine w_callVV (o := 45) (ci := 8) (as := [(0, 0), (0, 2)]) (rest := []) (k := 0) fX8_wideHere_66 rfl rfl rfl rfl rfl rfl rfl rfl (Nat.le_of_ble_eq_true rfl) (s_X8_must_b X 0 2 μ_9 ((congrFun (hF9.at (by omega) (by omega)) _).trans hb_2)) (fun μ_11 hμ11 => ?_)
          have hF11 := hμ11
          refine w_aload_n dX8_wideHere_69 rfl rfl (by first | decide | omega) ?_
          refine w_aload_n dX8_wideHere_70 rfl rfl (by first | decide | omega) ?_
          refine w_getIx (o := 45) (f := 43) (x := 1) fX8_wideHere_71 rfl rfl (Nat.le_of_ble_eq_true rfl) rfl ((congrFun (hF11.at (by omega) (by omega)) _).trans ((congrFun (hF9.at (by omega) (by omega)) _).trans hb_2)) ?_
          refine w_if_ne (tgt := 86) dX8_wideHere_74 rfl (R32.in (by decide)) (fun c74 => ?_) (fun c74 => ?_)
          · skip
            refine w_iconst dX8_wideHere_86 ?_
            refine w_goto (tgt := 91) dX8_wideHere_87 rfl ?_
            refine w_iconst dX8_wideHere_91 ?_
            refine w_callVV (o := 45) (ci := 8) (as := [(0, 1), (0, 3)]) (rest := []) (k := 0) fX8_wideHere_92 rfl rfl rfl rfl rfl rfl rfl rfl (Nat.le_of_ble_eq_true rfl) (s_X8_must_t X 1 3 μ_11 (Or.inr ((congrFun (hF11.at (by omega) (by omega)) _).trans ((congrFun (hF9.at (by omega) (by omega)) _).trans hb_2))) rfl) (fun μ_12 hμ12 => ?_)
            have hF12 := hμ12
            refine w_aload_n dX8_wideHere_95 rfl rfl (by first | decide | omega) ?_
            refine w_getIx (o := 45) (f := 43) (x := 1) fX8_wideHere_96 rfl rfl (Nat.le_of_ble_eq_true rfl) rfl ((congrFun (hF12.at (by omega) (by omega)) _).trans ((congrFun (hF11.at (by omega) (by omega)) _).trans ((congrFun (hF9.at (by omega) (by omega)) _).trans hb_2))) ?_
            refine w_if_eq (tgt := 103) dX8_wideHere_99 rfl (R32.in (by decide)) (fun c99 => ?_) (fun c99 => ?_)
            · skip
              exact absurd c99 (by decide)
            · skip
              have hP9 : tkL b n (ln0 b n σ 3 (sk b n a) e) μ μ_12 := tkL_no (ln0_1 (Or.inr (by unfold tooL; omega))) (by omega) (((congrFun (hF12.at (by omega) (by omega)) _).trans ((congrFun (hF11.at (by omega) (by omega)) _).trans ((congrFun (hF9.at (by omega) (by omega)) _).trans hb_2))).trans (by rfl)) (((congrFun (hF12.at (by omega) (by omega)) _).trans ((congrFun (hF11.at (by omega) (by omega)) _).trans ((congrFun (hF9.at (by omega) (by omega)) _).trans h1_2))).trans (by rfl)) (((congrFun (hF12.at (by omega) (by omega)) _).trans ((congrFun (hF11.at (by omega) (by omega)) _).trans ((congrFun (hF9.at (by omega) (by omega)) _).trans (h2_2.trans rfl)))).trans (by exact hK.1))
              exact w_retV dX8_wideHere_102 rfl ⟨((hF12.wd (by omega) (by omega)).tr ((hF11.wd (by omega) (by omega)).tr ((hF9.wd (by omega) (by omega)).tr (hF2.wd (by omega) (by omega))))), (by exact hP9), (fun k h1 => ((congrFun (hF12.at (by omega) (by omega)) _).trans ((congrFun (hF11.at (by omega) (by omega)) _).trans ((congrFun (hF9.at (by omega) (by omega)) _).trans (hf_2 k (by omega)))))), (RTc.cg2 hR (fun o h1 => ((hF12.at (by omega) (by omega)).trans ((hF11.at (by omega) (by omega)).trans ((hF9.at (by omega) (by omega)).trans (hF2.at (by omega) (by omega)))))) (fun k h1 => ((congrFun (hF12.at (by omega) (by omega)) _).trans ((congrFun (hF11.at (by omega) (by omega)) _).trans ((congrFun (hF9.at (by omega) (by omega)) _).trans (hf_2 _ (by omega))))))), (by rw [(((congrFun (hF12.at (by omega) (by omega)) _).trans ((congrFun (hF11.at (by omega) (by omega)) _).trans ((congrFun (hF9.at (by omega) (by omega)) _).trans (hf_2 _ (by omega))))).trans (by rfl)), (((congrFun (hF12.at (by omega) (by omega)) _).trans ((congrFun (hF11.at (by omega) (by omega)) _).trans ((congrFun (hF9.at (by omega) (by omega)) _).trans (hf_2 _ (by omega))))).trans (by rfl))]; omega)⟩
          · skip
            exact absurd c74 (by decide)
        · skip
          refine w_iconst dX8_wideHere_60 ?_
          refine w_goto (tgt := 65) dX8_wideHere_61 rfl ?_
          refine w_iconst dX8_wideHere_65 ?_
          refine w_callVV (o := 45) (ci := 8) (as := [(0, 1), (0, 2)]) (rest := []) (k := 0) fX8_wideHere_66 rfl rfl rfl rfl rfl rfl rfl rfl (Nat.le_of_ble_eq_true rfl) (s_X8_must_t X 1 2 μ_9 (Or.inr ((congrFun (hF9.at (by omega) (by omega)) _).trans hb_2)) rfl) (fun μ_13 hμ13 => ?_)
          have hF13 := hμ13
          refine w_aload_n dX8_wideHere_69 rfl rfl (by first | decide | omega) ?_
          refine w_aload_n dX8_wideHere_70 rfl rfl (by first | decide | omega) ?_
          refine w_getIx (o := 45) (f := 43) (x := 1) fX8_wideHere_71 rfl rfl (Nat.le_of_ble_eq_true rfl) rfl ((congrFun (hF13.at (by omega) (by omega)) _).trans ((congrFun (hF9.at (by omega) (by omega)) _).trans hb_2)) ?_
          refine w_if_ne (tgt := 86) dX8_wideHere_74 rfl (R32.in (by decide)) (fun c74 => ?_) (fun c74 => ?_)
          · skip
            refine w_iconst dX8_wideHere_86 ?_
            refine w_goto (tgt := 91) dX8_wideHere_87 rfl ?_
            refine w_iconst dX8_wideHere_91 ?_
            refine w_callVV (o := 45) (ci := 8) (as := [(0, 1), (0, 3)]) (rest := []) (k := 0) fX8_wideHere_92 rfl rfl rfl rfl rfl rfl rfl rfl (Nat.le_of_ble_eq_true rfl) (s_X8_must_t X 1 3 μ_13 (Or.inr ((congrFun (hF13.at (by omega) (by omega)) _).trans ((congrFun (hF9.at (by omega) (by omega)) _).trans hb_2))) rfl) (fun μ_14 hμ14 => ?_)
            have hF14 := hμ14
            refine w_aload_n dX8_wideHere_95 rfl rfl (by first | decide | omega) ?_
            refine w_getIx (o := 45) (f := 43) (x := 1) fX8_wideHere_96 rfl rfl (Nat.le_of_ble_eq_true rfl) rfl ((congrFun (hF14.at (by omega) (by omega)) _).trans ((congrFun (hF13.at (by omega) (by omega)) _).trans ((congrFun (hF9.at (by omega) (by omega)) _).trans hb_2))) ?_
            refine w_if_eq (tgt := 103) dX8_wideHere_99 rfl (R32.in (by decide)) (fun c99 => ?_) (fun c99 => ?_)
            · skip
              exact absurd c99 (by decide)
            · skip
              have hP9 : tkL b n (ln0 b n σ 3 (sk b n a) e) μ μ_14 := tkL_no (ln0_1 (Or.inr (by unfold tooL; omega))) (by omega) (((congrFun (hF14.at (by omega) (by omega)) _).trans ((congrFun (hF13.at (by omega) (by omega)) _).trans ((congrFun (hF9.at (by omega) (by omega)) _).trans hb_2))).trans (by rfl)) (((congrFun (hF14.at (by omega) (by omega)) _).trans ((congrFun (hF13.at (by omega) (by omega)) _).trans ((congrFun (hF9.at (by omega) (by omega)) _).trans h1_2))).trans (by rfl)) (((congrFun (hF14.at (by omega) (by omega)) _).trans ((congrFun (hF13.at (by omega) (by omega)) _).trans ((congrFun (hF9.at (by omega) (by omega)) _).trans (h2_2.trans rfl)))).trans (by exact hK.1))
              exact w_retV dX8_wideHere_102 rfl ⟨((hF14.wd (by omega) (by omega)).tr ((hF13.wd (by omega) (by omega)).tr ((hF9.wd (by omega) (by omega)).tr (hF2.wd (by omega) (by omega))))), (by exact hP9), (fun k h1 => ((congrFun (hF14.at (by omega) (by omega)) _).trans ((congrFun (hF13.at (by omega) (by omega)) _).trans ((congrFun (hF9.at (by omega) (by omega)) _).trans (hf_2 k (by omega)))))), (RTc.cg2 hR (fun o h1 => ((hF14.at (by omega) (by omega)).trans ((hF13.at (by omega) (by omega)).trans ((hF9.at (by omega) (by omega)).trans (hF2.at (by omega) (by omega)))))) (fun k h1 => ((congrFun (hF14.at (by omega) (by omega)) _).trans ((congrFun (hF13.at (by omega) (by omega)) _).trans ((congrFun (hF9.at (by omega) (by omega)) _).trans (hf_2 _ (by omega))))))), (by rw [(((congrFun (hF14.at (by omega) (by omega)) _).trans ((congrFun (hF13.at (by omega) (by omega)) _).trans ((congrFun (hF9.at (by omega) (by omega)) _).trans (hf_2 _ (by omega))))).trans (by rfl)), (((congrFun (hF14.at (by omega) (by omega)) _).trans ((congrFun (hF13.at (by omega) (by omega)) _).trans ((congrFun (hF9.at (by omega) (by omega)) _).trans (hf_2 _ (by omega))))).trans (by rfl))]; omega)⟩
          · skip
            exact absurd c74 (by decide)
    · skip
      exact absurd c21 (by decide)
  · skip
    have hn1 : ¬ ((3 : Int) = -1 ∨ tooL σ 3) := by unfold tooL; omega
    have hl9 : ln0 b n σ 3 (sk b n a) e = lWid b n σ e := by rw [ln0_b hn1 (by omega) (by omega), lBod_3]
    refine w_iconst dX8_wideHere_8 ?_
    refine w_goto (tgt := 13) dX8_wideHere_9 rfl ?_
    refine w_iconst dX8_wideHere_13 ?_
    refine w_callVV (o := 45) (ci := 8) (as := [(0, 1), (0, 1)]) (rest := []) (k := 0) fX8_wideHere_14 rfl rfl rfl rfl rfl rfl rfl rfl (Nat.le_of_ble_eq_true rfl) (s_X8_must_t X 1 1 μ (Or.inl hb) rfl) (fun μ_15 hμ15 => ?_)
    have hF15 := hμ15
    refine w_aload_n dX8_wideHere_17 rfl rfl (by first | decide | omega) ?_
    refine w_getIx (o := 45) (f := 43) (x := 0) fX8_wideHere_18 rfl rfl (Nat.le_of_ble_eq_true rfl) rfl ((congrFun (hF15.at (by omega) (by omega)) _).trans hb) ?_
    refine w_if_ne (tgt := 28) dX8_wideHere_21 rfl (R32.in (by decide)) (fun c21 => ?_) (fun c21 => ?_)
    · skip
      exact absurd c21 (by decide)
    · skip
      have h37c : μ_15 45 37 = e := ((congrFun (hF15.at (by omega) (by omega)) _).trans (by exact he))
      have hatc : 0 ≤ μ_15 45 37 ∧ μ_15 45 37 ≤ n := by rw [h37c]; exact hae
      refine w_aload_n dX8_wideHere_24 rfl rfl (by first | decide | omega) ?_
      refine w_callVV (o := 45) (ci := 8) (as := []) (rest := []) (k := 1) fX8_wideHere_25 rfl rfl rfl rfl rfl rfl rfl rfl (Nat.le_of_ble_eq_true rfl) (s_X8_advance X b n μ_15 (RTc.cg2 hR (fun o h1 => (hF15.at (by omega) (by omega))) (fun k h1 => (congrFun (hF15.at (by omega) (by omega)) _))) hatc) (fun μV hμV => ?_)
      obtain ⟨hFV, htk_V, hf_V, hR_V, hat_V⟩ := hμV
      rw [h37c] at htk_V
      have hrV := htk_V.r
      have hvV := htk_V.v hbb hae
      have hatV := htk_V.at hae
      refine w_aload_n dX8_wideHere_28 rfl rfl (by first | decide | omega) ?_
      refine w_aload_n dX8_wideHere_29 rfl rfl (by first | decide | omega) ?_
      refine w_getIx (o := 45) (f := 39) (x := μV 45 39) fX8_wideHere_30 rfl rfl (Nat.le_of_ble_eq_true rfl) rfl rfl ?_
      refine w_iconst dX8_wideHere_33 ?_
      refine w_icmp_ne (tgt := 41) dX8_wideHere_34 rfl (R32.in (by omega)) (R32.in (by decide)) (fun c34 => ?_) (fun c34 => ?_)
      · skip
        have hM2 := htk_V.n2 c34
        refine w_iconst dX8_wideHere_41 ?_
        refine w_iconst dX8_wideHere_42 ?_
        refine w_callVV (o := 45) (ci := 8) (as := [(0, 0), (0, 1)]) (rest := []) (k := 0) fX8_wideHere_43 rfl rfl rfl rfl rfl rfl rfl rfl (Nat.le_of_ble_eq_true rfl) (s_X8_must_f X 0 1 μV ((hf_V _ (by omega)).trans ((congrFun (hF15.at (by omega) (by omega)) _).trans hb)) rfl) (fun μ_17 hμ17 => ?_)
        obtain ⟨hF17, hb_17, h1_17, h2_17, hf_17⟩ := hμ17
        refine w_aload_n dX8_wideHere_46 rfl rfl (by first | decide | omega) ?_
        refine w_getIx (o := 45) (f := 40) (x := μV 45 40) fX8_wideHere_47 rfl rfl (Nat.le_of_ble_eq_true rfl) rfl (hf_17 _ (by omega)) ?_
        refine w_callSP (as := [(0, μV 45 40)]) (rest := []) (k := 0) fX8_wideHere_50 rfl rfl rfl rfl rfl (Nat.le_of_ble_eq_true rfl) (s_X8_kindOf X (μV 45 40) μ_17 (by first | omega | assumption)) ?_
        have hf18 := kdo_r (μV 45 40)
        refine w_istore_n (ls' := [(2, 45), (0, kdo (μV 45 40))]) dX8_wideHere_53 rfl (Nat.le_of_ble_eq_true rfl) rfl rfl ?_
        refine w_aload_n dX8_wideHere_54 rfl rfl (by first | decide | omega) ?_
        refine w_iload_n dX8_wideHere_55 rfl rfl ?_
        refine w_iconst dX8_wideHere_56 ?_
        refine w_icmp_eq (tgt := 64) dX8_wideHere_57 rfl (R32.in (by omega)) (R32.in (by decide)) (fun c57 => ?_) (fun c57 => ?_)
        · skip
          refine w_iconst dX8_wideHere_64 ?_
          refine w_iconst dX8_wideHere_65 ?_
          refine w_callVV (o := 45) (ci := 8) (as := [(0, 0), (0, 2)]) (rest := []) (k := 0) fX8_wideHere_66 rfl rfl rfl rfl rfl rfl rfl rfl (Nat.le_of_ble_eq_true rfl) (s_X8_must_b X 0 2 μ_17 hb_17) (fun μ_19 hμ19 => ?_)
          have hF19 := hμ19
          refine w_aload_n dX8_wideHere_69 rfl rfl (by first | decide | omega) ?_
          refine w_aload_n dX8_wideHere_70 rfl rfl (by first | decide | omega) ?_
          refine w_getIx (o := 45) (f := 43) (x := 1) fX8_wideHere_71 rfl rfl (Nat.le_of_ble_eq_true rfl) rfl ((congrFun (hF19.at (by omega) (by omega)) _).trans hb_17) ?_
          refine w_if_ne (tgt := 86) dX8_wideHere_74 rfl (R32.in (by decide)) (fun c74 => ?_) (fun c74 => ?_)
          · skip
            refine w_iconst dX8_wideHere_86 ?_
            refine w_goto (tgt := 91) dX8_wideHere_87 rfl ?_
            refine w_iconst dX8_wideHere_91 ?_
            refine w_callVV (o := 45) (ci := 8) (as := [(0, 1), (0, 3)]) (rest := []) (k := 0) fX8_wideHere_92 rfl rfl rfl rfl rfl rfl rfl rfl (Nat.le_of_ble_eq_true rfl) (s_X8_must_t X 1 3 μ_19 (Or.inr ((congrFun (hF19.at (by omega) (by omega)) _).trans hb_17)) rfl) (fun μ_20 hμ20 => ?_)
            have hF20 := hμ20
            refine w_aload_n dX8_wideHere_95 rfl rfl (by first | decide | omega) ?_
            refine w_getIx (o := 45) (f := 43) (x := 1) fX8_wideHere_96 rfl rfl (Nat.le_of_ble_eq_true rfl) rfl ((congrFun (hF20.at (by omega) (by omega)) _).trans ((congrFun (hF19.at (by omega) (by omega)) _).trans hb_17)) ?_
            refine w_if_eq (tgt := 103) dX8_wideHere_99 rfl (R32.in (by decide)) (fun c99 => ?_) (fun c99 => ?_)
            · skip
              exact absurd c99 (by decide)
            · skip
              have hP9 : tkL b n (ln0 b n σ 3 (sk b n a) e) μ μ_20 := tkL_no (by rw [hl9]; unfold lWid; rw [nK_1 hM2]; exact if_pos (show ¬ (1 : Int) = 0 by decide)) (by omega) (((congrFun (hF20.at (by omega) (by omega)) _).trans ((congrFun (hF19.at (by omega) (by omega)) _).trans hb_17)).trans (by rfl)) (((congrFun (hF20.at (by omega) (by omega)) _).trans ((congrFun (hF19.at (by omega) (by omega)) _).trans h1_17)).trans (by rfl)) (((congrFun (hF20.at (by omega) (by omega)) _).trans ((congrFun (hF19.at (by omega) (by omega)) _).trans (h2_17.trans rfl))).trans (by exact htk_V.1))
              exact w_retV dX8_wideHere_102 rfl ⟨((hF20.wd (by omega) (by omega)).tr ((hF19.wd (by omega) (by omega)).tr ((hF17.wd (by omega) (by omega)).tr ((hFV.wd (by omega) (by omega)).tr (hF15.wd (by omega) (by omega)))))), (by exact hP9), (fun k h1 => ((congrFun (hF20.at (by omega) (by omega)) _).trans ((congrFun (hF19.at (by omega) (by omega)) _).trans ((hf_17 k (by omega)).trans ((hf_V k (by omega)).trans (congrFun (hF15.at (by omega) (by omega)) _)))))), (RTc.cg2 hR_V (fun o h1 => ((hF20.at (by omega) (by omega)).trans ((hF19.at (by omega) (by omega)).trans (hF17.at (by omega) (by omega))))) (fun k h1 => ((congrFun (hF20.at (by omega) (by omega)) _).trans ((congrFun (hF19.at (by omega) (by omega)) _).trans (hf_17 _ (by omega)))))), (by rw [(((congrFun (hF20.at (by omega) (by omega)) _).trans ((congrFun (hF19.at (by omega) (by omega)) _).trans (hf_17 _ (by omega)))).trans (by rfl)), (((congrFun (hF20.at (by omega) (by omega)) _).trans ((congrFun (hF19.at (by omega) (by omega)) _).trans (hf_17 _ (by omega)))).trans (by rfl))]; omega)⟩
          · skip
            exact absurd c74 (by decide)
        · skip
          refine w_iconst dX8_wideHere_60 ?_
          refine w_goto (tgt := 65) dX8_wideHere_61 rfl ?_
          refine w_iconst dX8_wideHere_65 ?_
          refine w_callVV (o := 45) (ci := 8) (as := [(0, 1), (0, 2)]) (rest := []) (k := 0) fX8_wideHere_66 rfl rfl rfl rfl rfl rfl rfl rfl (Nat.le_of_ble_eq_true rfl) (s_X8_must_t X 1 2 μ_17 (Or.inr hb_17) rfl) (fun μ_21 hμ21 => ?_)
          have hF21 := hμ21
          refine w_aload_n dX8_wideHere_69 rfl rfl (by first | decide | omega) ?_
          refine w_aload_n dX8_wideHere_70 rfl rfl (by first | decide | omega) ?_
          refine w_getIx (o := 45) (f := 43) (x := 1) fX8_wideHere_71 rfl rfl (Nat.le_of_ble_eq_true rfl) rfl ((congrFun (hF21.at (by omega) (by omega)) _).trans hb_17) ?_
          refine w_if_ne (tgt := 86) dX8_wideHere_74 rfl (R32.in (by decide)) (fun c74 => ?_) (fun c74 => ?_)
          · skip
            refine w_iconst dX8_wideHere_86 ?_
            refine w_goto (tgt := 91) dX8_wideHere_87 rfl ?_
            refine w_iconst dX8_wideHere_91 ?_
            refine w_callVV (o := 45) (ci := 8) (as := [(0, 1), (0, 3)]) (rest := []) (k := 0) fX8_wideHere_92 rfl rfl rfl rfl rfl rfl rfl rfl (Nat.le_of_ble_eq_true rfl) (s_X8_must_t X 1 3 μ_21 (Or.inr ((congrFun (hF21.at (by omega) (by omega)) _).trans hb_17)) rfl) (fun μ_22 hμ22 => ?_)
            have hF22 := hμ22
            refine w_aload_n dX8_wideHere_95 rfl rfl (by first | decide | omega) ?_
            refine w_getIx (o := 45) (f := 43) (x := 1) fX8_wideHere_96 rfl rfl (Nat.le_of_ble_eq_true rfl) rfl ((congrFun (hF22.at (by omega) (by omega)) _).trans ((congrFun (hF21.at (by omega) (by omega)) _).trans hb_17)) ?_
            refine w_if_eq (tgt := 103) dX8_wideHere_99 rfl (R32.in (by decide)) (fun c99 => ?_) (fun c99 => ?_)
            · skip
              exact absurd c99 (by decide)
            · skip
              have hP9 : tkL b n (ln0 b n σ 3 (sk b n a) e) μ μ_22 := tkL_no (by rw [hl9]; unfold lWid; rw [nK_1 hM2]; exact if_pos (show ¬ (1 : Int) = 0 by decide)) (by omega) (((congrFun (hF22.at (by omega) (by omega)) _).trans ((congrFun (hF21.at (by omega) (by omega)) _).trans hb_17)).trans (by rfl)) (((congrFun (hF22.at (by omega) (by omega)) _).trans ((congrFun (hF21.at (by omega) (by omega)) _).trans h1_17)).trans (by rfl)) (((congrFun (hF22.at (by omega) (by omega)) _).trans ((congrFun (hF21.at (by omega) (by omega)) _).trans (h2_17.trans rfl))).trans (by exact htk_V.1))
              exact w_retV dX8_wideHere_102 rfl ⟨((hF22.wd (by omega) (by omega)).tr ((hF21.wd (by omega) (by omega)).tr ((hF17.wd (by omega) (by omega)).tr ((hFV.wd (by omega) (by omega)).tr (hF15.wd (by omega) (by omega)))))), (by exact hP9), (fun k h1 => ((congrFun (hF22.at (by omega) (by omega)) _).trans ((congrFun (hF21.at (by omega) (by omega)) _).trans ((hf_17 k (by omega)).trans ((hf_V k (by omega)).trans (congrFun (hF15.at (by omega) (by omega)) _)))))), (RTc.cg2 hR_V (fun o h1 => ((hF22.at (by omega) (by omega)).trans ((hF21.at (by omega) (by omega)).trans (hF17.at (by omega) (by omega))))) (fun k h1 => ((congrFun (hF22.at (by omega) (by omega)) _).trans ((congrFun (hF21.at (by omega) (by omega)) _).trans (hf_17 _ (by omega)))))), (by rw [(((congrFun (hF22.at (by omega) (by omega)) _).trans ((congrFun (hF21.at (by omega) (by omega)) _).trans (hf_17 _ (by omega)))).trans (by rfl)), (((congrFun (hF22.at (by omega) (by omega)) _).trans ((congrFun (hF21.at (by omega) (by omega)) _).trans (hf_17 _ (by omega)))).trans (by rfl))]; omega)⟩
          · skip
            exact absurd c74 (by decide)
      · skip
        have hM := htk_V.t2 c34 hae
        have hskM := sk_r b n e hae.2
        have hdeM := de_r b n (sk b n e) hskM.2
        refine w_iconst dX8_wideHere_37 ?_
        refine w_goto (tgt := 42) dX8_wideHere_38 rfl ?_
        refine w_iconst dX8_wideHere_42 ?_
        refine w_callVV (o := 45) (ci := 8) (as := [(0, 1), (0, 1)]) (rest := []) (k := 0) fX8_wideHere_43 rfl rfl rfl rfl rfl rfl rfl rfl (Nat.le_of_ble_eq_true rfl) (s_X8_must_t X 1 1 μV (Or.inl ((hf_V _ (by omega)).trans ((congrFun (hF15.at (by omega) (by omega)) _).trans hb))) rfl) (fun μ_23 hμ23 => ?_)
        have hF23 := hμ23
        refine w_aload_n dX8_wideHere_46 rfl rfl (by first | decide | omega) ?_
        refine w_getIx (o := 45) (f := 40) (x := μV 45 40) fX8_wideHere_47 rfl rfl (Nat.le_of_ble_eq_true rfl) rfl (congrFun (hF23.at (by omega) (by omega)) _) ?_
        refine w_callSP (as := [(0, μV 45 40)]) (rest := []) (k := 0) fX8_wideHere_50 rfl rfl rfl rfl rfl (Nat.le_of_ble_eq_true rfl) (s_X8_kindOf X (μV 45 40) μ_23 (by first | omega | assumption)) ?_
        have hf24 := kdo_r (μV 45 40)
        refine w_istore_n (ls' := [(2, 45), (0, kdo (μV 45 40))]) dX8_wideHere_53 rfl (Nat.le_of_ble_eq_true rfl) rfl rfl ?_
        refine w_aload_n dX8_wideHere_54 rfl rfl (by first | decide | omega) ?_
        refine w_iload_n dX8_wideHere_55 rfl rfl ?_
        refine w_iconst dX8_wideHere_56 ?_
        refine w_icmp_eq (tgt := 64) dX8_wideHere_57 rfl (R32.in (by omega)) (R32.in (by decide)) (fun c57 => ?_) (fun c57 => ?_)
        · skip
          have hk2 := nK_2 hM.1 (by have := hM.2.2; have := kdo_m c57; omega)
          refine w_iconst dX8_wideHere_64 ?_
          refine w_iconst dX8_wideHere_65 ?_
          refine w_callVV (o := 45) (ci := 8) (as := [(0, 0), (0, 2)]) (rest := []) (k := 0) fX8_wideHere_66 rfl rfl rfl rfl rfl rfl rfl rfl (Nat.le_of_ble_eq_true rfl) (s_X8_must_f X 0 2 μ_23 ((congrFun (hF23.at (by omega) (by omega)) _).trans ((hf_V _ (by omega)).trans ((congrFun (hF15.at (by omega) (by omega)) _).trans hb))) rfl) (fun μ_25 hμ25 => ?_)
          obtain ⟨hF25, hb_25, h1_25, h2_25, hf_25⟩ := hμ25
          refine w_aload_n dX8_wideHere_69 rfl rfl (by first | decide | omega) ?_
          refine w_aload_n dX8_wideHere_70 rfl rfl (by first | decide | omega) ?_
          refine w_getIx (o := 45) (f := 43) (x := 1) fX8_wideHere_71 rfl rfl (Nat.le_of_ble_eq_true rfl) rfl hb_25 ?_
          refine w_if_ne (tgt := 86) dX8_wideHere_74 rfl (R32.in (by decide)) (fun c74 => ?_) (fun c74 => ?_)
          · skip
            refine w_iconst dX8_wideHere_86 ?_
            refine w_goto (tgt := 91) dX8_wideHere_87 rfl ?_
            refine w_iconst dX8_wideHere_91 ?_
            refine w_callVV (o := 45) (ci := 8) (as := [(0, 1), (0, 3)]) (rest := []) (k := 0) fX8_wideHere_92 rfl rfl rfl rfl rfl rfl rfl rfl (Nat.le_of_ble_eq_true rfl) (s_X8_must_t X 1 3 μ_25 (Or.inr hb_25) rfl) (fun μ_26 hμ26 => ?_)
            have hF26 := hμ26
            refine w_aload_n dX8_wideHere_95 rfl rfl (by first | decide | omega) ?_
            refine w_getIx (o := 45) (f := 43) (x := 1) fX8_wideHere_96 rfl rfl (Nat.le_of_ble_eq_true rfl) rfl ((congrFun (hF26.at (by omega) (by omega)) _).trans hb_25) ?_
            refine w_if_eq (tgt := 103) dX8_wideHere_99 rfl (R32.in (by decide)) (fun c99 => ?_) (fun c99 => ?_)
            · skip
              exact absurd c99 (by decide)
            · skip
              have hP9 : tkL b n (ln0 b n σ 3 (sk b n a) e) μ μ_26 := tkL_no (by rw [hl9]; unfold lWid; rw [hk2]; exact if_pos (show ¬ (2 : Int) = 0 by decide)) (by omega) (((congrFun (hF26.at (by omega) (by omega)) _).trans hb_25).trans (by rfl)) (((congrFun (hF26.at (by omega) (by omega)) _).trans h1_25).trans (by rfl)) (((congrFun (hF26.at (by omega) (by omega)) _).trans (h2_25.trans (congrFun (hF23.at (by omega) (by omega)) _))).trans (by exact htk_V.1))
              exact w_retV dX8_wideHere_102 rfl ⟨((hF26.wd (by omega) (by omega)).tr ((hF25.wd (by omega) (by omega)).tr ((hF23.wd (by omega) (by omega)).tr ((hFV.wd (by omega) (by omega)).tr (hF15.wd (by omega) (by omega)))))), (by exact hP9), (fun k h1 => ((congrFun (hF26.at (by omega) (by omega)) _).trans ((hf_25 k (by omega)).trans ((congrFun (hF23.at (by omega) (by omega)) _).trans ((hf_V k (by omega)).trans (congrFun (hF15.at (by omega) (by omega)) _)))))), (RTc.cg2 hR_V (fun o h1 => ((hF26.at (by omega) (by omega)).trans ((hF25.at (by omega) (by omega)).trans (hF23.at (by omega) (by omega))))) (fun k h1 => ((congrFun (hF26.at (by omega) (by omega)) _).trans ((hf_25 _ (by omega)).trans (congrFun (hF23.at (by omega) (by omega)) _))))), (by rw [(((congrFun (hF26.at (by omega) (by omega)) _).trans ((hf_25 _ (by omega)).trans (congrFun (hF23.at (by omega) (by omega)) _))).trans (by rfl)), (((congrFun (hF26.at (by omega) (by omega)) _).trans ((hf_25 _ (by omega)).trans (congrFun (hF23.at (by omega) (by omega)) _))).trans (by rfl))]; omega)⟩
          · skip
            exact absurd c74 (by decide)
        · skip
          have hkp := kdo_p c57
          have hvq : μV 45 40 = nval b n e := by have := hM.2.2; omega
          have hk0 := nK_0 hM.1 (by have := hkp.1; omega)
          have hkr := kdo_r (μV 45 40)
          have hs8 := (hok.2.2.1 (kdo (μV 45 40)) (by omega) (by omega)).2
          refine w_iconst dX8_wideHere_60 ?_
          refine w_goto (tgt := 65) dX8_wideHere_61 rfl ?_
          refine w_iconst dX8_wideHere_65 ?_
          refine w_callVV (o := 45) (ci := 8) (as := [(0, 1), (0, 2)]) (rest := []) (k := 0) fX8_wideHere_66 rfl rfl rfl rfl rfl rfl rfl rfl (Nat.le_of_ble_eq_true rfl) (s_X8_must_t X 1 2 μ_23 (Or.inl ((congrFun (hF23.at (by omega) (by omega)) _).trans ((hf_V _ (by omega)).trans ((congrFun (hF15.at (by omega) (by omega)) _).trans hb)))) rfl) (fun μ_27 hμ27 => ?_)
          have hF27 := hμ27
          refine w_aload_n dX8_wideHere_69 rfl rfl (by first | decide | omega) ?_
          refine w_aload_n dX8_wideHere_70 rfl rfl (by first | decide | omega) ?_
          refine w_getIx (o := 45) (f := 43) (x := 0) fX8_wideHere_71 rfl rfl (Nat.le_of_ble_eq_true rfl) rfl ((congrFun (hF27.at (by omega) (by omega)) _).trans ((congrFun (hF23.at (by omega) (by omega)) _).trans ((hf_V _ (by omega)).trans ((congrFun (hF15.at (by omega) (by omega)) _).trans hb)))) ?_
          refine w_if_ne (tgt := 86) dX8_wideHere_74 rfl (R32.in (by decide)) (fun c74 => ?_) (fun c74 => ?_)
          · skip
            exact absurd c74 (by decide)
          · skip
            refine w_aload_n dX8_wideHere_77 rfl rfl (by first | decide | omega) ?_
            refine w_getR (o := 45) (x := 68) fX8_wideHere_78 rfl rfl rfl rfl ?_
            refine w_iload_n dX8_wideHere_81 rfl rfl ?_
            refine w_zaldx (o := 68) (n := 4) (x := σ 8 (kdo (μV 45 40))) dX8_wideHere_82 rfl rfl (Nat.le_of_ble_eq_true rfl) (by omega) ((congrFun (hF27.at (by omega) (by omega)) _).trans ((congrFun (hF23.at (by omega) (by omega)) _).trans ((congrFun (hFV.at (by omega) (by omega)) _).trans ((congrFun (hF15.at (by omega) (by omega)) _).trans (hP.hw (by omega)))))) ?_
            refine w_if_ne (tgt := 90) dX8_wideHere_83 rfl (R32.in (by omega)) (fun c83 => ?_) (fun c83 => ?_)
            · skip
              refine w_iconst dX8_wideHere_90 ?_
              refine w_iconst dX8_wideHere_91 ?_
              refine w_callVV (o := 45) (ci := 8) (as := [(0, 0), (0, 3)]) (rest := []) (k := 0) fX8_wideHere_92 rfl rfl rfl rfl rfl rfl rfl rfl (Nat.le_of_ble_eq_true rfl) (s_X8_must_f X 0 3 μ_27 ((congrFun (hF27.at (by omega) (by omega)) _).trans ((congrFun (hF23.at (by omega) (by omega)) _).trans ((hf_V _ (by omega)).trans ((congrFun (hF15.at (by omega) (by omega)) _).trans hb)))) rfl) (fun μ_28 hμ28 => ?_)
              obtain ⟨hF28, hb_28, h1_28, h2_28, hf_28⟩ := hμ28
              refine w_aload_n dX8_wideHere_95 rfl rfl (by first | decide | omega) ?_
              refine w_getIx (o := 45) (f := 43) (x := 1) fX8_wideHere_96 rfl rfl (Nat.le_of_ble_eq_true rfl) rfl hb_28 ?_
              refine w_if_eq (tgt := 103) dX8_wideHere_99 rfl (R32.in (by decide)) (fun c99 => ?_) (fun c99 => ?_)
              · skip
                exact absurd c99 (by decide)
              · skip
                have hP9 : tkL b n (ln0 b n σ 3 (sk b n a) e) μ μ_28 := tkL_no (by rw [hl9]; unfold lWid; rw [hk0]; exact (if_neg (show ¬ ¬ (0 : Int) = 0 by decide)).trans (if_pos (show ¬ σ 8 (bok (nval b n e)) = 0 by rw [← hvq, ← hkp.2]; exact c83))) (by omega) (hb_28.trans (by rfl)) (h1_28.trans (by rfl)) ((h2_28.trans ((congrFun (hF27.at (by omega) (by omega)) _).trans (congrFun (hF23.at (by omega) (by omega)) _))).trans (by exact htk_V.1))
                exact w_retV dX8_wideHere_102 rfl ⟨((hF28.wd (by omega) (by omega)).tr ((hF27.wd (by omega) (by omega)).tr ((hF23.wd (by omega) (by omega)).tr ((hFV.wd (by omega) (by omega)).tr (hF15.wd (by omega) (by omega)))))), (by exact hP9), (fun k h1 => ((hf_28 k (by omega)).trans ((congrFun (hF27.at (by omega) (by omega)) _).trans ((congrFun (hF23.at (by omega) (by omega)) _).trans ((hf_V k (by omega)).trans (congrFun (hF15.at (by omega) (by omega)) _)))))), (RTc.cg2 hR_V (fun o h1 => ((hF28.at (by omega) (by omega)).trans ((hF27.at (by omega) (by omega)).trans (hF23.at (by omega) (by omega))))) (fun k h1 => ((hf_28 _ (by omega)).trans ((congrFun (hF27.at (by omega) (by omega)) _).trans (congrFun (hF23.at (by omega) (by omega)) _))))), (by rw [(((hf_28 _ (by omega)).trans ((congrFun (hF27.at (by omega) (by omega)) _).trans (congrFun (hF23.at (by omega) (by omega)) _))).trans (by rfl)), (((hf_28 _ (by omega)).trans ((congrFun (hF27.at (by omega) (by omega)) _).trans (congrFun (hF23.at (by omega) (by omega)) _))).trans (by rfl))]; omega)⟩
            · skip
              refine w_iconst dX8_wideHere_86 ?_
              refine w_goto (tgt := 91) dX8_wideHere_87 rfl ?_
              refine w_iconst dX8_wideHere_91 ?_
              refine w_callVV (o := 45) (ci := 8) (as := [(0, 1), (0, 3)]) (rest := []) (k := 0) fX8_wideHere_92 rfl rfl rfl rfl rfl rfl rfl rfl (Nat.le_of_ble_eq_true rfl) (s_X8_must_t X 1 3 μ_27 (Or.inl ((congrFun (hF27.at (by omega) (by omega)) _).trans ((congrFun (hF23.at (by omega) (by omega)) _).trans ((hf_V _ (by omega)).trans ((congrFun (hF15.at (by omega) (by omega)) _).trans hb))))) rfl) (fun μ_29 hμ29 => ?_)
              have hF29 := hμ29
              refine w_aload_n dX8_wideHere_95 rfl rfl (by first | decide | omega) ?_
              refine w_getIx (o := 45) (f := 43) (x := 0) fX8_wideHere_96 rfl rfl (Nat.le_of_ble_eq_true rfl) rfl ((congrFun (hF29.at (by omega) (by omega)) _).trans ((congrFun (hF27.at (by omega) (by omega)) _).trans ((congrFun (hF23.at (by omega) (by omega)) _).trans ((hf_V _ (by omega)).trans ((congrFun (hF15.at (by omega) (by omega)) _).trans hb))))) ?_
              refine w_if_eq (tgt := 103) dX8_wideHere_99 rfl (R32.in (by decide)) (fun c99 => ?_) (fun c99 => ?_)
              · skip
                have h64V : μ_29 64 = μ 64 := ((hF29.at (by omega) (by omega)).trans ((hF27.at (by omega) (by omega)).trans ((hF23.at (by omega) (by omega)).trans ((hFV.at (by omega) (by omega)).trans (hF15.at (by omega) (by omega))))))
                have h68V : μ_29 68 = μ 68 := ((hF29.at (by omega) (by omega)).trans ((hF27.at (by omega) (by omega)).trans ((hF23.at (by omega) (by omega)).trans ((hFV.at (by omega) (by omega)).trans (hF15.at (by omega) (by omega))))))
                have h37w : μ_29 45 37 = μV 45 37 := (((congrFun (hF29.at (by omega) (by omega)) _).trans ((congrFun (hF27.at (by omega) (by omega)) _).trans (congrFun (hF23.at (by omega) (by omega)) _))).trans (by rfl))
                have hatw : 0 ≤ μ_29 45 37 ∧ μ_29 45 37 ≤ n := by rw [h37w]; exact hatV
                refine w_aload_n dX8_wideHere_103 rfl rfl (by first | decide | omega) ?_
                refine w_callVV (o := 45) (ci := 8) (as := []) (rest := []) (k := 1) fX8_wideHere_104 rfl rfl rfl rfl rfl rfl rfl rfl (Nat.le_of_ble_eq_true rfl) (s_X8_advance X b n μ_29 (RTc.cg2 hR_V (fun o h1 => ((hF29.at (by omega) (by omega)).trans ((hF27.at (by omega) (by omega)).trans (hF23.at (by omega) (by omega))))) (fun k h1 => ((congrFun (hF29.at (by omega) (by omega)) _).trans ((congrFun (hF27.at (by omega) (by omega)) _).trans (congrFun (hF23.at (by omega) (by omega)) _))))) hatw) (fun μW hμW => ?_)
                obtain ⟨hFW, htk_W, hf_W, hR_W, hat_W⟩ := hμW
                rw [h37w, hM.2.1] at htk_W
                have h41V : μW 45 41 = μ 45 41 := (((hf_W _ (by omega)).trans ((congrFun (hF29.at (by omega) (by omega)) _).trans ((congrFun (hF27.at (by omega) (by omega)) _).trans ((congrFun (hF23.at (by omega) (by omega)) _).trans ((hf_V _ (by omega)).trans (congrFun (hF15.at (by omega) (by omega)) _)))))).trans (by rfl))
                have h42V : μW 45 42 = μ 45 42 := (((hf_W _ (by omega)).trans ((congrFun (hF29.at (by omega) (by omega)) _).trans ((congrFun (hF27.at (by omega) (by omega)) _).trans ((congrFun (hF23.at (by omega) (by omega)) _).trans ((hf_V _ (by omega)).trans (congrFun (hF15.at (by omega) (by omega)) _)))))).trans (by rfl))
                refine w_aload_n dX8_wideHere_107 rfl rfl (by first | decide | omega) ?_
                refine w_getR (o := 45) (x := 64) fX8_wideHere_108 rfl rfl rfl rfl ?_
                refine w_iload_n dX8_wideHere_111 rfl rfl ?_
                refine w_aload_n dX8_wideHere_112 rfl rfl (by first | decide | omega) ?_
                refine w_iconst dX8_wideHere_113 ?_
                refine w_bipush dX8_wideHere_114 (by decide) ?_
                refine w_callVI (o := 45) (ci := 8) (as := [(0, 4), (0, 40)]) (rest := [(0, kdo (μV 45 40)), (2, 64)]) (k := 1) fX8_wideHere_116 rfl rfl rfl rfl rfl rfl rfl rfl (Nat.le_of_ble_eq_true rfl) (s_X8_numberHere X b n (de b n (sk b n e)) 4 40 μW hR_W (by first | omega | assumption) htk_W (by omega) ((hf_W _ (by omega)).trans ((congrFun (hF29.at (by omega) (by omega)) _).trans ((congrFun (hF27.at (by omega) (by omega)) _).trans ((congrFun (hF23.at (by omega) (by omega)) _).trans ((hf_V _ (by omega)).trans ((congrFun (hF15.at (by omega) (by omega)) _).trans hb)))))) (by decide)) (fun xN μN hμN => ?_)
                obtain ⟨hFN, hz_N, hf_N, hR_N, htr_N⟩ := hμN
                rcases hz_N with hN | hN
                · skip
                  have hKN := hN.2.2.2.1
                  have hrN := hKN.r
                  have hvN := hKN.v hbb hN.2.2.2.2.1
                  have hatN := hKN.at hN.2.2.2.2.1
                  have hw9 := nW_z hN.1
                  have hv1 : 4 ≤ (nW b n 4 40 (de b n (sk b n e))).2.2.1 ∧ (nW b n 4 40 (de b n (sk b n e))).2.2.1 ≤ 40 := by rw [hw9.2.2]; exact hw9.2.1
                  refine w_iast (o := 64) (n := 4) dX8_wideHere_119 rfl rfl (Nat.le_of_ble_eq_true rfl) (by omega) (by omega) ?_
                  refine w_aload_n dX8_wideHere_120 rfl rfl (by first | decide | omega) ?_
                  refine w_getR (o := 45) (x := 68) fX8_wideHere_121 rfl rfl rfl rfl ?_
                  refine w_iload_n dX8_wideHere_124 rfl rfl ?_
                  refine w_iconst dX8_wideHere_125 ?_
                  refine w_zast (o := 68) (n := 4) dX8_wideHere_126 rfl rfl (Nat.le_of_ble_eq_true rfl) (by omega) (by omega) (Or.inr rfl) ?_
                  have hP9 : tkL b n (ln0 b n σ 3 (sk b n a) e) μ (am_up (am_up μN 64 (kdo (μV 45 40)) xN) 68 (kdo (μV 45 40)) 1) := tkL_ok (by rw [hl9]; unfold lWid; rw [hk0]; exact (if_neg (show ¬ ¬ (0 : Int) = 0 by decide)).trans ((if_neg (show ¬ ¬ σ 8 (bok (nval b n e)) = 0 by rw [← hvq, ← hkp.2]; exact fun q9 => q9 c83)).trans (if_neg (fun q9 => q9 hN.1)))) (RPS_wd hP (by omega) (by rw [← hvq, ← hkp.2]; omega) hv1 (fun o h1 => ((am_up_o (by omega)).trans ((am_up_o (by omega)).trans ((hFN.at (by omega) (by omega)).trans ((hFW.at (by omega) (by omega)).trans ((hF29.at (by omega) (by omega)).trans ((hF27.at (by omega) (by omega)).trans ((hF23.at (by omega) (by omega)).trans ((hFV.at (by omega) (by omega)).trans (hF15.at (by omega) (by omega))))))))))) (fun o h1 => ((am_up_o (by omega)).trans ((am_up_o (by omega)).trans ((hFN.at (by omega) (by omega)).trans ((hFW.at (by omega) (by omega)).trans ((hF29.at (by omega) (by omega)).trans ((hF27.at (by omega) (by omega)).trans ((hF23.at (by omega) (by omega)).trans ((hFV.at (by omega) (by omega)).trans (hF15.at (by omega) (by omega))))))))))) (fun k h1 => ((congrFun (am_up_o (by omega)) _).trans ((congrFun (am_up_o (by omega)) _).trans ((hf_N k (by omega)).trans ((hf_W k (by omega)).trans ((congrFun (hF29.at (by omega) (by omega)) _).trans ((congrFun (hF27.at (by omega) (by omega)) _).trans ((congrFun (hF23.at (by omega) (by omega)) _).trans ((hf_V k (by omega)).trans (congrFun (hF15.at (by omega) (by omega)) _)))))))))) (fun j => (congrFun (am_up_o (by omega)) j).trans (up_if.trans (by rw [← hvq, ← hkp.2, hN.2.1]; exact ite_congr rfl (fun _ => rfl) (fun _ => congrFun ((hFN.at (by omega) (by omega)).trans ((hFW.at (by omega) (by omega)).trans h64V)) j)))) (fun j => up_if.trans (by rw [← hvq, ← hkp.2]; exact ite_congr rfl (fun _ => rfl) (fun _ => (congrFun (am_up_o (by omega)) j).trans (congrFun ((hFN.at (by omega) (by omega)).trans ((hFW.at (by omega) (by omega)).trans h68V)) j))))) (((congrFun (am_up_o (by first | decide | omega)) _).trans ((congrFun (am_up_o (by first | decide | omega)) _).trans hN.2.2.1)).trans (by rfl)) (hKN.cg (fun k h1 h2 => (congrFun (am_up_o (by omega)) k).trans (congrFun (am_up_o (by omega)) k))) hN.2.2.2.2.1 (((congrFun (am_up_o (by first | decide | omega)) _).trans ((congrFun (am_up_o (by first | decide | omega)) _).trans (hN.2.2.2.2.2.1.trans h41V))).trans (by rfl)) (((congrFun (am_up_o (by first | decide | omega)) _).trans ((congrFun (am_up_o (by first | decide | omega)) _).trans (hN.2.2.2.2.2.2.trans h42V))).trans (by rfl))
                  exact w_retV dX8_wideHere_127 rfl ⟨((((hFN.wd (by omega) (by omega)).tr ((hFW.wd (by omega) (by omega)).tr ((hF29.wd (by omega) (by omega)).tr ((hF27.wd (by omega) (by omega)).tr ((hF23.wd (by omega) (by omega)).tr ((hFV.wd (by omega) (by omega)).tr (hF15.wd (by omega) (by omega)))))))).up (by omega)).up (by omega)), (by exact hP9), (fun k h1 => ((congrFun (am_up_o (by omega)) _).trans ((congrFun (am_up_o (by omega)) _).trans ((hf_N k (by omega)).trans ((hf_W k (by omega)).trans ((congrFun (hF29.at (by omega) (by omega)) _).trans ((congrFun (hF27.at (by omega) (by omega)) _).trans ((congrFun (hF23.at (by omega) (by omega)) _).trans ((hf_V k (by omega)).trans (congrFun (hF15.at (by omega) (by omega)) _)))))))))), (RTc.cg2 hR_N (fun o h1 => ((am_up_o (by omega)).trans (am_up_o (by omega)))) (fun k h1 => ((congrFun (am_up_o (by omega)) _).trans (congrFun (am_up_o (by omega)) _)))), (by rw [(((congrFun (am_up_o (by first | decide | omega)) _).trans (congrFun (am_up_o (by first | decide | omega)) _)).trans (by rfl)), (((congrFun (am_up_o (by first | decide | omega)) _).trans (congrFun (am_up_o (by first | decide | omega)) _)).trans (by rfl))]; omega)⟩
                · skip
                  refine w_iast (o := 64) (n := 4) dX8_wideHere_119 rfl rfl (Nat.le_of_ble_eq_true rfl) (by omega) (by omega) ?_
                  refine w_aload_n dX8_wideHere_120 rfl rfl (by first | decide | omega) ?_
                  refine w_getR (o := 45) (x := 68) fX8_wideHere_121 rfl rfl rfl rfl ?_
                  refine w_iload_n dX8_wideHere_124 rfl rfl ?_
                  refine w_iconst dX8_wideHere_125 ?_
                  refine w_zast (o := 68) (n := 4) dX8_wideHere_126 rfl rfl (Nat.le_of_ble_eq_true rfl) (by omega) (by omega) (Or.inr rfl) ?_
                  have hP9 : tkL b n (ln0 b n σ 3 (sk b n a) e) μ (am_up (am_up μN 64 (kdo (μV 45 40)) xN) 68 (kdo (μV 45 40)) 1) := tkL_no (by rw [hl9]; unfold lWid; rw [hk0]; exact (if_neg (show ¬ ¬ (0 : Int) = 0 by decide)).trans ((if_neg (show ¬ ¬ σ 8 (bok (nval b n e)) = 0 by rw [← hvq, ← hkp.2]; exact fun q9 => q9 c83)).trans (if_pos hN.1))) hN.1 (((congrFun (am_up_o (by first | decide | omega)) _).trans ((congrFun (am_up_o (by first | decide | omega)) _).trans hN.2.1)).trans (by rfl)) (((congrFun (am_up_o (by first | decide | omega)) _).trans ((congrFun (am_up_o (by first | decide | omega)) _).trans hN.2.2.1)).trans (by rfl)) (((congrFun (am_up_o (by first | decide | omega)) _).trans ((congrFun (am_up_o (by first | decide | omega)) _).trans hN.2.2.2)).trans (by rfl))
                  exact w_retV dX8_wideHere_127 rfl ⟨((((hFN.wd (by omega) (by omega)).tr ((hFW.wd (by omega) (by omega)).tr ((hF29.wd (by omega) (by omega)).tr ((hF27.wd (by omega) (by omega)).tr ((hF23.wd (by omega) (by omega)).tr ((hFV.wd (by omega) (by omega)).tr (hF15.wd (by omega) (by omega)))))))).up (by omega)).up (by omega)), (by exact hP9), (fun k h1 => ((congrFun (am_up_o (by omega)) _).trans ((congrFun (am_up_o (by omega)) _).trans ((hf_N k (by omega)).trans ((hf_W k (by omega)).trans ((congrFun (hF29.at (by omega) (by omega)) _).trans ((congrFun (hF27.at (by omega) (by omega)) _).trans ((congrFun (hF23.at (by omega) (by omega)) _).trans ((hf_V k (by omega)).trans (congrFun (hF15.at (by omega) (by omega)) _)))))))))), (RTc.cg2 hR_N (fun o h1 => ((am_up_o (by omega)).trans (am_up_o (by omega)))) (fun k h1 => ((congrFun (am_up_o (by omega)) _).trans (congrFun (am_up_o (by omega)) _)))), (by rw [(((congrFun (am_up_o (by first | decide | omega)) _).trans (congrFun (am_up_o (by first | decide | omega)) _)).trans (by rfl)), (((congrFun (am_up_o (by first | decide | omega)) _).trans (congrFun (am_up_o (by first | decide | omega)) _)).trans (by rfl))]; omega)⟩
              · skip
                exact absurd c99 (by decide)
