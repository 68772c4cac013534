set_option maxRecDepth 100000 in
set_option maxHeartbeats 4000000 in
theorem s_X8_splitHere (X : AX) (b : Int → Int) (n : Int) (σ : Mu) (a : Int) (e : Int) (μ : Mu) (hR : RTc b n μ) (hP : RPS σ μ) (hK : TK b n (sk b n a) μ) (ha : 0 ≤ a ∧ a ≤ n) (he : μ 45 37 = e) (hae : 0 ≤ e ∧ e ≤ n) (hb : μ 45 43 = 0) : Wp (GG X) M_X8_splitHere 0 [(2, 45), (9, 0), (9, 0)] [] μ (qV fun μ' => (Fr 45 45 63 68 μ' μ) ∧ (tkL b n (ln0 b n σ 1 (sk b n a) e) μ μ') ∧ (∀ k9 : Int, (¬ k9 = 37 ∧ ¬ k9 = 38 ∧ ¬ k9 = 39 ∧ ¬ k9 = 40 ∧ ¬ k9 = 41 ∧ ¬ k9 = 42 ∧ ¬ k9 = 43 ∧ ¬ k9 = 44 ∧ ¬ k9 = 45 ∧ ¬ k9 = 46 ∧ ¬ k9 = 47 ∧ ¬ k9 = 48 ∧ ¬ k9 = 49 ∧ ¬ k9 = 50 ∧ ¬ k9 = 51 ∧ ¬ k9 = 52 ∧ ¬ k9 = 53 ∧ ¬ k9 = 54 ∧ ¬ k9 = 55 ∧ ¬ k9 = 56 ∧ ¬ k9 = 57) → μ' 45 k9 = μ 45 k9) ∧ (RTc b n μ') ∧ ((0 ≤ μ' 45 39 ∧ μ' 45 39 ≤ 4) ∧ (-1 ≤ μ' 45 40 ∧ μ' 45 40 < 1073741824))) := by
  have hn := hR.n
  have hbb := hR.bb
  have hr39 := hK.r
  have hr40 := hK.v hbb ha
  have hok := hP.ok
  have h00 := hok.1.1
  have h05 := hok.1.2.2.2.2.2.1
  have hskr := sk_r b n a ha.2
  have hbt9 := hok.1.2.2.1
  refine w_aload_n dX8_splitHere_0 rfl rfl (by first | decide | omega) ?_
  refine w_aload_n dX8_splitHere_1 rfl rfl (by first | decide | omega) ?_
  refine w_getIx (o := 45) (f := 50) (x := σ 0 0) fX8_splitHere_2 rfl rfl (Nat.le_of_ble_eq_true rfl) rfl hP.el ?_
  have hr1 := hP.ok.1.1
  refine w_if_ne (tgt := 12) dX8_splitHere_5 rfl (R32.in (by omega)) (fun c5 => ?_) (fun c5 => ?_)
  · skip
    refine w_iconst dX8_splitHere_12 ?_
    refine w_iconst dX8_splitHere_13 ?_
    refine w_callVV (o := 45) (ci := 8) (as := [(0, 0), (0, 1)]) (rest := []) (k := 0) fX8_splitHere_14 rfl rfl rfl rfl rfl rfl rfl rfl (Nat.le_of_ble_eq_true rfl) (s_X8_must_f X 0 1 μ hb rfl) (fun μ_2 hμ2 => ?_)
    obtain ⟨hF2, hb_2, h1_2, h2_2, hf_2⟩ := hμ2
    refine w_aload_n dX8_splitHere_17 rfl rfl (by first | decide | omega) ?_
    refine w_aload_n dX8_splitHere_18 rfl rfl (by first | decide | omega) ?_
    refine w_getIx (o := 45) (f := 47) (x := σ 0 5) fX8_splitHere_19 rfl rfl (Nat.le_of_ble_eq_true rfl) rfl ((hf_2 _ (by omega)).trans hP.pm) ?_
    have hr3 := hP.ok.1.2.2.2.2.2.1
    refine w_if_ne (tgt := 29) dX8_splitHere_22 rfl (R32.in (by omega)) (fun c22 => ?_) (fun c22 => ?_)
    · skip
      have htl : tldS σ 1 = (if 0 < σ 0 5 then 1 else 0) := by unfold tldS; first | rfl | (rw [if_neg (by omega), if_pos rfl]) | (rw [if_neg (by omega), if_neg (by omega)])
      refine w_iconst dX8_splitHere_29 ?_
      refine w_iconst dX8_splitHere_30 ?_
      refine w_callVV (o := 45) (ci := 8) (as := [(0, 0), (0, 3)]) (rest := []) (k := 0) fX8_splitHere_31 rfl rfl rfl rfl rfl rfl rfl rfl (Nat.le_of_ble_eq_true rfl) (s_X8_must_b X 0 3 μ_2 hb_2) (fun μ_4 hμ4 => ?_)
      have hF4 := hμ4
      refine w_aload_n dX8_splitHere_34 rfl rfl (by first | decide | omega) ?_
      refine w_getIx (o := 45) (f := 43) (x := 1) fX8_splitHere_35 rfl rfl (Nat.le_of_ble_eq_true rfl) rfl ((congrFun (hF4.at (by omega) (by omega)) _).trans hb_2) ?_
      refine w_if_ne (tgt := 45) dX8_splitHere_38 rfl (R32.in (by decide)) (fun c38 => ?_) (fun c38 => ?_)
      · skip
        refine w_aload_n dX8_splitHere_45 rfl rfl (by first | decide | omega) ?_
        refine w_aload_n dX8_splitHere_46 rfl rfl (by first | decide | omega) ?_
        refine w_getIx (o := 45) (f := 39) (x := μ 45 39) fX8_splitHere_47 rfl rfl (Nat.le_of_ble_eq_true rfl) rfl ((congrFun (hF4.at (by omega) (by omega)) _).trans (hf_2 _ (by omega))) ?_
        refine w_iconst dX8_splitHere_50 ?_
        refine w_icmp_ne (tgt := 58) dX8_splitHere_51 rfl (R32.in (by omega)) (R32.in (by decide)) (fun c51 => ?_) (fun c51 => ?_)
        · skip
          refine w_iconst dX8_splitHere_58 ?_
          refine w_iconst dX8_splitHere_59 ?_
          refine w_callVV (o := 45) (ci := 8) (as := [(0, 0), (0, 1)]) (rest := []) (k := 0) fX8_splitHere_60 rfl rfl rfl rfl rfl rfl rfl rfl (Nat.le_of_ble_eq_true rfl) (s_X8_must_b X 0 1 μ_4 ((congrFun (hF4.at (by omega) (by omega)) _).trans hb_2)) (fun μZ0 hμZ0 => ?_)
          have hFZ0 := hμZ0
          refine w_iconst dX8_splitHere_63 ?_
          refine w_istore_n (ls' := [(2, 45), (0, 0), (9, 0)]) dX8_splitHere_64 rfl (Nat.le_of_ble_eq_true rfl) rfl rfl ?_
          refine w_iconst dX8_splitHere_65 ?_
          refine w_istore_n (ls' := [(2, 45), (0, 0), (0, 0)]) dX8_splitHere_66 rfl (Nat.le_of_ble_eq_true rfl) rfl rfl ?_
          refine w_aload_n dX8_splitHere_67 rfl rfl (by first | decide | omega) ?_
          refine w_getIx (o := 45) (f := 43) (x := 1) fX8_splitHere_68 rfl rfl (Nat.le_of_ble_eq_true rfl) rfl ((congrFun (hFZ0.at (by omega) (by omega)) _).trans ((congrFun (hF4.at (by omega) (by omega)) _).trans hb_2)) ?_
          refine w_if_ne (tgt := 159) dX8_splitHere_71 rfl (R32.in (by decide)) (fun c71 => ?_) (fun c71 => ?_)
          · skip
            refine w_aload_n dX8_splitHere_159 rfl rfl (by first | decide | omega) ?_
            refine w_aload_n dX8_splitHere_160 rfl rfl (by first | decide | omega) ?_
            refine w_bipush dX8_splitHere_161 (by decide) ?_
            refine w_callVP (o := 45) (ci := 8) (as := [(0, 59)]) (rest := [(2, 45)]) (k := 0) fX8_splitHere_163 rfl rfl rfl rfl rfl rfl rfl rfl (Nat.le_of_ble_eq_true rfl) (s_X8_isMark X 59 μZ0 (by rw [((congrFun (hFZ0.at (by omega) (by omega)) _).trans ((congrFun (hF4.at (by omega) (by omega)) _).trans (hf_2 _ (by omega))))]; omega) (by rw [((congrFun (hFZ0.at (by omega) (by omega)) _).trans ((congrFun (hF4.at (by omega) (by omega)) _).trans (hf_2 _ (by omega))))]; omega) (by decide)) ?_
            have hf6 := am_b_r (μZ0 45 39 = 3 ∧ μZ0 45 40 = 59)
            refine w_if_eq (tgt := 177) dX8_splitHere_166 rfl (R32.in (by have := am_b_r ((μZ0 45 39 = 3 ∧ μZ0 45 40 = 59)); omega)) (fun c166 => ?_) (fun c166 => ?_)
            · skip
              replace c166 := am_b0 c166
              refine w_iconst dX8_splitHere_177 ?_
              refine w_goto (tgt := 182) dX8_splitHere_178 rfl ?_
              refine w_iconst dX8_splitHere_182 ?_
              refine w_callVV (o := 45) (ci := 8) (as := [(0, 1), (0, 5)]) (rest := []) (k := 0) fX8_splitHere_183 rfl rfl rfl rfl rfl rfl rfl rfl (Nat.le_of_ble_eq_true rfl) (s_X8_must_t X 1 5 μZ0 (Or.inr ((congrFun (hFZ0.at (by omega) (by omega)) _).trans ((congrFun (hF4.at (by omega) (by omega)) _).trans hb_2))) rfl) (fun μZ hμZ => ?_)
              have hFZ := hμZ
              refine w_aload_n dX8_splitHere_186 rfl rfl (by first | decide | omega) ?_
              refine w_iload_n dX8_splitHere_187 rfl rfl ?_
              refine w_putI (o := 45) (f := 47) fX8_splitHere_188 rfl rfl rfl rfl rfl ?_
              have hP9 : tkL b n (ln0 b n σ 1 (sk b n a) e) μ (am_up μZ 45 47 0) := tkL_no (ln0_1 (Or.inr (by unfold tooL; omega))) (by omega) (((am_up_nk (by omega)).trans ((congrFun (hFZ.at (by omega) (by omega)) _).trans ((congrFun (hFZ0.at (by omega) (by omega)) _).trans ((congrFun (hF4.at (by omega) (by omega)) _).trans hb_2)))).trans (by rfl)) (((am_up_nk (by omega)).trans ((congrFun (hFZ.at (by omega) (by omega)) _).trans ((congrFun (hFZ0.at (by omega) (by omega)) _).trans ((congrFun (hF4.at (by omega) (by omega)) _).trans h1_2)))).trans (by rfl)) (((am_up_nk (by omega)).trans ((congrFun (hFZ.at (by omega) (by omega)) _).trans ((congrFun (hFZ0.at (by omega) (by omega)) _).trans ((congrFun (hF4.at (by omega) (by omega)) _).trans (h2_2.trans rfl))))).trans (by exact hK.1))
              exact w_retV dX8_splitHere_191 rfl ⟨(((hFZ.wd (by omega) (by omega)).tr ((hFZ0.wd (by omega) (by omega)).tr ((hF4.wd (by omega) (by omega)).tr (hF2.wd (by omega) (by omega))))).up (by omega)), (by exact hP9), (fun k h1 => ((am_up_nk (by omega)).trans ((congrFun (hFZ.at (by omega) (by omega)) _).trans ((congrFun (hFZ0.at (by omega) (by omega)) _).trans ((congrFun (hF4.at (by omega) (by omega)) _).trans (hf_2 k (by omega))))))), (RTc.cg2 hR (fun o h1 => ((am_up_o (by omega)).trans ((hFZ.at (by omega) (by omega)).trans ((hFZ0.at (by omega) (by omega)).trans ((hF4.at (by omega) (by omega)).trans (hF2.at (by omega) (by omega))))))) (fun k h1 => ((am_up_nk (by omega)).trans ((congrFun (hFZ.at (by omega) (by omega)) _).trans ((congrFun (hFZ0.at (by omega) (by omega)) _).trans ((congrFun (hF4.at (by omega) (by omega)) _).trans (hf_2 _ (by omega)))))))), (by rw [(((am_up_nk (by omega)).trans ((congrFun (hFZ.at (by omega) (by omega)) _).trans ((congrFun (hFZ0.at (by omega) (by omega)) _).trans ((congrFun (hF4.at (by omega) (by omega)) _).trans (hf_2 _ (by omega)))))).trans (by rfl)), (((am_up_nk (by omega)).trans ((congrFun (hFZ.at (by omega) (by omega)) _).trans ((congrFun (hFZ0.at (by omega) (by omega)) _).trans ((congrFun (hF4.at (by omega) (by omega)) _).trans (hf_2 _ (by omega)))))).trans (by rfl))]; omega)⟩
            · skip
              replace c166 := am_b1 c166
              refine w_iload_n dX8_splitHere_169 rfl rfl ?_
              refine w_aload_n dX8_splitHere_170 rfl rfl (by first | decide | omega) ?_
              refine w_getIx (o := 45) (f := 44) (x := σ 0 2) fX8_splitHere_171 rfl rfl (Nat.le_of_ble_eq_true rfl) rfl ((congrFun (hFZ0.at (by omega) (by omega)) _).trans ((congrFun (hF4.at (by omega) (by omega)) _).trans ((hf_2 _ (by omega)).trans hP.bt))) ?_
              have hr8 := hP.ok.1.2.2.1
              refine w_icmp_ne (tgt := 181) dX8_splitHere_174 rfl (R32.in (by decide)) (R32.in (by omega)) (fun c174 => ?_) (fun c174 => ?_)
              · skip
                refine w_iconst dX8_splitHere_181 ?_
                refine w_iconst dX8_splitHere_182 ?_
                refine w_callVV (o := 45) (ci := 8) (as := [(0, 0), (0, 5)]) (rest := []) (k := 0) fX8_splitHere_183 rfl rfl rfl rfl rfl rfl rfl rfl (Nat.le_of_ble_eq_true rfl) (s_X8_must_b X 0 5 μZ0 ((congrFun (hFZ0.at (by omega) (by omega)) _).trans ((congrFun (hF4.at (by omega) (by omega)) _).trans hb_2))) (fun μZ hμZ => ?_)
                have hFZ := hμZ
                refine w_aload_n dX8_splitHere_186 rfl rfl (by first | decide | omega) ?_
                refine w_iload_n dX8_splitHere_187 rfl rfl ?_
                refine w_putI (o := 45) (f := 47) fX8_splitHere_188 rfl rfl rfl rfl rfl ?_
                have hP9 : tkL b n (ln0 b n σ 1 (sk b n a) e) μ (am_up μZ 45 47 0) := tkL_no (ln0_1 (Or.inr (by unfold tooL; omega))) (by omega) (((am_up_nk (by omega)).trans ((congrFun (hFZ.at (by omega) (by omega)) _).trans ((congrFun (hFZ0.at (by omega) (by omega)) _).trans ((congrFun (hF4.at (by omega) (by omega)) _).trans hb_2)))).trans (by rfl)) (((am_up_nk (by omega)).trans ((congrFun (hFZ.at (by omega) (by omega)) _).trans ((congrFun (hFZ0.at (by omega) (by omega)) _).trans ((congrFun (hF4.at (by omega) (by omega)) _).trans h1_2)))).trans (by rfl)) (((am_up_nk (by omega)).trans ((congrFun (hFZ.at (by omega) (by omega)) _).trans ((congrFun (hFZ0.at (by omega) (by omega)) _).trans ((congrFun (hF4.at (by omega) (by omega)) _).trans (h2_2.trans rfl))))).trans (by exact hK.1))
                exact w_retV dX8_splitHere_191 rfl ⟨(((hFZ.wd (by omega) (by omega)).tr ((hFZ0.wd (by omega) (by omega)).tr ((hF4.wd (by omega) (by omega)).tr (hF2.wd (by omega) (by omega))))).up (by omega)), (by exact hP9), (fun k h1 => ((am_up_nk (by omega)).trans ((congrFun (hFZ.at (by omega) (by omega)) _).trans ((congrFun (hFZ0.at (by omega) (by omega)) _).trans ((congrFun (hF4.at (by omega) (by omega)) _).trans (hf_2 k (by omega))))))), (RTc.cg2 hR (fun o h1 => ((am_up_o (by omega)).trans ((hFZ.at (by omega) (by omega)).trans ((hFZ0.at (by omega) (by omega)).trans ((hF4.at (by omega) (by omega)).trans (hF2.at (by omega) (by omega))))))) (fun k h1 => ((am_up_nk (by omega)).trans ((congrFun (hFZ.at (by omega) (by omega)) _).trans ((congrFun (hFZ0.at (by omega) (by omega)) _).trans ((congrFun (hF4.at (by omega) (by omega)) _).trans (hf_2 _ (by omega)))))))), (by rw [(((am_up_nk (by omega)).trans ((congrFun (hFZ.at (by omega) (by omega)) _).trans ((congrFun (hFZ0.at (by omega) (by omega)) _).trans ((congrFun (hF4.at (by omega) (by omega)) _).trans (hf_2 _ (by omega)))))).trans (by rfl)), (((am_up_nk (by omega)).trans ((congrFun (hFZ.at (by omega) (by omega)) _).trans ((congrFun (hFZ0.at (by omega) (by omega)) _).trans ((congrFun (hF4.at (by omega) (by omega)) _).trans (hf_2 _ (by omega)))))).trans (by rfl))]; omega)⟩
              · skip
                refine w_iconst dX8_splitHere_177 ?_
                refine w_goto (tgt := 182) dX8_splitHere_178 rfl ?_
                refine w_iconst dX8_splitHere_182 ?_
                refine w_callVV (o := 45) (ci := 8) (as := [(0, 1), (0, 5)]) (rest := []) (k := 0) fX8_splitHere_183 rfl rfl rfl rfl rfl rfl rfl rfl (Nat.le_of_ble_eq_true rfl) (s_X8_must_t X 1 5 μZ0 (Or.inr ((congrFun (hFZ0.at (by omega) (by omega)) _).trans ((congrFun (hF4.at (by omega) (by omega)) _).trans hb_2))) rfl) (fun μZ hμZ => ?_)
                have hFZ := hμZ
                refine w_aload_n dX8_splitHere_186 rfl rfl (by first | decide | omega) ?_
                refine w_iload_n dX8_splitHere_187 rfl rfl ?_
                refine w_putI (o := 45) (f := 47) fX8_splitHere_188 rfl rfl rfl rfl rfl ?_
                have hP9 : tkL b n (ln0 b n σ 1 (sk b n a) e) μ (am_up μZ 45 47 0) := tkL_no (ln0_1 (Or.inr (by unfold tooL; omega))) (by omega) (((am_up_nk (by omega)).trans ((congrFun (hFZ.at (by omega) (by omega)) _).trans ((congrFun (hFZ0.at (by omega) (by omega)) _).trans ((congrFun (hF4.at (by omega) (by omega)) _).trans hb_2)))).trans (by rfl)) (((am_up_nk (by omega)).trans ((congrFun (hFZ.at (by omega) (by omega)) _).trans ((congrFun (hFZ0.at (by omega) (by omega)) _).trans ((congrFun (hF4.at (by omega) (by omega)) _).trans h1_2)))).trans (by rfl)) (((am_up_nk (by omega)).trans ((congrFun (hFZ.at (by omega) (by omega)) _).trans ((congrFun (hFZ0.at (by omega) (by omega)) _).trans ((congrFun (hF4.at (by omega) (by omega)) _).trans (h2_2.trans rfl))))).trans (by exact hK.1))
                exact w_retV dX8_splitHere_191 rfl ⟨(((hFZ.wd (by omega) (by omega)).tr ((hFZ0.wd (by omega) (by omega)).tr ((hF4.wd (by omega) (by omega)).tr (hF2.wd (by omega) (by omega))))).up (by omega)), (by exact hP9), (fun k h1 => ((am_up_nk (by omega)).trans ((congrFun (hFZ.at (by omega) (by omega)) _).trans ((congrFun (hFZ0.at (by omega) (by omega)) _).trans ((congrFun (hF4.at (by omega) (by omega)) _).trans (hf_2 k (by omega))))))), (RTc.cg2 hR (fun o h1 => ((am_up_o (by omega)).trans ((hFZ.at (by omega) (by omega)).trans ((hFZ0.at (by omega) (by omega)).trans ((hF4.at (by omega) (by omega)).trans (hF2.at (by omega) (by omega))))))) (fun k h1 => ((am_up_nk (by omega)).trans ((congrFun (hFZ.at (by omega) (by omega)) _).trans ((congrFun (hFZ0.at (by omega) (by omega)) _).trans ((congrFun (hF4.at (by omega) (by omega)) _).trans (hf_2 _ (by omega)))))))), (by rw [(((am_up_nk (by omega)).trans ((congrFun (hFZ.at (by omega) (by omega)) _).trans ((congrFun (hFZ0.at (by omega) (by omega)) _).trans ((congrFun (hF4.at (by omega) (by omega)) _).trans (hf_2 _ (by omega)))))).trans (by rfl)), (((am_up_nk (by omega)).trans ((congrFun (hFZ.at (by omega) (by omega)) _).trans ((congrFun (hFZ0.at (by omega) (by omega)) _).trans ((congrFun (hF4.at (by omega) (by omega)) _).trans (hf_2 _ (by omega)))))).trans (by rfl))]; omega)⟩
          · skip
            exact absurd c71 (by decide)
        · skip
          refine w_iconst dX8_splitHere_54 ?_
          refine w_goto (tgt := 59) dX8_splitHere_55 rfl ?_
          refine w_iconst dX8_splitHere_59 ?_
          refine w_callVV (o := 45) (ci := 8) (as := [(0, 1), (0, 1)]) (rest := []) (k := 0) fX8_splitHere_60 rfl rfl rfl rfl rfl rfl rfl rfl (Nat.le_of_ble_eq_true rfl) (s_X8_must_t X 1 1 μ_4 (Or.inr ((congrFun (hF4.at (by omega) (by omega)) _).trans hb_2)) rfl) (fun μZ0 hμZ0 => ?_)
          have hFZ0 := hμZ0
          refine w_iconst dX8_splitHere_63 ?_
          refine w_istore_n (ls' := [(2, 45), (0, 0), (9, 0)]) dX8_splitHere_64 rfl (Nat.le_of_ble_eq_true rfl) rfl rfl ?_
          refine w_iconst dX8_splitHere_65 ?_
          refine w_istore_n (ls' := [(2, 45), (0, 0), (0, 0)]) dX8_splitHere_66 rfl (Nat.le_of_ble_eq_true rfl) rfl rfl ?_
          refine w_aload_n dX8_splitHere_67 rfl rfl (by first | decide | omega) ?_
          refine w_getIx (o := 45) (f := 43) (x := 1) fX8_splitHere_68 rfl rfl (Nat.le_of_ble_eq_true rfl) rfl ((congrFun (hFZ0.at (by omega) (by omega)) _).trans ((congrFun (hF4.at (by omega) (by omega)) _).trans hb_2)) ?_
          refine w_if_ne (tgt := 159) dX8_splitHere_71 rfl (R32.in (by decide)) (fun c71 => ?_) (fun c71 => ?_)
          · skip
            refine w_aload_n dX8_splitHere_159 rfl rfl (by first | decide | omega) ?_
            refine w_aload_n dX8_splitHere_160 rfl rfl (by first | decide | omega) ?_
            refine w_bipush dX8_splitHere_161 (by decide) ?_
            refine w_callVP (o := 45) (ci := 8) (as := [(0, 59)]) (rest := [(2, 45)]) (k := 0) fX8_splitHere_163 rfl rfl rfl rfl rfl rfl rfl rfl (Nat.le_of_ble_eq_true rfl) (s_X8_isMark X 59 μZ0 (by rw [((congrFun (hFZ0.at (by omega) (by omega)) _).trans ((congrFun (hF4.at (by omega) (by omega)) _).trans (hf_2 _ (by omega))))]; omega) (by rw [((congrFun (hFZ0.at (by omega) (by omega)) _).trans ((congrFun (hF4.at (by omega) (by omega)) _).trans (hf_2 _ (by omega))))]; omega) (by decide)) ?_
            have hf12 := am_b_r (μZ0 45 39 = 3 ∧ μZ0 45 40 = 59)
            refine w_if_eq (tgt := 177) dX8_splitHere_166 rfl (R32.in (by have := am_b_r ((μZ0 45 39 = 3 ∧ μZ0 45 40 = 59)); omega)) (fun c166 => ?_) (fun c166 => ?_)
            · skip
              replace c166 := am_b0 c166
              refine w_iconst dX8_splitHere_177 ?_
              refine w_goto (tgt := 182) dX8_splitHere_178 rfl ?_
              refine w_iconst dX8_splitHere_182 ?_
              refine w_callVV (o := 45) (ci := 8) (as := [(0, 1), (0, 5)]) (rest := []) (k := 0) fX8_splitHere_183 rfl rfl rfl rfl rfl rfl rfl rfl (Nat.le_of_ble_eq_true rfl) (s_X8_must_t X 1 5 μZ0 (Or.inr ((congrFun (hFZ0.at (by omega) (by omega)) _).trans ((congrFun (hF4.at (by omega) (by omega)) _).trans hb_2))) rfl) (fun μZ hμZ => ?_)
              have hFZ := hμZ
              refine w_aload_n dX8_splitHere_186 rfl rfl (by first | decide | omega) ?_
              refine w_iload_n dX8_splitHere_187 rfl rfl ?_
              refine w_putI (o := 45) (f := 47) fX8_splitHere_188 rfl rfl rfl rfl rfl ?_
              have hP9 : tkL b n (ln0 b n σ 1 (sk b n a) e) μ (am_up μZ 45 47 0) := tkL_no (ln0_1 (Or.inr (by unfold tooL; omega))) (by omega) (((am_up_nk (by omega)).trans ((congrFun (hFZ.at (by omega) (by omega)) _).trans ((congrFun (hFZ0.at (by omega) (by omega)) _).trans ((congrFun (hF4.at (by omega) (by omega)) _).trans hb_2)))).trans (by rfl)) (((am_up_nk (by omega)).trans ((congrFun (hFZ.at (by omega) (by omega)) _).trans ((congrFun (hFZ0.at (by omega) (by omega)) _).trans ((congrFun (hF4.at (by omega) (by omega)) _).trans h1_2)))).trans (by rfl)) (((am_up_nk (by omega)).trans ((congrFun (hFZ.at (by omega) (by omega)) _).trans ((congrFun (hFZ0.at (by omega) (by omega)) _).trans ((congrFun (hF4.at (by omega) (by omega)) _).trans (h2_2.trans rfl))))).trans (by exact hK.1))
              exact w_retV dX8_splitHere_191 rfl ⟨(((hFZ.wd (by omega) (by omega)).tr ((hFZ0.wd (by omega) (by omega)).tr ((hF4.wd (by omega) (by omega)).tr (hF2.wd (by omega) (by omega))))).up (by omega)), (by exact hP9), (fun k h1 => ((am_up_nk (by omega)).trans ((congrFun (hFZ.at (by omega) (by omega)) _).trans ((congrFun (hFZ0.at (by omega) (by omega)) _).trans ((congrFun (hF4.at (by omega) (by omega)) _).trans (hf_2 k (by omega))))))), (RTc.cg2 hR (fun o h1 => ((am_up_o (by omega)).trans ((hFZ.at (by omega) (by omega)).trans ((hFZ0.at (by omega) (by omega)).trans ((hF4.at (by omega) (by omega)).trans (hF2.at (by omega) (by omega))))))) (fun k h1 => ((am_up_nk (by omega)).trans ((congrFun (hFZ.at (by omega) (by omega)) _).trans ((congrFun (hFZ0.at (by omega) (by omega)) _).trans ((congrFun (hF4.at (by omega) (by omega)) _).trans (hf_2 _ (by omega)))))))), (by rw [(((am_up_nk (by omega)).trans ((congrFun (hFZ.at (by omega) (by omega)) _).trans ((congrFun (hFZ0.at (by omega) (by omega)) _).trans ((congrFun (hF4.at (by omega) (by omega)) _).trans (hf_2 _ (by omega)))))).trans (by rfl)), (((am_up_nk (by omega)).trans ((congrFun (hFZ.at (by omega) (by omega)) _).trans ((congrFun (hFZ0.at (by omega) (by omega)) _).trans ((congrFun (hF4.at (by omega) (by omega)) _).trans (hf_2 _ (by omega)))))).trans (by rfl))]; omega)⟩
            · skip
              replace c166 := am_b1 c166
              refine w_iload_n dX8_splitHere_169 rfl rfl ?_
              refine w_aload_n dX8_splitHere_170 rfl rfl (by first | decide | omega) ?_
              refine w_getIx (o := 45) (f := 44) (x := σ 0 2) fX8_splitHere_171 rfl rfl (Nat.le_of_ble_eq_true rfl) rfl ((congrFun (hFZ0.at (by omega) (by omega)) _).trans ((congrFun (hF4.at (by omega) (by omega)) _).trans ((hf_2 _ (by omega)).trans hP.bt))) ?_
              have hr14 := hP.ok.1.2.2.1
              refine w_icmp_ne (tgt := 181) dX8_splitHere_174 rfl (R32.in (by decide)) (R32.in (by omega)) (fun c174 => ?_) (fun c174 => ?_)
              · skip
                refine w_iconst dX8_splitHere_181 ?_
                refine w_iconst dX8_splitHere_182 ?_
                refine w_callVV (o := 45) (ci := 8) (as := [(0, 0), (0, 5)]) (rest := []) (k := 0) fX8_splitHere_183 rfl rfl rfl rfl rfl rfl rfl rfl (Nat.le_of_ble_eq_true rfl) (s_X8_must_b X 0 5 μZ0 ((congrFun (hFZ0.at (by omega) (by omega)) _).trans ((congrFun (hF4.at (by omega) (by omega)) _).trans hb_2))) (fun μZ hμZ => ?_)
                have hFZ := hμZ
                refine w_aload_n dX8_splitHere_186 rfl rfl (by first | decide | omega) ?_
                refine w_iload_n dX8_splitHere_187 rfl rfl ?_
                refine w_putI (o := 45) (f := 47) fX8_splitHere_188 rfl rfl rfl rfl rfl ?_
                have hP9 : tkL b n (ln0 b n σ 1 (sk b n a) e) μ (am_up μZ 45 47 0) := tkL_no (ln0_1 (Or.inr (by unfold tooL; omega))) (by omega) (((am_up_nk (by omega)).trans ((congrFun (hFZ.at (by omega) (by omega)) _).trans ((congrFun (hFZ0.at (by omega) (by omega)) _).trans ((congrFun (hF4.at (by omega) (by omega)) _).trans hb_2)))).trans (by rfl)) (((am_up_nk (by omega)).trans ((congrFun (hFZ.at (by omega) (by omega)) _).trans ((congrFun (hFZ0.at (by omega) (by omega)) _).trans ((congrFun (hF4.at (by omega) (by omega)) _).trans h1_2)))).trans (by rfl)) (((am_up_nk (by omega)).trans ((congrFun (hFZ.at (by omega) (by omega)) _).trans ((congrFun (hFZ0.at (by omega) (by omega)) _).trans ((congrFun (hF4.at (by omega) (by omega)) _).trans (h2_2.trans rfl))))).trans (by exact hK.1))
                exact w_retV dX8_splitHere_191 rfl ⟨(((hFZ.wd (by omega) (by omega)).tr ((hFZ0.wd (by omega) (by omega)).tr ((hF4.wd (by omega) (by omega)).tr (hF2.wd (by omega) (by omega))))).up (by omega)), (by exact hP9), (fun k h1 => ((am_up_nk (by omega)).trans ((congrFun (hFZ.at (by omega) (by omega)) _).trans ((congrFun (hFZ0.at (by omega) (by omega)) _).trans ((congrFun (hF4.at (by omega) (by omega)) _).trans (hf_2 k (by omega))))))), (RTc.cg2 hR (fun o h1 => ((am_up_o (by omega)).trans ((hFZ.at (by omega) (by omega)).trans ((hFZ0.at (by omega) (by omega)).trans ((hF4.at (by omega) (by omega)).trans (hF2.at (by omega) (by omega))))))) (fun k h1 => ((am_up_nk (by omega)).trans ((congrFun (hFZ.at (by omega) (by omega)) _).trans ((congrFun (hFZ0.at (by omega) (by omega)) _).trans ((congrFun (hF4.at (by omega) (by omega)) _).trans (hf_2 _ (by omega)))))))), (by rw [(((am_up_nk (by omega)).trans ((congrFun (hFZ.at (by omega) (by omega)) _).trans ((congrFun (hFZ0.at (by omega) (by omega)) _).trans ((congrFun (hF4.at (by omega) (by omega)) _).trans (hf_2 _ (by omega)))))).trans (by rfl)), (((am_up_nk (by omega)).trans ((congrFun (hFZ.at (by omega) (by omega)) _).trans ((congrFun (hFZ0.at (by omega) (by omega)) _).trans ((congrFun (hF4.at (by omega) (by omega)) _).trans (hf_2 _ (by omega)))))).trans (by rfl))]; omega)⟩
              · skip
                refine w_iconst dX8_splitHere_177 ?_
                refine w_goto (tgt := 182) dX8_splitHere_178 rfl ?_
                refine w_iconst dX8_splitHere_182 ?_
                refine w_callVV (o := 45) (ci := 8) (as := [(0, 1), (0, 5)]) (rest := []) (k := 0) fX8_splitHere_183 rfl rfl rfl rfl rfl rfl rfl rfl (Nat.le_of_ble_eq_true rfl) (s_X8_must_t X 1 5 μZ0 (Or.inr ((congrFun (hFZ0.at (by omega) (by omega)) _).trans ((congrFun (hF4.at (by omega) (by omega)) _).trans hb_2))) rfl) (fun μZ hμZ => ?_)
                have hFZ := hμZ
                refine w_aload_n dX8_splitHere_186 rfl rfl (by first | decide | omega) ?_
                refine w_iload_n dX8_splitHere_187 rfl rfl ?_
                refine w_putI (o := 45) (f := 47) fX8_splitHere_188 rfl rfl rfl rfl rfl ?_
                have hP9 : tkL b n (ln0 b n σ 1 (sk b n a) e) μ (am_up μZ 45 47 0) := tkL_no (ln0_1 (Or.inr (by unfold tooL; omega))) (by omega) (((am_up_nk (by omega)).trans ((congrFun (hFZ.at (by omega) (by omega)) _).trans ((congrFun (hFZ0.at (by omega) (by omega)) _).trans ((congrFun (hF4.at (by omega) (by omega)) _).trans hb_2)))).trans (by rfl)) (((am_up_nk (by omega)).trans ((congrFun (hFZ.at (by omega) (by omega)) _).trans ((congrFun (hFZ0.at (by omega) (by omega)) _).trans ((congrFun (hF4.at (by omega) (by omega)) _).trans h1_2)))).trans (by rfl)) (((am_up_nk (by omega)).trans ((congrFun (hFZ.at (by omega) (by omega)) _).trans ((congrFun (hFZ0.at (by omega) (by omega)) _).trans ((congrFun (hF4.at (by omega) (by omega)) _).trans (h2_2.trans rfl))))).trans (by exact hK.1))
                exact w_retV dX8_splitHere_191 rfl ⟨(((hFZ.wd (by omega) (by omega)).tr ((hFZ0.wd (by omega) (by omega)).tr ((hF4.wd (by omega) (by omega)).tr (hF2.wd (by omega) (by omega))))).up (by omega)), (by exact hP9), (fun k h1 => ((am_up_nk (by omega)).trans ((congrFun (hFZ.at (by omega) (by omega)) _).trans ((congrFun (hFZ0.at (by omega) (by omega)) _).trans ((congrFun (hF4.at (by omega) (by omega)) _).trans (hf_2 k (by omega))))))), (RTc.cg2 hR (fun o h1 => ((am_up_o (by omega)).trans ((hFZ.at (by omega) (by omega)).trans ((hFZ0.at (by omega) (by omega)).trans ((hF4.at (by omega) (by omega)).trans (hF2.at (by omega) (by omega))))))) (fun k h1 => ((am_up_nk (by omega)).trans ((congrFun (hFZ.at (by omega) (by omega)) _).trans ((congrFun (hFZ0.at (by omega) (by omega)) _).trans ((congrFun (hF4.at (by omega) (by omega)) _).trans (hf_2 _ (by omega)))))))), (by rw [(((am_up_nk (by omega)).trans ((congrFun (hFZ.at (by omega) (by omega)) _).trans ((congrFun (hFZ0.at (by omega) (by omega)) _).trans ((congrFun (hF4.at (by omega) (by omega)) _).trans (hf_2 _ (by omega)))))).trans (by rfl)), (((am_up_nk (by omega)).trans ((congrFun (hFZ.at (by omega) (by omega)) _).trans ((congrFun (hFZ0.at (by omega) (by omega)) _).trans ((congrFun (hF4.at (by omega) (by omega)) _).trans (hf_2 _ (by omega)))))).trans (by rfl))]; omega)⟩
          · skip
            exact absurd c71 (by decide)
      · skip
        exact absurd c38 (by decide)
    · skip
      refine w_iconst dX8_splitHere_25 ?_
      refine w_goto (tgt := 30) dX8_splitHere_26 rfl ?_
      refine w_iconst dX8_splitHere_30 ?_
      refine w_callVV (o := 45) (ci := 8) (as := [(0, 1), (0, 3)]) (rest := []) (k := 0) fX8_splitHere_31 rfl rfl rfl rfl rfl rfl rfl rfl (Nat.le_of_ble_eq_true rfl) (s_X8_must_t X 1 3 μ_2 (Or.inr hb_2) rfl) (fun μ_17 hμ17 => ?_)
      have hF17 := hμ17
      refine w_aload_n dX8_splitHere_34 rfl rfl (by first | decide | omega) ?_
      refine w_getIx (o := 45) (f := 43) (x := 1) fX8_splitHere_35 rfl rfl (Nat.le_of_ble_eq_true rfl) rfl ((congrFun (hF17.at (by omega) (by omega)) _).trans hb_2) ?_
      refine w_if_ne (tgt := 45) dX8_splitHere_38 rfl (R32.in (by decide)) (fun c38 => ?_) (fun c38 => ?_)
      · skip
        refine w_aload_n dX8_splitHere_45 rfl rfl (by first | decide | omega) ?_
        refine w_aload_n dX8_splitHere_46 rfl rfl (by first | decide | omega) ?_
        refine w_getIx (o := 45) (f := 39) (x := μ 45 39) fX8_splitHere_47 rfl rfl (Nat.le_of_ble_eq_true rfl) rfl ((congrFun (hF17.at (by omega) (by omega)) _).trans (hf_2 _ (by omega))) ?_
        refine w_iconst dX8_splitHere_50 ?_
        refine w_icmp_ne (tgt := 58) dX8_splitHere_51 rfl (R32.in (by omega)) (R32.in (by decide)) (fun c51 => ?_) (fun c51 => ?_)
        · skip
          refine w_iconst dX8_splitHere_58 ?_
          refine w_iconst dX8_splitHere_59 ?_
          refine w_callVV (o := 45) (ci := 8) (as := [(0, 0), (0, 1)]) (rest := []) (k := 0) fX8_splitHere_60 rfl rfl rfl rfl rfl rfl rfl rfl (Nat.le_of_ble_eq_true rfl) (s_X8_must_b X 0 1 μ_17 ((congrFun (hF17.at (by omega) (by omega)) _).trans hb_2)) (fun μZ0 hμZ0 => ?_)
          have hFZ0 := hμZ0
          refine w_iconst dX8_splitHere_63 ?_
          refine w_istore_n (ls' := [(2, 45), (0, 0), (9, 0)]) dX8_splitHere_64 rfl (Nat.le_of_ble_eq_true rfl) rfl rfl ?_
          refine w_iconst dX8_splitHere_65 ?_
          refine w_istore_n (ls' := [(2, 45), (0, 0), (0, 0)]) dX8_splitHere_66 rfl (Nat.le_of_ble_eq_true rfl) rfl rfl ?_
          refine w_aload_n dX8_splitHere_67 rfl rfl (by first | decide | omega) ?_
          refine w_getIx (o := 45) (f := 43) (x := 1) fX8_splitHere_68 rfl rfl (Nat.le_of_ble_eq_true rfl) rfl ((congrFun (hFZ0.at (by omega) (by omega)) _).trans ((congrFun (hF17.at (by omega) (by omega)) _).trans hb_2)) ?_
          refine w_if_ne (tgt := 159) dX8_splitHere_71 rfl (R32.in (by decide)) (fun c71 => ?_) (fun c71 => ?_)
          · skip
            refine w_aload_n dX8_splitHere_159 rfl rfl (by first | decide | omega) ?_
            refine w_aload_n dX8_splitHere_160 rfl rfl (by first | decide | omega) ?_
            refine w_bipush dX8_splitHere_161 (by decide) ?_
            refine w_callVP (o := 45) (ci := 8) (as := [(0, 59)]) (rest := [(2, 45)]) (k := 0) fX8_splitHere_163 rfl rfl rfl rfl rfl rfl rfl rfl (Nat.le_of_ble_eq_true rfl) (s_X8_isMark X 59 μZ0 (by rw [((congrFun (hFZ0.at (by omega) (by omega)) _).trans ((congrFun (hF17.at (by omega) (by omega)) _).trans (hf_2 _ (by omega))))]; omega) (by rw [((congrFun (hFZ0.at (by omega) (by omega)) _).trans ((congrFun (hF17.at (by omega) (by omega)) _).trans (hf_2 _ (by omega))))]; omega) (by decide)) ?_
            have hf19 := am_b_r (μZ0 45 39 = 3 ∧ μZ0 45 40 = 59)
            refine w_if_eq (tgt := 177) dX8_splitHere_166 rfl (R32.in (by have := am_b_r ((μZ0 45 39 = 3 ∧ μZ0 45 40 = 59)); omega)) (fun c166 => ?_) (fun c166 => ?_)
            · skip
              replace c166 := am_b0 c166
              refine w_iconst dX8_splitHere_177 ?_
              refine w_goto (tgt := 182) dX8_splitHere_178 rfl ?_
              refine w_iconst dX8_splitHere_182 ?_
              refine w_callVV (o := 45) (ci := 8) (as := [(0, 1), (0, 5)]) (rest := []) (k := 0) fX8_splitHere_183 rfl rfl rfl rfl rfl rfl rfl rfl (Nat.le_of_ble_eq_true rfl) (s_X8_must_t X 1 5 μZ0 (Or.inr ((congrFun (hFZ0.at (by omega) (by omega)) _).trans ((congrFun (hF17.at (by omega) (by omega)) _).trans hb_2))) rfl) (fun μZ hμZ => ?_)
              have hFZ := hμZ
              refine w_aload_n dX8_splitHere_186 rfl rfl (by first | decide | omega) ?_
              refine w_iload_n dX8_splitHere_187 rfl rfl ?_
              refine w_putI (o := 45) (f := 47) fX8_splitHere_188 rfl rfl rfl rfl rfl ?_
              have hP9 : tkL b n (ln0 b n σ 1 (sk b n a) e) μ (am_up μZ 45 47 0) := tkL_no (ln0_1 (Or.inr (by unfold tooL; omega))) (by omega) (((am_up_nk (by omega)).trans ((congrFun (hFZ.at (by omega) (by omega)) _).trans ((congrFun (hFZ0.at (by omega) (by omega)) _).trans ((congrFun (hF17.at (by omega) (by omega)) _).trans hb_2)))).trans (by rfl)) (((am_up_nk (by omega)).trans ((congrFun (hFZ.at (by omega) (by omega)) _).trans ((congrFun (hFZ0.at (by omega) (by omega)) _).trans ((congrFun (hF17.at (by omega) (by omega)) _).trans h1_2)))).trans (by rfl)) (((am_up_nk (by omega)).trans ((congrFun (hFZ.at (by omega) (by omega)) _).trans ((congrFun (hFZ0.at (by omega) (by omega)) _).trans ((congrFun (hF17.at (by omega) (by omega)) _).trans (h2_2.trans rfl))))).trans (by exact hK.1))
              exact w_retV dX8_splitHere_191 rfl ⟨(((hFZ.wd (by omega) (by omega)).tr ((hFZ0.wd (by omega) (by omega)).tr ((hF17.wd (by omega) (by omega)).tr (hF2.wd (by omega) (by omega))))).up (by omega)), (by exact hP9), (fun k h1 => ((am_up_nk (by omega)).trans ((congrFun (hFZ.at (by omega) (by omega)) _).trans ((congrFun (hFZ0.at (by omega) (by omega)) _).trans ((congrFun (hF17.at (by omega) (by omega)) _).trans (hf_2 k (by omega))))))), (RTc.cg2 hR (fun o h1 => ((am_up_o (by omega)).trans ((hFZ.at (by omega) (by omega)).trans ((hFZ0.at (by omega) (by omega)).trans ((hF17.at (by omega) (by omega)).trans (hF2.at (by omega) (by omega))))))) (fun k h1 => ((am_up_nk (by omega)).trans ((congrFun (hFZ.at (by omega) (by omega)) _).trans ((congrFun (hFZ0.at (by omega) (by omega)) _).trans ((congrFun (hF17.at (by omega) (by omega)) _).trans (hf_2 _ (by omega)))))))), (by rw [(((am_up_nk (by omega)).trans ((congrFun (hFZ.at (by omega) (by omega)) _).trans ((congrFun (hFZ0.at (by omega) (by omega)) _).trans ((congrFun (hF17.at (by omega) (by omega)) _).trans (hf_2 _ (by omega)))))).trans (by rfl)), (((am_up_nk (by omega)).trans ((congrFun (hFZ.at (by omega) (by omega)) _).trans ((congrFun (hFZ0.at (by omega) (by omega)) _).trans ((congrFun (hF17.at (by omega) (by omega)) _).trans (hf_2 _ (by omega)))))).trans (by rfl))]; omega)⟩
            · skip
              replace c166 := am_b1 c166
              refine w_iload_n dX8_splitHere_169 rfl rfl ?_
              refine w_aload_n dX8_splitHere_170 rfl rfl (by first | decide | omega) ?_
              refine w_getIx (o := 45) (f := 44) (x := σ 0 2) fX8_splitHere_171 rfl rfl (Nat.le_of_ble_eq_true rfl) rfl ((congrFun (hFZ0.at (by omega) (by omega)) _).trans ((congrFun (hF17.at (by omega) (by omega)) _).trans ((hf_2 _ (by omega)).trans hP.bt))) ?_
              have hr21 := hP.ok.1.2.2.1
              refine w_icmp_ne (tgt := 181) dX8_splitHere_174 rfl (R32.in (by decide)) (R32.in (by omega)) (fun c174 => ?_) (fun c174 => ?_)
              · skip
                refine w_iconst dX8_splitHere_181 ?_
                refine w_iconst dX8_splitHere_182 ?_
                refine w_callVV (o := 45) (ci := 8) (as := [(0, 0), (0, 5)]) (rest := []) (k := 0) fX8_splitHere_183 rfl rfl rfl rfl rfl rfl rfl rfl (Nat.le_of_ble_eq_true rfl) (s_X8_must_b X 0 5 μZ0 ((congrFun (hFZ0.at (by omega) (by omega)) _).trans ((congrFun (hF17.at (by omega) (by omega)) _).trans hb_2))) (fun μZ hμZ => ?_)
                have hFZ := hμZ
                refine w_aload_n dX8_splitHere_186 rfl rfl (by first | decide | omega) ?_
                refine w_iload_n dX8_splitHere_187 rfl rfl ?_
                refine w_putI (o := 45) (f := 47) fX8_splitHere_188 rfl rfl rfl rfl rfl ?_
                have hP9 : tkL b n (ln0 b n σ 1 (sk b n a) e) μ (am_up μZ 45 47 0) := tkL_no (ln0_1 (Or.inr (by unfold tooL; omega))) (by omega) (((am_up_nk (by omega)).trans ((congrFun (hFZ.at (by omega) (by omega)) _).trans ((congrFun (hFZ0.at (by omega) (by omega)) _).trans ((congrFun (hF17.at (by omega) (by omega)) _).trans hb_2)))).trans (by rfl)) (((am_up_nk (by omega)).trans ((congrFun (hFZ.at (by omega) (by omega)) _).trans ((congrFun (hFZ0.at (by omega) (by omega)) _).trans ((congrFun (hF17.at (by omega) (by omega)) _).trans h1_2)))).trans (by rfl)) (((am_up_nk (by omega)).trans ((congrFun (hFZ.at (by omega) (by omega)) _).trans ((congrFun (hFZ0.at (by omega) (by omega)) _).trans ((congrFun (hF17.at (by omega) (by omega)) _).trans (h2_2.trans rfl))))).trans (by exact hK.1))
                exact w_retV dX8_splitHere_191 rfl ⟨(((hFZ.wd (by omega) (by omega)).tr ((hFZ0.wd (by omega) (by omega)).tr ((hF17.wd (by omega) (by omega)).tr (hF2.wd (by omega) (by omega))))).up (by omega)), (by exact hP9), (fun k h1 => ((am_up_nk (by omega)).trans ((congrFun (hFZ.at (by omega) (by omega)) _).trans ((congrFun (hFZ0.at (by omega) (by omega)) _).trans ((congrFun (hF17.at (by omega) (by omega)) _).trans (hf_2 k (by omega))))))), (RTc.cg2 hR (fun o h1 => ((am_up_o (by omega)).trans ((hFZ.at (by omega) (by omega)).trans ((hFZ0.at (by omega) (by omega)).trans ((hF17.at (by omega) (by omega)).trans (hF2.at (by omega) (by omega))))))) (fun k h1 => ((am_up_nk (by omega)).trans ((congrFun (hFZ.at (by omega) (by omega)) _).trans ((congrFun (hFZ0.at (by omega) (by omega)) _).trans ((congrFun (hF17.at (by omega) (by omega)) _).trans (hf_2 _ (by omega)))))))), (by rw [(((am_up_nk (by omega)).trans ((congrFun (hFZ.at (by omega) (by omega)) _).trans ((congrFun (hFZ0.at (by omega) (by omega)) _).trans ((congrFun (hF17.at (by omega) (by omega)) _).trans (hf_2 _ (by omega)))))).trans (by rfl)), (((am_up_nk (by omega)).trans ((congrFun (hFZ.at (by omega) (by omega)) _).trans ((congrFun (hFZ0.at (by omega) (by omega)) _).trans ((congrFun (hF17.at (by omega) (by omega)) _).trans (hf_2 _ (by omega)))))).trans (by rfl))]; omega)⟩
              · skip
                refine w_iconst dX8_splitHere_177 ?_
                refine w_goto (tgt := 182) dX8_splitHere_178 rfl ?_
                refine w_iconst dX8_splitHere_182 ?_
                refine w_callVV (o := 45) (ci := 8) (as := [(0, 1), (0, 5)]) (rest := []) (k := 0) fX8_splitHere_183 rfl rfl rfl rfl rfl rfl rfl rfl (Nat.le_of_ble_eq_true rfl) (s_X8_must_t X 1 5 μZ0 (Or.inr ((congrFun (hFZ0.at (by omega) (by omega)) _).trans ((congrFun (hF17.at (by omega) (by omega)) _).trans hb_2))) rfl) (fun μZ hμZ => ?_)
                have hFZ := hμZ
                refine w_aload_n dX8_splitHere_186 rfl rfl (by first | decide | omega) ?_
                refine w_iload_n dX8_splitHere_187 rfl rfl ?_
                refine w_putI (o := 45) (f := 47) fX8_splitHere_188 rfl rfl rfl rfl rfl ?_
                have hP9 : tkL b n (ln0 b n σ 1 (sk b n a) e) μ (am_up μZ 45 47 0) := tkL_no (ln0_1 (Or.inr (by unfold tooL; omega))) (by omega) (((am_up_nk (by omega)).trans ((congrFun (hFZ.at (by omega) (by omega)) _).trans ((congrFun (hFZ0.at (by omega) (by omega)) _).trans ((congrFun (hF17.at (by omega) (by omega)) _).trans hb_2)))).trans (by rfl)) (((am_up_nk (by omega)).trans ((congrFun (hFZ.at (by omega) (by omega)) _).trans ((congrFun (hFZ0.at (by omega) (by omega)) _).trans ((congrFun (hF17.at (by omega) (by omega)) _).trans h1_2)))).trans (by rfl)) (((am_up_nk (by omega)).trans ((congrFun (hFZ.at (by omega) (by omega)) _).trans ((congrFun (hFZ0.at (by omega) (by omega)) _).trans ((congrFun (hF17.at (by omega) (by omega)) _).trans (h2_2.trans rfl))))).trans (by exact hK.1))
                exact w_retV dX8_splitHere_191 rfl ⟨(((hFZ.wd (by omega) (by omega)).tr ((hFZ0.wd (by omega) (by omega)).tr ((hF17.wd (by omega) (by omega)).tr (hF2.wd (by omega) (by omega))))).up (by omega)), (by exact hP9), (fun k h1 => ((am_up_nk (by omega)).trans ((congrFun (hFZ.at (by omega) (by omega)) _).trans ((congrFun (hFZ0.at (by omega) (by omega)) _).trans ((congrFun (hF17.at (by omega) (by omega)) _).trans (hf_2 k (by omega))))))), (RTc.cg2 hR (fun o h1 => ((am_up_o (by omega)).trans ((hFZ.at (by omega) (by omega)).trans ((hFZ0.at (by omega) (by omega)).trans ((hF17.at (by omega) (by omega)).trans (hF2.at (by omega) (by omega))))))) (fun k h1 => ((am_up_nk (by omega)).trans ((congrFun (hFZ.at (by omega) (by omega)) _).trans ((congrFun (hFZ0.at (by omega) (by omega)) _).trans ((congrFun (hF17.at (by omega) (by omega)) _).trans (hf_2 _ (by omega)))))))), (by rw [(((am_up_nk (by omega)).trans ((congrFun (hFZ.at (by omega) (by omega)) _).trans ((congrFun (hFZ0.at (by omega) (by omega)) _).trans ((congrFun (hF17.at (by omega) (by omega)) _).trans (hf_2 _ (by omega)))))).trans (by rfl)), (((am_up_nk (by omega)).trans ((congrFun (hFZ.at (by omega) (by omega)) _).trans ((congrFun (hFZ0.at (by omega) (by omega)) _).trans ((congrFun (hF17.at (by omega) (by omega)) _).trans (hf_2 _ (by omega)))))).trans (by rfl))]; omega)⟩
          · skip
            exact absurd c71 (by decide)
        · skip
          refine w_iconst dX8_splitHere_54 ?_
          refine w_goto (tgt := 59) dX8_splitHere_55 rfl ?_
          refine w_iconst dX8_splitHere_59 ?_
          refine w_callVV (o := 45) (ci := 8) (as := [(0, 1), (0, 1)]) (rest := []) (k := 0) fX8_splitHere_60 rfl rfl rfl rfl rfl rfl rfl rfl (Nat.le_of_ble_eq_true rfl) (s_X8_must_t X 1 1 μ_17 (Or.inr ((congrFun (hF17.at (by omega) (by omega)) _).trans hb_2)) rfl) (fun μZ0 hμZ0 => ?_)
          have hFZ0 := hμZ0
          refine w_iconst dX8_splitHere_63 ?_
          refine w_istore_n (ls' := [(2, 45), (0, 0), (9, 0)]) dX8_splitHere_64 rfl (Nat.le_of_ble_eq_true rfl) rfl rfl ?_
          refine w_iconst dX8_splitHere_65 ?_
          refine w_istore_n (ls' := [(2, 45), (0, 0), (0, 0)]) dX8_splitHere_66 rfl (Nat.le_of_ble_eq_true rfl) rfl rfl ?_
          refine w_aload_n dX8_splitHere_67 rfl rfl (by first | decide | omega) ?_
          refine w_getIx (o := 45) (f := 43) (x := 1) fX8_splitHere_68 rfl rfl (Nat.le_of_ble_eq_true rfl) rfl ((congrFun (hFZ0.at (by omega) (by omega)) _).trans ((congrFun (hF17.at (by omega) (by omega)) _).trans hb_2)) ?_
          refine w_if_ne (tgt := 159) dX8_splitHere_71 rfl (R32.in (by decide)) (fun c71 => ?_) (fun c71 => ?_)
          · skip
            refine w_aload_n dX8_splitHere_159 rfl rfl (by first | decide | omega) ?_
            refine w_aload_n dX8_splitHere_160 rfl rfl (by first | decide | omega) ?_
            refine w_bipush dX8_splitHere_161 (by decide) ?_
            refine w_callVP (o := 45) (ci := 8) (as := [(0, 59)]) (rest := [(2, 45)]) (k := 0) fX8_splitHere_163 rfl rfl rfl rfl rfl rfl rfl rfl (Nat.le_of_ble_eq_true rfl) (s_X8_isMark X 59 μZ0 (by rw [((congrFun (hFZ0.at (by omega) (by omega)) _).trans ((congrFun (hF17.at (by omega) (by omega)) _).trans (hf_2 _ (by omega))))]; omega) (by rw [((congrFun (hFZ0.at (by omega) (by omega)) _).trans ((congrFun (hF17.at (by omega) (by omega)) _).trans (hf_2 _ (by omega))))]; omega) (by decide)) ?_
            have hf25 := am_b_r (μZ0 45 39 = 3 ∧ μZ0 45 40 = 59)
            refine w_if_eq (tgt := 177) dX8_splitHere_166 rfl (R32.in (by have := am_b_r ((μZ0 45 39 = 3 ∧ μZ0 45 40 = 59)); omega)) (fun c166 => ?_) (fun c166 => ?_)
            · skip
              replace c166 := am_b0 c166
              refine w_iconst dX8_splitHere_177 ?_
              refine w_goto (tgt := 182) dX8_splitHere_178 rfl ?_
              refine w_iconst dX8_splitHere_182 ?_
              refine w_callVV (o := 45) (ci := 8) (as := [(0, 1), (0, 5)]) (rest := []) (k := 0) fX8_splitHere_183 rfl rfl rfl rfl rfl rfl rfl rfl (Nat.le_of_ble_eq_true rfl) (s_X8_must_t X 1 5 μZ0 (Or.inr ((congrFun (hFZ0.at (by omega) (by omega)) _).trans ((congrFun (hF17.at (by omega) (by omega)) _).trans hb_2))) rfl) (fun μZ hμZ => ?_)
              have hFZ := hμZ
              refine w_aload_n dX8_splitHere_186 rfl rfl (by first | decide | omega) ?_
              refine w_iload_n dX8_splitHere_187 rfl rfl ?_
              refine w_putI (o := 45) (f := 47) fX8_splitHere_188 rfl rfl rfl rfl rfl ?_
              have hP9 : tkL b n (ln0 b n σ 1 (sk b n a) e) μ (am_up μZ 45 47 0) := tkL_no (ln0_1 (Or.inr (by unfold tooL; omega))) (by omega) (((am_up_nk (by omega)).trans ((congrFun (hFZ.at (by omega) (by omega)) _).trans ((congrFun (hFZ0.at (by omega) (by omega)) _).trans ((congrFun (hF17.at (by omega) (by omega)) _).trans hb_2)))).trans (by rfl)) (((am_up_nk (by omega)).trans ((congrFun (hFZ.at (by omega) (by omega)) _).trans ((congrFun (hFZ0.at (by omega) (by omega)) _).trans ((congrFun (hF17.at (by omega) (by omega)) _).trans h1_2)))).trans (by rfl)) (((am_up_nk (by omega)).trans ((congrFun (hFZ.at (by omega) (by omega)) _).trans ((congrFun (hFZ0.at (by omega) (by omega)) _).trans ((congrFun (hF17.at (by omega) (by omega)) _).trans (h2_2.trans rfl))))).trans (by exact hK.1))
              exact w_retV dX8_splitHere_191 rfl ⟨(((hFZ.wd (by omega) (by omega)).tr ((hFZ0.wd (by omega) (by omega)).tr ((hF17.wd (by omega) (by omega)).tr (hF2.wd (by omega) (by omega))))).up (by omega)), (by exact hP9), (fun k h1 => ((am_up_nk (by omega)).trans ((congrFun (hFZ.at (by omega) (by omega)) _).trans ((congrFun (hFZ0.at (by omega) (by omega)) _).trans ((congrFun (hF17.at (by omega) (by omega)) _).trans (hf_2 k (by omega))))))), (RTc.cg2 hR (fun o h1 => ((am_up_o (by omega)).trans ((hFZ.at (by omega) (by omega)).trans ((hFZ0.at (by omega) (by omega)).trans ((hF17.at (by omega) (by omega)).trans (hF2.at (by omega) (by omega))))))) (fun k h1 => ((am_up_nk (by omega)).trans ((congrFun (hFZ.at (by omega) (by omega)) _).trans ((congrFun (hFZ0.at (by omega) (by omega)) _).trans ((congrFun (hF17.at (by omega) (by omega)) _).trans (hf_2 _ (by omega)))))))), (by rw [(((am_up_nk (by omega)).trans ((congrFun (hFZ.at (by omega) (by omega)) _).trans ((congrFun (hFZ0.at (by omega) (by omega)) _).trans ((congrFun (hF17.at (by omega) (by omega)) _).trans (hf_2 _ (by omega)))))).trans (by rfl)), (((am_up_nk (by omega)).trans ((congrFun (hFZ.at (by omega) (by omega)) _).trans ((congrFun (hFZ0.at (by omega) (by omega)) _).trans ((congrFun (hF17.at (by omega) (by omega)) _).trans (hf_2 _ (by omega)))))).trans (by rfl))]; omega)⟩
            · skip
              replace c166 := am_b1 c166
              refine w_iload_n dX8_splitHere_169 rfl rfl ?_
              refine w_aload_n dX8_splitHere_170 rfl rfl (by first | decide | omega) ?_
              refine w_getIx (o := 45) (f := 44) (x := σ 0 2) fX8_splitHere_171 rfl rfl (Nat.le_of_ble_eq_true rfl) rfl ((congrFun (hFZ0.at (by omega) (by omega)) _).trans ((congrFun (hF17.at (by omega) (by omega)) _).trans ((hf_2 _ (by omega)).trans hP.bt))) ?_
              have hr27 := hP.ok.1.2.2.1
              refine w_icmp_ne (tgt := 181) dX8_splitHere_174 rfl (R32.in (by decide)) (R32.in (by omega)) (fun c174 => ?_) (fun c174 => ?_)
              · skip
                refine w_iconst dX8_splitHere_181 ?_
                refine w_iconst dX8_splitHere_182 ?_
                refine w_callVV (o := 45) (ci := 8) (as := [(0, 0), (0, 5)]) (rest := []) (k := 0) fX8_splitHere_183 rfl rfl rfl rfl rfl rfl rfl rfl (Nat.le_of_ble_eq_true rfl) (s_X8_must_b X 0 5 μZ0 ((congrFun (hFZ0.at (by omega) (by omega)) _).trans ((congrFun (hF17.at (by omega) (by omega)) _).trans hb_2))) (fun μZ hμZ => ?_)
                have hFZ := hμZ
                refine w_aload_n dX8_splitHere_186 rfl rfl (by first | decide | omega) ?_
                refine w_iload_n dX8_splitHere_187 rfl rfl ?_
                refine w_putI (o := 45) (f := 47) fX8_splitHere_188 rfl rfl rfl rfl rfl ?_
                have hP9 : tkL b n (ln0 b n σ 1 (sk b n a) e) μ (am_up μZ 45 47 0) := tkL_no (ln0_1 (Or.inr (by unfold tooL; omega))) (by omega) (((am_up_nk (by omega)).trans ((congrFun (hFZ.at (by omega) (by omega)) _).trans ((congrFun (hFZ0.at (by omega) (by omega)) _).trans ((congrFun (hF17.at (by omega) (by omega)) _).trans hb_2)))).trans (by rfl)) (((am_up_nk (by omega)).trans ((congrFun (hFZ.at (by omega) (by omega)) _).trans ((congrFun (hFZ0.at (by omega) (by omega)) _).trans ((congrFun (hF17.at (by omega) (by omega)) _).trans h1_2)))).trans (by rfl)) (((am_up_nk (by omega)).trans ((congrFun (hFZ.at (by omega) (by omega)) _).trans ((congrFun (hFZ0.at (by omega) (by omega)) _).trans ((congrFun (hF17.at (by omega) (by omega)) _).trans (h2_2.trans rfl))))).trans (by exact hK.1))
                exact w_retV dX8_splitHere_191 rfl ⟨(((hFZ.wd (by omega) (by omega)).tr ((hFZ0.wd (by omega) (by omega)).tr ((hF17.wd (by omega) (by omega)).tr (hF2.wd (by omega) (by omega))))).up (by omega)), (by exact hP9), (fun k h1 => ((am_up_nk (by omega)).trans ((congrFun (hFZ.at (by omega) (by omega)) _).trans ((congrFun (hFZ0.at (by omega) (by omega)) _).trans ((congrFun (hF17.at (by omega) (by omega)) _).trans (hf_2 k (by omega))))))), (RTc.cg2 hR (fun o h1 => ((am_up_o (by omega)).trans ((hFZ.at (by omega) (by omega)).trans ((hFZ0.at (by omega) (by omega)).trans ((hF17.at (by omega) (by omega)).trans (hF2.at (by omega) (by omega))))))) (fun k h1 => ((am_up_nk (by omega)).trans ((congrFun (hFZ.at (by omega) (by omega)) _).trans ((congrFun (hFZ0.at (by omega) (by omega)) _).trans ((congrFun (hF17.at (by omega) (by omega)) _).trans (hf_2 _ (by omega)))))))), (by rw [(((am_up_nk (by omega)).trans ((congrFun (hFZ.at (by omega) (by omega)) _).trans ((congrFun (hFZ0.at (by omega) (by omega)) _).trans ((congrFun (hF17.at (by omega) (by omega)) _).trans (hf_2 _ (by omega)))))).trans (by rfl)), (((am_up_nk (by omega)).trans ((congrFun (hFZ.at (by omega) (by omega)) _).trans ((congrFun (hFZ0.at (by omega) (by omega)) _).trans ((congrFun (hF17.at (by omega) (by omega)) _).trans (hf_2 _ (by omega)))))).trans (by rfl))]; omega)⟩
              · skip
                refine w_iconst dX8_splitHere_177 ?_
                refine w_goto (tgt := 182) dX8_splitHere_178 rfl ?_
                refine w_iconst dX8_splitHere_182 ?_
                refine w_callVV (o := 45) (ci := 8) (as := [(0, 1), (0, 5)]) (rest := []) (k := 0) fX8_splitHere_183 rfl rfl rfl rfl rfl rfl rfl rfl (Nat.le_of_ble_eq_true rfl) (s_X8_must_t X 1 5 μZ0 (Or.inr ((congrFun (hFZ0.at (by omega) (by omega)) _).trans ((congrFun (hF17.at (by omega) (by omega)) _).trans hb_2))) rfl) (fun μZ hμZ => ?_)
                have hFZ := hμZ
                refine w_aload_n dX8_splitHere_186 rfl rfl (by first | decide | omega) ?_
                refine w_iload_n dX8_splitHere_187 rfl rfl ?_
                refine w_putI (o := 45) (f := 47) fX8_splitHere_188 rfl rfl rfl rfl rfl ?_
                have hP9 : tkL b n (ln0 b n σ 1 (sk b n a) e) μ (am_up μZ 45 47 0) := tkL_no (ln0_1 (Or.inr (by unfold tooL; omega))) (by omega) (((am_up_nk (by omega)).trans ((congrFun (hFZ.at (by omega) (by omega)) _).trans ((congrFun (hFZ0.at (by omega) (by omega)) _).trans ((congrFun (hF17.at (by omega) (by omega)) _).trans hb_2)))).trans (by rfl)) (((am_up_nk (by omega)).trans ((congrFun (hFZ.at (by omega) (by omega)) _).trans ((congrFun (hFZ0.at (by omega) (by omega)) _).trans ((congrFun (hF17.at (by omega) (by omega)) _).trans h1_2)))).trans (by rfl)) (((am_up_nk (by omega)).trans ((congrFun (hFZ.at (by omega) (by omega)) _).trans ((congrFun (hFZ0.at (by omega) (by omega)) _).trans ((congrFun (hF17.at (by omega) (by omega)) _).trans (h2_2.trans rfl))))).trans (by exact hK.1))
                exact w_retV dX8_splitHere_191 rfl ⟨(((hFZ.wd (by omega) (by omega)).tr ((hFZ0.wd (by omega) (by omega)).tr ((hF17.wd (by omega) (by omega)).tr (hF2.wd (by omega) (by omega))))).up (by omega)), (by exact hP9), (fun k h1 => ((am_up_nk (by omega)).trans ((congrFun (hFZ.at (by omega) (by omega)) _).trans ((congrFun (hFZ0.at (by omega) (by omega)) _).trans ((congrFun (hF17.at (by omega) (by omega)) _).trans (hf_2 k (by omega))))))), (RTc.cg2 hR (fun o h1 => ((am_up_o (by omega)).trans ((hFZ.at (by omega) (by omega)).trans ((hFZ0.at (by omega) (by omega)).trans ((hF17.at (by omega) (by omega)).trans (hF2.at (by omega) (by omega))))))) (fun k h1 => ((am_up_nk (by omega)).trans ((congrFun (hFZ.at (by omega) (by omega)) _).trans ((congrFun (hFZ0.at (by omega) (by omega)) _).trans ((congrFun (hF17.at (by omega) (by omega)) _).trans (hf_2 _ (by omega)))))))), (by rw [(((am_up_nk (by omega)).trans ((congrFun (hFZ.at (by omega) (by omega)) _).trans ((congrFun (hFZ0.at (by omega) (by omega)) _).trans ((congrFun (hF17.at (by omega) (by omega)) _).trans (hf_2 _ (by omega)))))).trans (by rfl)), (((am_up_nk (by omega)).trans ((congrFun (hFZ.at (by omega) (by omega)) _).trans ((congrFun (hFZ0.at (by omega) (by omega)) _).trans ((congrFun (hF17.at (by omega) (by omega)) _).trans (hf_2 _ (by omega)))))).trans (by rfl))]; omega)⟩
          · skip
            exact absurd c71 (by decide)
      · skip
        exact absurd c38 (by decide)
  · skip
    refine w_iconst dX8_splitHere_8 ?_
    refine w_goto (tgt := 13) dX8_splitHere_9 rfl ?_
    refine w_iconst dX8_splitHere_13 ?_
    refine w_callVV (o := 45) (ci := 8) (as := [(0, 1), (0, 1)]) (rest := []) (k := 0) fX8_splitHere_14 rfl rfl rfl rfl rfl rfl rfl rfl (Nat.le_of_ble_eq_true rfl) (s_X8_must_t X 1 1 μ (Or.inl hb) rfl) (fun μ_30 hμ30 => ?_)
    have hF30 := hμ30
    refine w_aload_n dX8_splitHere_17 rfl rfl (by first | decide | omega) ?_
    refine w_aload_n dX8_splitHere_18 rfl rfl (by first | decide | omega) ?_
    refine w_getIx (o := 45) (f := 47) (x := σ 0 5) fX8_splitHere_19 rfl rfl (Nat.le_of_ble_eq_true rfl) rfl ((congrFun (hF30.at (by omega) (by omega)) _).trans hP.pm) ?_
    have hr31 := hP.ok.1.2.2.2.2.2.1
    refine w_if_ne (tgt := 29) dX8_splitHere_22 rfl (R32.in (by omega)) (fun c22 => ?_) (fun c22 => ?_)
    · skip
      have htl : tldS σ 1 = (if 0 < σ 0 5 then 1 else 0) := by unfold tldS; first | rfl | (rw [if_neg (by omega), if_pos rfl]) | (rw [if_neg (by omega), if_neg (by omega)])
      refine w_iconst dX8_splitHere_29 ?_
      refine w_iconst dX8_splitHere_30 ?_
      refine w_callVV (o := 45) (ci := 8) (as := [(0, 0), (0, 3)]) (rest := []) (k := 0) fX8_splitHere_31 rfl rfl rfl rfl rfl rfl rfl rfl (Nat.le_of_ble_eq_true rfl) (s_X8_must_f X 0 3 μ_30 ((congrFun (hF30.at (by omega) (by omega)) _).trans hb) rfl) (fun μ_32 hμ32 => ?_)
      obtain ⟨hF32, hb_32, h1_32, h2_32, hf_32⟩ := hμ32
      refine w_aload_n dX8_splitHere_34 rfl rfl (by first | decide | omega) ?_
      refine w_getIx (o := 45) (f := 43) (x := 1) fX8_splitHere_35 rfl rfl (Nat.le_of_ble_eq_true rfl) rfl hb_32 ?_
      refine w_if_ne (tgt := 45) dX8_splitHere_38 rfl (R32.in (by decide)) (fun c38 => ?_) (fun c38 => ?_)
      · skip
        refine w_aload_n dX8_splitHere_45 rfl rfl (by first | decide | omega) ?_
        refine w_aload_n dX8_splitHere_46 rfl rfl (by first | decide | omega) ?_
        refine w_getIx (o := 45) (f := 39) (x := μ 45 39) fX8_splitHere_47 rfl rfl (Nat.le_of_ble_eq_true rfl) rfl ((hf_32 _ (by omega)).trans (congrFun (hF30.at (by omega) (by omega)) _)) ?_
        refine w_iconst dX8_splitHere_50 ?_
        refine w_icmp_ne (tgt := 58) dX8_splitHere_51 rfl (R32.in (by omega)) (R32.in (by decide)) (fun c51 => ?_) (fun c51 => ?_)
        · skip
          refine w_iconst dX8_splitHere_58 ?_
          refine w_iconst dX8_splitHere_59 ?_
          refine w_callVV (o := 45) (ci := 8) (as := [(0, 0), (0, 1)]) (rest := []) (k := 0) fX8_splitHere_60 rfl rfl rfl rfl rfl rfl rfl rfl (Nat.le_of_ble_eq_true rfl) (s_X8_must_b X 0 1 μ_32 hb_32) (fun μZ0 hμZ0 => ?_)
          have hFZ0 := hμZ0
          refine w_iconst dX8_splitHere_63 ?_
          refine w_istore_n (ls' := [(2, 45), (0, 0), (9, 0)]) dX8_splitHere_64 rfl (Nat.le_of_ble_eq_true rfl) rfl rfl ?_
          refine w_iconst dX8_splitHere_65 ?_
          refine w_istore_n (ls' := [(2, 45), (0, 0), (0, 0)]) dX8_splitHere_66 rfl (Nat.le_of_ble_eq_true rfl) rfl rfl ?_
          refine w_aload_n dX8_splitHere_67 rfl rfl (by first | decide | omega) ?_
          refine w_getIx (o := 45) (f := 43) (x := 1) fX8_splitHere_68 rfl rfl (Nat.le_of_ble_eq_true rfl) rfl ((congrFun (hFZ0.at (by omega) (by omega)) _).trans hb_32) ?_
          refine w_if_ne (tgt := 159) dX8_splitHere_71 rfl (R32.in (by decide)) (fun c71 => ?_) (fun c71 => ?_)
          · skip
            refine w_aload_n dX8_splitHere_159 rfl rfl (by first | decide | omega) ?_
            refine w_aload_n dX8_splitHere_160 rfl rfl (by first | decide | omega) ?_
            refine w_bipush dX8_splitHere_161 (by decide) ?_
            refine w_callVP (o := 45) (ci := 8) (as := [(0, 59)]) (rest := [(2, 45)]) (k := 0) fX8_splitHere_163 rfl rfl rfl rfl rfl rfl rfl rfl (Nat.le_of_ble_eq_true rfl) (s_X8_isMark X 59 μZ0 (by rw [((congrFun (hFZ0.at (by omega) (by omega)) _).trans ((hf_32 _ (by omega)).trans (congrFun (hF30.at (by omega) (by omega)) _)))]; omega) (by rw [((congrFun (hFZ0.at (by omega) (by omega)) _).trans ((hf_32 _ (by omega)).trans (congrFun (hF30.at (by omega) (by omega)) _)))]; omega) (by decide)) ?_
            have hf34 := am_b_r (μZ0 45 39 = 3 ∧ μZ0 45 40 = 59)
            refine w_if_eq (tgt := 177) dX8_splitHere_166 rfl (R32.in (by have := am_b_r ((μZ0 45 39 = 3 ∧ μZ0 45 40 = 59)); omega)) (fun c166 => ?_) (fun c166 => ?_)
            · skip
              replace c166 := am_b0 c166
              refine w_iconst dX8_splitHere_177 ?_
              refine w_goto (tgt := 182) dX8_splitHere_178 rfl ?_
              refine w_iconst dX8_splitHere_182 ?_
              refine w_callVV (o := 45) (ci := 8) (as := [(0, 1), (0, 5)]) (rest := []) (k := 0) fX8_splitHere_183 rfl rfl rfl rfl rfl rfl rfl rfl (Nat.le_of_ble_eq_true rfl) (s_X8_must_t X 1 5 μZ0 (Or.inr ((congrFun (hFZ0.at (by omega) (by omega)) _).trans hb_32)) rfl) (fun μZ hμZ => ?_)
              have hFZ := hμZ
              refine w_aload_n dX8_splitHere_186 rfl rfl (by first | decide | omega) ?_
              refine w_iload_n dX8_splitHere_187 rfl rfl ?_
              refine w_putI (o := 45) (f := 47) fX8_splitHere_188 rfl rfl rfl rfl rfl ?_
              have hP9 : tkL b n (ln0 b n σ 1 (sk b n a) e) μ (am_up μZ 45 47 0) := tkL_no (ln0_3 (by unfold tooL; omega) ⟨by omega, by rw [htl, if_pos (by omega)]; omega⟩) (by omega) (((am_up_nk (by omega)).trans ((congrFun (hFZ.at (by omega) (by omega)) _).trans ((congrFun (hFZ0.at (by omega) (by omega)) _).trans hb_32))).trans (by rfl)) (((am_up_nk (by omega)).trans ((congrFun (hFZ.at (by omega) (by omega)) _).trans ((congrFun (hFZ0.at (by omega) (by omega)) _).trans h1_32))).trans (by rfl)) (((am_up_nk (by omega)).trans ((congrFun (hFZ.at (by omega) (by omega)) _).trans ((congrFun (hFZ0.at (by omega) (by omega)) _).trans (h2_32.trans (congrFun (hF30.at (by omega) (by omega)) _))))).trans (by exact hK.1))
              exact w_retV dX8_splitHere_191 rfl ⟨(((hFZ.wd (by omega) (by omega)).tr ((hFZ0.wd (by omega) (by omega)).tr ((hF32.wd (by omega) (by omega)).tr (hF30.wd (by omega) (by omega))))).up (by omega)), (by exact hP9), (fun k h1 => ((am_up_nk (by omega)).trans ((congrFun (hFZ.at (by omega) (by omega)) _).trans ((congrFun (hFZ0.at (by omega) (by omega)) _).trans ((hf_32 k (by omega)).trans (congrFun (hF30.at (by omega) (by omega)) _)))))), (RTc.cg2 hR (fun o h1 => ((am_up_o (by omega)).trans ((hFZ.at (by omega) (by omega)).trans ((hFZ0.at (by omega) (by omega)).trans ((hF32.at (by omega) (by omega)).trans (hF30.at (by omega) (by omega))))))) (fun k h1 => ((am_up_nk (by omega)).trans ((congrFun (hFZ.at (by omega) (by omega)) _).trans ((congrFun (hFZ0.at (by omega) (by omega)) _).trans ((hf_32 _ (by omega)).trans (congrFun (hF30.at (by omega) (by omega)) _))))))), (by rw [(((am_up_nk (by omega)).trans ((congrFun (hFZ.at (by omega) (by omega)) _).trans ((congrFun (hFZ0.at (by omega) (by omega)) _).trans ((hf_32 _ (by omega)).trans (congrFun (hF30.at (by omega) (by omega)) _))))).trans (by rfl)), (((am_up_nk (by omega)).trans ((congrFun (hFZ.at (by omega) (by omega)) _).trans ((congrFun (hFZ0.at (by omega) (by omega)) _).trans ((hf_32 _ (by omega)).trans (congrFun (hF30.at (by omega) (by omega)) _))))).trans (by rfl))]; omega)⟩
            · skip
              replace c166 := am_b1 c166
              refine w_iload_n dX8_splitHere_169 rfl rfl ?_
              refine w_aload_n dX8_splitHere_170 rfl rfl (by first | decide | omega) ?_
              refine w_getIx (o := 45) (f := 44) (x := σ 0 2) fX8_splitHere_171 rfl rfl (Nat.le_of_ble_eq_true rfl) rfl ((congrFun (hFZ0.at (by omega) (by omega)) _).trans ((hf_32 _ (by omega)).trans ((congrFun (hF30.at (by omega) (by omega)) _).trans hP.bt))) ?_
              have hr36 := hP.ok.1.2.2.1
              refine w_icmp_ne (tgt := 181) dX8_splitHere_174 rfl (R32.in (by decide)) (R32.in (by omega)) (fun c174 => ?_) (fun c174 => ?_)
              · skip
                refine w_iconst dX8_splitHere_181 ?_
                refine w_iconst dX8_splitHere_182 ?_
                refine w_callVV (o := 45) (ci := 8) (as := [(0, 0), (0, 5)]) (rest := []) (k := 0) fX8_splitHere_183 rfl rfl rfl rfl rfl rfl rfl rfl (Nat.le_of_ble_eq_true rfl) (s_X8_must_b X 0 5 μZ0 ((congrFun (hFZ0.at (by omega) (by omega)) _).trans hb_32)) (fun μZ hμZ => ?_)
                have hFZ := hμZ
                refine w_aload_n dX8_splitHere_186 rfl rfl (by first | decide | omega) ?_
                refine w_iload_n dX8_splitHere_187 rfl rfl ?_
                refine w_putI (o := 45) (f := 47) fX8_splitHere_188 rfl rfl rfl rfl rfl ?_
                have hP9 : tkL b n (ln0 b n σ 1 (sk b n a) e) μ (am_up μZ 45 47 0) := tkL_no (ln0_3 (by unfold tooL; omega) ⟨by omega, by rw [htl, if_pos (by omega)]; omega⟩) (by omega) (((am_up_nk (by omega)).trans ((congrFun (hFZ.at (by omega) (by omega)) _).trans ((congrFun (hFZ0.at (by omega) (by omega)) _).trans hb_32))).trans (by rfl)) (((am_up_nk (by omega)).trans ((congrFun (hFZ.at (by omega) (by omega)) _).trans ((congrFun (hFZ0.at (by omega) (by omega)) _).trans h1_32))).trans (by rfl)) (((am_up_nk (by omega)).trans ((congrFun (hFZ.at (by omega) (by omega)) _).trans ((congrFun (hFZ0.at (by omega) (by omega)) _).trans (h2_32.trans (congrFun (hF30.at (by omega) (by omega)) _))))).trans (by exact hK.1))
                exact w_retV dX8_splitHere_191 rfl ⟨(((hFZ.wd (by omega) (by omega)).tr ((hFZ0.wd (by omega) (by omega)).tr ((hF32.wd (by omega) (by omega)).tr (hF30.wd (by omega) (by omega))))).up (by omega)), (by exact hP9), (fun k h1 => ((am_up_nk (by omega)).trans ((congrFun (hFZ.at (by omega) (by omega)) _).trans ((congrFun (hFZ0.at (by omega) (by omega)) _).trans ((hf_32 k (by omega)).trans (congrFun (hF30.at (by omega) (by omega)) _)))))), (RTc.cg2 hR (fun o h1 => ((am_up_o (by omega)).trans ((hFZ.at (by omega) (by omega)).trans ((hFZ0.at (by omega) (by omega)).trans ((hF32.at (by omega) (by omega)).trans (hF30.at (by omega) (by omega))))))) (fun k h1 => ((am_up_nk (by omega)).trans ((congrFun (hFZ.at (by omega) (by omega)) _).trans ((congrFun (hFZ0.at (by omega) (by omega)) _).trans ((hf_32 _ (by omega)).trans (congrFun (hF30.at (by omega) (by omega)) _))))))), (by rw [(((am_up_nk (by omega)).trans ((congrFun (hFZ.at (by omega) (by omega)) _).trans ((congrFun (hFZ0.at (by omega) (by omega)) _).trans ((hf_32 _ (by omega)).trans (congrFun (hF30.at (by omega) (by omega)) _))))).trans (by rfl)), (((am_up_nk (by omega)).trans ((congrFun (hFZ.at (by omega) (by omega)) _).trans ((congrFun (hFZ0.at (by omega) (by omega)) _).trans ((hf_32 _ (by omega)).trans (congrFun (hF30.at (by omega) (by omega)) _))))).trans (by rfl))]; omega)⟩
              · skip
                refine w_iconst dX8_splitHere_177 ?_
                refine w_goto (tgt := 182) dX8_splitHere_178 rfl ?_
                refine w_iconst dX8_splitHere_182 ?_
                refine w_callVV (o := 45) (ci := 8) (as := [(0, 1), (0, 5)]) (rest := []) (k := 0) fX8_splitHere_183 rfl rfl rfl rfl rfl rfl rfl rfl (Nat.le_of_ble_eq_true rfl) (s_X8_must_t X 1 5 μZ0 (Or.inr ((congrFun (hFZ0.at (by omega) (by omega)) _).trans hb_32)) rfl) (fun μZ hμZ => ?_)
                have hFZ := hμZ
                refine w_aload_n dX8_splitHere_186 rfl rfl (by first | decide | omega) ?_
                refine w_iload_n dX8_splitHere_187 rfl rfl ?_
                refine w_putI (o := 45) (f := 47) fX8_splitHere_188 rfl rfl rfl rfl rfl ?_
                have hP9 : tkL b n (ln0 b n σ 1 (sk b n a) e) μ (am_up μZ 45 47 0) := tkL_no (ln0_3 (by unfold tooL; omega) ⟨by omega, by rw [htl, if_pos (by omega)]; omega⟩) (by omega) (((am_up_nk (by omega)).trans ((congrFun (hFZ.at (by omega) (by omega)) _).trans ((congrFun (hFZ0.at (by omega) (by omega)) _).trans hb_32))).trans (by rfl)) (((am_up_nk (by omega)).trans ((congrFun (hFZ.at (by omega) (by omega)) _).trans ((congrFun (hFZ0.at (by omega) (by omega)) _).trans h1_32))).trans (by rfl)) (((am_up_nk (by omega)).trans ((congrFun (hFZ.at (by omega) (by omega)) _).trans ((congrFun (hFZ0.at (by omega) (by omega)) _).trans (h2_32.trans (congrFun (hF30.at (by omega) (by omega)) _))))).trans (by exact hK.1))
                exact w_retV dX8_splitHere_191 rfl ⟨(((hFZ.wd (by omega) (by omega)).tr ((hFZ0.wd (by omega) (by omega)).tr ((hF32.wd (by omega) (by omega)).tr (hF30.wd (by omega) (by omega))))).up (by omega)), (by exact hP9), (fun k h1 => ((am_up_nk (by omega)).trans ((congrFun (hFZ.at (by omega) (by omega)) _).trans ((congrFun (hFZ0.at (by omega) (by omega)) _).trans ((hf_32 k (by omega)).trans (congrFun (hF30.at (by omega) (by omega)) _)))))), (RTc.cg2 hR (fun o h1 => ((am_up_o (by omega)).trans ((hFZ.at (by omega) (by omega)).trans ((hFZ0.at (by omega) (by omega)).trans ((hF32.at (by omega) (by omega)).trans (hF30.at (by omega) (by omega))))))) (fun k h1 => ((am_up_nk (by omega)).trans ((congrFun (hFZ.at (by omega) (by omega)) _).trans ((congrFun (hFZ0.at (by omega) (by omega)) _).trans ((hf_32 _ (by omega)).trans (congrFun (hF30.at (by omega) (by omega)) _))))))), (by rw [(((am_up_nk (by omega)).trans ((congrFun (hFZ.at (by omega) (by omega)) _).trans ((congrFun (hFZ0.at (by omega) (by omega)) _).trans ((hf_32 _ (by omega)).trans (congrFun (hF30.at (by omega) (by omega)) _))))).trans (by rfl)), (((am_up_nk (by omega)).trans ((congrFun (hFZ.at (by omega) (by omega)) _).trans ((congrFun (hFZ0.at (by omega) (by omega)) _).trans ((hf_32 _ (by omega)).trans (congrFun (hF30.at (by omega) (by omega)) _))))).trans (by rfl))]; omega)⟩
          · skip
            exact absurd c71 (by decide)
        · skip
          refine w_iconst dX8_splitHere_54 ?_
          refine w_goto (tgt := 59) dX8_splitHere_55 rfl ?_
          refine w_iconst dX8_splitHere_59 ?_
          refine w_callVV (o := 45) (ci := 8) (as := [(0, 1), (0, 1)]) (rest := []) (k := 0) fX8_splitHere_60 rfl rfl rfl rfl rfl rfl rfl rfl (Nat.le_of_ble_eq_true rfl) (s_X8_must_t X 1 1 μ_32 (Or.inr hb_32) rfl) (fun μZ0 hμZ0 => ?_)
          have hFZ0 := hμZ0
          refine w_iconst dX8_splitHere_63 ?_
          refine w_istore_n (ls' := [(2, 45), (0, 0), (9, 0)]) dX8_splitHere_64 rfl (Nat.le_of_ble_eq_true rfl) rfl rfl ?_
          refine w_iconst dX8_splitHere_65 ?_
          refine w_istore_n (ls' := [(2, 45), (0, 0), (0, 0)]) dX8_splitHere_66 rfl (Nat.le_of_ble_eq_true rfl) rfl rfl ?_
          refine w_aload_n dX8_splitHere_67 rfl rfl (by first | decide | omega) ?_
          refine w_getIx (o := 45) (f := 43) (x := 1) fX8_splitHere_68 rfl rfl (Nat.le_of_ble_eq_true rfl) rfl ((congrFun (hFZ0.at (by omega) (by omega)) _).trans hb_32) ?_
          refine w_if_ne (tgt := 159) dX8_splitHere_71 rfl (R32.in (by decide)) (fun c71 => ?_) (fun c71 => ?_)
          · skip
            refine w_aload_n dX8_splitHere_159 rfl rfl (by first | decide | omega) ?_
            refine w_aload_n dX8_splitHere_160 rfl rfl (by first | decide | omega) ?_
            refine w_bipush dX8_splitHere_161 (by decide) ?_
            refine w_callVP (o := 45) (ci := 8) (as := [(0, 59)]) (rest := [(2, 45)]) (k := 0) fX8_splitHere_163 rfl rfl rfl rfl rfl rfl rfl rfl (Nat.le_of_ble_eq_true rfl) (s_X8_isMark X 59 μZ0 (by rw [((congrFun (hFZ0.at (by omega) (by omega)) _).trans ((hf_32 _ (by omega)).trans (congrFun (hF30.at (by omega) (by omega)) _)))]; omega) (by rw [((congrFun (hFZ0.at (by omega) (by omega)) _).trans ((hf_32 _ (by omega)).trans (congrFun (hF30.at (by omega) (by omega)) _)))]; omega) (by decide)) ?_
            have hf40 := am_b_r (μZ0 45 39 = 3 ∧ μZ0 45 40 = 59)
            refine w_if_eq (tgt := 177) dX8_splitHere_166 rfl (R32.in (by have := am_b_r ((μZ0 45 39 = 3 ∧ μZ0 45 40 = 59)); omega)) (fun c166 => ?_) (fun c166 => ?_)
            · skip
              replace c166 := am_b0 c166
              refine w_iconst dX8_splitHere_177 ?_
              refine w_goto (tgt := 182) dX8_splitHere_178 rfl ?_
              refine w_iconst dX8_splitHere_182 ?_
              refine w_callVV (o := 45) (ci := 8) (as := [(0, 1), (0, 5)]) (rest := []) (k := 0) fX8_splitHere_183 rfl rfl rfl rfl rfl rfl rfl rfl (Nat.le_of_ble_eq_true rfl) (s_X8_must_t X 1 5 μZ0 (Or.inr ((congrFun (hFZ0.at (by omega) (by omega)) _).trans hb_32)) rfl) (fun μZ hμZ => ?_)
              have hFZ := hμZ
              refine w_aload_n dX8_splitHere_186 rfl rfl (by first | decide | omega) ?_
              refine w_iload_n dX8_splitHere_187 rfl rfl ?_
              refine w_putI (o := 45) (f := 47) fX8_splitHere_188 rfl rfl rfl rfl rfl ?_
              have hP9 : tkL b n (ln0 b n σ 1 (sk b n a) e) μ (am_up μZ 45 47 0) := tkL_no (ln0_3 (by unfold tooL; omega) ⟨by omega, by rw [htl, if_pos (by omega)]; omega⟩) (by omega) (((am_up_nk (by omega)).trans ((congrFun (hFZ.at (by omega) (by omega)) _).trans ((congrFun (hFZ0.at (by omega) (by omega)) _).trans hb_32))).trans (by rfl)) (((am_up_nk (by omega)).trans ((congrFun (hFZ.at (by omega) (by omega)) _).trans ((congrFun (hFZ0.at (by omega) (by omega)) _).trans h1_32))).trans (by rfl)) (((am_up_nk (by omega)).trans ((congrFun (hFZ.at (by omega) (by omega)) _).trans ((congrFun (hFZ0.at (by omega) (by omega)) _).trans (h2_32.trans (congrFun (hF30.at (by omega) (by omega)) _))))).trans (by exact hK.1))
              exact w_retV dX8_splitHere_191 rfl ⟨(((hFZ.wd (by omega) (by omega)).tr ((hFZ0.wd (by omega) (by omega)).tr ((hF32.wd (by omega) (by omega)).tr (hF30.wd (by omega) (by omega))))).up (by omega)), (by exact hP9), (fun k h1 => ((am_up_nk (by omega)).trans ((congrFun (hFZ.at (by omega) (by omega)) _).trans ((congrFun (hFZ0.at (by omega) (by omega)) _).trans ((hf_32 k (by omega)).trans (congrFun (hF30.at (by omega) (by omega)) _)))))), (RTc.cg2 hR (fun o h1 => ((am_up_o (by omega)).trans ((hFZ.at (by omega) (by omega)).trans ((hFZ0.at (by omega) (by omega)).trans ((hF32.at (by omega) (by omega)).trans (hF30.at (by omega) (by omega))))))) (fun k h1 => ((am_up_nk (by omega)).trans ((congrFun (hFZ.at (by omega) (by omega)) _).trans ((congrFun (hFZ0.at (by omega) (by omega)) _).trans ((hf_32 _ (by omega)).trans (congrFun (hF30.at (by omega) (by omega)) _))))))), (by rw [(((am_up_nk (by omega)).trans ((congrFun (hFZ.at (by omega) (by omega)) _).trans ((congrFun (hFZ0.at (by omega) (by omega)) _).trans ((hf_32 _ (by omega)).trans (congrFun (hF30.at (by omega) (by omega)) _))))).trans (by rfl)), (((am_up_nk (by omega)).trans ((congrFun (hFZ.at (by omega) (by omega)) _).trans ((congrFun (hFZ0.at (by omega) (by omega)) _).trans ((hf_32 _ (by omega)).trans (congrFun (hF30.at (by omega) (by omega)) _))))).trans (by rfl))]; omega)⟩
            · skip
              replace c166 := am_b1 c166
              refine w_iload_n dX8_splitHere_169 rfl rfl ?_
              refine w_aload_n dX8_splitHere_170 rfl rfl (by first | decide | omega) ?_
              refine w_getIx (o := 45) (f := 44) (x := σ 0 2) fX8_splitHere_171 rfl rfl (Nat.le_of_ble_eq_true rfl) rfl ((congrFun (hFZ0.at (by omega) (by omega)) _).trans ((hf_32 _ (by omega)).trans ((congrFun (hF30.at (by omega) (by omega)) _).trans hP.bt))) ?_
              have hr42 := hP.ok.1.2.2.1
              refine w_icmp_ne (tgt := 181) dX8_splitHere_174 rfl (R32.in (by decide)) (R32.in (by omega)) (fun c174 => ?_) (fun c174 => ?_)
              · skip
                refine w_iconst dX8_splitHere_181 ?_
                refine w_iconst dX8_splitHere_182 ?_
                refine w_callVV (o := 45) (ci := 8) (as := [(0, 0), (0, 5)]) (rest := []) (k := 0) fX8_splitHere_183 rfl rfl rfl rfl rfl rfl rfl rfl (Nat.le_of_ble_eq_true rfl) (s_X8_must_b X 0 5 μZ0 ((congrFun (hFZ0.at (by omega) (by omega)) _).trans hb_32)) (fun μZ hμZ => ?_)
                have hFZ := hμZ
                refine w_aload_n dX8_splitHere_186 rfl rfl (by first | decide | omega) ?_
                refine w_iload_n dX8_splitHere_187 rfl rfl ?_
                refine w_putI (o := 45) (f := 47) fX8_splitHere_188 rfl rfl rfl rfl rfl ?_
                have hP9 : tkL b n (ln0 b n σ 1 (sk b n a) e) μ (am_up μZ 45 47 0) := tkL_no (ln0_3 (by unfold tooL; omega) ⟨by omega, by rw [htl, if_pos (by omega)]; omega⟩) (by omega) (((am_up_nk (by omega)).trans ((congrFun (hFZ.at (by omega) (by omega)) _).trans ((congrFun (hFZ0.at (by omega) (by omega)) _).trans hb_32))).trans (by rfl)) (((am_up_nk (by omega)).trans ((congrFun (hFZ.at (by omega) (by omega)) _).trans ((congrFun (hFZ0.at (by omega) (by omega)) _).trans h1_32))).trans (by rfl)) (((am_up_nk (by omega)).trans ((congrFun (hFZ.at (by omega) (by omega)) _).trans ((congrFun (hFZ0.at (by omega) (by omega)) _).trans (h2_32.trans (congrFun (hF30.at (by omega) (by omega)) _))))).trans (by exact hK.1))
                exact w_retV dX8_splitHere_191 rfl ⟨(((hFZ.wd (by omega) (by omega)).tr ((hFZ0.wd (by omega) (by omega)).tr ((hF32.wd (by omega) (by omega)).tr (hF30.wd (by omega) (by omega))))).up (by omega)), (by exact hP9), (fun k h1 => ((am_up_nk (by omega)).trans ((congrFun (hFZ.at (by omega) (by omega)) _).trans ((congrFun (hFZ0.at (by omega) (by omega)) _).trans ((hf_32 k (by omega)).trans (congrFun (hF30.at (by omega) (by omega)) _)))))), (RTc.cg2 hR (fun o h1 => ((am_up_o (by omega)).trans ((hFZ.at (by omega) (by omega)).trans ((hFZ0.at (by omega) (by omega)).trans ((hF32.at (by omega) (by omega)).trans (hF30.at (by omega) (by omega))))))) (fun k h1 => ((am_up_nk (by omega)).trans ((congrFun (hFZ.at (by omega) (by omega)) _).trans ((congrFun (hFZ0.at (by omega) (by omega)) _).trans ((hf_32 _ (by omega)).trans (congrFun (hF30.at (by omega) (by omega)) _))))))), (by rw [(((am_up_nk (by omega)).trans ((congrFun (hFZ.at (by omega) (by omega)) _).trans ((congrFun (hFZ0.at (by omega) (by omega)) _).trans ((hf_32 _ (by omega)).trans (congrFun (hF30.at (by omega) (by omega)) _))))).trans (by rfl)), (((am_up_nk (by omega)).trans ((congrFun (hFZ.at (by omega) (by omega)) _).trans ((congrFun (hFZ0.at (by omega) (by omega)) _).trans ((hf_32 _ (by omega)).trans (congrFun (hF30.at (by omega) (by omega)) _))))).trans (by rfl))]; omega)⟩
              · skip
                refine w_iconst dX8_splitHere_177 ?_
                refine w_goto (tgt := 182) dX8_splitHere_178 rfl ?_
                refine w_iconst dX8_splitHere_182 ?_
                refine w_callVV (o := 45) (ci := 8) (as := [(0, 1), (0, 5)]) (rest := []) (k := 0) fX8_splitHere_183 rfl rfl rfl rfl rfl rfl rfl rfl (Nat.le_of_ble_eq_true rfl) (s_X8_must_t X 1 5 μZ0 (Or.inr ((congrFun (hFZ0.at (by omega) (by omega)) _).trans hb_32)) rfl) (fun μZ hμZ => ?_)
                have hFZ := hμZ
                refine w_aload_n dX8_splitHere_186 rfl rfl (by first | decide | omega) ?_
                refine w_iload_n dX8_splitHere_187 rfl rfl ?_
                refine w_putI (o := 45) (f := 47) fX8_splitHere_188 rfl rfl rfl rfl rfl ?_
                have hP9 : tkL b n (ln0 b n σ 1 (sk b n a) e) μ (am_up μZ 45 47 0) := tkL_no (ln0_3 (by unfold tooL; omega) ⟨by omega, by rw [htl, if_pos (by omega)]; omega⟩) (by omega) (((am_up_nk (by omega)).trans ((congrFun (hFZ.at (by omega) (by omega)) _).trans ((congrFun (hFZ0.at (by omega) (by omega)) _).trans hb_32))).trans (by rfl)) (((am_up_nk (by omega)).trans ((congrFun (hFZ.at (by omega) (by omega)) _).trans ((congrFun (hFZ0.at (by omega) (by omega)) _).trans h1_32))).trans (by rfl)) (((am_up_nk (by omega)).trans ((congrFun (hFZ.at (by omega) (by omega)) _).trans ((congrFun (hFZ0.at (by omega) (by omega)) _).trans (h2_32.trans (congrFun (hF30.at (by omega) (by omega)) _))))).trans (by exact hK.1))
                exact w_retV dX8_splitHere_191 rfl ⟨(((hFZ.wd (by omega) (by omega)).tr ((hFZ0.wd (by omega) (by omega)).tr ((hF32.wd (by omega) (by omega)).tr (hF30.wd (by omega) (by omega))))).up (by omega)), (by exact hP9), (fun k h1 => ((am_up_nk (by omega)).trans ((congrFun (hFZ.at (by omega) (by omega)) _).trans ((congrFun (hFZ0.at (by omega) (by omega)) _).trans ((hf_32 k (by omega)).trans (congrFun (hF30.at (by omega) (by omega)) _)))))), (RTc.cg2 hR (fun o h1 => ((am_up_o (by omega)).trans ((hFZ.at (by omega) (by omega)).trans ((hFZ0.at (by omega) (by omega)).trans ((hF32.at (by omega) (by omega)).trans (hF30.at (by omega) (by omega))))))) (fun k h1 => ((am_up_nk (by omega)).trans ((congrFun (hFZ.at (by omega) (by omega)) _).trans ((congrFun (hFZ0.at (by omega) (by omega)) _).trans ((hf_32 _ (by omega)).trans (congrFun (hF30.at (by omega) (by omega)) _))))))), (by rw [(((am_up_nk (by omega)).trans ((congrFun (hFZ.at (by omega) (by omega)) _).trans ((congrFun (hFZ0.at (by omega) (by omega)) _).trans ((hf_32 _ (by omega)).trans (congrFun (hF30.at (by omega) (by omega)) _))))).trans (by rfl)), (((am_up_nk (by omega)).trans ((congrFun (hFZ.at (by omega) (by omega)) _).trans ((congrFun (hFZ0.at (by omega) (by omega)) _).trans ((hf_32 _ (by omega)).trans (congrFun (hF30.at (by omega) (by omega)) _))))).trans (by rfl))]; omega)⟩
          · skip
            exact absurd c71 (by decide)
      · skip
        exact absurd c38 (by decide)
    · skip
      have hn1 : ¬ ((1 : Int) = -1 ∨ tooL σ 1) := by unfold tooL; omega
      have htl : tldS σ 1 = 0 := by unfold tldS; rw [if_neg (by omega), if_pos rfl, if_neg (by omega)]
      have hl9 : ln0 b n σ 1 (sk b n a) e = lSpl b n σ e := by rw [ln0_b hn1 (by omega) (by omega), lBod_1]
      refine w_iconst dX8_splitHere_25 ?_
      refine w_goto (tgt := 30) dX8_splitHere_26 rfl ?_
      refine w_iconst dX8_splitHere_30 ?_
      refine w_callVV (o := 45) (ci := 8) (as := [(0, 1), (0, 3)]) (rest := []) (k := 0) fX8_splitHere_31 rfl rfl rfl rfl rfl rfl rfl rfl (Nat.le_of_ble_eq_true rfl) (s_X8_must_t X 1 3 μ_30 (Or.inl ((congrFun (hF30.at (by omega) (by omega)) _).trans hb)) rfl) (fun μ_45 hμ45 => ?_)
      have hF45 := hμ45
      refine w_aload_n dX8_splitHere_34 rfl rfl (by first | decide | omega) ?_
      refine w_getIx (o := 45) (f := 43) (x := 0) fX8_splitHere_35 rfl rfl (Nat.le_of_ble_eq_true rfl) rfl ((congrFun (hF45.at (by omega) (by omega)) _).trans ((congrFun (hF30.at (by omega) (by omega)) _).trans hb)) ?_
      refine w_if_ne (tgt := 45) dX8_splitHere_38 rfl (R32.in (by decide)) (fun c38 => ?_) (fun c38 => ?_)
      · skip
        exact absurd c38 (by decide)
      · skip
        have h37c : μ_45 45 37 = e := (((congrFun (hF45.at (by omega) (by omega)) _).trans (congrFun (hF30.at (by omega) (by omega)) _)).trans (by exact he))
        have hatc : 0 ≤ μ_45 45 37 ∧ μ_45 45 37 ≤ n := by rw [h37c]; exact hae
        refine w_aload_n dX8_splitHere_41 rfl rfl (by first | decide | omega) ?_
        refine w_callVV (o := 45) (ci := 8) (as := []) (rest := []) (k := 1) fX8_splitHere_42 rfl rfl rfl rfl rfl rfl rfl rfl (Nat.le_of_ble_eq_true rfl) (s_X8_advance X b n μ_45 (RTc.cg2 hR (fun o h1 => ((hF45.at (by omega) (by omega)).trans (hF30.at (by omega) (by omega)))) (fun k h1 => ((congrFun (hF45.at (by omega) (by omega)) _).trans (congrFun (hF30.at (by omega) (by omega)) _)))) hatc) (fun μV hμV => ?_)
        obtain ⟨hFV, htk_V, hf_V, hR_V, hat_V⟩ := hμV
        rw [h37c] at htk_V
        have hrV := htk_V.r
        have hvV := htk_V.v hbb hae
        have hatV := htk_V.at hae
        refine w_aload_n dX8_splitHere_45 rfl rfl (by first | decide | omega) ?_
        refine w_aload_n dX8_splitHere_46 rfl rfl (by first | decide | omega) ?_
        refine w_getIx (o := 45) (f := 39) (x := μV 45 39) fX8_splitHere_47 rfl rfl (Nat.le_of_ble_eq_true rfl) rfl rfl ?_
        refine w_iconst dX8_splitHere_50 ?_
        refine w_icmp_ne (tgt := 58) dX8_splitHere_51 rfl (R32.in (by omega)) (R32.in (by decide)) (fun c51 => ?_) (fun c51 => ?_)
        · skip
          have hM2 := htk_V.n2 c51
          refine w_iconst dX8_splitHere_58 ?_
          refine w_iconst dX8_splitHere_59 ?_
          refine w_callVV (o := 45) (ci := 8) (as := [(0, 0), (0, 1)]) (rest := []) (k := 0) fX8_splitHere_60 rfl rfl rfl rfl rfl rfl rfl rfl (Nat.le_of_ble_eq_true rfl) (s_X8_must_f X 0 1 μV ((hf_V _ (by omega)).trans ((congrFun (hF45.at (by omega) (by omega)) _).trans ((congrFun (hF30.at (by omega) (by omega)) _).trans hb))) rfl) (fun μZ0 hμZ0 => ?_)
          obtain ⟨hFZ0, hb_Z0, h1_Z0, h2_Z0, hf_Z0⟩ := hμZ0
          refine w_iconst dX8_splitHere_63 ?_
          refine w_istore_n (ls' := [(2, 45), (0, 0), (9, 0)]) dX8_splitHere_64 rfl (Nat.le_of_ble_eq_true rfl) rfl rfl ?_
          refine w_iconst dX8_splitHere_65 ?_
          refine w_istore_n (ls' := [(2, 45), (0, 0), (0, 0)]) dX8_splitHere_66 rfl (Nat.le_of_ble_eq_true rfl) rfl rfl ?_
          refine w_aload_n dX8_splitHere_67 rfl rfl (by first | decide | omega) ?_
          refine w_getIx (o := 45) (f := 43) (x := 1) fX8_splitHere_68 rfl rfl (Nat.le_of_ble_eq_true rfl) rfl hb_Z0 ?_
          refine w_if_ne (tgt := 159) dX8_splitHere_71 rfl (R32.in (by decide)) (fun c71 => ?_) (fun c71 => ?_)
          · skip
            refine w_aload_n dX8_splitHere_159 rfl rfl (by first | decide | omega) ?_
            refine w_aload_n dX8_splitHere_160 rfl rfl (by first | decide | omega) ?_
            refine w_bipush dX8_splitHere_161 (by decide) ?_
            refine w_callVP (o := 45) (ci := 8) (as := [(0, 59)]) (rest := [(2, 45)]) (k := 0) fX8_splitHere_163 rfl rfl rfl rfl rfl rfl rfl rfl (Nat.le_of_ble_eq_true rfl) (s_X8_isMark X 59 μZ0 (by rw [(hf_Z0 _ (by omega))]; omega) (by rw [(hf_Z0 _ (by omega))]; omega) (by decide)) ?_
            have hf48 := am_b_r (μZ0 45 39 = 3 ∧ μZ0 45 40 = 59)
            refine w_if_eq (tgt := 177) dX8_splitHere_166 rfl (R32.in (by have := am_b_r ((μZ0 45 39 = 3 ∧ μZ0 45 40 = 59)); omega)) (fun c166 => ?_) (fun c166 => ?_)
            · skip
              replace c166 := am_b0 c166
              refine w_iconst dX8_splitHere_177 ?_
              refine w_goto (tgt := 182) dX8_splitHere_178 rfl ?_
              refine w_iconst dX8_splitHere_182 ?_
              refine w_callVV (o := 45) (ci := 8) (as := [(0, 1), (0, 5)]) (rest := []) (k := 0) fX8_splitHere_183 rfl rfl rfl rfl rfl rfl rfl rfl (Nat.le_of_ble_eq_true rfl) (s_X8_must_t X 1 5 μZ0 (Or.inr hb_Z0) rfl) (fun μZ hμZ => ?_)
              have hFZ := hμZ
              refine w_aload_n dX8_splitHere_186 rfl rfl (by first | decide | omega) ?_
              refine w_iload_n dX8_splitHere_187 rfl rfl ?_
              refine w_putI (o := 45) (f := 47) fX8_splitHere_188 rfl rfl rfl rfl rfl ?_
              have hP9 : tkL b n (ln0 b n σ 1 (sk b n a) e) μ (am_up μZ 45 47 0) := tkL_no (by rw [hl9]; unfold lSpl; rw [spL_bad (Or.inl rfl) (show ¬ (spW b n σ 0 0 e).1 = 0 by unfold spW; rw [nW_1 hM2]; exact (show ¬ (1 : Int) = 0 by decide))]; unfold spW; rw [nW_1 hM2]; exact if_pos (show ¬ (1 : Int) = 0 by decide)) (by omega) (((am_up_nk (by omega)).trans ((congrFun (hFZ.at (by omega) (by omega)) _).trans hb_Z0)).trans (by rfl)) (((am_up_nk (by omega)).trans ((congrFun (hFZ.at (by omega) (by omega)) _).trans h1_Z0)).trans (by rfl)) (((am_up_nk (by omega)).trans ((congrFun (hFZ.at (by omega) (by omega)) _).trans (h2_Z0.trans rfl))).trans (by exact htk_V.1))
              exact w_retV dX8_splitHere_191 rfl ⟨(((hFZ.wd (by omega) (by omega)).tr ((hFZ0.wd (by omega) (by omega)).tr ((hFV.wd (by omega) (by omega)).tr ((hF45.wd (by omega) (by omega)).tr (hF30.wd (by omega) (by omega)))))).up (by omega)), (by exact hP9), (fun k h1 => ((am_up_nk (by omega)).trans ((congrFun (hFZ.at (by omega) (by omega)) _).trans ((hf_Z0 k (by omega)).trans ((hf_V k (by omega)).trans ((congrFun (hF45.at (by omega) (by omega)) _).trans (congrFun (hF30.at (by omega) (by omega)) _))))))), (RTc.cg2 hR_V (fun o h1 => ((am_up_o (by omega)).trans ((hFZ.at (by omega) (by omega)).trans (hFZ0.at (by omega) (by omega))))) (fun k h1 => ((am_up_nk (by omega)).trans ((congrFun (hFZ.at (by omega) (by omega)) _).trans (hf_Z0 _ (by omega)))))), (by rw [(((am_up_nk (by omega)).trans ((congrFun (hFZ.at (by omega) (by omega)) _).trans (hf_Z0 _ (by omega)))).trans (by rfl)), (((am_up_nk (by omega)).trans ((congrFun (hFZ.at (by omega) (by omega)) _).trans (hf_Z0 _ (by omega)))).trans (by rfl))]; omega)⟩
            · skip
              replace c166 := am_b1 c166
              refine w_iload_n dX8_splitHere_169 rfl rfl ?_
              refine w_aload_n dX8_splitHere_170 rfl rfl (by first | decide | omega) ?_
              refine w_getIx (o := 45) (f := 44) (x := σ 0 2) fX8_splitHere_171 rfl rfl (Nat.le_of_ble_eq_true rfl) rfl ((hf_Z0 _ (by omega)).trans ((hf_V _ (by omega)).trans ((congrFun (hF45.at (by omega) (by omega)) _).trans ((congrFun (hF30.at (by omega) (by omega)) _).trans hP.bt)))) ?_
              have hr50 := hP.ok.1.2.2.1
              refine w_icmp_ne (tgt := 181) dX8_splitHere_174 rfl (R32.in (by decide)) (R32.in (by omega)) (fun c174 => ?_) (fun c174 => ?_)
              · skip
                refine w_iconst dX8_splitHere_181 ?_
                refine w_iconst dX8_splitHere_182 ?_
                refine w_callVV (o := 45) (ci := 8) (as := [(0, 0), (0, 5)]) (rest := []) (k := 0) fX8_splitHere_183 rfl rfl rfl rfl rfl rfl rfl rfl (Nat.le_of_ble_eq_true rfl) (s_X8_must_b X 0 5 μZ0 hb_Z0) (fun μZ hμZ => ?_)
                have hFZ := hμZ
                refine w_aload_n dX8_splitHere_186 rfl rfl (by first | decide | omega) ?_
                refine w_iload_n dX8_splitHere_187 rfl rfl ?_
                refine w_putI (o := 45) (f := 47) fX8_splitHere_188 rfl rfl rfl rfl rfl ?_
                have hP9 : tkL b n (ln0 b n σ 1 (sk b n a) e) μ (am_up μZ 45 47 0) := tkL_no (by rw [hl9]; unfold lSpl; rw [spL_bad (Or.inl rfl) (show ¬ (spW b n σ 0 0 e).1 = 0 by unfold spW; rw [nW_1 hM2]; exact (show ¬ (1 : Int) = 0 by decide))]; unfold spW; rw [nW_1 hM2]; exact if_pos (show ¬ (1 : Int) = 0 by decide)) (by omega) (((am_up_nk (by omega)).trans ((congrFun (hFZ.at (by omega) (by omega)) _).trans hb_Z0)).trans (by rfl)) (((am_up_nk (by omega)).trans ((congrFun (hFZ.at (by omega) (by omega)) _).trans h1_Z0)).trans (by rfl)) (((am_up_nk (by omega)).trans ((congrFun (hFZ.at (by omega) (by omega)) _).trans (h2_Z0.trans rfl))).trans (by exact htk_V.1))
                exact w_retV dX8_splitHere_191 rfl ⟨(((hFZ.wd (by omega) (by omega)).tr ((hFZ0.wd (by omega) (by omega)).tr ((hFV.wd (by omega) (by omega)).tr ((hF45.wd (by omega) (by omega)).tr (hF30.wd (by omega) (by omega)))))).up (by omega)), (by exact hP9), (fun k h1 => ((am_up_nk (by omega)).trans ((congrFun (hFZ.at (by omega) (by omega)) _).trans ((hf_Z0 k (by omega)).trans ((hf_V k (by omega)).trans ((congrFun (hF45.at (by omega) (by omega)) _).trans (congrFun (hF30.at (by omega) (by omega)) _))))))), (RTc.cg2 hR_V (fun o h1 => ((am_up_o (by omega)).trans ((hFZ.at (by omega) (by omega)).trans (hFZ0.at (by omega) (by omega))))) (fun k h1 => ((am_up_nk (by omega)).trans ((congrFun (hFZ.at (by omega) (by omega)) _).trans (hf_Z0 _ (by omega)))))), (by rw [(((am_up_nk (by omega)).trans ((congrFun (hFZ.at (by omega) (by omega)) _).trans (hf_Z0 _ (by omega)))).trans (by rfl)), (((am_up_nk (by omega)).trans ((congrFun (hFZ.at (by omega) (by omega)) _).trans (hf_Z0 _ (by omega)))).trans (by rfl))]; omega)⟩
              · skip
                refine w_iconst dX8_splitHere_177 ?_
                refine w_goto (tgt := 182) dX8_splitHere_178 rfl ?_
                refine w_iconst dX8_splitHere_182 ?_
                refine w_callVV (o := 45) (ci := 8) (as := [(0, 1), (0, 5)]) (rest := []) (k := 0) fX8_splitHere_183 rfl rfl rfl rfl rfl rfl rfl rfl (Nat.le_of_ble_eq_true rfl) (s_X8_must_t X 1 5 μZ0 (Or.inr hb_Z0) rfl) (fun μZ hμZ => ?_)
                have hFZ := hμZ
                refine w_aload_n dX8_splitHere_186 rfl rfl (by first | decide | omega) ?_
                refine w_iload_n dX8_splitHere_187 rfl rfl ?_
                refine w_putI (o := 45) (f := 47) fX8_splitHere_188 rfl rfl rfl rfl rfl ?_
                have hP9 : tkL b n (ln0 b n σ 1 (sk b n a) e) μ (am_up μZ 45 47 0) := tkL_no (by rw [hl9]; unfold lSpl; rw [spL_bad (Or.inl rfl) (show ¬ (spW b n σ 0 0 e).1 = 0 by unfold spW; rw [nW_1 hM2]; exact (show ¬ (1 : Int) = 0 by decide))]; unfold spW; rw [nW_1 hM2]; exact if_pos (show ¬ (1 : Int) = 0 by decide)) (by omega) (((am_up_nk (by omega)).trans ((congrFun (hFZ.at (by omega) (by omega)) _).trans hb_Z0)).trans (by rfl)) (((am_up_nk (by omega)).trans ((congrFun (hFZ.at (by omega) (by omega)) _).trans h1_Z0)).trans (by rfl)) (((am_up_nk (by omega)).trans ((congrFun (hFZ.at (by omega) (by omega)) _).trans (h2_Z0.trans rfl))).trans (by exact htk_V.1))
                exact w_retV dX8_splitHere_191 rfl ⟨(((hFZ.wd (by omega) (by omega)).tr ((hFZ0.wd (by omega) (by omega)).tr ((hFV.wd (by omega) (by omega)).tr ((hF45.wd (by omega) (by omega)).tr (hF30.wd (by omega) (by omega)))))).up (by omega)), (by exact hP9), (fun k h1 => ((am_up_nk (by omega)).trans ((congrFun (hFZ.at (by omega) (by omega)) _).trans ((hf_Z0 k (by omega)).trans ((hf_V k (by omega)).trans ((congrFun (hF45.at (by omega) (by omega)) _).trans (congrFun (hF30.at (by omega) (by omega)) _))))))), (RTc.cg2 hR_V (fun o h1 => ((am_up_o (by omega)).trans ((hFZ.at (by omega) (by omega)).trans (hFZ0.at (by omega) (by omega))))) (fun k h1 => ((am_up_nk (by omega)).trans ((congrFun (hFZ.at (by omega) (by omega)) _).trans (hf_Z0 _ (by omega)))))), (by rw [(((am_up_nk (by omega)).trans ((congrFun (hFZ.at (by omega) (by omega)) _).trans (hf_Z0 _ (by omega)))).trans (by rfl)), (((am_up_nk (by omega)).trans ((congrFun (hFZ.at (by omega) (by omega)) _).trans (hf_Z0 _ (by omega)))).trans (by rfl))]; omega)⟩
          · skip
            exact absurd c71 (by decide)
        · skip
          have hdg0 := (htk_V.t2 c51 hae).1
          refine w_iconst dX8_splitHere_54 ?_
          refine w_goto (tgt := 59) dX8_splitHere_55 rfl ?_
          refine w_iconst dX8_splitHere_59 ?_
          refine w_callVV (o := 45) (ci := 8) (as := [(0, 1), (0, 1)]) (rest := []) (k := 0) fX8_splitHere_60 rfl rfl rfl rfl rfl rfl rfl rfl (Nat.le_of_ble_eq_true rfl) (s_X8_must_t X 1 1 μV (Or.inl ((hf_V _ (by omega)).trans ((congrFun (hF45.at (by omega) (by omega)) _).trans ((congrFun (hF30.at (by omega) (by omega)) _).trans hb)))) rfl) (fun μZ0 hμZ0 => ?_)
          have hFZ0 := hμZ0
          refine w_iconst dX8_splitHere_63 ?_
          refine w_istore_n (ls' := [(2, 45), (0, 0), (9, 0)]) dX8_splitHere_64 rfl (Nat.le_of_ble_eq_true rfl) rfl rfl ?_
          refine w_iconst dX8_splitHere_65 ?_
          refine w_istore_n (ls' := [(2, 45), (0, 0), (0, 0)]) dX8_splitHere_66 rfl (Nat.le_of_ble_eq_true rfl) rfl rfl ?_
          have hL67 : ∀ (n67 : Nat) (σ1 : Mu) (k : Int) (tg : Int) (t : Int) (μ1 : Mu), (7 - k).toNat = n67 → Fr 45 45 63 63 μ1 μ → (0 ≤ k ∧ k ≤ 6) → (k ≤ tg ∧ tg ≤ σ 0 2) → (0 ≤ t ∧ t ≤ n) → (TK b n (sk b n t) μ1) → (k = 0 → dgA b n t) → (∀ o : Int, ¬ o = 6 → σ1 o = σ o) → (∀ j : Int, 0 ≤ j → j < k → 1 ≤ σ1 6 j ∧ σ1 6 j ≤ 12) → (∀ j : Int, 0 ≤ j → j < k → μ1 63 j = σ1 6 j) → (spL b n (8 - k).toNat σ1 k tg t = spL b n 8 σ 0 0 e) → (μ1 45 43 = 0) → (μ1 45 41 = μ 45 41) → (μ1 45 42 = μ 45 42) → (RTc b n μ1) → (∀ k9 : Int, (¬ k9 = 37 ∧ ¬ k9 = 38 ∧ ¬ k9 = 39 ∧ ¬ k9 = 40 ∧ ¬ k9 = 41 ∧ ¬ k9 = 42 ∧ ¬ k9 = 43) → μ1 45 k9 = μ 45 k9) → Wp (GG X) M_X8_splitHere 67 [(2, 45), (0, tg), (0, k)] [] μ1 (qV fun μ' => (Fr 45 45 63 68 μ' μ) ∧ (tkL b n (ln0 b n σ 1 (sk b n a) e) μ μ') ∧ (∀ k9 : Int, (¬ k9 = 37 ∧ ¬ k9 = 38 ∧ ¬ k9 = 39 ∧ ¬ k9 = 40 ∧ ¬ k9 = 41 ∧ ¬ k9 = 42 ∧ ¬ k9 = 43 ∧ ¬ k9 = 44 ∧ ¬ k9 = 45 ∧ ¬ k9 = 46 ∧ ¬ k9 = 47 ∧ ¬ k9 = 48 ∧ ¬ k9 = 49 ∧ ¬ k9 = 50 ∧ ¬ k9 = 51 ∧ ¬ k9 = 52 ∧ ¬ k9 = 53 ∧ ¬ k9 = 54 ∧ ¬ k9 = 55 ∧ ¬ k9 = 56 ∧ ¬ k9 = 57) → μ' 45 k9 = μ 45 k9) ∧ (RTc b n μ') ∧ ((0 ≤ μ' 45 39 ∧ μ' 45 39 ≤ 4) ∧ (-1 ≤ μ' 45 40 ∧ μ' 45 40 < 1073741824))) := by
            intro n67
            induction n67 using Nat.strongRecOn with
            | ind n67 ih67 =>
              intro σ1 k tg t μ1 hn67 hF67 hk0 htg ht hK1 hdg1 hσ1 hp hrow hsp hb1 h411 h421 hR1 hfA
              have hr1 := hK1.r
              have hv1 := hK1.v hbb ht
              have hat1 := hK1.at ht
              have hbt := hok.1.2.2.1
              refine w_aload_n dX8_splitHere_67 rfl rfl (by first | decide | omega) ?_
              refine w_getIx (o := 45) (f := 43) (x := 0) fX8_splitHere_68 rfl rfl (Nat.le_of_ble_eq_true rfl) rfl hb1 ?_
              refine w_if_ne (tgt := 159) dX8_splitHere_71 rfl (R32.in (by decide)) (fun c71 => ?_) (fun c71 => ?_)
              · skip
                exact absurd c71 (by decide)
              · skip
                refine w_aload_n dX8_splitHere_74 rfl rfl (by first | decide | omega) ?_
                refine w_getIx (o := 45) (f := 39) (x := μ1 45 39) fX8_splitHere_75 rfl rfl (Nat.le_of_ble_eq_true rfl) rfl rfl ?_
                refine w_iconst dX8_splitHere_78 ?_
                refine w_icmp_ne (tgt := 159) dX8_splitHere_79 rfl (R32.in (by omega)) (R32.in (by decide)) (fun c79 => ?_) (fun c79 => ?_)
                · skip
                  have hnd : ¬ dgA b n t := hK1.n2 c79
                  have hspe := hsp.symm.trans (spL_end (show ¬ (k = 0 ∨ (k ≤ 6 ∧ dgA b n t)) from fun q9 => by rcases q9 with q9 | q9; exact hnd (hdg1 q9); exact hnd q9.2))
                  have hk1 : ¬ k = 0 := fun q9 => hnd (hdg1 q9)
                  have hmk := hK1.mk (c := 59) (Or.inl rfl)
                  refine w_aload_n dX8_splitHere_159 rfl rfl (by first | decide | omega) ?_
                  refine w_aload_n dX8_splitHere_160 rfl rfl (by first | decide | omega) ?_
                  refine w_bipush dX8_splitHere_161 (by decide) ?_
                  refine w_callVP (o := 45) (ci := 8) (as := [(0, 59)]) (rest := [(2, 45)]) (k := 0) fX8_splitHere_163 rfl rfl rfl rfl rfl rfl rfl rfl (Nat.le_of_ble_eq_true rfl) (s_X8_isMark X 59 μ1 (by first | omega | assumption) (by first | omega | assumption) (by first | omega | assumption)) ?_
                  have hf54 := am_b_r (μ1 45 39 = 3 ∧ μ1 45 40 = 59)
                  refine w_if_eq (tgt := 177) dX8_splitHere_166 rfl (R32.in (by have := am_b_r ((μ1 45 39 = 3 ∧ μ1 45 40 = 59)); omega)) (fun c166 => ?_) (fun c166 => ?_)
                  · skip
                    replace c166 := am_b0 c166
                    refine w_iconst dX8_splitHere_177 ?_
                    refine w_goto (tgt := 182) dX8_splitHere_178 rfl ?_
                    refine w_iconst dX8_splitHere_182 ?_
                    refine w_callVV (o := 45) (ci := 8) (as := [(0, 1), (0, 5)]) (rest := []) (k := 0) fX8_splitHere_183 rfl rfl rfl rfl rfl rfl rfl rfl (Nat.le_of_ble_eq_true rfl) (s_X8_must_t X 1 5 μ1 (Or.inl hb1) rfl) (fun μZ hμZ => ?_)
                    have hFZ := hμZ
                    refine w_aload_n dX8_splitHere_186 rfl rfl (by first | decide | omega) ?_
                    refine w_iload_n dX8_splitHere_187 rfl rfl ?_
                    refine w_putI (o := 45) (f := 47) fX8_splitHere_188 rfl rfl rfl rfl rfl ?_
                    have hP9 : tkL b n (ln0 b n σ 1 (sk b n a) e) μ (am_up μZ 45 47 k) := tkL_ok (by rw [hl9]; unfold lSpl; rw [hspe]; exact (if_neg (fun q9 => q9 rfl)).trans (if_neg (show ¬ (tg < σ 0 2 ∧ see b n (sk b n t) = 59) from fun q9 => c166 (hmk.mpr q9.2)))) (RPS_sp hP (by omega) hσ1 hp (fun o h1 => ((am_up_o (by omega)).trans ((hFZ.at (by omega) (by omega)).trans (hF67.at (by omega) (by omega))))) (fun k h1 => ((am_up_nk (by omega)).trans ((congrFun (hFZ.at (by omega) (by omega)) _).trans (hfA k (by omega))))) (am_up_at.trans (by rfl)) (fun j h1 h2 => (congrFun (am_up_o (by omega)) j).trans ((congrFun (hFZ.at (by omega) (by omega)) j).trans (hrow j h1 h2)))) (((am_up_nk (by omega)).trans ((congrFun (hFZ.at (by omega) (by omega)) _).trans hb1)).trans (by rfl)) (hK1.cg (fun k9 h1 h2 => (am_up_nk (by omega)).trans (congrFun (hFZ.at (by omega) (by omega)) k9))) ht (((am_up_nk (by omega)).trans ((congrFun (hFZ.at (by omega) (by omega)) _).trans h411)).trans (by rfl)) (((am_up_nk (by omega)).trans ((congrFun (hFZ.at (by omega) (by omega)) _).trans h421)).trans (by rfl))
                    exact w_retV dX8_splitHere_191 rfl ⟨(((hFZ.wd (by omega) (by omega)).tr (hF67.wd (by omega) (by omega))).up (by omega)), (by exact hP9), (fun k h1 => ((am_up_nk (by omega)).trans ((congrFun (hFZ.at (by omega) (by omega)) _).trans (hfA k (by omega))))), (RTc.cg2 hR1 (fun o h1 => ((am_up_o (by omega)).trans (hFZ.at (by omega) (by omega)))) (fun k h1 => ((am_up_nk (by omega)).trans (congrFun (hFZ.at (by omega) (by omega)) _)))), (by rw [(((am_up_nk (by omega)).trans (congrFun (hFZ.at (by omega) (by omega)) _)).trans (by rfl)), (((am_up_nk (by omega)).trans (congrFun (hFZ.at (by omega) (by omega)) _)).trans (by rfl))]; omega)⟩
                  · skip
                    replace c166 := am_b1 c166
                    refine w_iload_n dX8_splitHere_169 rfl rfl ?_
                    refine w_aload_n dX8_splitHere_170 rfl rfl (by first | decide | omega) ?_
                    refine w_getIx (o := 45) (f := 44) (x := σ 0 2) fX8_splitHere_171 rfl rfl (Nat.le_of_ble_eq_true rfl) rfl ((hfA _ (by omega)).trans hP.bt) ?_
                    have hr56 := hP.ok.1.2.2.1
                    refine w_icmp_ne (tgt := 181) dX8_splitHere_174 rfl (R32.in (by omega)) (R32.in (by omega)) (fun c174 => ?_) (fun c174 => ?_)
                    · skip
                      refine w_iconst dX8_splitHere_181 ?_
                      refine w_iconst dX8_splitHere_182 ?_
                      refine w_callVV (o := 45) (ci := 8) (as := [(0, 0), (0, 5)]) (rest := []) (k := 0) fX8_splitHere_183 rfl rfl rfl rfl rfl rfl rfl rfl (Nat.le_of_ble_eq_true rfl) (s_X8_must_f X 0 5 μ1 hb1 rfl) (fun μZ hμZ => ?_)
                      obtain ⟨hFZ, hb_Z, h1_Z, h2_Z, hf_Z⟩ := hμZ
                      refine w_aload_n dX8_splitHere_186 rfl rfl (by first | decide | omega) ?_
                      refine w_iload_n dX8_splitHere_187 rfl rfl ?_
                      refine w_putI (o := 45) (f := 47) fX8_splitHere_188 rfl rfl rfl rfl rfl ?_
                      have hP9 : tkL b n (ln0 b n σ 1 (sk b n a) e) μ (am_up μZ 45 47 k) := tkL_no (by rw [hl9]; unfold lSpl; rw [hspe]; exact (if_neg (fun q9 => q9 rfl)).trans (if_pos (show tg < σ 0 2 ∧ see b n (sk b n t) = 59 from ⟨by omega, hmk.mp c166⟩))) (by omega) (((am_up_nk (by omega)).trans hb_Z).trans (by rfl)) (((am_up_nk (by omega)).trans h1_Z).trans (by rfl)) (((am_up_nk (by omega)).trans (h2_Z.trans rfl)).trans (by exact hK1.1))
                      exact w_retV dX8_splitHere_191 rfl ⟨(((hFZ.wd (by omega) (by omega)).tr (hF67.wd (by omega) (by omega))).up (by omega)), (by exact hP9), (fun k h1 => ((am_up_nk (by omega)).trans ((hf_Z k (by omega)).trans (hfA k (by omega))))), (RTc.cg2 hR1 (fun o h1 => ((am_up_o (by omega)).trans (hFZ.at (by omega) (by omega)))) (fun k h1 => ((am_up_nk (by omega)).trans (hf_Z _ (by omega))))), (by rw [(((am_up_nk (by omega)).trans (hf_Z _ (by omega))).trans (by rfl)), (((am_up_nk (by omega)).trans (hf_Z _ (by omega))).trans (by rfl))]; omega)⟩
                    · skip
                      refine w_iconst dX8_splitHere_177 ?_
                      refine w_goto (tgt := 182) dX8_splitHere_178 rfl ?_
                      refine w_iconst dX8_splitHere_182 ?_
                      refine w_callVV (o := 45) (ci := 8) (as := [(0, 1), (0, 5)]) (rest := []) (k := 0) fX8_splitHere_183 rfl rfl rfl rfl rfl rfl rfl rfl (Nat.le_of_ble_eq_true rfl) (s_X8_must_t X 1 5 μ1 (Or.inl hb1) rfl) (fun μZ hμZ => ?_)
                      have hFZ := hμZ
                      refine w_aload_n dX8_splitHere_186 rfl rfl (by first | decide | omega) ?_
                      refine w_iload_n dX8_splitHere_187 rfl rfl ?_
                      refine w_putI (o := 45) (f := 47) fX8_splitHere_188 rfl rfl rfl rfl rfl ?_
                      have hP9 : tkL b n (ln0 b n σ 1 (sk b n a) e) μ (am_up μZ 45 47 k) := tkL_ok (by rw [hl9]; unfold lSpl; rw [hspe]; exact (if_neg (fun q9 => q9 rfl)).trans (if_neg (show ¬ (tg < σ 0 2 ∧ see b n (sk b n t) = 59) from fun q9 => by omega))) (RPS_sp hP (by omega) hσ1 hp (fun o h1 => ((am_up_o (by omega)).trans ((hFZ.at (by omega) (by omega)).trans (hF67.at (by omega) (by omega))))) (fun k h1 => ((am_up_nk (by omega)).trans ((congrFun (hFZ.at (by omega) (by omega)) _).trans (hfA k (by omega))))) (am_up_at.trans (by rfl)) (fun j h1 h2 => (congrFun (am_up_o (by omega)) j).trans ((congrFun (hFZ.at (by omega) (by omega)) j).trans (hrow j h1 h2)))) (((am_up_nk (by omega)).trans ((congrFun (hFZ.at (by omega) (by omega)) _).trans hb1)).trans (by rfl)) (hK1.cg (fun k9 h1 h2 => (am_up_nk (by omega)).trans (congrFun (hFZ.at (by omega) (by omega)) k9))) ht (((am_up_nk (by omega)).trans ((congrFun (hFZ.at (by omega) (by omega)) _).trans h411)).trans (by rfl)) (((am_up_nk (by omega)).trans ((congrFun (hFZ.at (by omega) (by omega)) _).trans h421)).trans (by rfl))
                      exact w_retV dX8_splitHere_191 rfl ⟨(((hFZ.wd (by omega) (by omega)).tr (hF67.wd (by omega) (by omega))).up (by omega)), (by exact hP9), (fun k h1 => ((am_up_nk (by omega)).trans ((congrFun (hFZ.at (by omega) (by omega)) _).trans (hfA k (by omega))))), (RTc.cg2 hR1 (fun o h1 => ((am_up_o (by omega)).trans (hFZ.at (by omega) (by omega)))) (fun k h1 => ((am_up_nk (by omega)).trans (congrFun (hFZ.at (by omega) (by omega)) _)))), (by rw [(((am_up_nk (by omega)).trans (congrFun (hFZ.at (by omega) (by omega)) _)).trans (by rfl)), (((am_up_nk (by omega)).trans (congrFun (hFZ.at (by omega) (by omega)) _)).trans (by rfl))]; omega)⟩
                · skip
                  have hM := hK1.t2 c79 ht
                  have hskM := sk_r b n t ht.2
                  have hdeM := de_r b n (sk b n t) hskM.2
                  have hcond : k = 0 ∨ (k ≤ 6 ∧ dgA b n t) := Or.inr ⟨hk0.2, hM.1⟩
                  have h8 : (8 - k).toNat = (7 - k).toNat + 1 := by omega
                  rw [h8] at hsp
                  have hσ02 : σ1 0 2 = σ 0 2 := by rw [hσ1 0 (by omega)]
                  refine w_aload_n dX8_splitHere_82 rfl rfl (by first | decide | omega) ?_
                  refine w_aload_n dX8_splitHere_83 rfl rfl (by first | decide | omega) ?_
                  refine w_getIx (o := 45) (f := 40) (x := μ1 45 40) fX8_splitHere_84 rfl rfl (Nat.le_of_ble_eq_true rfl) rfl rfl ?_
                  refine w_iconst dX8_splitHere_87 ?_
                  refine w_bipush dX8_splitHere_88 (by decide) ?_
                  refine w_callSP (as := [(0, μ1 45 40), (0, 1), (0, 12)]) (rest := [(2, 45)]) (k := 0) fX8_splitHere_90 rfl rfl rfl rfl rfl (Nat.le_of_ble_eq_true rfl) (s_X8_isIn X (μ1 45 40) 1 12 μ1 (by first | omega | assumption) (by first | omega | assumption) (by first | omega | assumption)) ?_
                  have hf59 := am_b_r (1 ≤ (μ1 45 40) ∧ (μ1 45 40) ≤ 12)
                  refine w_if_eq (tgt := 119) dX8_splitHere_93 rfl (R32.in (by have := am_b_r ((1 ≤ (μ1 45 40) ∧ (μ1 45 40) ≤ 12)); omega)) (fun c93 => ?_) (fun c93 => ?_)
                  · skip
                    replace c93 := am_b0 c93
                    refine w_iconst dX8_splitHere_119 ?_
                    refine w_iconst dX8_splitHere_120 ?_
                    refine w_callVV (o := 45) (ci := 8) (as := [(0, 0), (0, 2)]) (rest := []) (k := 0) fX8_splitHere_121 rfl rfl rfl rfl rfl rfl rfl rfl (Nat.le_of_ble_eq_true rfl) (s_X8_must_f X 0 2 μ1 hb1 rfl) (fun μY hμY => ?_)
                    obtain ⟨hFY, hb_Y, h1_Y, h2_Y, hf_Y⟩ := hμY
                    refine w_aload_n dX8_splitHere_124 rfl rfl (by first | decide | omega) ?_
                    refine w_getIx (o := 45) (f := 43) (x := 1) fX8_splitHere_125 rfl rfl (Nat.le_of_ble_eq_true rfl) rfl hb_Y ?_
                    refine w_if_eq (tgt := 132) dX8_splitHere_128 rfl (R32.in (by decide)) (fun c128 => ?_) (fun c128 => ?_)
                    · skip
                      exact absurd c128 (by decide)
                    · skip
                      have hsb : (spW b n σ1 k tg t) = (2, sk b n t, 0, t) := nW_2 hM.1 (by rw [hσ02]; have := hM.2.2; omega)
                      have hspb := hsp.symm.trans (spL_bad hcond (by rw [hsb]; exact (show ¬ (2 : Int) = 0 by decide)))
                      have hP9 : tkL b n (ln0 b n σ 1 (sk b n a) e) μ μY := tkL_no (by rw [hl9]; unfold lSpl; rw [hspb, hsb]; exact if_pos (show ¬ (2 : Int) = 0 by decide)) (by omega) (hb_Y.trans (by rfl)) (h1_Y.trans (by rfl)) ((h2_Y.trans rfl).trans (by exact hK1.1))
                      exact w_retV dX8_splitHere_131 rfl ⟨((hFY.wd (by omega) (by omega)).tr (hF67.wd (by omega) (by omega))), (by exact hP9), (fun k h1 => ((hf_Y k (by omega)).trans (hfA k (by omega)))), (RTc.cg2 hR1 (fun o h1 => (hFY.at (by omega) (by omega))) (fun k h1 => (hf_Y _ (by omega)))), (by rw [((hf_Y _ (by omega)).trans (by rfl)), ((hf_Y _ (by omega)).trans (by rfl))]; omega)⟩
                  · skip
                    replace c93 := am_b1 c93
                    refine w_iload_n dX8_splitHere_96 rfl rfl ?_
                    refine w_aload_n dX8_splitHere_97 rfl rfl (by first | decide | omega) ?_
                    refine w_getIx (o := 45) (f := 40) (x := μ1 45 40) fX8_splitHere_98 rfl rfl (Nat.le_of_ble_eq_true rfl) rfl rfl ?_
                    refine w_iadd dX8_splitHere_101 ?_
                    refine w_aload_n dX8_splitHere_102 rfl rfl (by first | decide | omega) ?_
                    refine w_getIx (o := 45) (f := 44) (x := σ 0 2) fX8_splitHere_103 rfl rfl (Nat.le_of_ble_eq_true rfl) rfl ((hfA _ (by omega)).trans hP.bt) ?_
                    have hr61 := hP.ok.1.2.2.1
                    refine w_icmp_gt (tgt := 119) dX8_splitHere_106 rfl (R32.in (by omega)) (R32.in (by omega)) (fun c106 => ?_) (fun c106 => ?_)
                    · skip
                      refine w_iconst dX8_splitHere_119 ?_
                      refine w_iconst dX8_splitHere_120 ?_
                      refine w_callVV (o := 45) (ci := 8) (as := [(0, 0), (0, 2)]) (rest := []) (k := 0) fX8_splitHere_121 rfl rfl rfl rfl rfl rfl rfl rfl (Nat.le_of_ble_eq_true rfl) (s_X8_must_f X 0 2 μ1 hb1 rfl) (fun μY hμY => ?_)
                      obtain ⟨hFY, hb_Y, h1_Y, h2_Y, hf_Y⟩ := hμY
                      refine w_aload_n dX8_splitHere_124 rfl rfl (by first | decide | omega) ?_
                      refine w_getIx (o := 45) (f := 43) (x := 1) fX8_splitHere_125 rfl rfl (Nat.le_of_ble_eq_true rfl) rfl hb_Y ?_
                      refine w_if_eq (tgt := 132) dX8_splitHere_128 rfl (R32.in (by decide)) (fun c128 => ?_) (fun c128 => ?_)
                      · skip
                        exact absurd c128 (by decide)
                      · skip
                        have hsb : (spW b n σ1 k tg t) = (2, sk b n t, 0, t) := nW_2 hM.1 (by rw [hσ02]; have := hM.2.2; omega)
                        have hspb := hsp.symm.trans (spL_bad hcond (by rw [hsb]; exact (show ¬ (2 : Int) = 0 by decide)))
                        have hP9 : tkL b n (ln0 b n σ 1 (sk b n a) e) μ μY := tkL_no (by rw [hl9]; unfold lSpl; rw [hspb, hsb]; exact if_pos (show ¬ (2 : Int) = 0 by decide)) (by omega) (hb_Y.trans (by rfl)) (h1_Y.trans (by rfl)) ((h2_Y.trans rfl).trans (by exact hK1.1))
                        exact w_retV dX8_splitHere_131 rfl ⟨((hFY.wd (by omega) (by omega)).tr (hF67.wd (by omega) (by omega))), (by exact hP9), (fun k h1 => ((hf_Y k (by omega)).trans (hfA k (by omega)))), (RTc.cg2 hR1 (fun o h1 => (hFY.at (by omega) (by omega))) (fun k h1 => (hf_Y _ (by omega)))), (by rw [((hf_Y _ (by omega)).trans (by rfl)), ((hf_Y _ (by omega)).trans (by rfl))]; omega)⟩
                    · skip
                      refine w_iload_n dX8_splitHere_109 rfl rfl ?_
                      refine w_bipush dX8_splitHere_110 (by decide) ?_
                      refine w_icmp_ge (tgt := 119) dX8_splitHere_112 rfl (R32.in (by omega)) (R32.in (by decide)) (fun c112 => ?_) (fun c112 => ?_)
                      · skip
                        refine w_iconst dX8_splitHere_119 ?_
                        refine w_iconst dX8_splitHere_120 ?_
                        refine w_callVV (o := 45) (ci := 8) (as := [(0, 0), (0, 2)]) (rest := []) (k := 0) fX8_splitHere_121 rfl rfl rfl rfl rfl rfl rfl rfl (Nat.le_of_ble_eq_true rfl) (s_X8_must_f X 0 2 μ1 hb1 rfl) (fun μY hμY => ?_)
                        obtain ⟨hFY, hb_Y, h1_Y, h2_Y, hf_Y⟩ := hμY
                        refine w_aload_n dX8_splitHere_124 rfl rfl (by first | decide | omega) ?_
                        refine w_getIx (o := 45) (f := 43) (x := 1) fX8_splitHere_125 rfl rfl (Nat.le_of_ble_eq_true rfl) rfl hb_Y ?_
                        refine w_if_eq (tgt := 132) dX8_splitHere_128 rfl (R32.in (by decide)) (fun c128 => ?_) (fun c128 => ?_)
                        · skip
                          exact absurd c128 (by decide)
                        · skip
                          have hsb : (spW b n σ1 k tg t) = (2, sk b n t, 0, t) := nW_2 hM.1 (by rw [hσ02]; have := hM.2.2; omega)
                          have hspb := hsp.symm.trans (spL_bad hcond (by rw [hsb]; exact (show ¬ (2 : Int) = 0 by decide)))
                          have hP9 : tkL b n (ln0 b n σ 1 (sk b n a) e) μ μY := tkL_no (by rw [hl9]; unfold lSpl; rw [hspb, hsb]; exact if_pos (show ¬ (2 : Int) = 0 by decide)) (by omega) (hb_Y.trans (by rfl)) (h1_Y.trans (by rfl)) ((h2_Y.trans rfl).trans (by exact hK1.1))
                          exact w_retV dX8_splitHere_131 rfl ⟨((hFY.wd (by omega) (by omega)).tr (hF67.wd (by omega) (by omega))), (by exact hP9), (fun k h1 => ((hf_Y k (by omega)).trans (hfA k (by omega)))), (RTc.cg2 hR1 (fun o h1 => (hFY.at (by omega) (by omega))) (fun k h1 => (hf_Y _ (by omega)))), (by rw [((hf_Y _ (by omega)).trans (by rfl)), ((hf_Y _ (by omega)).trans (by rfl))]; omega)⟩
                      · skip
                        refine w_iconst dX8_splitHere_115 ?_
                        refine w_goto (tgt := 120) dX8_splitHere_116 rfl ?_
                        refine w_iconst dX8_splitHere_120 ?_
                        refine w_callVV (o := 45) (ci := 8) (as := [(0, 1), (0, 2)]) (rest := []) (k := 0) fX8_splitHere_121 rfl rfl rfl rfl rfl rfl rfl rfl (Nat.le_of_ble_eq_true rfl) (s_X8_must_t X 1 2 μ1 (Or.inl hb1) rfl) (fun μY hμY => ?_)
                        have hFY := hμY
                        refine w_aload_n dX8_splitHere_124 rfl rfl (by first | decide | omega) ?_
                        refine w_getIx (o := 45) (f := 43) (x := 0) fX8_splitHere_125 rfl rfl (Nat.le_of_ble_eq_true rfl) rfl ((congrFun (hFY.at (by omega) (by omega)) _).trans hb1) ?_
                        refine w_if_eq (tgt := 132) dX8_splitHere_128 rfl (R32.in (by decide)) (fun c128 => ?_) (fun c128 => ?_)
                        · skip
                          have hvq : μ1 45 40 = nval b n t := by have := hM.2.2; omega
                          have hso : (spW b n σ1 k tg t) = (0, 0, nval b n t, (de b n (sk b n t))) := nW_0 hM.1 (by rw [hσ02]; have := hM.2.2; omega)
                          refine w_aload_n dX8_splitHere_132 rfl rfl (by first | decide | omega) ?_
                          refine w_getR (o := 45) (x := 63) fX8_splitHere_133 rfl rfl rfl rfl ?_
                          refine w_iload_n dX8_splitHere_136 rfl rfl ?_
                          refine w_aload_n dX8_splitHere_137 rfl rfl (by first | decide | omega) ?_
                          refine w_getIx (o := 45) (f := 40) (x := μ1 45 40) fX8_splitHere_138 rfl rfl (Nat.le_of_ble_eq_true rfl) rfl (congrFun (hFY.at (by omega) (by omega)) _) ?_
                          refine w_iast (o := 63) (n := 6) dX8_splitHere_141 rfl rfl (Nat.le_of_ble_eq_true rfl) (by omega) (by omega) ?_
                          refine w_iinc (ls' := [(2, 45), (0, tg), (0, k + 1)]) dX8_splitHere_142 rfl (Nat.le_of_ble_eq_true rfl) rfl rfl ?_
                          refine w_iload_n dX8_splitHere_145 rfl rfl ?_
                          refine w_aload_n dX8_splitHere_146 rfl rfl (by first | decide | omega) ?_
                          refine w_getIx (o := 45) (f := 40) (x := μ1 45 40) fX8_splitHere_147 rfl rfl (Nat.le_of_ble_eq_true rfl) rfl ((congrFun (am_up_o (by first | decide | omega)) _).trans (congrFun (hFY.at (by omega) (by omega)) _)) ?_
                          refine w_iadd dX8_splitHere_150 ?_
                          refine w_istore_n (ls' := [(2, 45), (0, tg + (μ1 45 40)), (0, k + 1)]) dX8_splitHere_151 rfl (Nat.le_of_ble_eq_true rfl) rfl rfl ?_
                          have h37w : (am_up μY 63 k (μ1 45 40)) 45 37 = μ1 45 37 := (((congrFun (am_up_o (by first | decide | omega)) _).trans (congrFun (hFY.at (by omega) (by omega)) _)).trans (by rfl))
                          have hatw : 0 ≤ (am_up μY 63 k (μ1 45 40)) 45 37 ∧ (am_up μY 63 k (μ1 45 40)) 45 37 ≤ n := by rw [h37w]; exact hat1
                          refine w_aload_n dX8_splitHere_152 rfl rfl (by first | decide | omega) ?_
                          refine w_callVV (o := 45) (ci := 8) (as := []) (rest := []) (k := 1) fX8_splitHere_153 rfl rfl rfl rfl rfl rfl rfl rfl (Nat.le_of_ble_eq_true rfl) (s_X8_advance X b n (am_up μY 63 k (μ1 45 40)) (RTc.cg2 hR1 (fun o h1 => ((am_up_o (by omega)).trans (hFY.at (by omega) (by omega)))) (fun k h1 => ((congrFun (am_up_o (by omega)) _).trans (congrFun (hFY.at (by omega) (by omega)) _)))) hatw) (fun μW hμW => ?_)
                          obtain ⟨hFW, htk_W, hf_W, hR_W, hat_W⟩ := hμW
                          rw [h37w, hM.2.1] at htk_W
                          have hrW := htk_W.r
                          have hvW := htk_W.v hbb (by omega)
                          refine w_goto (tgt := 67) dX8_splitHere_156 rfl ?_
                          exact ih67 _ (by omega) (am_up σ1 6 k (nval b n t)) (k + 1) (tg + (μ1 45 40)) (sk b n (de b n (sk b n t))) μW rfl ((hFW.wd (by omega) (by omega)).tr (((hFY.wd (by omega) (by omega)).tr hF67).up (by omega))) (by omega) (by omega) (by have := sk_r b n (de b n (sk b n t)) hdeM.2; omega) (by rw [sk_sk]; exact htk_W) (fun q9 => by omega) (fun o h1 => (am_up_o h1).trans (hσ1 o h1)) (fun j h1 h2 => by rw [up_if]; by_cases e : j = k; (rw [if_pos e]; have := hM.2.2; omega); (rw [if_neg e]; exact hp j h1 (by omega))) (fun j h1 h2 => by rw [hFW.at (by omega) (by omega), up_if, up_if]; by_cases e : j = k; (rw [if_pos e, if_pos e]; exact hvq); (rw [if_neg e, if_neg e]; exact (congrFun (hFY.at (by omega) (by omega)) j).trans (hrow j h1 (by omega)))) (by rw [show 8 - (k + 1) = 7 - k by omega, ← hvq]; have h9 := (spL_go hcond (by rw [hso])).symm.trans hsp; rw [hso, ← hvq] at h9; exact h9) (((hf_W _ (by omega)).trans ((congrFun (am_up_o (by first | decide | omega)) _).trans ((congrFun (hFY.at (by omega) (by omega)) _).trans hb1))).trans (by rfl)) (((hf_W _ (by omega)).trans ((congrFun (am_up_o (by first | decide | omega)) _).trans ((congrFun (hFY.at (by omega) (by omega)) _).trans h411))).trans (by rfl)) (((hf_W _ (by omega)).trans ((congrFun (am_up_o (by first | decide | omega)) _).trans ((congrFun (hFY.at (by omega) (by omega)) _).trans h421))).trans (by rfl)) hR_W (fun k h1 => ((hf_W k (by omega)).trans ((congrFun (am_up_o (by omega)) _).trans ((congrFun (hFY.at (by omega) (by omega)) _).trans (hfA k (by omega))))))
                        · skip
                          exact absurd c128 (by decide)
          exact hL67 _ σ 0 0 e μZ0 rfl ((hFZ0.wd (by omega) (by omega)).tr ((hFV.wd (by omega) (by omega)).tr ((hF45.wd (by omega) (by omega)).tr (hF30.wd (by omega) (by omega))))) (by omega) (by omega) hae (htk_V.cg (fun k9 h1 h2 => congrFun (hFZ0.at (by omega) (by omega)) k9)) (fun _ => hdg0) (fun o h1 => rfl) (fun j h1 h2 => by omega) (fun j h1 h2 => by omega) rfl (((congrFun (hFZ0.at (by omega) (by omega)) _).trans ((hf_V _ (by omega)).trans ((congrFun (hF45.at (by omega) (by omega)) _).trans ((congrFun (hF30.at (by omega) (by omega)) _).trans hb)))).trans (by rfl)) (((congrFun (hFZ0.at (by omega) (by omega)) _).trans ((hf_V _ (by omega)).trans ((congrFun (hF45.at (by omega) (by omega)) _).trans (congrFun (hF30.at (by omega) (by omega)) _)))).trans (by rfl)) (((congrFun (hFZ0.at (by omega) (by omega)) _).trans ((hf_V _ (by omega)).trans ((congrFun (hF45.at (by omega) (by omega)) _).trans (congrFun (hF30.at (by omega) (by omega)) _)))).trans (by rfl)) (RTc.cg2 hR_V (fun o h1 => (hFZ0.at (by omega) (by omega))) (fun k h1 => (congrFun (hFZ0.at (by omega) (by omega)) _))) (fun k h1 => ((congrFun (hFZ0.at (by omega) (by omega)) _).trans ((hf_V k (by omega)).trans ((congrFun (hF45.at (by omega) (by omega)) _).trans (congrFun (hF30.at (by omega) (by omega)) _)))))
