set_option maxRecDepth 100000 in
set_option maxHeartbeats 4000000 in
theorem s_X8_kneeHere (X : AX) (b : Int → Int) (n : Int) (σ : Mu) (a : Int) (e : Int) (μ : Mu) (hR : RTc b n μ) (hP : RPS σ μ) (hK : TK b n (sk b n a) μ) (ha : 0 ≤ a ∧ a ≤ n) (he : μ 45 37 = e) (hae : 0 ≤ e ∧ e ≤ n) (hb : μ 45 43 = 0) : Wp (GG X) M_X8_kneeHere 0 [(2, 45)] [] μ (qV fun μ' => (Fr 45 45 63 68 μ' μ) ∧ (tkL b n (ln0 b n σ 2 (sk b n a) e) μ μ') ∧ (∀ k9 : Int, (¬ k9 = 37 ∧ ¬ k9 = 38 ∧ ¬ k9 = 39 ∧ ¬ k9 = 40 ∧ ¬ k9 = 41 ∧ ¬ k9 = 42 ∧ ¬ k9 = 43 ∧ ¬ k9 = 44 ∧ ¬ k9 = 45 ∧ ¬ k9 = 46 ∧ ¬ k9 = 47 ∧ ¬ k9 = 48 ∧ ¬ k9 = 49 ∧ ¬ k9 = 50 ∧ ¬ k9 = 51 ∧ ¬ k9 = 52 ∧ ¬ k9 = 53 ∧ ¬ k9 = 54 ∧ ¬ k9 = 55 ∧ ¬ k9 = 56 ∧ ¬ k9 = 57) → μ' 45 k9 = μ 45 k9) ∧ (RTc b n μ') ∧ ((0 ≤ μ' 45 39 ∧ μ' 45 39 ≤ 4) ∧ (-1 ≤ μ' 45 40 ∧ μ' 45 40 < 1073741824))) := by
  have hn := hR.n
  have hbb := hR.bb
  have hr39 := hK.r
  have hr40 := hK.v hbb ha
  have hok := hP.ok
  have h00 := hok.1.1
  have h05 := hok.1.2.2.2.2.2.1
  have hskr := sk_r b n a ha.2
  refine w_aload_n dX8_kneeHere_0 rfl rfl (by first | decide | omega) ?_
  refine w_aload_n dX8_kneeHere_1 rfl rfl (by first | decide | omega) ?_
  refine w_getIx (o := 45) (f := 50) (x := σ 0 0) fX8_kneeHere_2 rfl rfl (Nat.le_of_ble_eq_true rfl) rfl hP.el ?_
  have hr1 := hP.ok.1.1
  refine w_if_ne (tgt := 12) dX8_kneeHere_5 rfl (R32.in (by omega)) (fun c5 => ?_) (fun c5 => ?_)
  · skip
    refine w_iconst dX8_kneeHere_12 ?_
    refine w_iconst dX8_kneeHere_13 ?_
    refine w_callVV (o := 45) (ci := 8) (as := [(0, 0), (0, 1)]) (rest := []) (k := 0) fX8_kneeHere_14 rfl rfl rfl rfl rfl rfl rfl rfl (Nat.le_of_ble_eq_true rfl) (s_X8_must_f X 0 1 μ hb rfl) (fun μ_2 hμ2 => ?_)
    obtain ⟨hF2, hb_2, h1_2, h2_2, hf_2⟩ := hμ2
    refine w_aload_n dX8_kneeHere_17 rfl rfl (by first | decide | omega) ?_
    refine w_aload_n dX8_kneeHere_18 rfl rfl (by first | decide | omega) ?_
    refine w_getIx (o := 45) (f := 55) (x := σ 0 7) fX8_kneeHere_19 rfl rfl (Nat.le_of_ble_eq_true rfl) rfl ((hf_2 _ (by omega)).trans hP.hk) ?_
    have hr3 := hP.ok.1.2.2.2.2.2.2.2
    refine w_if_ne (tgt := 29) dX8_kneeHere_22 rfl (R32.in (by omega)) (fun c22 => ?_) (fun c22 => ?_)
    · skip
      have hn1 : (2 : Int) = -1 ∨ tooL σ 2 ∨ True := Or.inr (Or.inr trivial)
      have htl : tldS σ 2 = σ 0 7 := by unfold tldS; first | rfl | (rw [if_neg (by omega), if_pos rfl]) | (rw [if_neg (by omega), if_neg (by omega)])
      refine w_iconst dX8_kneeHere_29 ?_
      refine w_iconst dX8_kneeHere_30 ?_
      refine w_callVV (o := 45) (ci := 8) (as := [(0, 0), (0, 3)]) (rest := []) (k := 0) fX8_kneeHere_31 rfl rfl rfl rfl rfl rfl rfl rfl (Nat.le_of_ble_eq_true rfl) (s_X8_must_b X 0 3 μ_2 hb_2) (fun μ_4 hμ4 => ?_)
      have hF4 := hμ4
      refine w_aload_n dX8_kneeHere_34 rfl rfl (by first | decide | omega) ?_
      refine w_getIx (o := 45) (f := 43) (x := 1) fX8_kneeHere_35 rfl rfl (Nat.le_of_ble_eq_true rfl) rfl ((congrFun (hF4.at (by omega) (by omega)) _).trans hb_2) ?_
      refine w_if_ne (tgt := 45) dX8_kneeHere_38 rfl (R32.in (by decide)) (fun c38 => ?_) (fun c38 => ?_)
      · skip
        refine w_aload_n dX8_kneeHere_45 rfl rfl (by first | decide | omega) ?_
        refine w_aload_n dX8_kneeHere_46 rfl rfl (by first | decide | omega) ?_
        refine w_iconst dX8_kneeHere_47 ?_
        refine w_bipush dX8_kneeHere_48 (by decide) ?_
        refine w_callVI (o := 45) (ci := 8) (as := [(0, 4), (0, 24)]) (rest := [(2, 45)]) (k := 1) fX8_kneeHere_50 rfl rfl rfl rfl rfl rfl rfl rfl (Nat.le_of_ble_eq_true rfl) (s_X8_numberHere_b X 4 24 μ_4 (by rw [((congrFun (hF4.at (by omega) (by omega)) _).trans (hf_2 _ (by omega)))]; omega) (by rw [((congrFun (hF4.at (by omega) (by omega)) _).trans (hf_2 _ (by omega)))]; omega) ((congrFun (hF4.at (by omega) (by omega)) _).trans hb_2) (by decide)) (fun xNb μNb hμNb => ?_)
        obtain ⟨hFNb, hz_Nb⟩ := hμNb
        refine w_putI (o := 45) (f := 48) fX8_kneeHere_53 rfl rfl rfl rfl rfl ?_
        refine w_aload_n dX8_kneeHere_56 rfl rfl (by first | decide | omega) ?_
        refine w_iconst dX8_kneeHere_57 ?_
        refine w_putZ (o := 45) (f := 55) fX8_kneeHere_58 rfl rfl rfl rfl rfl (Or.inr rfl) ?_
        have hP9 : tkL b n (ln0 b n σ 2 (sk b n a) e) μ (am_up (am_up μNb 45 48 xNb) 45 55 1) := tkL_no (ln0_1 (Or.inr (by unfold tooL; omega))) (by omega) (((am_up_nk (by omega)).trans ((am_up_nk (by omega)).trans ((congrFun (hFNb.at (by omega) (by omega)) _).trans ((congrFun (hF4.at (by omega) (by omega)) _).trans hb_2)))).trans (by rfl)) (((am_up_nk (by omega)).trans ((am_up_nk (by omega)).trans ((congrFun (hFNb.at (by omega) (by omega)) _).trans ((congrFun (hF4.at (by omega) (by omega)) _).trans h1_2)))).trans (by rfl)) (((am_up_nk (by omega)).trans ((am_up_nk (by omega)).trans ((congrFun (hFNb.at (by omega) (by omega)) _).trans ((congrFun (hF4.at (by omega) (by omega)) _).trans (h2_2.trans rfl))))).trans (by exact hK.1))
        exact w_retV dX8_kneeHere_61 rfl ⟨((((hFNb.wd (by omega) (by omega)).tr ((hF4.wd (by omega) (by omega)).tr (hF2.wd (by omega) (by omega)))).up (by omega)).up (by omega)), (by exact hP9), (fun k h1 => ((am_up_nk (by omega)).trans ((am_up_nk (by omega)).trans ((congrFun (hFNb.at (by omega) (by omega)) _).trans ((congrFun (hF4.at (by omega) (by omega)) _).trans (hf_2 k (by omega))))))), (RTc.cg2 hR (fun o h1 => ((am_up_o (by omega)).trans ((am_up_o (by omega)).trans ((hFNb.at (by omega) (by omega)).trans ((hF4.at (by omega) (by omega)).trans (hF2.at (by omega) (by omega))))))) (fun k h1 => ((am_up_nk (by omega)).trans ((am_up_nk (by omega)).trans ((congrFun (hFNb.at (by omega) (by omega)) _).trans ((congrFun (hF4.at (by omega) (by omega)) _).trans (hf_2 _ (by omega)))))))), (by rw [(((am_up_nk (by omega)).trans ((am_up_nk (by omega)).trans ((congrFun (hFNb.at (by omega) (by omega)) _).trans ((congrFun (hF4.at (by omega) (by omega)) _).trans (hf_2 _ (by omega)))))).trans (by rfl)), (((am_up_nk (by omega)).trans ((am_up_nk (by omega)).trans ((congrFun (hFNb.at (by omega) (by omega)) _).trans ((congrFun (hF4.at (by omega) (by omega)) _).trans (hf_2 _ (by omega)))))).trans (by rfl))]; omega)⟩
      · skip
        exact absurd c38 (by decide)
    · skip
      refine w_iconst dX8_kneeHere_25 ?_
      refine w_goto (tgt := 30) dX8_kneeHere_26 rfl ?_
      refine w_iconst dX8_kneeHere_30 ?_
      refine w_callVV (o := 45) (ci := 8) (as := [(0, 1), (0, 3)]) (rest := []) (k := 0) fX8_kneeHere_31 rfl rfl rfl rfl rfl rfl rfl rfl (Nat.le_of_ble_eq_true rfl) (s_X8_must_t X 1 3 μ_2 (Or.inr hb_2) rfl) (fun μ_6 hμ6 => ?_)
      have hF6 := hμ6
      refine w_aload_n dX8_kneeHere_34 rfl rfl (by first | decide | omega) ?_
      refine w_getIx (o := 45) (f := 43) (x := 1) fX8_kneeHere_35 rfl rfl (Nat.le_of_ble_eq_true rfl) rfl ((congrFun (hF6.at (by omega) (by omega)) _).trans hb_2) ?_
      refine w_if_ne (tgt := 45) dX8_kneeHere_38 rfl (R32.in (by decide)) (fun c38 => ?_) (fun c38 => ?_)
      · skip
        refine w_aload_n dX8_kneeHere_45 rfl rfl (by first | decide | omega) ?_
        refine w_aload_n dX8_kneeHere_46 rfl rfl (by first | decide | omega) ?_
        refine w_iconst dX8_kneeHere_47 ?_
        refine w_bipush dX8_kneeHere_48 (by decide) ?_
        refine w_callVI (o := 45) (ci := 8) (as := [(0, 4), (0, 24)]) (rest := [(2, 45)]) (k := 1) fX8_kneeHere_50 rfl rfl rfl rfl rfl rfl rfl rfl (Nat.le_of_ble_eq_true rfl) (s_X8_numberHere_b X 4 24 μ_6 (by rw [((congrFun (hF6.at (by omega) (by omega)) _).trans (hf_2 _ (by omega)))]; omega) (by rw [((congrFun (hF6.at (by omega) (by omega)) _).trans (hf_2 _ (by omega)))]; omega) ((congrFun (hF6.at (by omega) (by omega)) _).trans hb_2) (by decide)) (fun xNb μNb hμNb => ?_)
        obtain ⟨hFNb, hz_Nb⟩ := hμNb
        refine w_putI (o := 45) (f := 48) fX8_kneeHere_53 rfl rfl rfl rfl rfl ?_
        refine w_aload_n dX8_kneeHere_56 rfl rfl (by first | decide | omega) ?_
        refine w_iconst dX8_kneeHere_57 ?_
        refine w_putZ (o := 45) (f := 55) fX8_kneeHere_58 rfl rfl rfl rfl rfl (Or.inr rfl) ?_
        have hP9 : tkL b n (ln0 b n σ 2 (sk b n a) e) μ (am_up (am_up μNb 45 48 xNb) 45 55 1) := tkL_no (ln0_1 (Or.inr (by unfold tooL; omega))) (by omega) (((am_up_nk (by omega)).trans ((am_up_nk (by omega)).trans ((congrFun (hFNb.at (by omega) (by omega)) _).trans ((congrFun (hF6.at (by omega) (by omega)) _).trans hb_2)))).trans (by rfl)) (((am_up_nk (by omega)).trans ((am_up_nk (by omega)).trans ((congrFun (hFNb.at (by omega) (by omega)) _).trans ((congrFun (hF6.at (by omega) (by omega)) _).trans h1_2)))).trans (by rfl)) (((am_up_nk (by omega)).trans ((am_up_nk (by omega)).trans ((congrFun (hFNb.at (by omega) (by omega)) _).trans ((congrFun (hF6.at (by omega) (by omega)) _).trans (h2_2.trans rfl))))).trans (by exact hK.1))
        exact w_retV dX8_kneeHere_61 rfl ⟨((((hFNb.wd (by omega) (by omega)).tr ((hF6.wd (by omega) (by omega)).tr (hF2.wd (by omega) (by omega)))).up (by omega)).up (by omega)), (by exact hP9), (fun k h1 => ((am_up_nk (by omega)).trans ((am_up_nk (by omega)).trans ((congrFun (hFNb.at (by omega) (by omega)) _).trans ((congrFun (hF6.at (by omega) (by omega)) _).trans (hf_2 k (by omega))))))), (RTc.cg2 hR (fun o h1 => ((am_up_o (by omega)).trans ((am_up_o (by omega)).trans ((hFNb.at (by omega) (by omega)).trans ((hF6.at (by omega) (by omega)).trans (hF2.at (by omega) (by omega))))))) (fun k h1 => ((am_up_nk (by omega)).trans ((am_up_nk (by omega)).trans ((congrFun (hFNb.at (by omega) (by omega)) _).trans ((congrFun (hF6.at (by omega) (by omega)) _).trans (hf_2 _ (by omega)))))))), (by rw [(((am_up_nk (by omega)).trans ((am_up_nk (by omega)).trans ((congrFun (hFNb.at (by omega) (by omega)) _).trans ((congrFun (hF6.at (by omega) (by omega)) _).trans (hf_2 _ (by omega)))))).trans (by rfl)), (((am_up_nk (by omega)).trans ((am_up_nk (by omega)).trans ((congrFun (hFNb.at (by omega) (by omega)) _).trans ((congrFun (hF6.at (by omega) (by omega)) _).trans (hf_2 _ (by omega)))))).trans (by rfl))]; omega)⟩
      · skip
        exact absurd c38 (by decide)
  · skip
    refine w_iconst dX8_kneeHere_8 ?_
    refine w_goto (tgt := 13) dX8_kneeHere_9 rfl ?_
    refine w_iconst dX8_kneeHere_13 ?_
    refine w_callVV (o := 45) (ci := 8) (as := [(0, 1), (0, 1)]) (rest := []) (k := 0) fX8_kneeHere_14 rfl rfl rfl rfl rfl rfl rfl rfl (Nat.le_of_ble_eq_true rfl) (s_X8_must_t X 1 1 μ (Or.inl hb) rfl) (fun μ_8 hμ8 => ?_)
    have hF8 := hμ8
    refine w_aload_n dX8_kneeHere_17 rfl rfl (by first | decide | omega) ?_
    refine w_aload_n dX8_kneeHere_18 rfl rfl (by first | decide | omega) ?_
    refine w_getIx (o := 45) (f := 55) (x := σ 0 7) fX8_kneeHere_19 rfl rfl (Nat.le_of_ble_eq_true rfl) rfl ((congrFun (hF8.at (by omega) (by omega)) _).trans hP.hk) ?_
    have hr9 := hP.ok.1.2.2.2.2.2.2.2
    refine w_if_ne (tgt := 29) dX8_kneeHere_22 rfl (R32.in (by omega)) (fun c22 => ?_) (fun c22 => ?_)
    · skip
      have hn1 : (2 : Int) = -1 ∨ tooL σ 2 ∨ True := Or.inr (Or.inr trivial)
      have htl : tldS σ 2 = σ 0 7 := by unfold tldS; first | rfl | (rw [if_neg (by omega), if_pos rfl]) | (rw [if_neg (by omega), if_neg (by omega)])
      refine w_iconst dX8_kneeHere_29 ?_
      refine w_iconst dX8_kneeHere_30 ?_
      refine w_callVV (o := 45) (ci := 8) (as := [(0, 0), (0, 3)]) (rest := []) (k := 0) fX8_kneeHere_31 rfl rfl rfl rfl rfl rfl rfl rfl (Nat.le_of_ble_eq_true rfl) (s_X8_must_f X 0 3 μ_8 ((congrFun (hF8.at (by omega) (by omega)) _).trans hb) rfl) (fun μ_10 hμ10 => ?_)
      obtain ⟨hF10, hb_10, h1_10, h2_10, hf_10⟩ := hμ10
      refine w_aload_n dX8_kneeHere_34 rfl rfl (by first | decide | omega) ?_
      refine w_getIx (o := 45) (f := 43) (x := 1) fX8_kneeHere_35 rfl rfl (Nat.le_of_ble_eq_true rfl) rfl hb_10 ?_
      refine w_if_ne (tgt := 45) dX8_kneeHere_38 rfl (R32.in (by decide)) (fun c38 => ?_) (fun c38 => ?_)
      · skip
        refine w_aload_n dX8_kneeHere_45 rfl rfl (by first | decide | omega) ?_
        refine w_aload_n dX8_kneeHere_46 rfl rfl (by first | decide | omega) ?_
        refine w_iconst dX8_kneeHere_47 ?_
        refine w_bipush dX8_kneeHere_48 (by decide) ?_
        refine w_callVI (o := 45) (ci := 8) (as := [(0, 4), (0, 24)]) (rest := [(2, 45)]) (k := 1) fX8_kneeHere_50 rfl rfl rfl rfl rfl rfl rfl rfl (Nat.le_of_ble_eq_true rfl) (s_X8_numberHere_b X 4 24 μ_10 (by rw [((hf_10 _ (by omega)).trans (congrFun (hF8.at (by omega) (by omega)) _))]; omega) (by rw [((hf_10 _ (by omega)).trans (congrFun (hF8.at (by omega) (by omega)) _))]; omega) hb_10 (by decide)) (fun xNb μNb hμNb => ?_)
        obtain ⟨hFNb, hz_Nb⟩ := hμNb
        refine w_putI (o := 45) (f := 48) fX8_kneeHere_53 rfl rfl rfl rfl rfl ?_
        refine w_aload_n dX8_kneeHere_56 rfl rfl (by first | decide | omega) ?_
        refine w_iconst dX8_kneeHere_57 ?_
        refine w_putZ (o := 45) (f := 55) fX8_kneeHere_58 rfl rfl rfl rfl rfl (Or.inr rfl) ?_
        have hP9 : tkL b n (ln0 b n σ 2 (sk b n a) e) μ (am_up (am_up μNb 45 48 xNb) 45 55 1) := tkL_no (ln0_3 (by unfold tooL; omega) ⟨by omega, by rw [htl]; exact c22⟩) (by omega) (((am_up_nk (by omega)).trans ((am_up_nk (by omega)).trans ((congrFun (hFNb.at (by omega) (by omega)) _).trans hb_10))).trans (by rfl)) (((am_up_nk (by omega)).trans ((am_up_nk (by omega)).trans ((congrFun (hFNb.at (by omega) (by omega)) _).trans h1_10))).trans (by rfl)) (((am_up_nk (by omega)).trans ((am_up_nk (by omega)).trans ((congrFun (hFNb.at (by omega) (by omega)) _).trans (h2_10.trans (congrFun (hF8.at (by omega) (by omega)) _))))).trans (by exact hK.1))
        exact w_retV dX8_kneeHere_61 rfl ⟨((((hFNb.wd (by omega) (by omega)).tr ((hF10.wd (by omega) (by omega)).tr (hF8.wd (by omega) (by omega)))).up (by omega)).up (by omega)), (by exact hP9), (fun k h1 => ((am_up_nk (by omega)).trans ((am_up_nk (by omega)).trans ((congrFun (hFNb.at (by omega) (by omega)) _).trans ((hf_10 k (by omega)).trans (congrFun (hF8.at (by omega) (by omega)) _)))))), (RTc.cg2 hR (fun o h1 => ((am_up_o (by omega)).trans ((am_up_o (by omega)).trans ((hFNb.at (by omega) (by omega)).trans ((hF10.at (by omega) (by omega)).trans (hF8.at (by omega) (by omega))))))) (fun k h1 => ((am_up_nk (by omega)).trans ((am_up_nk (by omega)).trans ((congrFun (hFNb.at (by omega) (by omega)) _).trans ((hf_10 _ (by omega)).trans (congrFun (hF8.at (by omega) (by omega)) _))))))), (by rw [(((am_up_nk (by omega)).trans ((am_up_nk (by omega)).trans ((congrFun (hFNb.at (by omega) (by omega)) _).trans ((hf_10 _ (by omega)).trans (congrFun (hF8.at (by omega) (by omega)) _))))).trans (by rfl)), (((am_up_nk (by omega)).trans ((am_up_nk (by omega)).trans ((congrFun (hFNb.at (by omega) (by omega)) _).trans ((hf_10 _ (by omega)).trans (congrFun (hF8.at (by omega) (by omega)) _))))).trans (by rfl))]; omega)⟩
      · skip
        exact absurd c38 (by decide)
    · skip
      have hn1 : ¬ ((2 : Int) = -1 ∨ tooL σ 2) := by unfold tooL; omega
      have htl : tldS σ 2 = σ 0 7 := by unfold tldS; first | rfl | (rw [if_neg (by omega), if_pos rfl]) | (rw [if_neg (by omega), if_neg (by omega)])
      have hl9 : ln0 b n σ 2 (sk b n a) e = lKne b n σ e := by rw [ln0_b hn1 (by rw [htl]; omega) (by omega), lBod_2]
      refine w_iconst dX8_kneeHere_25 ?_
      refine w_goto (tgt := 30) dX8_kneeHere_26 rfl ?_
      refine w_iconst dX8_kneeHere_30 ?_
      refine w_callVV (o := 45) (ci := 8) (as := [(0, 1), (0, 3)]) (rest := []) (k := 0) fX8_kneeHere_31 rfl rfl rfl rfl rfl rfl rfl rfl (Nat.le_of_ble_eq_true rfl) (s_X8_must_t X 1 3 μ_8 (Or.inl ((congrFun (hF8.at (by omega) (by omega)) _).trans hb)) rfl) (fun μ_12 hμ12 => ?_)
      have hF12 := hμ12
      refine w_aload_n dX8_kneeHere_34 rfl rfl (by first | decide | omega) ?_
      refine w_getIx (o := 45) (f := 43) (x := 0) fX8_kneeHere_35 rfl rfl (Nat.le_of_ble_eq_true rfl) rfl ((congrFun (hF12.at (by omega) (by omega)) _).trans ((congrFun (hF8.at (by omega) (by omega)) _).trans hb)) ?_
      refine w_if_ne (tgt := 45) dX8_kneeHere_38 rfl (R32.in (by decide)) (fun c38 => ?_) (fun c38 => ?_)
      · skip
        exact absurd c38 (by decide)
      · skip
        have h37c : μ_12 45 37 = e := (((congrFun (hF12.at (by omega) (by omega)) _).trans (congrFun (hF8.at (by omega) (by omega)) _)).trans (by exact he))
        have hatc : 0 ≤ μ_12 45 37 ∧ μ_12 45 37 ≤ n := by rw [h37c]; exact hae
        refine w_aload_n dX8_kneeHere_41 rfl rfl (by first | decide | omega) ?_
        refine w_callVV (o := 45) (ci := 8) (as := []) (rest := []) (k := 1) fX8_kneeHere_42 rfl rfl rfl rfl rfl rfl rfl rfl (Nat.le_of_ble_eq_true rfl) (s_X8_advance X b n μ_12 (RTc.cg2 hR (fun o h1 => ((hF12.at (by omega) (by omega)).trans (hF8.at (by omega) (by omega)))) (fun k h1 => ((congrFun (hF12.at (by omega) (by omega)) _).trans (congrFun (hF8.at (by omega) (by omega)) _)))) hatc) (fun μV hμV => ?_)
        obtain ⟨hFV, htk_V, hf_V, hR_V, hat_V⟩ := hμV
        rw [h37c] at htk_V
        have h41V : μV 45 41 = μ 45 41 := (((hf_V _ (by omega)).trans ((congrFun (hF12.at (by omega) (by omega)) _).trans (congrFun (hF8.at (by omega) (by omega)) _))).trans (by rfl))
        have h42V : μV 45 42 = μ 45 42 := (((hf_V _ (by omega)).trans ((congrFun (hF12.at (by omega) (by omega)) _).trans (congrFun (hF8.at (by omega) (by omega)) _))).trans (by rfl))
        refine w_aload_n dX8_kneeHere_45 rfl rfl (by first | decide | omega) ?_
        refine w_aload_n dX8_kneeHere_46 rfl rfl (by first | decide | omega) ?_
        refine w_iconst dX8_kneeHere_47 ?_
        refine w_bipush dX8_kneeHere_48 (by decide) ?_
        refine w_callVI (o := 45) (ci := 8) (as := [(0, 4), (0, 24)]) (rest := [(2, 45)]) (k := 1) fX8_kneeHere_50 rfl rfl rfl rfl rfl rfl rfl rfl (Nat.le_of_ble_eq_true rfl) (s_X8_numberHere X b n e 4 24 μV hR_V (by first | omega | assumption) htk_V hae ((hf_V _ (by omega)).trans ((congrFun (hF12.at (by omega) (by omega)) _).trans ((congrFun (hF8.at (by omega) (by omega)) _).trans hb))) (by decide)) (fun xN μN hμN => ?_)
        obtain ⟨hFN, hz_N, hf_N, hR_N, htr_N⟩ := hμN
        rcases hz_N with hN | hN
        · skip
          have hKN := hN.2.2.2.1
          have hrN := hKN.r
          have hvN := hKN.v hbb hN.2.2.2.2.1
          have hatN := hKN.at hN.2.2.2.2.1
          have hw9 := nW_z hN.1
          have hv1 : 4 ≤ (nW b n 4 24 e).2.2.1 ∧ (nW b n 4 24 e).2.2.1 ≤ 24 := by rw [hw9.2.2]; exact hw9.2.1
          refine w_putI (o := 45) (f := 48) fX8_kneeHere_53 rfl rfl rfl rfl rfl ?_
          refine w_aload_n dX8_kneeHere_56 rfl rfl (by first | decide | omega) ?_
          refine w_iconst dX8_kneeHere_57 ?_
          refine w_putZ (o := 45) (f := 55) fX8_kneeHere_58 rfl rfl rfl rfl rfl (Or.inr rfl) ?_
          have hP9 : tkL b n (ln0 b n σ 2 (sk b n a) e) μ (am_up (am_up μN 45 48 xN) 45 55 1) := tkL_ok (by rw [hl9]; unfold lKne; rw [if_neg (fun q9 => q9 hN.1)]) (RPS_kn hP hv1 (fun o h1 => ((am_up_o (by omega)).trans ((am_up_o (by omega)).trans ((hFN.at (by omega) (by omega)).trans ((hFV.at (by omega) (by omega)).trans ((hF12.at (by omega) (by omega)).trans (hF8.at (by omega) (by omega)))))))) (fun k h1 => ((am_up_nk (by omega)).trans ((am_up_nk (by omega)).trans ((hf_N k (by omega)).trans ((hf_V k (by omega)).trans ((congrFun (hF12.at (by omega) (by omega)) _).trans (congrFun (hF8.at (by omega) (by omega)) _))))))) (((am_up_nk (by omega)).trans am_up_at).trans (by exact hN.2.1)) (am_up_at.trans (by rfl))) (((am_up_nk (by omega)).trans ((am_up_nk (by omega)).trans hN.2.2.1)).trans (by rfl)) (hKN.cg (fun k h1 h2 => (am_up_nk (by omega)).trans (am_up_nk (by omega)))) hN.2.2.2.2.1 (((am_up_nk (by omega)).trans ((am_up_nk (by omega)).trans (hN.2.2.2.2.2.1.trans h41V))).trans (by rfl)) (((am_up_nk (by omega)).trans ((am_up_nk (by omega)).trans (hN.2.2.2.2.2.2.trans h42V))).trans (by rfl))
          exact w_retV dX8_kneeHere_61 rfl ⟨((((hFN.wd (by omega) (by omega)).tr ((hFV.wd (by omega) (by omega)).tr ((hF12.wd (by omega) (by omega)).tr (hF8.wd (by omega) (by omega))))).up (by omega)).up (by omega)), (by exact hP9), (fun k h1 => ((am_up_nk (by omega)).trans ((am_up_nk (by omega)).trans ((hf_N k (by omega)).trans ((hf_V k (by omega)).trans ((congrFun (hF12.at (by omega) (by omega)) _).trans (congrFun (hF8.at (by omega) (by omega)) _))))))), (RTc.cg2 hR_N (fun o h1 => ((am_up_o (by omega)).trans (am_up_o (by omega)))) (fun k h1 => ((am_up_nk (by omega)).trans (am_up_nk (by omega))))), (by rw [(((am_up_nk (by omega)).trans (am_up_nk (by omega))).trans (by rfl)), (((am_up_nk (by omega)).trans (am_up_nk (by omega))).trans (by rfl))]; omega)⟩
        · skip
          refine w_putI (o := 45) (f := 48) fX8_kneeHere_53 rfl rfl rfl rfl rfl ?_
          refine w_aload_n dX8_kneeHere_56 rfl rfl (by first | decide | omega) ?_
          refine w_iconst dX8_kneeHere_57 ?_
          refine w_putZ (o := 45) (f := 55) fX8_kneeHere_58 rfl rfl rfl rfl rfl (Or.inr rfl) ?_
          have hP9 : tkL b n (ln0 b n σ 2 (sk b n a) e) μ (am_up (am_up μN 45 48 xN) 45 55 1) := tkL_no (by rw [hl9]; unfold lKne; rw [if_pos hN.1]) (by omega) (((am_up_nk (by omega)).trans ((am_up_nk (by omega)).trans hN.2.1)).trans (by rfl)) (((am_up_nk (by omega)).trans ((am_up_nk (by omega)).trans hN.2.2.1)).trans (by rfl)) (((am_up_nk (by omega)).trans ((am_up_nk (by omega)).trans hN.2.2.2)).trans (by rfl))
          exact w_retV dX8_kneeHere_61 rfl ⟨((((hFN.wd (by omega) (by omega)).tr ((hFV.wd (by omega) (by omega)).tr ((hF12.wd (by omega) (by omega)).tr (hF8.wd (by omega) (by omega))))).up (by omega)).up (by omega)), (by exact hP9), (fun k h1 => ((am_up_nk (by omega)).trans ((am_up_nk (by omega)).trans ((hf_N k (by omega)).trans ((hf_V k (by omega)).trans ((congrFun (hF12.at (by omega) (by omega)) _).trans (congrFun (hF8.at (by omega) (by omega)) _))))))), (RTc.cg2 hR_N (fun o h1 => ((am_up_o (by omega)).trans (am_up_o (by omega)))) (fun k h1 => ((am_up_nk (by omega)).trans (am_up_nk (by omega))))), (by rw [(((am_up_nk (by omega)).trans (am_up_nk (by omega))).trans (by rfl)), (((am_up_nk (by omega)).trans (am_up_nk (by omega))).trans (by rfl))]; omega)⟩

set_option maxRecDepth 100000 in
set_option maxHeartbeats 4000000 in
theorem s_X8_metreHere (X : AX) (b : Int → Int) (n : Int) (σ : Mu) (a : Int) (e : Int) (μ : Mu) (hR : RTc b n μ) (hP : RPS σ μ) (hK : TK b n (sk b n a) μ) (ha : 0 ≤ a ∧ a ≤ n) (he : μ 45 37 = e) (hae : 0 ≤ e ∧ e ≤ n) (hb : μ 45 43 = 0) : Wp (GG X) M_X8_metreHere 0 [(2, 45)] [] μ (qV fun μ' => (Fr 45 45 63 68 μ' μ) ∧ (tkL b n (ln0 b n σ 0 (sk b n a) e) μ μ') ∧ (∀ k9 : Int, (¬ k9 = 37 ∧ ¬ k9 = 38 ∧ ¬ k9 = 39 ∧ ¬ k9 = 40 ∧ ¬ k9 = 41 ∧ ¬ k9 = 42 ∧ ¬ k9 = 43 ∧ ¬ k9 = 44 ∧ ¬ k9 = 45 ∧ ¬ k9 = 46 ∧ ¬ k9 = 47 ∧ ¬ k9 = 48 ∧ ¬ k9 = 49 ∧ ¬ k9 = 50 ∧ ¬ k9 = 51 ∧ ¬ k9 = 52 ∧ ¬ k9 = 53 ∧ ¬ k9 = 54 ∧ ¬ k9 = 55 ∧ ¬ k9 = 56 ∧ ¬ k9 = 57) → μ' 45 k9 = μ 45 k9) ∧ (RTc b n μ') ∧ ((0 ≤ μ' 45 39 ∧ μ' 45 39 ≤ 4) ∧ (-1 ≤ μ' 45 40 ∧ μ' 45 40 < 1073741824))) := by
  have hn := hR.n
  have hbb := hR.bb
  have hr39 := hK.r
  have hr40 := hK.v hbb ha
  have hok := hP.ok
  have h00 := hok.1.1
  have h05 := hok.1.2.2.2.2.2.1
  have hskr := sk_r b n a ha.2
  refine w_aload_n dX8_metreHere_0 rfl rfl (by first | decide | omega) ?_
  refine w_aload_n dX8_metreHere_1 rfl rfl (by first | decide | omega) ?_
  refine w_getIx (o := 45) (f := 50) (x := σ 0 0) fX8_metreHere_2 rfl rfl (Nat.le_of_ble_eq_true rfl) rfl hP.el ?_
  have hr1 := hP.ok.1.1
  refine w_if_ne (tgt := 19) dX8_metreHere_5 rfl (R32.in (by omega)) (fun c5 => ?_) (fun c5 => ?_)
  · skip
    refine w_iconst dX8_metreHere_19 ?_
    refine w_iconst dX8_metreHere_20 ?_
    refine w_callVV (o := 45) (ci := 8) (as := [(0, 0), (0, 1)]) (rest := []) (k := 0) fX8_metreHere_21 rfl rfl rfl rfl rfl rfl rfl rfl (Nat.le_of_ble_eq_true rfl) (s_X8_must_f X 0 1 μ hb rfl) (fun μ_2 hμ2 => ?_)
    obtain ⟨hF2, hb_2, h1_2, h2_2, hf_2⟩ := hμ2
    refine w_aload_n dX8_metreHere_24 rfl rfl (by first | decide | omega) ?_
    refine w_aload_n dX8_metreHere_25 rfl rfl (by first | decide | omega) ?_
    refine w_getIx (o := 45) (f := 54) (x := σ 0 6) fX8_metreHere_26 rfl rfl (Nat.le_of_ble_eq_true rfl) rfl ((hf_2 _ (by omega)).trans hP.hm) ?_
    have hr3 := hP.ok.1.2.2.2.2.2.2.1
    refine w_if_ne (tgt := 36) dX8_metreHere_29 rfl (R32.in (by omega)) (fun c29 => ?_) (fun c29 => ?_)
    · skip
      have htl : tldS σ 0 = σ 0 6 := by unfold tldS; first | rfl | (rw [if_neg (by omega), if_pos rfl]) | (rw [if_neg (by omega), if_neg (by omega)])
      refine w_iconst dX8_metreHere_36 ?_
      refine w_iconst dX8_metreHere_37 ?_
      refine w_callVV (o := 45) (ci := 8) (as := [(0, 0), (0, 3)]) (rest := []) (k := 0) fX8_metreHere_38 rfl rfl rfl rfl rfl rfl rfl rfl (Nat.le_of_ble_eq_true rfl) (s_X8_must_b X 0 3 μ_2 hb_2) (fun μ_4 hμ4 => ?_)
      have hF4 := hμ4
      refine w_aload_n dX8_metreHere_41 rfl rfl (by first | decide | omega) ?_
      refine w_getIx (o := 45) (f := 43) (x := 1) fX8_metreHere_42 rfl rfl (Nat.le_of_ble_eq_true rfl) rfl ((congrFun (hF4.at (by omega) (by omega)) _).trans hb_2) ?_
      refine w_if_ne (tgt := 52) dX8_metreHere_45 rfl (R32.in (by decide)) (fun c45 => ?_) (fun c45 => ?_)
      · skip
        refine w_aload_n dX8_metreHere_52 rfl rfl (by first | decide | omega) ?_
        refine w_aload_n dX8_metreHere_53 rfl rfl (by first | decide | omega) ?_
        refine w_iconst dX8_metreHere_54 ?_
        refine w_bipush dX8_metreHere_55 (by decide) ?_
        refine w_callVI (o := 45) (ci := 8) (as := [(0, 1), (0, 12)]) (rest := [(2, 45)]) (k := 1) fX8_metreHere_57 rfl rfl rfl rfl rfl rfl rfl rfl (Nat.le_of_ble_eq_true rfl) (s_X8_numberHere_b X 1 12 μ_4 (by rw [((congrFun (hF4.at (by omega) (by omega)) _).trans (hf_2 _ (by omega)))]; omega) (by rw [((congrFun (hF4.at (by omega) (by omega)) _).trans (hf_2 _ (by omega)))]; omega) ((congrFun (hF4.at (by omega) (by omega)) _).trans hb_2) (by decide)) (fun xNb μNb hμNb => ?_)
        obtain ⟨hFNb, hz_Nb⟩ := hμNb
        refine w_putI (o := 45) (f := 44) fX8_metreHere_60 rfl rfl rfl rfl rfl ?_
        refine w_aload_n dX8_metreHere_63 rfl rfl (by first | decide | omega) ?_
        refine w_aload_n dX8_metreHere_64 rfl rfl (by first | decide | omega) ?_
        refine w_getIx (o := 45) (f := 39) (x := μ 45 39) fX8_metreHere_65 rfl rfl (Nat.le_of_ble_eq_true rfl) rfl ((am_up_nk (by omega)).trans ((congrFun (hFNb.at (by omega) (by omega)) _).trans ((congrFun (hF4.at (by omega) (by omega)) _).trans (hf_2 _ (by omega))))) ?_
        refine w_iconst dX8_metreHere_68 ?_
        refine w_icmp_ne (tgt := 76) dX8_metreHere_69 rfl (R32.in (by omega)) (R32.in (by decide)) (fun c69 => ?_) (fun c69 => ?_)
        · skip
          refine w_iconst dX8_metreHere_76 ?_
          refine w_iconst dX8_metreHere_77 ?_
          refine w_callVV (o := 45) (ci := 8) (as := [(0, 0), (0, 1)]) (rest := []) (k := 0) fX8_metreHere_78 rfl rfl rfl rfl rfl rfl rfl rfl (Nat.le_of_ble_eq_true rfl) (s_X8_must_b X 0 1 (am_up μNb 45 44 xNb) ((am_up_nk (by omega)).trans ((congrFun (hFNb.at (by omega) (by omega)) _).trans ((congrFun (hF4.at (by omega) (by omega)) _).trans hb_2)))) (fun μ_6 hμ6 => ?_)
          have hF6 := hμ6
          refine w_aload_n dX8_metreHere_81 rfl rfl (by first | decide | omega) ?_
          refine w_aload_n dX8_metreHere_82 rfl rfl (by first | decide | omega) ?_
          refine w_getIx (o := 45) (f := 40) (x := μ 45 40) fX8_metreHere_83 rfl rfl (Nat.le_of_ble_eq_true rfl) rfl ((congrFun (hF6.at (by omega) (by omega)) _).trans ((am_up_nk (by omega)).trans ((congrFun (hFNb.at (by omega) (by omega)) _).trans ((congrFun (hF4.at (by omega) (by omega)) _).trans (hf_2 _ (by omega)))))) ?_
          refine w_iconst dX8_metreHere_86 ?_
          refine w_icmp_eq (tgt := 107) dX8_metreHere_87 rfl (R32.in (by omega)) (R32.in (by decide)) (fun c87 => ?_) (fun c87 => ?_)
          · skip
            refine w_iconst dX8_metreHere_107 ?_
            refine w_goto (tgt := 112) dX8_metreHere_108 rfl ?_
            refine w_iconst dX8_metreHere_112 ?_
            refine w_callVV (o := 45) (ci := 8) (as := [(0, 1), (0, 2)]) (rest := []) (k := 0) fX8_metreHere_113 rfl rfl rfl rfl rfl rfl rfl rfl (Nat.le_of_ble_eq_true rfl) (s_X8_must_t X 1 2 μ_6 (Or.inr ((congrFun (hF6.at (by omega) (by omega)) _).trans ((am_up_nk (by omega)).trans ((congrFun (hFNb.at (by omega) (by omega)) _).trans ((congrFun (hF4.at (by omega) (by omega)) _).trans hb_2))))) rfl) (fun μ_7 hμ7 => ?_)
            have hF7 := hμ7
            refine w_aload_n dX8_metreHere_116 rfl rfl (by first | decide | omega) ?_
            refine w_getIx (o := 45) (f := 43) (x := 1) fX8_metreHere_117 rfl rfl (Nat.le_of_ble_eq_true rfl) rfl ((congrFun (hF7.at (by omega) (by omega)) _).trans ((congrFun (hF6.at (by omega) (by omega)) _).trans ((am_up_nk (by omega)).trans ((congrFun (hFNb.at (by omega) (by omega)) _).trans ((congrFun (hF4.at (by omega) (by omega)) _).trans hb_2))))) ?_
            refine w_if_eq (tgt := 124) dX8_metreHere_120 rfl (R32.in (by decide)) (fun c120 => ?_) (fun c120 => ?_)
            · skip
              exact absurd c120 (by decide)
            · skip
              have hP9 : tkL b n (ln0 b n σ 0 (sk b n a) e) μ μ_7 := tkL_no (ln0_1 (Or.inr (by unfold tooL; omega))) (by omega) (((congrFun (hF7.at (by omega) (by omega)) _).trans ((congrFun (hF6.at (by omega) (by omega)) _).trans ((am_up_nk (by omega)).trans ((congrFun (hFNb.at (by omega) (by omega)) _).trans ((congrFun (hF4.at (by omega) (by omega)) _).trans hb_2))))).trans (by rfl)) (((congrFun (hF7.at (by omega) (by omega)) _).trans ((congrFun (hF6.at (by omega) (by omega)) _).trans ((am_up_nk (by omega)).trans ((congrFun (hFNb.at (by omega) (by omega)) _).trans ((congrFun (hF4.at (by omega) (by omega)) _).trans h1_2))))).trans (by rfl)) (((congrFun (hF7.at (by omega) (by omega)) _).trans ((congrFun (hF6.at (by omega) (by omega)) _).trans ((am_up_nk (by omega)).trans ((congrFun (hFNb.at (by omega) (by omega)) _).trans ((congrFun (hF4.at (by omega) (by omega)) _).trans (h2_2.trans rfl)))))).trans (by exact hK.1))
              exact w_retV dX8_metreHere_123 rfl ⟨((hF7.wd (by omega) (by omega)).tr ((hF6.wd (by omega) (by omega)).tr (((hFNb.wd (by omega) (by omega)).tr ((hF4.wd (by omega) (by omega)).tr (hF2.wd (by omega) (by omega)))).up (by omega)))), (by exact hP9), (fun k h1 => ((congrFun (hF7.at (by omega) (by omega)) _).trans ((congrFun (hF6.at (by omega) (by omega)) _).trans ((am_up_nk (by omega)).trans ((congrFun (hFNb.at (by omega) (by omega)) _).trans ((congrFun (hF4.at (by omega) (by omega)) _).trans (hf_2 k (by omega)))))))), (RTc.cg2 hR (fun o h1 => ((hF7.at (by omega) (by omega)).trans ((hF6.at (by omega) (by omega)).trans ((am_up_o (by omega)).trans ((hFNb.at (by omega) (by omega)).trans ((hF4.at (by omega) (by omega)).trans (hF2.at (by omega) (by omega)))))))) (fun k h1 => ((congrFun (hF7.at (by omega) (by omega)) _).trans ((congrFun (hF6.at (by omega) (by omega)) _).trans ((am_up_nk (by omega)).trans ((congrFun (hFNb.at (by omega) (by omega)) _).trans ((congrFun (hF4.at (by omega) (by omega)) _).trans (hf_2 _ (by omega))))))))), (by rw [(((congrFun (hF7.at (by omega) (by omega)) _).trans ((congrFun (hF6.at (by omega) (by omega)) _).trans ((am_up_nk (by omega)).trans ((congrFun (hFNb.at (by omega) (by omega)) _).trans ((congrFun (hF4.at (by omega) (by omega)) _).trans (hf_2 _ (by omega))))))).trans (by rfl)), (((congrFun (hF7.at (by omega) (by omega)) _).trans ((congrFun (hF6.at (by omega) (by omega)) _).trans ((am_up_nk (by omega)).trans ((congrFun (hFNb.at (by omega) (by omega)) _).trans ((congrFun (hF4.at (by omega) (by omega)) _).trans (hf_2 _ (by omega))))))).trans (by rfl))]; omega)⟩
          · skip
            refine w_aload_n dX8_metreHere_90 rfl rfl (by first | decide | omega) ?_
            refine w_getIx (o := 45) (f := 40) (x := μ 45 40) fX8_metreHere_91 rfl rfl (Nat.le_of_ble_eq_true rfl) rfl ((congrFun (hF6.at (by omega) (by omega)) _).trans ((am_up_nk (by omega)).trans ((congrFun (hFNb.at (by omega) (by omega)) _).trans ((congrFun (hF4.at (by omega) (by omega)) _).trans (hf_2 _ (by omega)))))) ?_
            refine w_iconst dX8_metreHere_94 ?_
            refine w_icmp_eq (tgt := 107) dX8_metreHere_95 rfl (R32.in (by omega)) (R32.in (by decide)) (fun c95 => ?_) (fun c95 => ?_)
            · skip
              refine w_iconst dX8_metreHere_107 ?_
              refine w_goto (tgt := 112) dX8_metreHere_108 rfl ?_
              refine w_iconst dX8_metreHere_112 ?_
              refine w_callVV (o := 45) (ci := 8) (as := [(0, 1), (0, 2)]) (rest := []) (k := 0) fX8_metreHere_113 rfl rfl rfl rfl rfl rfl rfl rfl (Nat.le_of_ble_eq_true rfl) (s_X8_must_t X 1 2 μ_6 (Or.inr ((congrFun (hF6.at (by omega) (by omega)) _).trans ((am_up_nk (by omega)).trans ((congrFun (hFNb.at (by omega) (by omega)) _).trans ((congrFun (hF4.at (by omega) (by omega)) _).trans hb_2))))) rfl) (fun μ_8 hμ8 => ?_)
              have hF8 := hμ8
              refine w_aload_n dX8_metreHere_116 rfl rfl (by first | decide | omega) ?_
              refine w_getIx (o := 45) (f := 43) (x := 1) fX8_metreHere_117 rfl rfl (Nat.le_of_ble_eq_true rfl) rfl ((congrFun (hF8.at (by omega) (by omega)) _).trans ((congrFun (hF6.at (by omega) (by omega)) _).trans ((am_up_nk (by omega)).trans ((congrFun (hFNb.at (by omega) (by omega)) _).trans ((congrFun (hF4.at (by omega) (by omega)) _).trans hb_2))))) ?_
              refine w_if_eq (tgt := 124) dX8_metreHere_120 rfl (R32.in (by decide)) (fun c120 => ?_) (fun c120 => ?_)
              · skip
                exact absurd c120 (by decide)
              · skip
                have hP9 : tkL b n (ln0 b n σ 0 (sk b n a) e) μ μ_8 := tkL_no (ln0_1 (Or.inr (by unfold tooL; omega))) (by omega) (((congrFun (hF8.at (by omega) (by omega)) _).trans ((congrFun (hF6.at (by omega) (by omega)) _).trans ((am_up_nk (by omega)).trans ((congrFun (hFNb.at (by omega) (by omega)) _).trans ((congrFun (hF4.at (by omega) (by omega)) _).trans hb_2))))).trans (by rfl)) (((congrFun (hF8.at (by omega) (by omega)) _).trans ((congrFun (hF6.at (by omega) (by omega)) _).trans ((am_up_nk (by omega)).trans ((congrFun (hFNb.at (by omega) (by omega)) _).trans ((congrFun (hF4.at (by omega) (by omega)) _).trans h1_2))))).trans (by rfl)) (((congrFun (hF8.at (by omega) (by omega)) _).trans ((congrFun (hF6.at (by omega) (by omega)) _).trans ((am_up_nk (by omega)).trans ((congrFun (hFNb.at (by omega) (by omega)) _).trans ((congrFun (hF4.at (by omega) (by omega)) _).trans (h2_2.trans rfl)))))).trans (by exact hK.1))
                exact w_retV dX8_metreHere_123 rfl ⟨((hF8.wd (by omega) (by omega)).tr ((hF6.wd (by omega) (by omega)).tr (((hFNb.wd (by omega) (by omega)).tr ((hF4.wd (by omega) (by omega)).tr (hF2.wd (by omega) (by omega)))).up (by omega)))), (by exact hP9), (fun k h1 => ((congrFun (hF8.at (by omega) (by omega)) _).trans ((congrFun (hF6.at (by omega) (by omega)) _).trans ((am_up_nk (by omega)).trans ((congrFun (hFNb.at (by omega) (by omega)) _).trans ((congrFun (hF4.at (by omega) (by omega)) _).trans (hf_2 k (by omega)))))))), (RTc.cg2 hR (fun o h1 => ((hF8.at (by omega) (by omega)).trans ((hF6.at (by omega) (by omega)).trans ((am_up_o (by omega)).trans ((hFNb.at (by omega) (by omega)).trans ((hF4.at (by omega) (by omega)).trans (hF2.at (by omega) (by omega)))))))) (fun k h1 => ((congrFun (hF8.at (by omega) (by omega)) _).trans ((congrFun (hF6.at (by omega) (by omega)) _).trans ((am_up_nk (by omega)).trans ((congrFun (hFNb.at (by omega) (by omega)) _).trans ((congrFun (hF4.at (by omega) (by omega)) _).trans (hf_2 _ (by omega))))))))), (by rw [(((congrFun (hF8.at (by omega) (by omega)) _).trans ((congrFun (hF6.at (by omega) (by omega)) _).trans ((am_up_nk (by omega)).trans ((congrFun (hFNb.at (by omega) (by omega)) _).trans ((congrFun (hF4.at (by omega) (by omega)) _).trans (hf_2 _ (by omega))))))).trans (by rfl)), (((congrFun (hF8.at (by omega) (by omega)) _).trans ((congrFun (hF6.at (by omega) (by omega)) _).trans ((am_up_nk (by omega)).trans ((congrFun (hFNb.at (by omega) (by omega)) _).trans ((congrFun (hF4.at (by omega) (by omega)) _).trans (hf_2 _ (by omega))))))).trans (by rfl))]; omega)⟩
            · skip
              refine w_aload_n dX8_metreHere_98 rfl rfl (by first | decide | omega) ?_
              refine w_getIx (o := 45) (f := 40) (x := μ 45 40) fX8_metreHere_99 rfl rfl (Nat.le_of_ble_eq_true rfl) rfl ((congrFun (hF6.at (by omega) (by omega)) _).trans ((am_up_nk (by omega)).trans ((congrFun (hFNb.at (by omega) (by omega)) _).trans ((congrFun (hF4.at (by omega) (by omega)) _).trans (hf_2 _ (by omega)))))) ?_
              refine w_bipush dX8_metreHere_102 (by decide) ?_
              refine w_icmp_ne (tgt := 111) dX8_metreHere_104 rfl (R32.in (by omega)) (R32.in (by decide)) (fun c104 => ?_) (fun c104 => ?_)
              · skip
                refine w_iconst dX8_metreHere_111 ?_
                refine w_iconst dX8_metreHere_112 ?_
                refine w_callVV (o := 45) (ci := 8) (as := [(0, 0), (0, 2)]) (rest := []) (k := 0) fX8_metreHere_113 rfl rfl rfl rfl rfl rfl rfl rfl (Nat.le_of_ble_eq_true rfl) (s_X8_must_b X 0 2 μ_6 ((congrFun (hF6.at (by omega) (by omega)) _).trans ((am_up_nk (by omega)).trans ((congrFun (hFNb.at (by omega) (by omega)) _).trans ((congrFun (hF4.at (by omega) (by omega)) _).trans hb_2))))) (fun μ_9 hμ9 => ?_)
                have hF9 := hμ9
                refine w_aload_n dX8_metreHere_116 rfl rfl (by first | decide | omega) ?_
                refine w_getIx (o := 45) (f := 43) (x := 1) fX8_metreHere_117 rfl rfl (Nat.le_of_ble_eq_true rfl) rfl ((congrFun (hF9.at (by omega) (by omega)) _).trans ((congrFun (hF6.at (by omega) (by omega)) _).trans ((am_up_nk (by omega)).trans ((congrFun (hFNb.at (by omega) (by omega)) _).trans ((congrFun (hF4.at (by omega) (by omega)) _).trans hb_2))))) ?_
                refine w_if_eq (tgt := 124) dX8_metreHere_120 rfl (R32.in (by decide)) (fun c120 => ?_) (fun c120 => ?_)
                · skip
                  exact absurd c120 (by decide)
                · skip
                  have hP9 : tkL b n (ln0 b n σ 0 (sk b n a) e) μ μ_9 := tkL_no (ln0_1 (Or.inr (by unfold tooL; omega))) (by omega) (((congrFun (hF9.at (by omega) (by omega)) _).trans ((congrFun (hF6.at (by omega) (by omega)) _).trans ((am_up_nk (by omega)).trans ((congrFun (hFNb.at (by omega) (by omega)) _).trans ((congrFun (hF4.at (by omega) (by omega)) _).trans hb_2))))).trans (by rfl)) (((congrFun (hF9.at (by omega) (by omega)) _).trans ((congrFun (hF6.at (by omega) (by omega)) _).trans ((am_up_nk (by omega)).trans ((congrFun (hFNb.at (by omega) (by omega)) _).trans ((congrFun (hF4.at (by omega) (by omega)) _).trans h1_2))))).trans (by rfl)) (((congrFun (hF9.at (by omega) (by omega)) _).trans ((congrFun (hF6.at (by omega) (by omega)) _).trans ((am_up_nk (by omega)).trans ((congrFun (hFNb.at (by omega) (by omega)) _).trans ((congrFun (hF4.at (by omega) (by omega)) _).trans (h2_2.trans rfl)))))).trans (by exact hK.1))
                  exact w_retV dX8_metreHere_123 rfl ⟨((hF9.wd (by omega) (by omega)).tr ((hF6.wd (by omega) (by omega)).tr (((hFNb.wd (by omega) (by omega)).tr ((hF4.wd (by omega) (by omega)).tr (hF2.wd (by omega) (by omega)))).up (by omega)))), (by exact hP9), (fun k h1 => ((congrFun (hF9.at (by omega) (by omega)) _).trans ((congrFun (hF6.at (by omega) (by omega)) _).trans ((am_up_nk (by omega)).trans ((congrFun (hFNb.at (by omega) (by omega)) _).trans ((congrFun (hF4.at (by omega) (by omega)) _).trans (hf_2 k (by omega)))))))), (RTc.cg2 hR (fun o h1 => ((hF9.at (by omega) (by omega)).trans ((hF6.at (by omega) (by omega)).trans ((am_up_o (by omega)).trans ((hFNb.at (by omega) (by omega)).trans ((hF4.at (by omega) (by omega)).trans (hF2.at (by omega) (by omega)))))))) (fun k h1 => ((congrFun (hF9.at (by omega) (by omega)) _).trans ((congrFun (hF6.at (by omega) (by omega)) _).trans ((am_up_nk (by omega)).trans ((congrFun (hFNb.at (by omega) (by omega)) _).trans ((congrFun (hF4.at (by omega) (by omega)) _).trans (hf_2 _ (by omega))))))))), (by rw [(((congrFun (hF9.at (by omega) (by omega)) _).trans ((congrFun (hF6.at (by omega) (by omega)) _).trans ((am_up_nk (by omega)).trans ((congrFun (hFNb.at (by omega) (by omega)) _).trans ((congrFun (hF4.at (by omega) (by omega)) _).trans (hf_2 _ (by omega))))))).trans (by rfl)), (((congrFun (hF9.at (by omega) (by omega)) _).trans ((congrFun (hF6.at (by omega) (by omega)) _).trans ((am_up_nk (by omega)).trans ((congrFun (hFNb.at (by omega) (by omega)) _).trans ((congrFun (hF4.at (by omega) (by omega)) _).trans (hf_2 _ (by omega))))))).trans (by rfl))]; omega)⟩
              · skip
                refine w_iconst dX8_metreHere_107 ?_
                refine w_goto (tgt := 112) dX8_metreHere_108 rfl ?_
                refine w_iconst dX8_metreHere_112 ?_
                refine w_callVV (o := 45) (ci := 8) (as := [(0, 1), (0, 2)]) (rest := []) (k := 0) fX8_metreHere_113 rfl rfl rfl rfl rfl rfl rfl rfl (Nat.le_of_ble_eq_true rfl) (s_X8_must_t X 1 2 μ_6 (Or.inr ((congrFun (hF6.at (by omega) (by omega)) _).trans ((am_up_nk (by omega)).trans ((congrFun (hFNb.at (by omega) (by omega)) _).trans ((congrFun (hF4.at (by omega) (by omega)) _).trans hb_2))))) rfl) (fun μ_10 hμ10 => ?_)
                have hF10 := hμ10
                refine w_aload_n dX8_metreHere_116 rfl rfl (by first | decide | omega) ?_
                refine w_getIx (o := 45) (f := 43) (x := 1) fX8_metreHere_117 rfl rfl (Nat.le_of_ble_eq_true rfl) rfl ((congrFun (hF10.at (by omega) (by omega)) _).trans ((congrFun (hF6.at (by omega) (by omega)) _).trans ((am_up_nk (by omega)).trans ((congrFun (hFNb.at (by omega) (by omega)) _).trans ((congrFun (hF4.at (by omega) (by omega)) _).trans hb_2))))) ?_
                refine w_if_eq (tgt := 124) dX8_metreHere_120 rfl (R32.in (by decide)) (fun c120 => ?_) (fun c120 => ?_)
                · skip
                  exact absurd c120 (by decide)
                · skip
                  have hP9 : tkL b n (ln0 b n σ 0 (sk b n a) e) μ μ_10 := tkL_no (ln0_1 (Or.inr (by unfold tooL; omega))) (by omega) (((congrFun (hF10.at (by omega) (by omega)) _).trans ((congrFun (hF6.at (by omega) (by omega)) _).trans ((am_up_nk (by omega)).trans ((congrFun (hFNb.at (by omega) (by omega)) _).trans ((congrFun (hF4.at (by omega) (by omega)) _).trans hb_2))))).trans (by rfl)) (((congrFun (hF10.at (by omega) (by omega)) _).trans ((congrFun (hF6.at (by omega) (by omega)) _).trans ((am_up_nk (by omega)).trans ((congrFun (hFNb.at (by omega) (by omega)) _).trans ((congrFun (hF4.at (by omega) (by omega)) _).trans h1_2))))).trans (by rfl)) (((congrFun (hF10.at (by omega) (by omega)) _).trans ((congrFun (hF6.at (by omega) (by omega)) _).trans ((am_up_nk (by omega)).trans ((congrFun (hFNb.at (by omega) (by omega)) _).trans ((congrFun (hF4.at (by omega) (by omega)) _).trans (h2_2.trans rfl)))))).trans (by exact hK.1))
                  exact w_retV dX8_metreHere_123 rfl ⟨((hF10.wd (by omega) (by omega)).tr ((hF6.wd (by omega) (by omega)).tr (((hFNb.wd (by omega) (by omega)).tr ((hF4.wd (by omega) (by omega)).tr (hF2.wd (by omega) (by omega)))).up (by omega)))), (by exact hP9), (fun k h1 => ((congrFun (hF10.at (by omega) (by omega)) _).trans ((congrFun (hF6.at (by omega) (by omega)) _).trans ((am_up_nk (by omega)).trans ((congrFun (hFNb.at (by omega) (by omega)) _).trans ((congrFun (hF4.at (by omega) (by omega)) _).trans (hf_2 k (by omega)))))))), (RTc.cg2 hR (fun o h1 => ((hF10.at (by omega) (by omega)).trans ((hF6.at (by omega) (by omega)).trans ((am_up_o (by omega)).trans ((hFNb.at (by omega) (by omega)).trans ((hF4.at (by omega) (by omega)).trans (hF2.at (by omega) (by omega)))))))) (fun k h1 => ((congrFun (hF10.at (by omega) (by omega)) _).trans ((congrFun (hF6.at (by omega) (by omega)) _).trans ((am_up_nk (by omega)).trans ((congrFun (hFNb.at (by omega) (by omega)) _).trans ((congrFun (hF4.at (by omega) (by omega)) _).trans (hf_2 _ (by omega))))))))), (by rw [(((congrFun (hF10.at (by omega) (by omega)) _).trans ((congrFun (hF6.at (by omega) (by omega)) _).trans ((am_up_nk (by omega)).trans ((congrFun (hFNb.at (by omega) (by omega)) _).trans ((congrFun (hF4.at (by omega) (by omega)) _).trans (hf_2 _ (by omega))))))).trans (by rfl)), (((congrFun (hF10.at (by omega) (by omega)) _).trans ((congrFun (hF6.at (by omega) (by omega)) _).trans ((am_up_nk (by omega)).trans ((congrFun (hFNb.at (by omega) (by omega)) _).trans ((congrFun (hF4.at (by omega) (by omega)) _).trans (hf_2 _ (by omega))))))).trans (by rfl))]; omega)⟩
        · skip
          refine w_iconst dX8_metreHere_72 ?_
          refine w_goto (tgt := 77) dX8_metreHere_73 rfl ?_
          refine w_iconst dX8_metreHere_77 ?_
          refine w_callVV (o := 45) (ci := 8) (as := [(0, 1), (0, 1)]) (rest := []) (k := 0) fX8_metreHere_78 rfl rfl rfl rfl rfl rfl rfl rfl (Nat.le_of_ble_eq_true rfl) (s_X8_must_t X 1 1 (am_up μNb 45 44 xNb) (Or.inr ((am_up_nk (by omega)).trans ((congrFun (hFNb.at (by omega) (by omega)) _).trans ((congrFun (hF4.at (by omega) (by omega)) _).trans hb_2)))) rfl) (fun μ_11 hμ11 => ?_)
          have hF11 := hμ11
          refine w_aload_n dX8_metreHere_81 rfl rfl (by first | decide | omega) ?_
          refine w_aload_n dX8_metreHere_82 rfl rfl (by first | decide | omega) ?_
          refine w_getIx (o := 45) (f := 40) (x := μ 45 40) fX8_metreHere_83 rfl rfl (Nat.le_of_ble_eq_true rfl) rfl ((congrFun (hF11.at (by omega) (by omega)) _).trans ((am_up_nk (by omega)).trans ((congrFun (hFNb.at (by omega) (by omega)) _).trans ((congrFun (hF4.at (by omega) (by omega)) _).trans (hf_2 _ (by omega)))))) ?_
          refine w_iconst dX8_metreHere_86 ?_
          refine w_icmp_eq (tgt := 107) dX8_metreHere_87 rfl (R32.in (by omega)) (R32.in (by decide)) (fun c87 => ?_) (fun c87 => ?_)
          · skip
            refine w_iconst dX8_metreHere_107 ?_
            refine w_goto (tgt := 112) dX8_metreHere_108 rfl ?_
            refine w_iconst dX8_metreHere_112 ?_
            refine w_callVV (o := 45) (ci := 8) (as := [(0, 1), (0, 2)]) (rest := []) (k := 0) fX8_metreHere_113 rfl rfl rfl rfl rfl rfl rfl rfl (Nat.le_of_ble_eq_true rfl) (s_X8_must_t X 1 2 μ_11 (Or.inr ((congrFun (hF11.at (by omega) (by omega)) _).trans ((am_up_nk (by omega)).trans ((congrFun (hFNb.at (by omega) (by omega)) _).trans ((congrFun (hF4.at (by omega) (by omega)) _).trans hb_2))))) rfl) (fun μ_12 hμ12 => ?_)
            have hF12 := hμ12
            refine w_aload_n dX8_metreHere_116 rfl rfl (by first | decide | omega) ?_
            refine w_getIx (o := 45) (f := 43) (x := 1) fX8_metreHere_117 rfl rfl (Nat.le_of_ble_eq_true rfl) rfl ((congrFun (hF12.at (by omega) (by omega)) _).trans ((congrFun (hF11.at (by omega) (by omega)) _).trans ((am_up_nk (by omega)).trans ((congrFun (hFNb.at (by omega) (by omega)) _).trans ((congrFun (hF4.at (by omega) (by omega)) _).trans hb_2))))) ?_
            refine w_if_eq (tgt := 124) dX8_metreHere_120 rfl (R32.in (by decide)) (fun c120 => ?_) (fun c120 => ?_)
            · skip
              exact absurd c120 (by decide)
            · skip
              have hP9 : tkL b n (ln0 b n σ 0 (sk b n a) e) μ μ_12 := tkL_no (ln0_1 (Or.inr (by unfold tooL; omega))) (by omega) (((congrFun (hF12.at (by omega) (by omega)) _).trans ((congrFun (hF11.at (by omega) (by omega)) _).trans ((am_up_nk (by omega)).trans ((congrFun (hFNb.at (by omega) (by omega)) _).trans ((congrFun (hF4.at (by omega) (by omega)) _).trans hb_2))))).trans (by rfl)) (((congrFun (hF12.at (by omega) (by omega)) _).trans ((congrFun (hF11.at (by omega) (by omega)) _).trans ((am_up_nk (by omega)).trans ((congrFun (hFNb.at (by omega) (by omega)) _).trans ((congrFun (hF4.at (by omega) (by omega)) _).trans h1_2))))).trans (by rfl)) (((congrFun (hF12.at (by omega) (by omega)) _).trans ((congrFun (hF11.at (by omega) (by omega)) _).trans ((am_up_nk (by omega)).trans ((congrFun (hFNb.at (by omega) (by omega)) _).trans ((congrFun (hF4.at (by omega) (by omega)) _).trans (h2_2.trans rfl)))))).trans (by exact hK.1))
              exact w_retV dX8_metreHere_123 rfl ⟨((hF12.wd (by omega) (by omega)).tr ((hF11.wd (by omega) (by omega)).tr (((hFNb.wd (by omega) (by omega)).tr ((hF4.wd (by omega) (by omega)).tr (hF2.wd (by omega) (by omega)))).up (by omega)))), (by exact hP9), (fun k h1 => ((congrFun (hF12.at (by omega) (by omega)) _).trans ((congrFun (hF11.at (by omega) (by omega)) _).trans ((am_up_nk (by omega)).trans ((congrFun (hFNb.at (by omega) (by omega)) _).trans ((congrFun (hF4.at (by omega) (by omega)) _).trans (hf_2 k (by omega)))))))), (RTc.cg2 hR (fun o h1 => ((hF12.at (by omega) (by omega)).trans ((hF11.at (by omega) (by omega)).trans ((am_up_o (by omega)).trans ((hFNb.at (by omega) (by omega)).trans ((hF4.at (by omega) (by omega)).trans (hF2.at (by omega) (by omega)))))))) (fun k h1 => ((congrFun (hF12.at (by omega) (by omega)) _).trans ((congrFun (hF11.at (by omega) (by omega)) _).trans ((am_up_nk (by omega)).trans ((congrFun (hFNb.at (by omega) (by omega)) _).trans ((congrFun (hF4.at (by omega) (by omega)) _).trans (hf_2 _ (by omega))))))))), (by rw [(((congrFun (hF12.at (by omega) (by omega)) _).trans ((congrFun (hF11.at (by omega) (by omega)) _).trans ((am_up_nk (by omega)).trans ((congrFun (hFNb.at (by omega) (by omega)) _).trans ((congrFun (hF4.at (by omega) (by omega)) _).trans (hf_2 _ (by omega))))))).trans (by rfl)), (((congrFun (hF12.at (by omega) (by omega)) _).trans ((congrFun (hF11.at (by omega) (by omega)) _).trans ((am_up_nk (by omega)).trans ((congrFun (hFNb.at (by omega) (by omega)) _).trans ((congrFun (hF4.at (by omega) (by omega)) _).trans (hf_2 _ (by omega))))))).trans (by rfl))]; omega)⟩
          · skip
            refine w_aload_n dX8_metreHere_90 rfl rfl (by first | decide | omega) ?_
            refine w_getIx (o := 45) (f := 40) (x := μ 45 40) fX8_metreHere_91 rfl rfl (Nat.le_of_ble_eq_true rfl) rfl ((congrFun (hF11.at (by omega) (by omega)) _).trans ((am_up_nk (by omega)).trans ((congrFun (hFNb.at (by omega) (by omega)) _).trans ((congrFun (hF4.at (by omega) (by omega)) _).trans (hf_2 _ (by omega)))))) ?_
            refine w_iconst dX8_metreHere_94 ?_
            refine w_icmp_eq (tgt := 107) dX8_metreHere_95 rfl (R32.in (by omega)) (R32.in (by decide)) (fun c95 => ?_) (fun c95 => ?_)
            · skip
              refine w_iconst dX8_metreHere_107 ?_
              refine w_goto (tgt := 112) dX8_metreHere_108 rfl ?_
              refine w_iconst dX8_metreHere_112 ?_
              refine w_callVV (o := 45) (ci := 8) (as := [(0, 1), (0, 2)]) (rest := []) (k := 0) fX8_metreHere_113 rfl rfl rfl rfl rfl rfl rfl rfl (Nat.le_of_ble_eq_true rfl) (s_X8_must_t X 1 2 μ_11 (Or.inr ((congrFun (hF11.at (by omega) (by omega)) _).trans ((am_up_nk (by omega)).trans ((congrFun (hFNb.at (by omega) (by omega)) _).trans ((congrFun (hF4.at (by omega) (by omega)) _).trans hb_2))))) rfl) (fun μ_13 hμ13 => ?_)
              have hF13 := hμ13
              refine w_aload_n dX8_metreHere_116 rfl rfl (by first | decide | omega) ?_
              refine w_getIx (o := 45) (f := 43) (x := 1) fX8_metreHere_117 rfl rfl (Nat.le_of_ble_eq_true rfl) rfl ((congrFun (hF13.at (by omega) (by omega)) _).trans ((congrFun (hF11.at (by omega) (by omega)) _).trans ((am_up_nk (by omega)).trans ((congrFun (hFNb.at (by omega) (by omega)) _).trans ((congrFun (hF4.at (by omega) (by omega)) _).trans hb_2))))) ?_
              refine w_if_eq (tgt := 124) dX8_metreHere_120 rfl (R32.in (by decide)) (fun c120 => ?_) (fun c120 => ?_)
              · skip
                exact absurd c120 (by decide)
              · skip
                have hP9 : tkL b n (ln0 b n σ 0 (sk b n a) e) μ μ_13 := tkL_no (ln0_1 (Or.inr (by unfold tooL; omega))) (by omega) (((congrFun (hF13.at (by omega) (by omega)) _).trans ((congrFun (hF11.at (by omega) (by omega)) _).trans ((am_up_nk (by omega)).trans ((congrFun (hFNb.at (by omega) (by omega)) _).trans ((congrFun (hF4.at (by omega) (by omega)) _).trans hb_2))))).trans (by rfl)) (((congrFun (hF13.at (by omega) (by omega)) _).trans ((congrFun (hF11.at (by omega) (by omega)) _).trans ((am_up_nk (by omega)).trans ((congrFun (hFNb.at (by omega) (by omega)) _).trans ((congrFun (hF4.at (by omega) (by omega)) _).trans h1_2))))).trans (by rfl)) (((congrFun (hF13.at (by omega) (by omega)) _).trans ((congrFun (hF11.at (by omega) (by omega)) _).trans ((am_up_nk (by omega)).trans ((congrFun (hFNb.at (by omega) (by omega)) _).trans ((congrFun (hF4.at (by omega) (by omega)) _).trans (h2_2.trans rfl)))))).trans (by exact hK.1))
                exact w_retV dX8_metreHere_123 rfl ⟨((hF13.wd (by omega) (by omega)).tr ((hF11.wd (by omega) (by omega)).tr (((hFNb.wd (by omega) (by omega)).tr ((hF4.wd (by omega) (by omega)).tr (hF2.wd (by omega) (by omega)))).up (by omega)))), (by exact hP9), (fun k h1 => ((congrFun (hF13.at (by omega) (by omega)) _).trans ((congrFun (hF11.at (by omega) (by omega)) _).trans ((am_up_nk (by omega)).trans ((congrFun (hFNb.at (by omega) (by omega)) _).trans ((congrFun (hF4.at (by omega) (by omega)) _).trans (hf_2 k (by omega)))))))), (RTc.cg2 hR (fun o h1 => ((hF13.at (by omega) (by omega)).trans ((hF11.at (by omega) (by omega)).trans ((am_up_o (by omega)).trans ((hFNb.at (by omega) (by omega)).trans ((hF4.at (by omega) (by omega)).trans (hF2.at (by omega) (by omega)))))))) (fun k h1 => ((congrFun (hF13.at (by omega) (by omega)) _).trans ((congrFun (hF11.at (by omega) (by omega)) _).trans ((am_up_nk (by omega)).trans ((congrFun (hFNb.at (by omega) (by omega)) _).trans ((congrFun (hF4.at (by omega) (by omega)) _).trans (hf_2 _ (by omega))))))))), (by rw [(((congrFun (hF13.at (by omega) (by omega)) _).trans ((congrFun (hF11.at (by omega) (by omega)) _).trans ((am_up_nk (by omega)).trans ((congrFun (hFNb.at (by omega) (by omega)) _).trans ((congrFun (hF4.at (by omega) (by omega)) _).trans (hf_2 _ (by omega))))))).trans (by rfl)), (((congrFun (hF13.at (by omega) (by omega)) _).trans ((congrFun (hF11.at (by omega) (by omega)) _).trans ((am_up_nk (by omega)).trans ((congrFun (hFNb.at (by omega) (by omega)) _).trans ((congrFun (hF4.at (by omega) (by omega)) _).trans (hf_2 _ (by omega))))))).trans (by rfl))]; omega)⟩
            · skip
              refine w_aload_n dX8_metreHere_98 rfl rfl (by first | decide | omega) ?_
              refine w_getIx (o := 45) (f := 40) (x := μ 45 40) fX8_metreHere_99 rfl rfl (Nat.le_of_ble_eq_true rfl) rfl ((congrFun (hF11.at (by omega) (by omega)) _).trans ((am_up_nk (by omega)).trans ((congrFun (hFNb.at (by omega) (by omega)) _).trans ((congrFun (hF4.at (by omega) (by omega)) _).trans (hf_2 _ (by omega)))))) ?_
              refine w_bipush dX8_metreHere_102 (by decide) ?_
              refine w_icmp_ne (tgt := 111) dX8_metreHere_104 rfl (R32.in (by omega)) (R32.in (by decide)) (fun c104 => ?_) (fun c104 => ?_)
              · skip
                refine w_iconst dX8_metreHere_111 ?_
                refine w_iconst dX8_metreHere_112 ?_
                refine w_callVV (o := 45) (ci := 8) (as := [(0, 0), (0, 2)]) (rest := []) (k := 0) fX8_metreHere_113 rfl rfl rfl rfl rfl rfl rfl rfl (Nat.le_of_ble_eq_true rfl) (s_X8_must_b X 0 2 μ_11 ((congrFun (hF11.at (by omega) (by omega)) _).trans ((am_up_nk (by omega)).trans ((congrFun (hFNb.at (by omega) (by omega)) _).trans ((congrFun (hF4.at (by omega) (by omega)) _).trans hb_2))))) (fun μ_14 hμ14 => ?_)
                have hF14 := hμ14
                refine w_aload_n dX8_metreHere_116 rfl rfl (by first | decide | omega) ?_
                refine w_getIx (o := 45) (f := 43) (x := 1) fX8_metreHere_117 rfl rfl (Nat.le_of_ble_eq_true rfl) rfl ((congrFun (hF14.at (by omega) (by omega)) _).trans ((congrFun (hF11.at (by omega) (by omega)) _).trans ((am_up_nk (by omega)).trans ((congrFun (hFNb.at (by omega) (by omega)) _).trans ((congrFun (hF4.at (by omega) (by omega)) _).trans hb_2))))) ?_
                refine w_if_eq (tgt := 124) dX8_metreHere_120 rfl (R32.in (by decide)) (fun c120 => ?_) (fun c120 => ?_)
                · skip
                  exact absurd c120 (by decide)
                · skip
                  have hP9 : tkL b n (ln0 b n σ 0 (sk b n a) e) μ μ_14 := tkL_no (ln0_1 (Or.inr (by unfold tooL; omega))) (by omega) (((congrFun (hF14.at (by omega) (by omega)) _).trans ((congrFun (hF11.at (by omega) (by omega)) _).trans ((am_up_nk (by omega)).trans ((congrFun (hFNb.at (by omega) (by omega)) _).trans ((congrFun (hF4.at (by omega) (by omega)) _).trans hb_2))))).trans (by rfl)) (((congrFun (hF14.at (by omega) (by omega)) _).trans ((congrFun (hF11.at (by omega) (by omega)) _).trans ((am_up_nk (by omega)).trans ((congrFun (hFNb.at (by omega) (by omega)) _).trans ((congrFun (hF4.at (by omega) (by omega)) _).trans h1_2))))).trans (by rfl)) (((congrFun (hF14.at (by omega) (by omega)) _).trans ((congrFun (hF11.at (by omega) (by omega)) _).trans ((am_up_nk (by omega)).trans ((congrFun (hFNb.at (by omega) (by omega)) _).trans ((congrFun (hF4.at (by omega) (by omega)) _).trans (h2_2.trans rfl)))))).trans (by exact hK.1))
                  exact w_retV dX8_metreHere_123 rfl ⟨((hF14.wd (by omega) (by omega)).tr ((hF11.wd (by omega) (by omega)).tr (((hFNb.wd (by omega) (by omega)).tr ((hF4.wd (by omega) (by omega)).tr (hF2.wd (by omega) (by omega)))).up (by omega)))), (by exact hP9), (fun k h1 => ((congrFun (hF14.at (by omega) (by omega)) _).trans ((congrFun (hF11.at (by omega) (by omega)) _).trans ((am_up_nk (by omega)).trans ((congrFun (hFNb.at (by omega) (by omega)) _).trans ((congrFun (hF4.at (by omega) (by omega)) _).trans (hf_2 k (by omega)))))))), (RTc.cg2 hR (fun o h1 => ((hF14.at (by omega) (by omega)).trans ((hF11.at (by omega) (by omega)).trans ((am_up_o (by omega)).trans ((hFNb.at (by omega) (by omega)).trans ((hF4.at (by omega) (by omega)).trans (hF2.at (by omega) (by omega)))))))) (fun k h1 => ((congrFun (hF14.at (by omega) (by omega)) _).trans ((congrFun (hF11.at (by omega) (by omega)) _).trans ((am_up_nk (by omega)).trans ((congrFun (hFNb.at (by omega) (by omega)) _).trans ((congrFun (hF4.at (by omega) (by omega)) _).trans (hf_2 _ (by omega))))))))), (by rw [(((congrFun (hF14.at (by omega) (by omega)) _).trans ((congrFun (hF11.at (by omega) (by omega)) _).trans ((am_up_nk (by omega)).trans ((congrFun (hFNb.at (by omega) (by omega)) _).trans ((congrFun (hF4.at (by omega) (by omega)) _).trans (hf_2 _ (by omega))))))).trans (by rfl)), (((congrFun (hF14.at (by omega) (by omega)) _).trans ((congrFun (hF11.at (by omega) (by omega)) _).trans ((am_up_nk (by omega)).trans ((congrFun (hFNb.at (by omega) (by omega)) _).trans ((congrFun (hF4.at (by omega) (by omega)) _).trans (hf_2 _ (by omega))))))).trans (by rfl))]; omega)⟩
              · skip
                refine w_iconst dX8_metreHere_107 ?_
                refine w_goto (tgt := 112) dX8_metreHere_108 rfl ?_
                refine w_iconst dX8_metreHere_112 ?_
                refine w_callVV (o := 45) (ci := 8) (as := [(0, 1), (0, 2)]) (rest := []) (k := 0) fX8_metreHere_113 rfl rfl rfl rfl rfl rfl rfl rfl (Nat.le_of_ble_eq_true rfl) (s_X8_must_t X 1 2 μ_11 (Or.inr ((congrFun (hF11.at (by omega) (by omega)) _).trans ((am_up_nk (by omega)).trans ((congrFun (hFNb.at (by omega) (by omega)) _).trans ((congrFun (hF4.at (by omega) (by omega)) _).trans hb_2))))) rfl) (fun μ_15 hμ15 => ?_)
                have hF15 := hμ15
                refine w_aload_n dX8_metreHere_116 rfl rfl (by first | decide | omega) ?_
                refine w_getIx (o := 45) (f := 43) (x := 1) fX8_metreHere_117 rfl rfl (Nat.le_of_ble_eq_true rfl) rfl ((congrFun (hF15.at (by omega) (by omega)) _).trans ((congrFun (hF11.at (by omega) (by omega)) _).trans ((am_up_nk (by omega)).trans ((congrFun (hFNb.at (by omega) (by omega)) _).trans ((congrFun (hF4.at (by omega) (by omega)) _).trans hb_2))))) ?_
                refine w_if_eq (tgt := 124) dX8_metreHere_120 rfl (R32.in (by decide)) (fun c120 => ?_) (fun c120 => ?_)
                · skip
                  exact absurd c120 (by decide)
                · skip
                  have hP9 : tkL b n (ln0 b n σ 0 (sk b n a) e) μ μ_15 := tkL_no (ln0_1 (Or.inr (by unfold tooL; omega))) (by omega) (((congrFun (hF15.at (by omega) (by omega)) _).trans ((congrFun (hF11.at (by omega) (by omega)) _).trans ((am_up_nk (by omega)).trans ((congrFun (hFNb.at (by omega) (by omega)) _).trans ((congrFun (hF4.at (by omega) (by omega)) _).trans hb_2))))).trans (by rfl)) (((congrFun (hF15.at (by omega) (by omega)) _).trans ((congrFun (hF11.at (by omega) (by omega)) _).trans ((am_up_nk (by omega)).trans ((congrFun (hFNb.at (by omega) (by omega)) _).trans ((congrFun (hF4.at (by omega) (by omega)) _).trans h1_2))))).trans (by rfl)) (((congrFun (hF15.at (by omega) (by omega)) _).trans ((congrFun (hF11.at (by omega) (by omega)) _).trans ((am_up_nk (by omega)).trans ((congrFun (hFNb.at (by omega) (by omega)) _).trans ((congrFun (hF4.at (by omega) (by omega)) _).trans (h2_2.trans rfl)))))).trans (by exact hK.1))
                  exact w_retV dX8_metreHere_123 rfl ⟨((hF15.wd (by omega) (by omega)).tr ((hF11.wd (by omega) (by omega)).tr (((hFNb.wd (by omega) (by omega)).tr ((hF4.wd (by omega) (by omega)).tr (hF2.wd (by omega) (by omega)))).up (by omega)))), (by exact hP9), (fun k h1 => ((congrFun (hF15.at (by omega) (by omega)) _).trans ((congrFun (hF11.at (by omega) (by omega)) _).trans ((am_up_nk (by omega)).trans ((congrFun (hFNb.at (by omega) (by omega)) _).trans ((congrFun (hF4.at (by omega) (by omega)) _).trans (hf_2 k (by omega)))))))), (RTc.cg2 hR (fun o h1 => ((hF15.at (by omega) (by omega)).trans ((hF11.at (by omega) (by omega)).trans ((am_up_o (by omega)).trans ((hFNb.at (by omega) (by omega)).trans ((hF4.at (by omega) (by omega)).trans (hF2.at (by omega) (by omega)))))))) (fun k h1 => ((congrFun (hF15.at (by omega) (by omega)) _).trans ((congrFun (hF11.at (by omega) (by omega)) _).trans ((am_up_nk (by omega)).trans ((congrFun (hFNb.at (by omega) (by omega)) _).trans ((congrFun (hF4.at (by omega) (by omega)) _).trans (hf_2 _ (by omega))))))))), (by rw [(((congrFun (hF15.at (by omega) (by omega)) _).trans ((congrFun (hF11.at (by omega) (by omega)) _).trans ((am_up_nk (by omega)).trans ((congrFun (hFNb.at (by omega) (by omega)) _).trans ((congrFun (hF4.at (by omega) (by omega)) _).trans (hf_2 _ (by omega))))))).trans (by rfl)), (((congrFun (hF15.at (by omega) (by omega)) _).trans ((congrFun (hF11.at (by omega) (by omega)) _).trans ((am_up_nk (by omega)).trans ((congrFun (hFNb.at (by omega) (by omega)) _).trans ((congrFun (hF4.at (by omega) (by omega)) _).trans (hf_2 _ (by omega))))))).trans (by rfl))]; omega)⟩
      · skip
        exact absurd c45 (by decide)
    · skip
      refine w_iconst dX8_metreHere_32 ?_
      refine w_goto (tgt := 37) dX8_metreHere_33 rfl ?_
      refine w_iconst dX8_metreHere_37 ?_
      refine w_callVV (o := 45) (ci := 8) (as := [(0, 1), (0, 3)]) (rest := []) (k := 0) fX8_metreHere_38 rfl rfl rfl rfl rfl rfl rfl rfl (Nat.le_of_ble_eq_true rfl) (s_X8_must_t X 1 3 μ_2 (Or.inr hb_2) rfl) (fun μ_16 hμ16 => ?_)
      have hF16 := hμ16
      refine w_aload_n dX8_metreHere_41 rfl rfl (by first | decide | omega) ?_
      refine w_getIx (o := 45) (f := 43) (x := 1) fX8_metreHere_42 rfl rfl (Nat.le_of_ble_eq_true rfl) rfl ((congrFun (hF16.at (by omega) (by omega)) _).trans hb_2) ?_
      refine w_if_ne (tgt := 52) dX8_metreHere_45 rfl (R32.in (by decide)) (fun c45 => ?_) (fun c45 => ?_)
      · skip
        refine w_aload_n dX8_metreHere_52 rfl rfl (by first | decide | omega) ?_
        refine w_aload_n dX8_metreHere_53 rfl rfl (by first | decide | omega) ?_
        refine w_iconst dX8_metreHere_54 ?_
        refine w_bipush dX8_metreHere_55 (by decide) ?_
        refine w_callVI (o := 45) (ci := 8) (as := [(0, 1), (0, 12)]) (rest := [(2, 45)]) (k := 1) fX8_metreHere_57 rfl rfl rfl rfl rfl rfl rfl rfl (Nat.le_of_ble_eq_true rfl) (s_X8_numberHere_b X 1 12 μ_16 (by rw [((congrFun (hF16.at (by omega) (by omega)) _).trans (hf_2 _ (by omega)))]; omega) (by rw [((congrFun (hF16.at (by omega) (by omega)) _).trans (hf_2 _ (by omega)))]; omega) ((congrFun (hF16.at (by omega) (by omega)) _).trans hb_2) (by decide)) (fun xNb μNb hμNb => ?_)
        obtain ⟨hFNb, hz_Nb⟩ := hμNb
        refine w_putI (o := 45) (f := 44) fX8_metreHere_60 rfl rfl rfl rfl rfl ?_
        refine w_aload_n dX8_metreHere_63 rfl rfl (by first | decide | omega) ?_
        refine w_aload_n dX8_metreHere_64 rfl rfl (by first | decide | omega) ?_
        refine w_getIx (o := 45) (f := 39) (x := μ 45 39) fX8_metreHere_65 rfl rfl (Nat.le_of_ble_eq_true rfl) rfl ((am_up_nk (by omega)).trans ((congrFun (hFNb.at (by omega) (by omega)) _).trans ((congrFun (hF16.at (by omega) (by omega)) _).trans (hf_2 _ (by omega))))) ?_
        refine w_iconst dX8_metreHere_68 ?_
        refine w_icmp_ne (tgt := 76) dX8_metreHere_69 rfl (R32.in (by omega)) (R32.in (by decide)) (fun c69 => ?_) (fun c69 => ?_)
        · skip
          refine w_iconst dX8_metreHere_76 ?_
          refine w_iconst dX8_metreHere_77 ?_
          refine w_callVV (o := 45) (ci := 8) (as := [(0, 0), (0, 1)]) (rest := []) (k := 0) fX8_metreHere_78 rfl rfl rfl rfl rfl rfl rfl rfl (Nat.le_of_ble_eq_true rfl) (s_X8_must_b X 0 1 (am_up μNb 45 44 xNb) ((am_up_nk (by omega)).trans ((congrFun (hFNb.at (by omega) (by omega)) _).trans ((congrFun (hF16.at (by omega) (by omega)) _).trans hb_2)))) (fun μ_18 hμ18 => ?_)
          have hF18 := hμ18
          refine w_aload_n dX8_metreHere_81 rfl rfl (by first | decide | omega) ?_
          refine w_aload_n dX8_metreHere_82 rfl rfl (by first | decide | omega) ?_
          refine w_getIx (o := 45) (f := 40) (x := μ 45 40) fX8_metreHere_83 rfl rfl (Nat.le_of_ble_eq_true rfl) rfl ((congrFun (hF18.at (by omega) (by omega)) _).trans ((am_up_nk (by omega)).trans ((congrFun (hFNb.at (by omega) (by omega)) _).trans ((congrFun (hF16.at (by omega) (by omega)) _).trans (hf_2 _ (by omega)))))) ?_
          refine w_iconst dX8_metreHere_86 ?_
          refine w_icmp_eq (tgt := 107) dX8_metreHere_87 rfl (R32.in (by omega)) (R32.in (by decide)) (fun c87 => ?_) (fun c87 => ?_)
          · skip
            refine w_iconst dX8_metreHere_107 ?_
            refine w_goto (tgt := 112) dX8_metreHere_108 rfl ?_
            refine w_iconst dX8_metreHere_112 ?_
            refine w_callVV (o := 45) (ci := 8) (as := [(0, 1), (0, 2)]) (rest := []) (k := 0) fX8_metreHere_113 rfl rfl rfl rfl rfl rfl rfl rfl (Nat.le_of_ble_eq_true rfl) (s_X8_must_t X 1 2 μ_18 (Or.inr ((congrFun (hF18.at (by omega) (by omega)) _).trans ((am_up_nk (by omega)).trans ((congrFun (hFNb.at (by omega) (by omega)) _).trans ((congrFun (hF16.at (by omega) (by omega)) _).trans hb_2))))) rfl) (fun μ_19 hμ19 => ?_)
            have hF19 := hμ19
            refine w_aload_n dX8_metreHere_116 rfl rfl (by first | decide | omega) ?_
            refine w_getIx (o := 45) (f := 43) (x := 1) fX8_metreHere_117 rfl rfl (Nat.le_of_ble_eq_true rfl) rfl ((congrFun (hF19.at (by omega) (by omega)) _).trans ((congrFun (hF18.at (by omega) (by omega)) _).trans ((am_up_nk (by omega)).trans ((congrFun (hFNb.at (by omega) (by omega)) _).trans ((congrFun (hF16.at (by omega) (by omega)) _).trans hb_2))))) ?_
            refine w_if_eq (tgt := 124) dX8_metreHere_120 rfl (R32.in (by decide)) (fun c120 => ?_) (fun c120 => ?_)
            · skip
              exact absurd c120 (by decide)
            · skip
              have hP9 : tkL b n (ln0 b n σ 0 (sk b n a) e) μ μ_19 := tkL_no (ln0_1 (Or.inr (by unfold tooL; omega))) (by omega) (((congrFun (hF19.at (by omega) (by omega)) _).trans ((congrFun (hF18.at (by omega) (by omega)) _).trans ((am_up_nk (by omega)).trans ((congrFun (hFNb.at (by omega) (by omega)) _).trans ((congrFun (hF16.at (by omega) (by omega)) _).trans hb_2))))).trans (by rfl)) (((congrFun (hF19.at (by omega) (by omega)) _).trans ((congrFun (hF18.at (by omega) (by omega)) _).trans ((am_up_nk (by omega)).trans ((congrFun (hFNb.at (by omega) (by omega)) _).trans ((congrFun (hF16.at (by omega) (by omega)) _).trans h1_2))))).trans (by rfl)) (((congrFun (hF19.at (by omega) (by omega)) _).trans ((congrFun (hF18.at (by omega) (by omega)) _).trans ((am_up_nk (by omega)).trans ((congrFun (hFNb.at (by omega) (by omega)) _).trans ((congrFun (hF16.at (by omega) (by omega)) _).trans (h2_2.trans rfl)))))).trans (by exact hK.1))
              exact w_retV dX8_metreHere_123 rfl ⟨((hF19.wd (by omega) (by omega)).tr ((hF18.wd (by omega) (by omega)).tr (((hFNb.wd (by omega) (by omega)).tr ((hF16.wd (by omega) (by omega)).tr (hF2.wd (by omega) (by omega)))).up (by omega)))), (by exact hP9), (fun k h1 => ((congrFun (hF19.at (by omega) (by omega)) _).trans ((congrFun (hF18.at (by omega) (by omega)) _).trans ((am_up_nk (by omega)).trans ((congrFun (hFNb.at (by omega) (by omega)) _).trans ((congrFun (hF16.at (by omega) (by omega)) _).trans (hf_2 k (by omega)))))))), (RTc.cg2 hR (fun o h1 => ((hF19.at (by omega) (by omega)).trans ((hF18.at (by omega) (by omega)).trans ((am_up_o (by omega)).trans ((hFNb.at (by omega) (by omega)).trans ((hF16.at (by omega) (by omega)).trans (hF2.at (by omega) (by omega)))))))) (fun k h1 => ((congrFun (hF19.at (by omega) (by omega)) _).trans ((congrFun (hF18.at (by omega) (by omega)) _).trans ((am_up_nk (by omega)).trans ((congrFun (hFNb.at (by omega) (by omega)) _).trans ((congrFun (hF16.at (by omega) (by omega)) _).trans (hf_2 _ (by omega))))))))), (by rw [(((congrFun (hF19.at (by omega) (by omega)) _).trans ((congrFun (hF18.at (by omega) (by omega)) _).trans ((am_up_nk (by omega)).trans ((congrFun (hFNb.at (by omega) (by omega)) _).trans ((congrFun (hF16.at (by omega) (by omega)) _).trans (hf_2 _ (by omega))))))).trans (by rfl)), (((congrFun (hF19.at (by omega) (by omega)) _).trans ((congrFun (hF18.at (by omega) (by omega)) _).trans ((am_up_nk (by omega)).trans ((congrFun (hFNb.at (by omega) (by omega)) _).trans ((congrFun (hF16.at (by omega) (by omega)) _).trans (hf_2 _ (by omega))))))).trans (by rfl))]; omega)⟩
          · skip
            refine w_aload_n dX8_metreHere_90 rfl rfl (by first | decide | omega) ?_
            refine w_getIx (o := 45) (f := 40) (x := μ 45 40) fX8_metreHere_91 rfl rfl (Nat.le_of_ble_eq_true rfl) rfl ((congrFun (hF18.at (by omega) (by omega)) _).trans ((am_up_nk (by omega)).trans ((congrFun (hFNb.at (by omega) (by omega)) _).trans ((congrFun (hF16.at (by omega) (by omega)) _).trans (hf_2 _ (by omega)))))) ?_
            refine w_iconst dX8_metreHere_94 ?_
            refine w_icmp_eq (tgt := 107) dX8_metreHere_95 rfl (R32.in (by omega)) (R32.in (by decide)) (fun c95 => ?_) (fun c95 => ?_)
            · skip
              refine w_iconst dX8_metreHere_107 ?_
              refine w_goto (tgt := 112) dX8_metreHere_108 rfl ?_
              refine w_iconst dX8_metreHere_112 ?_
              refine w_callVV (o := 45) (ci := 8) (as := [(0, 1), (0, 2)]) (rest := []) (k := 0) fX8_metreHere_113 rfl rfl rfl rfl rfl rfl rfl rfl (Nat.le_of_ble_eq_true rfl) (s_X8_must_t X 1 2 μ_18 (Or.inr ((congrFun (hF18.at (by omega) (by omega)) _).trans ((am_up_nk (by omega)).trans ((congrFun (hFNb.at (by omega) (by omega)) _).trans ((congrFun (hF16.at (by omega) (by omega)) _).trans hb_2))))) rfl) (fun μ_20 hμ20 => ?_)
              have hF20 := hμ20
              refine w_aload_n dX8_metreHere_116 rfl rfl (by first | decide | omega) ?_
              refine w_getIx (o := 45) (f := 43) (x := 1) fX8_metreHere_117 rfl rfl (Nat.le_of_ble_eq_true rfl) rfl ((congrFun (hF20.at (by omega) (by omega)) _).trans ((congrFun (hF18.at (by omega) (by omega)) _).trans ((am_up_nk (by omega)).trans ((congrFun (hFNb.at (by omega) (by omega)) _).trans ((congrFun (hF16.at (by omega) (by omega)) _).trans hb_2))))) ?_
              refine w_if_eq (tgt := 124) dX8_metreHere_120 rfl (R32.in (by decide)) (fun c120 => ?_) (fun c120 => ?_)
              · skip
                exact absurd c120 (by decide)
              · skip
                have hP9 : tkL b n (ln0 b n σ 0 (sk b n a) e) μ μ_20 := tkL_no (ln0_1 (Or.inr (by unfold tooL; omega))) (by omega) (((congrFun (hF20.at (by omega) (by omega)) _).trans ((congrFun (hF18.at (by omega) (by omega)) _).trans ((am_up_nk (by omega)).trans ((congrFun (hFNb.at (by omega) (by omega)) _).trans ((congrFun (hF16.at (by omega) (by omega)) _).trans hb_2))))).trans (by rfl)) (((congrFun (hF20.at (by omega) (by omega)) _).trans ((congrFun (hF18.at (by omega) (by omega)) _).trans ((am_up_nk (by omega)).trans ((congrFun (hFNb.at (by omega) (by omega)) _).trans ((congrFun (hF16.at (by omega) (by omega)) _).trans h1_2))))).trans (by rfl)) (((congrFun (hF20.at (by omega) (by omega)) _).trans ((congrFun (hF18.at (by omega) (by omega)) _).trans ((am_up_nk (by omega)).trans ((congrFun (hFNb.at (by omega) (by omega)) _).trans ((congrFun (hF16.at (by omega) (by omega)) _).trans (h2_2.trans rfl)))))).trans (by exact hK.1))
                exact w_retV dX8_metreHere_123 rfl ⟨((hF20.wd (by omega) (by omega)).tr ((hF18.wd (by omega) (by omega)).tr (((hFNb.wd (by omega) (by omega)).tr ((hF16.wd (by omega) (by omega)).tr (hF2.wd (by omega) (by omega)))).up (by omega)))), (by exact hP9), (fun k h1 => ((congrFun (hF20.at (by omega) (by omega)) _).trans ((congrFun (hF18.at (by omega) (by omega)) _).trans ((am_up_nk (by omega)).trans ((congrFun (hFNb.at (by omega) (by omega)) _).trans ((congrFun (hF16.at (by omega) (by omega)) _).trans (hf_2 k (by omega)))))))), (RTc.cg2 hR (fun o h1 => ((hF20.at (by omega) (by omega)).trans ((hF18.at (by omega) (by omega)).trans ((am_up_o (by omega)).trans ((hFNb.at (by omega) (by omega)).trans ((hF16.at (by omega) (by omega)).trans (hF2.at (by omega) (by omega)))))))) (fun k h1 => ((congrFun (hF20.at (by omega) (by omega)) _).trans ((congrFun (hF18.at (by omega) (by omega)) _).trans ((am_up_nk (by omega)).trans ((congrFun (hFNb.at (by omega) (by omega)) _).trans ((congrFun (hF16.at (by omega) (by omega)) _).trans (hf_2 _ (by omega))))))))), (by rw [(((congrFun (hF20.at (by omega) (by omega)) _).trans ((congrFun (hF18.at (by omega) (by omega)) _).trans ((am_up_nk (by omega)).trans ((congrFun (hFNb.at (by omega) (by omega)) _).trans ((congrFun (hF16.at (by omega) (by omega)) _).trans (hf_2 _ (by omega))))))).trans (by rfl)), (((congrFun (hF20.at (by omega) (by omega)) _).trans ((congrFun (hF18.at (by omega) (by omega)) _).trans ((am_up_nk (by omega)).trans ((congrFun (hFNb.at (by omega) (by omega)) _).trans ((congrFun (hF16.at (by omega) (by omega)) _).trans (hf_2 _ (by omega))))))).trans (by rfl))]; omega)⟩
            · skip
              refine w_aload_n dX8_metreHere_98 rfl rfl (by first | decide | omega) ?_
              refine w_getIx (o := 45) (f := 40) (x := μ 45 40) fX8_metreHere_99 rfl rfl (Nat.le_of_ble_eq_true rfl) rfl ((congrFun (hF18.at (by omega) (by omega)) _).trans ((am_up_nk (by omega)).trans ((congrFun (hFNb.at (by omega) (by omega)) _).trans ((congrFun (hF16.at (by omega) (by omega)) _).trans (hf_2 _ (by omega)))))) ?_
              refine w_bipush dX8_metreHere_102 (by decide) ?_
              refine w_icmp_ne (tgt := 111) dX8_metreHere_104 rfl (R32.in (by omega)) (R32.in (by decide)) (fun c104 => ?_) (fun c104 => ?_)
              · skip
                refine w_iconst dX8_metreHere_111 ?_
                refine w_iconst dX8_metreHere_112 ?_
                refine w_callVV (o := 45) (ci := 8) (as := [(0, 0), (0, 2)]) (rest := []) (k := 0) fX8_metreHere_113 rfl rfl rfl rfl rfl rfl rfl rfl (Nat.le_of_ble_eq_true rfl) (s_X8_must_b X 0 2 μ_18 ((congrFun (hF18.at (by omega) (by omega)) _).trans ((am_up_nk (by omega)).trans ((congrFun (hFNb.at (by omega) (by omega)) _).trans ((congrFun (hF16.at (by omega) (by omega)) _).trans hb_2))))) (fun μ_21 hμ21 => ?_)
                have hF21 := hμ21
                refine w_aload_n dX8_metreHere_116 rfl rfl (by first | decide | omega) ?_
                refine w_getIx (o := 45) (f := 43) (x := 1) fX8_metreHere_117 rfl rfl (Nat.le_of_ble_eq_true rfl) rfl ((congrFun (hF21.at (by omega) (by omega)) _).trans ((congrFun (hF18.at (by omega) (by omega)) _).trans ((am_up_nk (by omega)).trans ((congrFun (hFNb.at (by omega) (by omega)) _).trans ((congrFun (hF16.at (by omega) (by omega)) _).trans hb_2))))) ?_
                refine w_if_eq (tgt := 124) dX8_metreHere_120 rfl (R32.in (by decide)) (fun c120 => ?_) (fun c120 => ?_)
                · skip
                  exact absurd c120 (by decide)
                · skip
                  have hP9 : tkL b n (ln0 b n σ 0 (sk b n a) e) μ μ_21 := tkL_no (ln0_1 (Or.inr (by unfold tooL; omega))) (by omega) (((congrFun (hF21.at (by omega) (by omega)) _).trans ((congrFun (hF18.at (by omega) (by omega)) _).trans ((am_up_nk (by omega)).trans ((congrFun (hFNb.at (by omega) (by omega)) _).trans ((congrFun (hF16.at (by omega) (by omega)) _).trans hb_2))))).trans (by rfl)) (((congrFun (hF21.at (by omega) (by omega)) _).trans ((congrFun (hF18.at (by omega) (by omega)) _).trans ((am_up_nk (by omega)).trans ((congrFun (hFNb.at (by omega) (by omega)) _).trans ((congrFun (hF16.at (by omega) (by omega)) _).trans h1_2))))).trans (by rfl)) (((congrFun (hF21.at (by omega) (by omega)) _).trans ((congrFun (hF18.at (by omega) (by omega)) _).trans ((am_up_nk (by omega)).trans ((congrFun (hFNb.at (by omega) (by omega)) _).trans ((congrFun (hF16.at (by omega) (by omega)) _).trans (h2_2.trans rfl)))))).trans (by exact hK.1))
                  exact w_retV dX8_metreHere_123 rfl ⟨((hF21.wd (by omega) (by omega)).tr ((hF18.wd (by omega) (by omega)).tr (((hFNb.wd (by omega) (by omega)).tr ((hF16.wd (by omega) (by omega)).tr (hF2.wd (by omega) (by omega)))).up (by omega)))), (by exact hP9), (fun k h1 => ((congrFun (hF21.at (by omega) (by omega)) _).trans ((congrFun (hF18.at (by omega) (by omega)) _).trans ((am_up_nk (by omega)).trans ((congrFun (hFNb.at (by omega) (by omega)) _).trans ((congrFun (hF16.at (by omega) (by omega)) _).trans (hf_2 k (by omega)))))))), (RTc.cg2 hR (fun o h1 => ((hF21.at (by omega) (by omega)).trans ((hF18.at (by omega) (by omega)).trans ((am_up_o (by omega)).trans ((hFNb.at (by omega) (by omega)).trans ((hF16.at (by omega) (by omega)).trans (hF2.at (by omega) (by omega)))))))) (fun k h1 => ((congrFun (hF21.at (by omega) (by omega)) _).trans ((congrFun (hF18.at (by omega) (by omega)) _).trans ((am_up_nk (by omega)).trans ((congrFun (hFNb.at (by omega) (by omega)) _).trans ((congrFun (hF16.at (by omega) (by omega)) _).trans (hf_2 _ (by omega))))))))), (by rw [(((congrFun (hF21.at (by omega) (by omega)) _).trans ((congrFun (hF18.at (by omega) (by omega)) _).trans ((am_up_nk (by omega)).trans ((congrFun (hFNb.at (by omega) (by omega)) _).trans ((congrFun (hF16.at (by omega) (by omega)) _).trans (hf_2 _ (by omega))))))).trans (by rfl)), (((congrFun (hF21.at (by omega) (by omega)) _).trans ((congrFun (hF18.at (by omega) (by omega)) _).trans ((am_up_nk (by omega)).trans ((congrFun (hFNb.at (by omega) (by omega)) _).trans ((congrFun (hF16.at (by omega) (by omega)) _).trans (hf_2 _ (by omega))))))).trans (by rfl))]; omega)⟩
              · skip
                refine w_iconst dX8_metreHere_107 ?_
                refine w_goto (tgt := 112) dX8_metreHere_108 rfl ?_
                refine w_iconst dX8_metreHere_112 ?_
                refine w_callVV (o := 45) (ci := 8) (as := [(0, 1), (0, 2)]) (rest := []) (k := 0) fX8_metreHere_113 rfl rfl rfl rfl rfl rfl rfl rfl (Nat.le_of_ble_eq_true rfl) (s_X8_must_t X 1 2 μ_18 (Or.inr ((congrFun (hF18.at (by omega) (by omega)) _).trans ((am_up_nk (by omega)).trans ((congrFun (hFNb.at (by omega) (by omega)) _).trans ((congrFun (hF16.at (by omega) (by omega)) _).trans hb_2))))) rfl) (fun μ_22 hμ22 => ?_)
                have hF22 := hμ22
                refine w_aload_n dX8_metreHere_116 rfl rfl (by first | decide | omega) ?_
                refine w_getIx (o := 45) (f := 43) (x := 1) fX8_metreHere_117 rfl rfl (Nat.le_of_ble_eq_true rfl) rfl ((congrFun (hF22.at (by omega) (by omega)) _).trans ((congrFun (hF18.at (by omega) (by omega)) _).trans ((am_up_nk (by omega)).trans ((congrFun (hFNb.at (by omega) (by omega)) _).trans ((congrFun (hF16.at (by omega) (by omega)) _).trans hb_2))))) ?_
                refine w_if_eq (tgt := 124) dX8_metreHere_120 rfl (R32.in (by decide)) (fun c120 => ?_) (fun c120 => ?_)
                · skip
                  exact absurd c120 (by decide)
                · skip
                  have hP9 : tkL b n (ln0 b n σ 0 (sk b n a) e) μ μ_22 := tkL_no (ln0_1 (Or.inr (by unfold tooL; omega))) (by omega) (((congrFun (hF22.at (by omega) (by omega)) _).trans ((congrFun (hF18.at (by omega) (by omega)) _).trans ((am_up_nk (by omega)).trans ((congrFun (hFNb.at (by omega) (by omega)) _).trans ((congrFun (hF16.at (by omega) (by omega)) _).trans hb_2))))).trans (by rfl)) (((congrFun (hF22.at (by omega) (by omega)) _).trans ((congrFun (hF18.at (by omega) (by omega)) _).trans ((am_up_nk (by omega)).trans ((congrFun (hFNb.at (by omega) (by omega)) _).trans ((congrFun (hF16.at (by omega) (by omega)) _).trans h1_2))))).trans (by rfl)) (((congrFun (hF22.at (by omega) (by omega)) _).trans ((congrFun (hF18.at (by omega) (by omega)) _).trans ((am_up_nk (by omega)).trans ((congrFun (hFNb.at (by omega) (by omega)) _).trans ((congrFun (hF16.at (by omega) (by omega)) _).trans (h2_2.trans rfl)))))).trans (by exact hK.1))
                  exact w_retV dX8_metreHere_123 rfl ⟨((hF22.wd (by omega) (by omega)).tr ((hF18.wd (by omega) (by omega)).tr (((hFNb.wd (by omega) (by omega)).tr ((hF16.wd (by omega) (by omega)).tr (hF2.wd (by omega) (by omega)))).up (by omega)))), (by exact hP9), (fun k h1 => ((congrFun (hF22.at (by omega) (by omega)) _).trans ((congrFun (hF18.at (by omega) (by omega)) _).trans ((am_up_nk (by omega)).trans ((congrFun (hFNb.at (by omega) (by omega)) _).trans ((congrFun (hF16.at (by omega) (by omega)) _).trans (hf_2 k (by omega)))))))), (RTc.cg2 hR (fun o h1 => ((hF22.at (by omega) (by omega)).trans ((hF18.at (by omega) (by omega)).trans ((am_up_o (by omega)).trans ((hFNb.at (by omega) (by omega)).trans ((hF16.at (by omega) (by omega)).trans (hF2.at (by omega) (by omega)))))))) (fun k h1 => ((congrFun (hF22.at (by omega) (by omega)) _).trans ((congrFun (hF18.at (by omega) (by omega)) _).trans ((am_up_nk (by omega)).trans ((congrFun (hFNb.at (by omega) (by omega)) _).trans ((congrFun (hF16.at (by omega) (by omega)) _).trans (hf_2 _ (by omega))))))))), (by rw [(((congrFun (hF22.at (by omega) (by omega)) _).trans ((congrFun (hF18.at (by omega) (by omega)) _).trans ((am_up_nk (by omega)).trans ((congrFun (hFNb.at (by omega) (by omega)) _).trans ((congrFun (hF16.at (by omega) (by omega)) _).trans (hf_2 _ (by omega))))))).trans (by rfl)), (((congrFun (hF22.at (by omega) (by omega)) _).trans ((congrFun (hF18.at (by omega) (by omega)) _).trans ((am_up_nk (by omega)).trans ((congrFun (hFNb.at (by omega) (by omega)) _).trans ((congrFun (hF16.at (by omega) (by omega)) _).trans (hf_2 _ (by omega))))))).trans (by rfl))]; omega)⟩
        · skip
          refine w_iconst dX8_metreHere_72 ?_
          refine w_goto (tgt := 77) dX8_metreHere_73 rfl ?_
          refine w_iconst dX8_metreHere_77 ?_
          refine w_callVV (o := 45) (ci := 8) (as := [(0, 1), (0, 1)]) (rest := []) (k := 0) fX8_metreHere_78 rfl rfl rfl rfl rfl rfl rfl rfl (Nat.le_of_ble_eq_true rfl) (s_X8_must_t X 1 1 (am_up μNb 45 44 xNb) (Or.inr ((am_up_nk (by omega)).trans ((congrFun (hFNb.at (by omega) (by omega)) _).trans ((congrFun (hF16.at (by omega) (by omega)) _).trans hb_2)))) rfl) (fun μ_23 hμ23 => ?_)
          have hF23 := hμ23
          refine w_aload_n dX8_metreHere_81 rfl rfl (by first | decide | omega) ?_
          refine w_aload_n dX8_metreHere_82 rfl rfl (by first | decide | omega) ?_
          refine w_getIx (o := 45) (f := 40) (x := μ 45 40) fX8_metreHere_83 rfl rfl (Nat.le_of_ble_eq_true rfl) rfl ((congrFun (hF23.at (by omega) (by omega)) _).trans ((am_up_nk (by omega)).trans ((congrFun (hFNb.at (by omega) (by omega)) _).trans ((congrFun (hF16.at (by omega) (by omega)) _).trans (hf_2 _ (by omega)))))) ?_
          refine w_iconst dX8_metreHere_86 ?_
          refine w_icmp_eq (tgt := 107) dX8_metreHere_87 rfl (R32.in (by omega)) (R32.in (by decide)) (fun c87 => ?_) (fun c87 => ?_)
          · skip
            refine w_iconst dX8_metreHere_107 ?_
            refine w_goto (tgt := 112) dX8_metreHere_108 rfl ?_
            refine w_iconst dX8_metreHere_112 ?_
            refine w_callVV (o := 45) (ci := 8) (as := [(0, 1), (0, 2)]) (rest := []) (k := 0) fX8_metreHere_113 rfl rfl rfl rfl rfl rfl rfl rfl (Nat.le_of_ble_eq_true rfl) (s_X8_must_t X 1 2 μ_23 (Or.inr ((congrFun (hF23.at (by omega) (by omega)) _).trans ((am_up_nk (by omega)).trans ((congrFun (hFNb.at (by omega) (by omega)) _).trans ((congrFun (hF16.at (by omega) (by omega)) _).trans hb_2))))) rfl) (fun μ_24 hμ24 => ?_)
            have hF24 := hμ24
            refine w_aload_n dX8_metreHere_116 rfl rfl (by first | decide | omega) ?_
            refine w_getIx (o := 45) (f := 43) (x := 1) fX8_metreHere_117 rfl rfl (Nat.le_of_ble_eq_true rfl) rfl ((congrFun (hF24.at (by omega) (by omega)) _).trans ((congrFun (hF23.at (by omega) (by omega)) _).trans ((am_up_nk (by omega)).trans ((congrFun (hFNb.at (by omega) (by omega)) _).trans ((congrFun (hF16.at (by omega) (by omega)) _).trans hb_2))))) ?_
            refine w_if_eq (tgt := 124) dX8_metreHere_120 rfl (R32.in (by decide)) (fun c120 => ?_) (fun c120 => ?_)
            · skip
              exact absurd c120 (by decide)
            · skip
              have hP9 : tkL b n (ln0 b n σ 0 (sk b n a) e) μ μ_24 := tkL_no (ln0_1 (Or.inr (by unfold tooL; omega))) (by omega) (((congrFun (hF24.at (by omega) (by omega)) _).trans ((congrFun (hF23.at (by omega) (by omega)) _).trans ((am_up_nk (by omega)).trans ((congrFun (hFNb.at (by omega) (by omega)) _).trans ((congrFun (hF16.at (by omega) (by omega)) _).trans hb_2))))).trans (by rfl)) (((congrFun (hF24.at (by omega) (by omega)) _).trans ((congrFun (hF23.at (by omega) (by omega)) _).trans ((am_up_nk (by omega)).trans ((congrFun (hFNb.at (by omega) (by omega)) _).trans ((congrFun (hF16.at (by omega) (by omega)) _).trans h1_2))))).trans (by rfl)) (((congrFun (hF24.at (by omega) (by omega)) _).trans ((congrFun (hF23.at (by omega) (by omega)) _).trans ((am_up_nk (by omega)).trans ((congrFun (hFNb.at (by omega) (by omega)) _).trans ((congrFun (hF16.at (by omega) (by omega)) _).trans (h2_2.trans rfl)))))).trans (by exact hK.1))
              exact w_retV dX8_metreHere_123 rfl ⟨((hF24.wd (by omega) (by omega)).tr ((hF23.wd (by omega) (by omega)).tr (((hFNb.wd (by omega) (by omega)).tr ((hF16.wd (by omega) (by omega)).tr (hF2.wd (by omega) (by omega)))).up (by omega)))), (by exact hP9), (fun k h1 => ((congrFun (hF24.at (by omega) (by omega)) _).trans ((congrFun (hF23.at (by omega) (by omega)) _).trans ((am_up_nk (by omega)).trans ((congrFun (hFNb.at (by omega) (by omega)) _).trans ((congrFun (hF16.at (by omega) (by omega)) _).trans (hf_2 k (by omega)))))))), (RTc.cg2 hR (fun o h1 => ((hF24.at (by omega) (by omega)).trans ((hF23.at (by omega) (by omega)).trans ((am_up_o (by omega)).trans ((hFNb.at (by omega) (by omega)).trans ((hF16.at (by omega) (by omega)).trans (hF2.at (by omega) (by omega)))))))) (fun k h1 => ((congrFun (hF24.at (by omega) (by omega)) _).trans ((congrFun (hF23.at (by omega) (by omega)) _).trans ((am_up_nk (by omega)).trans ((congrFun (hFNb.at (by omega) (by omega)) _).trans ((congrFun (hF16.at (by omega) (by omega)) _).trans (hf_2 _ (by omega))))))))), (by rw [(((congrFun (hF24.at (by omega) (by omega)) _).trans ((congrFun (hF23.at (by omega) (by omega)) _).trans ((am_up_nk (by omega)).trans ((congrFun (hFNb.at (by omega) (by omega)) _).trans ((congrFun (hF16.at (by omega) (by omega)) _).trans (hf_2 _ (by omega))))))).trans (by rfl)), (((congrFun (hF24.at (by omega) (by omega)) _).trans ((congrFun (hF23.at (by omega) (by omega)) _).trans ((am_up_nk (by omega)).trans ((congrFun (hFNb.at (by omega) (by omega)) _).trans ((congrFun (hF16.at (by omega) (by omega)) _).trans (hf_2 _ (by omega))))))).trans (by rfl))]; omega)⟩
          · skip
            refine w_aload_n dX8_metreHere_90 rfl rfl (by first | decide | omega) ?_
            refine w_getIx (o := 45) (f := 40) (x := μ 45 40) fX8_metreHere_91 rfl rfl (Nat.le_of_ble_eq_true rfl) rfl ((congrFun (hF23.at (by omega) (by omega)) _).trans ((am_up_nk (by omega)).trans ((congrFun (hFNb.at (by omega) (by omega)) _).trans ((congrFun (hF16.at (by omega) (by omega)) _).trans (hf_2 _ (by omega)))))) ?_
            refine w_iconst dX8_metreHere_94 ?_
            refine w_icmp_eq (tgt := 107) dX8_metreHere_95 rfl (R32.in (by omega)) (R32.in (by decide)) (fun c95 => ?_) (fun c95 => ?_)
            · skip
              refine w_iconst dX8_metreHere_107 ?_
              refine w_goto (tgt := 112) dX8_metreHere_108 rfl ?_
              refine w_iconst dX8_metreHere_112 ?_
              refine w_callVV (o := 45) (ci := 8) (as := [(0, 1), (0, 2)]) (rest := []) (k := 0) fX8_metreHere_113 rfl rfl rfl rfl rfl rfl rfl rfl (Nat.le_of_ble_eq_true rfl) (s_X8_must_t X 1 2 μ_23 (Or.inr ((congrFun (hF23.at (by omega) (by omega)) _).trans ((am_up_nk (by omega)).trans ((congrFun (hFNb.at (by omega) (by omega)) _).trans ((congrFun (hF16.at (by omega) (by omega)) _).trans hb_2))))) rfl) (fun μ_25 hμ25 => ?_)
              have hF25 := hμ25
              refine w_aload_n dX8_metreHere_116 rfl rfl (by first | decide | omega) ?_
              refine w_getIx (o := 45) (f := 43) (x := 1) fX8_metreHere_117 rfl rfl (Nat.le_of_ble_eq_true rfl) rfl ((congrFun (hF25.at (by omega) (by omega)) _).trans ((congrFun (hF23.at (by omega) (by omega)) _).trans ((am_up_nk (by omega)).trans ((congrFun (hFNb.at (by omega) (by omega)) _).trans ((congrFun (hF16.at (by omega) (by omega)) _).trans hb_2))))) ?_
              refine w_if_eq (tgt := 124) dX8_metreHere_120 rfl (R32.in (by decide)) (fun c120 => ?_) (fun c120 => ?_)
              · skip
                exact absurd c120 (by decide)
              · skip
                have hP9 : tkL b n (ln0 b n σ 0 (sk b n a) e) μ μ_25 := tkL_no (ln0_1 (Or.inr (by unfold tooL; omega))) (by omega) (((congrFun (hF25.at (by omega) (by omega)) _).trans ((congrFun (hF23.at (by omega) (by omega)) _).trans ((am_up_nk (by omega)).trans ((congrFun (hFNb.at (by omega) (by omega)) _).trans ((congrFun (hF16.at (by omega) (by omega)) _).trans hb_2))))).trans (by rfl)) (((congrFun (hF25.at (by omega) (by omega)) _).trans ((congrFun (hF23.at (by omega) (by omega)) _).trans ((am_up_nk (by omega)).trans ((congrFun (hFNb.at (by omega) (by omega)) _).trans ((congrFun (hF16.at (by omega) (by omega)) _).trans h1_2))))).trans (by rfl)) (((congrFun (hF25.at (by omega) (by omega)) _).trans ((congrFun (hF23.at (by omega) (by omega)) _).trans ((am_up_nk (by omega)).trans ((congrFun (hFNb.at (by omega) (by omega)) _).trans ((congrFun (hF16.at (by omega) (by omega)) _).trans (h2_2.trans rfl)))))).trans (by exact hK.1))
                exact w_retV dX8_metreHere_123 rfl ⟨((hF25.wd (by omega) (by omega)).tr ((hF23.wd (by omega) (by omega)).tr (((hFNb.wd (by omega) (by omega)).tr ((hF16.wd (by omega) (by omega)).tr (hF2.wd (by omega) (by omega)))).up (by omega)))), (by exact hP9), (fun k h1 => ((congrFun (hF25.at (by omega) (by omega)) _).trans ((congrFun (hF23.at (by omega) (by omega)) _).trans ((am_up_nk (by omega)).trans ((congrFun (hFNb.at (by omega) (by omega)) _).trans ((congrFun (hF16.at (by omega) (by omega)) _).trans (hf_2 k (by omega)))))))), (RTc.cg2 hR (fun o h1 => ((hF25.at (by omega) (by omega)).trans ((hF23.at (by omega) (by omega)).trans ((am_up_o (by omega)).trans ((hFNb.at (by omega) (by omega)).trans ((hF16.at (by omega) (by omega)).trans (hF2.at (by omega) (by omega)))))))) (fun k h1 => ((congrFun (hF25.at (by omega) (by omega)) _).trans ((congrFun (hF23.at (by omega) (by omega)) _).trans ((am_up_nk (by omega)).trans ((congrFun (hFNb.at (by omega) (by omega)) _).trans ((congrFun (hF16.at (by omega) (by omega)) _).trans (hf_2 _ (by omega))))))))), (by rw [(((congrFun (hF25.at (by omega) (by omega)) _).trans ((congrFun (hF23.at (by omega) (by omega)) _).trans ((am_up_nk (by omega)).trans ((congrFun (hFNb.at (by omega) (by omega)) _).trans ((congrFun (hF16.at (by omega) (by omega)) _).trans (hf_2 _ (by omega))))))).trans (by rfl)), (((congrFun (hF25.at (by omega) (by omega)) _).trans ((congrFun (hF23.at (by omega) (by omega)) _).trans ((am_up_nk (by omega)).trans ((congrFun (hFNb.at (by omega) (by omega)) _).trans ((congrFun (hF16.at (by omega) (by omega)) _).trans (hf_2 _ (by omega))))))).trans (by rfl))]; omega)⟩
            · skip
              refine w_aload_n dX8_metreHere_98 rfl rfl (by first | decide | omega) ?_
              refine w_getIx (o := 45) (f := 40) (x := μ 45 40) fX8_metreHere_99 rfl rfl (Nat.le_of_ble_eq_true rfl) rfl ((congrFun (hF23.at (by omega) (by omega)) _).trans ((am_up_nk (by omega)).trans ((congrFun (hFNb.at (by omega) (by omega)) _).trans ((congrFun (hF16.at (by omega) (by omega)) _).trans (hf_2 _ (by omega)))))) ?_
              refine w_bipush dX8_metreHere_102 (by decide) ?_
              refine w_icmp_ne (tgt := 111) dX8_metreHere_104 rfl (R32.in (by omega)) (R32.in (by decide)) (fun c104 => ?_) (fun c104 => ?_)
              · skip
                refine w_iconst dX8_metreHere_111 ?_
                refine w_iconst dX8_metreHere_112 ?_
                refine w_callVV (o := 45) (ci := 8) (as := [(0, 0), (0, 2)]) (rest := []) (k := 0) fX8_metreHere_113 rfl rfl rfl rfl rfl rfl rfl rfl (Nat.le_of_ble_eq_true rfl) (s_X8_must_b X 0 2 μ_23 ((congrFun (hF23.at (by omega) (by omega)) _).trans ((am_up_nk (by omega)).trans ((congrFun (hFNb.at (by omega) (by omega)) _).trans ((congrFun (hF16.at (by omega) (by omega)) _).trans hb_2))))) (fun μ_26 hμ26 => ?_)
                have hF26 := hμ26
                refine w_aload_n dX8_metreHere_116 rfl rfl (by first | decide | omega) ?_
                refine w_getIx (o := 45) (f := 43) (x := 1) fX8_metreHere_117 rfl rfl (Nat.le_of_ble_eq_true rfl) rfl ((congrFun (hF26.at (by omega) (by omega)) _).trans ((congrFun (hF23.at (by omega) (by omega)) _).trans ((am_up_nk (by omega)).trans ((congrFun (hFNb.at (by omega) (by omega)) _).trans ((congrFun (hF16.at (by omega) (by omega)) _).trans hb_2))))) ?_
                refine w_if_eq (tgt := 124) dX8_metreHere_120 rfl (R32.in (by decide)) (fun c120 => ?_) (fun c120 => ?_)
                · skip
                  exact absurd c120 (by decide)
                · skip
                  have hP9 : tkL b n (ln0 b n σ 0 (sk b n a) e) μ μ_26 := tkL_no (ln0_1 (Or.inr (by unfold tooL; omega))) (by omega) (((congrFun (hF26.at (by omega) (by omega)) _).trans ((congrFun (hF23.at (by omega) (by omega)) _).trans ((am_up_nk (by omega)).trans ((congrFun (hFNb.at (by omega) (by omega)) _).trans ((congrFun (hF16.at (by omega) (by omega)) _).trans hb_2))))).trans (by rfl)) (((congrFun (hF26.at (by omega) (by omega)) _).trans ((congrFun (hF23.at (by omega) (by omega)) _).trans ((am_up_nk (by omega)).trans ((congrFun (hFNb.at (by omega) (by omega)) _).trans ((congrFun (hF16.at (by omega) (by omega)) _).trans h1_2))))).trans (by rfl)) (((congrFun (hF26.at (by omega) (by omega)) _).trans ((congrFun (hF23.at (by omega) (by omega)) _).trans ((am_up_nk (by omega)).trans ((congrFun (hFNb.at (by omega) (by omega)) _).trans ((congrFun (hF16.at (by omega) (by omega)) _).trans (h2_2.trans rfl)))))).trans (by exact hK.1))
                  exact w_retV dX8_metreHere_123 rfl ⟨((hF26.wd (by omega) (by omega)).tr ((hF23.wd (by omega) (by omega)).tr (((hFNb.wd (by omega) (by omega)).tr ((hF16.wd (by omega) (by omega)).tr (hF2.wd (by omega) (by omega)))).up (by omega)))), (by exact hP9), (fun k h1 => ((congrFun (hF26.at (by omega) (by omega)) _).trans ((congrFun (hF23.at (by omega) (by omega)) _).trans ((am_up_nk (by omega)).trans ((congrFun (hFNb.at (by omega) (by omega)) _).trans ((congrFun (hF16.at (by omega) (by omega)) _).trans (hf_2 k (by omega)))))))), (RTc.cg2 hR (fun o h1 => ((hF26.at (by omega) (by omega)).trans ((hF23.at (by omega) (by omega)).trans ((am_up_o (by omega)).trans ((hFNb.at (by omega) (by omega)).trans ((hF16.at (by omega) (by omega)).trans (hF2.at (by omega) (by omega)))))))) (fun k h1 => ((congrFun (hF26.at (by omega) (by omega)) _).trans ((congrFun (hF23.at (by omega) (by omega)) _).trans ((am_up_nk (by omega)).trans ((congrFun (hFNb.at (by omega) (by omega)) _).trans ((congrFun (hF16.at (by omega) (by omega)) _).trans (hf_2 _ (by omega))))))))), (by rw [(((congrFun (hF26.at (by omega) (by omega)) _).trans ((congrFun (hF23.at (by omega) (by omega)) _).trans ((am_up_nk (by omega)).trans ((congrFun (hFNb.at (by omega) (by omega)) _).trans ((congrFun (hF16.at (by omega) (by omega)) _).trans (hf_2 _ (by omega))))))).trans (by rfl)), (((congrFun (hF26.at (by omega) (by omega)) _).trans ((congrFun (hF23.at (by omega) (by omega)) _).trans ((am_up_nk (by omega)).trans ((congrFun (hFNb.at (by omega) (by omega)) _).trans ((congrFun (hF16.at (by omega) (by omega)) _).trans (hf_2 _ (by omega))))))).trans (by rfl))]; omega)⟩
              · skip
                refine w_iconst dX8_metreHere_107 ?_
                refine w_goto (tgt := 112) dX8_metreHere_108 rfl ?_
                refine w_iconst dX8_metreHere_112 ?_
                refine w_callVV (o := 45) (ci := 8) (as := [(0, 1), (0, 2)]) (rest := []) (k := 0) fX8_metreHere_113 rfl rfl rfl rfl rfl rfl rfl rfl (Nat.le_of_ble_eq_true rfl) (s_X8_must_t X 1 2 μ_23 (Or.inr ((congrFun (hF23.at (by omega) (by omega)) _).trans ((am_up_nk (by omega)).trans ((congrFun (hFNb.at (by omega) (by omega)) _).trans ((congrFun (hF16.at (by omega) (by omega)) _).trans hb_2))))) rfl) (fun μ_27 hμ27 => ?_)
                have hF27 := hμ27
                refine w_aload_n dX8_metreHere_116 rfl rfl (by first | decide | omega) ?_
                refine w_getIx (o := 45) (f := 43) (x := 1) fX8_metreHere_117 rfl rfl (Nat.le_of_ble_eq_true rfl) rfl ((congrFun (hF27.at (by omega) (by omega)) _).trans ((congrFun (hF23.at (by omega) (by omega)) _).trans ((am_up_nk (by omega)).trans ((congrFun (hFNb.at (by omega) (by omega)) _).trans ((congrFun (hF16.at (by omega) (by omega)) _).trans hb_2))))) ?_
                refine w_if_eq (tgt := 124) dX8_metreHere_120 rfl (R32.in (by decide)) (fun c120 => ?_) (fun c120 => ?_)
                · skip
                  exact absurd c120 (by decide)
                · skip
                  have hP9 : tkL b n (ln0 b n σ 0 (sk b n a) e) μ μ_27 := tkL_no (ln0_1 (Or.inr (by unfold tooL; omega))) (by omega) (((congrFun (hF27.at (by omega) (by omega)) _).trans ((congrFun (hF23.at (by omega) (by omega)) _).trans ((am_up_nk (by omega)).trans ((congrFun (hFNb.at (by omega) (by omega)) _).trans ((congrFun (hF16.at (by omega) (by omega)) _).trans hb_2))))).trans (by rfl)) (((congrFun (hF27.at (by omega) (by omega)) _).trans ((congrFun (hF23.at (by omega) (by omega)) _).trans ((am_up_nk (by omega)).trans ((congrFun (hFNb.at (by omega) (by omega)) _).trans ((congrFun (hF16.at (by omega) (by omega)) _).trans h1_2))))).trans (by rfl)) (((congrFun (hF27.at (by omega) (by omega)) _).trans ((congrFun (hF23.at (by omega) (by omega)) _).trans ((am_up_nk (by omega)).trans ((congrFun (hFNb.at (by omega) (by omega)) _).trans ((congrFun (hF16.at (by omega) (by omega)) _).trans (h2_2.trans rfl)))))).trans (by exact hK.1))
                  exact w_retV dX8_metreHere_123 rfl ⟨((hF27.wd (by omega) (by omega)).tr ((hF23.wd (by omega) (by omega)).tr (((hFNb.wd (by omega) (by omega)).tr ((hF16.wd (by omega) (by omega)).tr (hF2.wd (by omega) (by omega)))).up (by omega)))), (by exact hP9), (fun k h1 => ((congrFun (hF27.at (by omega) (by omega)) _).trans ((congrFun (hF23.at (by omega) (by omega)) _).trans ((am_up_nk (by omega)).trans ((congrFun (hFNb.at (by omega) (by omega)) _).trans ((congrFun (hF16.at (by omega) (by omega)) _).trans (hf_2 k (by omega)))))))), (RTc.cg2 hR (fun o h1 => ((hF27.at (by omega) (by omega)).trans ((hF23.at (by omega) (by omega)).trans ((am_up_o (by omega)).trans ((hFNb.at (by omega) (by omega)).trans ((hF16.at (by omega) (by omega)).trans (hF2.at (by omega) (by omega)))))))) (fun k h1 => ((congrFun (hF27.at (by omega) (by omega)) _).trans ((congrFun (hF23.at (by omega) (by omega)) _).trans ((am_up_nk (by omega)).trans ((congrFun (hFNb.at (by omega) (by omega)) _).trans ((congrFun (hF16.at (by omega) (by omega)) _).trans (hf_2 _ (by omega))))))))), (by rw [(((congrFun (hF27.at (by omega) (by omega)) _).trans ((congrFun (hF23.at (by omega) (by omega)) _).trans ((am_up_nk (by omega)).trans ((congrFun (hFNb.at (by omega) (by omega)) _).trans ((congrFun (hF16.at (by omega) (by omega)) _).trans (hf_2 _ (by omega))))))).trans (by rfl)), (((congrFun (hF27.at (by omega) (by omega)) _).trans ((congrFun (hF23.at (by omega) (by omega)) _).trans ((am_up_nk (by omega)).trans ((congrFun (hFNb.at (by omega) (by omega)) _).trans ((congrFun (hF16.at (by omega) (by omega)) _).trans (hf_2 _ (by omega))))))).trans (by rfl))]; omega)⟩
      · skip
        exact absurd c45 (by decide)
  · skip
    refine w_aload_n dX8_metreHere_8 rfl rfl (by first | decide | omega) ?_
    refine w_getIx (o := 45) (f := 47) (x := σ 0 5) fX8_metreHere_9 rfl rfl (Nat.le_of_ble_eq_true rfl) rfl hP.pm ?_
    have hr28 := hP.ok.1.2.2.2.2.2.1
    refine w_if_ne (tgt := 19) dX8_metreHere_12 rfl (R32.in (by omega)) (fun c12 => ?_) (fun c12 => ?_)
    · skip
      refine w_iconst dX8_metreHere_19 ?_
      refine w_iconst dX8_metreHere_20 ?_
      refine w_callVV (o := 45) (ci := 8) (as := [(0, 0), (0, 1)]) (rest := []) (k := 0) fX8_metreHere_21 rfl rfl rfl rfl rfl rfl rfl rfl (Nat.le_of_ble_eq_true rfl) (s_X8_must_f X 0 1 μ hb rfl) (fun μ_29 hμ29 => ?_)
      obtain ⟨hF29, hb_29, h1_29, h2_29, hf_29⟩ := hμ29
      refine w_aload_n dX8_metreHere_24 rfl rfl (by first | decide | omega) ?_
      refine w_aload_n dX8_metreHere_25 rfl rfl (by first | decide | omega) ?_
      refine w_getIx (o := 45) (f := 54) (x := σ 0 6) fX8_metreHere_26 rfl rfl (Nat.le_of_ble_eq_true rfl) rfl ((hf_29 _ (by omega)).trans hP.hm) ?_
      have hr30 := hP.ok.1.2.2.2.2.2.2.1
      refine w_if_ne (tgt := 36) dX8_metreHere_29 rfl (R32.in (by omega)) (fun c29 => ?_) (fun c29 => ?_)
      · skip
        have htl : tldS σ 0 = σ 0 6 := by unfold tldS; first | rfl | (rw [if_neg (by omega), if_pos rfl]) | (rw [if_neg (by omega), if_neg (by omega)])
        refine w_iconst dX8_metreHere_36 ?_
        refine w_iconst dX8_metreHere_37 ?_
        refine w_callVV (o := 45) (ci := 8) (as := [(0, 0), (0, 3)]) (rest := []) (k := 0) fX8_metreHere_38 rfl rfl rfl rfl rfl rfl rfl rfl (Nat.le_of_ble_eq_true rfl) (s_X8_must_b X 0 3 μ_29 hb_29) (fun μ_31 hμ31 => ?_)
        have hF31 := hμ31
        refine w_aload_n dX8_metreHere_41 rfl rfl (by first | decide | omega) ?_
        refine w_getIx (o := 45) (f := 43) (x := 1) fX8_metreHere_42 rfl rfl (Nat.le_of_ble_eq_true rfl) rfl ((congrFun (hF31.at (by omega) (by omega)) _).trans hb_29) ?_
        refine w_if_ne (tgt := 52) dX8_metreHere_45 rfl (R32.in (by decide)) (fun c45 => ?_) (fun c45 => ?_)
        · skip
          refine w_aload_n dX8_metreHere_52 rfl rfl (by first | decide | omega) ?_
          refine w_aload_n dX8_metreHere_53 rfl rfl (by first | decide | omega) ?_
          refine w_iconst dX8_metreHere_54 ?_
          refine w_bipush dX8_metreHere_55 (by decide) ?_
          refine w_callVI (o := 45) (ci := 8) (as := [(0, 1), (0, 12)]) (rest := [(2, 45)]) (k := 1) fX8_metreHere_57 rfl rfl rfl rfl rfl rfl rfl rfl (Nat.le_of_ble_eq_true rfl) (s_X8_numberHere_b X 1 12 μ_31 (by rw [((congrFun (hF31.at (by omega) (by omega)) _).trans (hf_29 _ (by omega)))]; omega) (by rw [((congrFun (hF31.at (by omega) (by omega)) _).trans (hf_29 _ (by omega)))]; omega) ((congrFun (hF31.at (by omega) (by omega)) _).trans hb_29) (by decide)) (fun xNb μNb hμNb => ?_)
          obtain ⟨hFNb, hz_Nb⟩ := hμNb
          refine w_putI (o := 45) (f := 44) fX8_metreHere_60 rfl rfl rfl rfl rfl ?_
          refine w_aload_n dX8_metreHere_63 rfl rfl (by first | decide | omega) ?_
          refine w_aload_n dX8_metreHere_64 rfl rfl (by first | decide | omega) ?_
          refine w_getIx (o := 45) (f := 39) (x := μ 45 39) fX8_metreHere_65 rfl rfl (Nat.le_of_ble_eq_true rfl) rfl ((am_up_nk (by omega)).trans ((congrFun (hFNb.at (by omega) (by omega)) _).trans ((congrFun (hF31.at (by omega) (by omega)) _).trans (hf_29 _ (by omega))))) ?_
          refine w_iconst dX8_metreHere_68 ?_
          refine w_icmp_ne (tgt := 76) dX8_metreHere_69 rfl (R32.in (by omega)) (R32.in (by decide)) (fun c69 => ?_) (fun c69 => ?_)
          · skip
            refine w_iconst dX8_metreHere_76 ?_
            refine w_iconst dX8_metreHere_77 ?_
            refine w_callVV (o := 45) (ci := 8) (as := [(0, 0), (0, 1)]) (rest := []) (k := 0) fX8_metreHere_78 rfl rfl rfl rfl rfl rfl rfl rfl (Nat.le_of_ble_eq_true rfl) (s_X8_must_b X 0 1 (am_up μNb 45 44 xNb) ((am_up_nk (by omega)).trans ((congrFun (hFNb.at (by omega) (by omega)) _).trans ((congrFun (hF31.at (by omega) (by omega)) _).trans hb_29)))) (fun μ_33 hμ33 => ?_)
            have hF33 := hμ33
            refine w_aload_n dX8_metreHere_81 rfl rfl (by first | decide | omega) ?_
            refine w_aload_n dX8_metreHere_82 rfl rfl (by first | decide | omega) ?_
            refine w_getIx (o := 45) (f := 40) (x := μ 45 40) fX8_metreHere_83 rfl rfl (Nat.le_of_ble_eq_true rfl) rfl ((congrFun (hF33.at (by omega) (by omega)) _).trans ((am_up_nk (by omega)).trans ((congrFun (hFNb.at (by omega) (by omega)) _).trans ((congrFun (hF31.at (by omega) (by omega)) _).trans (hf_29 _ (by omega)))))) ?_
            refine w_iconst dX8_metreHere_86 ?_
            refine w_icmp_eq (tgt := 107) dX8_metreHere_87 rfl (R32.in (by omega)) (R32.in (by decide)) (fun c87 => ?_) (fun c87 => ?_)
            · skip
              refine w_iconst dX8_metreHere_107 ?_
              refine w_goto (tgt := 112) dX8_metreHere_108 rfl ?_
              refine w_iconst dX8_metreHere_112 ?_
              refine w_callVV (o := 45) (ci := 8) (as := [(0, 1), (0, 2)]) (rest := []) (k := 0) fX8_metreHere_113 rfl rfl rfl rfl rfl rfl rfl rfl (Nat.le_of_ble_eq_true rfl) (s_X8_must_t X 1 2 μ_33 (Or.inr ((congrFun (hF33.at (by omega) (by omega)) _).trans ((am_up_nk (by omega)).trans ((congrFun (hFNb.at (by omega) (by omega)) _).trans ((congrFun (hF31.at (by omega) (by omega)) _).trans hb_29))))) rfl) (fun μ_34 hμ34 => ?_)
              have hF34 := hμ34
              refine w_aload_n dX8_metreHere_116 rfl rfl (by first | decide | omega) ?_
              refine w_getIx (o := 45) (f := 43) (x := 1) fX8_metreHere_117 rfl rfl (Nat.le_of_ble_eq_true rfl) rfl ((congrFun (hF34.at (by omega) (by omega)) _).trans ((congrFun (hF33.at (by omega) (by omega)) _).trans ((am_up_nk (by omega)).trans ((congrFun (hFNb.at (by omega) (by omega)) _).trans ((congrFun (hF31.at (by omega) (by omega)) _).trans hb_29))))) ?_
              refine w_if_eq (tgt := 124) dX8_metreHere_120 rfl (R32.in (by decide)) (fun c120 => ?_) (fun c120 => ?_)
              · skip
                exact absurd c120 (by decide)
              · skip
                have hP9 : tkL b n (ln0 b n σ 0 (sk b n a) e) μ μ_34 := tkL_no (ln0_1 (Or.inr (by unfold tooL; omega))) (by omega) (((congrFun (hF34.at (by omega) (by omega)) _).trans ((congrFun (hF33.at (by omega) (by omega)) _).trans ((am_up_nk (by omega)).trans ((congrFun (hFNb.at (by omega) (by omega)) _).trans ((congrFun (hF31.at (by omega) (by omega)) _).trans hb_29))))).trans (by rfl)) (((congrFun (hF34.at (by omega) (by omega)) _).trans ((congrFun (hF33.at (by omega) (by omega)) _).trans ((am_up_nk (by omega)).trans ((congrFun (hFNb.at (by omega) (by omega)) _).trans ((congrFun (hF31.at (by omega) (by omega)) _).trans h1_29))))).trans (by rfl)) (((congrFun (hF34.at (by omega) (by omega)) _).trans ((congrFun (hF33.at (by omega) (by omega)) _).trans ((am_up_nk (by omega)).trans ((congrFun (hFNb.at (by omega) (by omega)) _).trans ((congrFun (hF31.at (by omega) (by omega)) _).trans (h2_29.trans rfl)))))).trans (by exact hK.1))
                exact w_retV dX8_metreHere_123 rfl ⟨((hF34.wd (by omega) (by omega)).tr ((hF33.wd (by omega) (by omega)).tr (((hFNb.wd (by omega) (by omega)).tr ((hF31.wd (by omega) (by omega)).tr (hF29.wd (by omega) (by omega)))).up (by omega)))), (by exact hP9), (fun k h1 => ((congrFun (hF34.at (by omega) (by omega)) _).trans ((congrFun (hF33.at (by omega) (by omega)) _).trans ((am_up_nk (by omega)).trans ((congrFun (hFNb.at (by omega) (by omega)) _).trans ((congrFun (hF31.at (by omega) (by omega)) _).trans (hf_29 k (by omega)))))))), (RTc.cg2 hR (fun o h1 => ((hF34.at (by omega) (by omega)).trans ((hF33.at (by omega) (by omega)).trans ((am_up_o (by omega)).trans ((hFNb.at (by omega) (by omega)).trans ((hF31.at (by omega) (by omega)).trans (hF29.at (by omega) (by omega)))))))) (fun k h1 => ((congrFun (hF34.at (by omega) (by omega)) _).trans ((congrFun (hF33.at (by omega) (by omega)) _).trans ((am_up_nk (by omega)).trans ((congrFun (hFNb.at (by omega) (by omega)) _).trans ((congrFun (hF31.at (by omega) (by omega)) _).trans (hf_29 _ (by omega))))))))), (by rw [(((congrFun (hF34.at (by omega) (by omega)) _).trans ((congrFun (hF33.at (by omega) (by omega)) _).trans ((am_up_nk (by omega)).trans ((congrFun (hFNb.at (by omega) (by omega)) _).trans ((congrFun (hF31.at (by omega) (by omega)) _).trans (hf_29 _ (by omega))))))).trans (by rfl)), (((congrFun (hF34.at (by omega) (by omega)) _).trans ((congrFun (hF33.at (by omega) (by omega)) _).trans ((am_up_nk (by omega)).trans ((congrFun (hFNb.at (by omega) (by omega)) _).trans ((congrFun (hF31.at (by omega) (by omega)) _).trans (hf_29 _ (by omega))))))).trans (by rfl))]; omega)⟩
            · skip
              refine w_aload_n dX8_metreHere_90 rfl rfl (by first | decide | omega) ?_
              refine w_getIx (o := 45) (f := 40) (x := μ 45 40) fX8_metreHere_91 rfl rfl (Nat.le_of_ble_eq_true rfl) rfl ((congrFun (hF33.at (by omega) (by omega)) _).trans ((am_up_nk (by omega)).trans ((congrFun (hFNb.at (by omega) (by omega)) _).trans ((congrFun (hF31.at (by omega) (by omega)) _).trans (hf_29 _ (by omega)))))) ?_
              refine w_iconst dX8_metreHere_94 ?_
              refine w_icmp_eq (tgt := 107) dX8_metreHere_95 rfl (R32.in (by omega)) (R32.in (by decide)) (fun c95 => ?_) (fun c95 => ?_)
              · skip
                refine w_iconst dX8_metreHere_107 ?_
                refine w_goto (tgt := 112) dX8_metreHere_108 rfl ?_
                refine w_iconst dX8_metreHere_112 ?_
                refine w_callVV (o := 45) (ci := 8) (as := [(0, 1), (0, 2)]) (rest := []) (k := 0) fX8_metreHere_113 rfl rfl rfl rfl rfl rfl rfl rfl (Nat.le_of_ble_eq_true rfl) (s_X8_must_t X 1 2 μ_33 (Or.inr ((congrFun (hF33.at (by omega) (by omega)) _).trans ((am_up_nk (by omega)).trans ((congrFun (hFNb.at (by omega) (by omega)) _).trans ((congrFun (hF31.at (by omega) (by omega)) _).trans hb_29))))) rfl) (fun μ_35 hμ35 => ?_)
                have hF35 := hμ35
                refine w_aload_n dX8_metreHere_116 rfl rfl (by first | decide | omega) ?_
                refine w_getIx (o := 45) (f := 43) (x := 1) fX8_metreHere_117 rfl rfl (Nat.le_of_ble_eq_true rfl) rfl ((congrFun (hF35.at (by omega) (by omega)) _).trans ((congrFun (hF33.at (by omega) (by omega)) _).trans ((am_up_nk (by omega)).trans ((congrFun (hFNb.at (by omega) (by omega)) _).trans ((congrFun (hF31.at (by omega) (by omega)) _).trans hb_29))))) ?_
                refine w_if_eq (tgt := 124) dX8_metreHere_120 rfl (R32.in (by decide)) (fun c120 => ?_) (fun c120 => ?_)
                · skip
                  exact absurd c120 (by decide)
                · skip
                  have hP9 : tkL b n (ln0 b n σ 0 (sk b n a) e) μ μ_35 := tkL_no (ln0_1 (Or.inr (by unfold tooL; omega))) (by omega) (((congrFun (hF35.at (by omega) (by omega)) _).trans ((congrFun (hF33.at (by omega) (by omega)) _).trans ((am_up_nk (by omega)).trans ((congrFun (hFNb.at (by omega) (by omega)) _).trans ((congrFun (hF31.at (by omega) (by omega)) _).trans hb_29))))).trans (by rfl)) (((congrFun (hF35.at (by omega) (by omega)) _).trans ((congrFun (hF33.at (by omega) (by omega)) _).trans ((am_up_nk (by omega)).trans ((congrFun (hFNb.at (by omega) (by omega)) _).trans ((congrFun (hF31.at (by omega) (by omega)) _).trans h1_29))))).trans (by rfl)) (((congrFun (hF35.at (by omega) (by omega)) _).trans ((congrFun (hF33.at (by omega) (by omega)) _).trans ((am_up_nk (by omega)).trans ((congrFun (hFNb.at (by omega) (by omega)) _).trans ((congrFun (hF31.at (by omega) (by omega)) _).trans (h2_29.trans rfl)))))).trans (by exact hK.1))
                  exact w_retV dX8_metreHere_123 rfl ⟨((hF35.wd (by omega) (by omega)).tr ((hF33.wd (by omega) (by omega)).tr (((hFNb.wd (by omega) (by omega)).tr ((hF31.wd (by omega) (by omega)).tr (hF29.wd (by omega) (by omega)))).up (by omega)))), (by exact hP9), (fun k h1 => ((congrFun (hF35.at (by omega) (by omega)) _).trans ((congrFun (hF33.at (by omega) (by omega)) _).trans ((am_up_nk (by omega)).trans ((congrFun (hFNb.at (by omega) (by omega)) _).trans ((congrFun (hF31.at (by omega) (by omega)) _).trans (hf_29 k (by omega)))))))), (RTc.cg2 hR (fun o h1 => ((hF35.at (by omega) (by omega)).trans ((hF33.at (by omega) (by omega)).trans ((am_up_o (by omega)).trans ((hFNb.at (by omega) (by omega)).trans ((hF31.at (by omega) (by omega)).trans (hF29.at (by omega) (by omega)))))))) (fun k h1 => ((congrFun (hF35.at (by omega) (by omega)) _).trans ((congrFun (hF33.at (by omega) (by omega)) _).trans ((am_up_nk (by omega)).trans ((congrFun (hFNb.at (by omega) (by omega)) _).trans ((congrFun (hF31.at (by omega) (by omega)) _).trans (hf_29 _ (by omega))))))))), (by rw [(((congrFun (hF35.at (by omega) (by omega)) _).trans ((congrFun (hF33.at (by omega) (by omega)) _).trans ((am_up_nk (by omega)).trans ((congrFun (hFNb.at (by omega) (by omega)) _).trans ((congrFun (hF31.at (by omega) (by omega)) _).trans (hf_29 _ (by omega))))))).trans (by rfl)), (((congrFun (hF35.at (by omega) (by omega)) _).trans ((congrFun (hF33.at (by omega) (by omega)) _).trans ((am_up_nk (by omega)).trans ((congrFun (hFNb.at (by omega) (by omega)) _).trans ((congrFun (hF31.at (by omega) (by omega)) _).trans (hf_29 _ (by omega))))))).trans (by rfl))]; omega)⟩
              · skip
                refine w_aload_n dX8_metreHere_98 rfl rfl (by first | decide | omega) ?_
                refine w_getIx (o := 45) (f := 40) (x := μ 45 40) fX8_metreHere_99 rfl rfl (Nat.le_of_ble_eq_true rfl) rfl ((congrFun (hF33.at (by omega) (by omega)) _).trans ((am_up_nk (by omega)).trans ((congrFun (hFNb.at (by omega) (by omega)) _).trans ((congrFun (hF31.at (by omega) (by omega)) _).trans (hf_29 _ (by omega)))))) ?_
                refine w_bipush dX8_metreHere_102 (by decide) ?_
                refine w_icmp_ne (tgt := 111) dX8_metreHere_104 rfl (R32.in (by omega)) (R32.in (by decide)) (fun c104 => ?_) (fun c104 => ?_)
                · skip
                  refine w_iconst dX8_metreHere_111 ?_
                  refine w_iconst dX8_metreHere_112 ?_
                  refine w_callVV (o := 45) (ci := 8) (as := [(0, 0), (0, 2)]) (rest := []) (k := 0) fX8_metreHere_113 rfl rfl rfl rfl rfl rfl rfl rfl (Nat.le_of_ble_eq_true rfl) (s_X8_must_b X 0 2 μ_33 ((congrFun (hF33.at (by omega) (by omega)) _).trans ((am_up_nk (by omega)).trans ((congrFun (hFNb.at (by omega) (by omega)) _).trans ((congrFun (hF31.at (by omega) (by omega)) _).trans hb_29))))) (fun μ_36 hμ36 => ?_)
                  have hF36 := hμ36
                  refine w_aload_n dX8_metreHere_116 rfl rfl (by first | decide | omega) ?_
                  refine w_getIx (o := 45) (f := 43) (x := 1) fX8_metreHere_117 rfl rfl (Nat.le_of_ble_eq_true rfl) rfl ((congrFun (hF36.at (by omega) (by omega)) _).trans ((congrFun (hF33.at (by omega) (by omega)) _).trans ((am_up_nk (by omega)).trans ((congrFun (hFNb.at (by omega) (by omega)) _).trans ((congrFun (hF31.at (by omega) (by omega)) _).trans hb_29))))) ?_
                  refine w_if_eq (tgt := 124) dX8_metreHere_120 rfl (R32.in (by decide)) (fun c120 => ?_) (fun c120 => ?_)
                  · skip
                    exact absurd c120 (by decide)
                  · skip
                    have hP9 : tkL b n (ln0 b n σ 0 (sk b n a) e) μ μ_36 := tkL_no (ln0_1 (Or.inr (by unfold tooL; omega))) (by omega) (((congrFun (hF36.at (by omega) (by omega)) _).trans ((congrFun (hF33.at (by omega) (by omega)) _).trans ((am_up_nk (by omega)).trans ((congrFun (hFNb.at (by omega) (by omega)) _).trans ((congrFun (hF31.at (by omega) (by omega)) _).trans hb_29))))).trans (by rfl)) (((congrFun (hF36.at (by omega) (by omega)) _).trans ((congrFun (hF33.at (by omega) (by omega)) _).trans ((am_up_nk (by omega)).trans ((congrFun (hFNb.at (by omega) (by omega)) _).trans ((congrFun (hF31.at (by omega) (by omega)) _).trans h1_29))))).trans (by rfl)) (((congrFun (hF36.at (by omega) (by omega)) _).trans ((congrFun (hF33.at (by omega) (by omega)) _).trans ((am_up_nk (by omega)).trans ((congrFun (hFNb.at (by omega) (by omega)) _).trans ((congrFun (hF31.at (by omega) (by omega)) _).trans (h2_29.trans rfl)))))).trans (by exact hK.1))
                    exact w_retV dX8_metreHere_123 rfl ⟨((hF36.wd (by omega) (by omega)).tr ((hF33.wd (by omega) (by omega)).tr (((hFNb.wd (by omega) (by omega)).tr ((hF31.wd (by omega) (by omega)).tr (hF29.wd (by omega) (by omega)))).up (by omega)))), (by exact hP9), (fun k h1 => ((congrFun (hF36.at (by omega) (by omega)) _).trans ((congrFun (hF33.at (by omega) (by omega)) _).trans ((am_up_nk (by omega)).trans ((congrFun (hFNb.at (by omega) (by omega)) _).trans ((congrFun (hF31.at (by omega) (by omega)) _).trans (hf_29 k (by omega)))))))), (RTc.cg2 hR (fun o h1 => ((hF36.at (by omega) (by omega)).trans ((hF33.at (by omega) (by omega)).trans ((am_up_o (by omega)).trans ((hFNb.at (by omega) (by omega)).trans ((hF31.at (by omega) (by omega)).trans (hF29.at (by omega) (by omega)))))))) (fun k h1 => ((congrFun (hF36.at (by omega) (by omega)) _).trans ((congrFun (hF33.at (by omega) (by omega)) _).trans ((am_up_nk (by omega)).trans ((congrFun (hFNb.at (by omega) (by omega)) _).trans ((congrFun (hF31.at (by omega) (by omega)) _).trans (hf_29 _ (by omega))))))))), (by rw [(((congrFun (hF36.at (by omega) (by omega)) _).trans ((congrFun (hF33.at (by omega) (by omega)) _).trans ((am_up_nk (by omega)).trans ((congrFun (hFNb.at (by omega) (by omega)) _).trans ((congrFun (hF31.at (by omega) (by omega)) _).trans (hf_29 _ (by omega))))))).trans (by rfl)), (((congrFun (hF36.at (by omega) (by omega)) _).trans ((congrFun (hF33.at (by omega) (by omega)) _).trans ((am_up_nk (by omega)).trans ((congrFun (hFNb.at (by omega) (by omega)) _).trans ((congrFun (hF31.at (by omega) (by omega)) _).trans (hf_29 _ (by omega))))))).trans (by rfl))]; omega)⟩
                · skip
                  refine w_iconst dX8_metreHere_107 ?_
                  refine w_goto (tgt := 112) dX8_metreHere_108 rfl ?_
                  refine w_iconst dX8_metreHere_112 ?_
                  refine w_callVV (o := 45) (ci := 8) (as := [(0, 1), (0, 2)]) (rest := []) (k := 0) fX8_metreHere_113 rfl rfl rfl rfl rfl rfl rfl rfl (Nat.le_of_ble_eq_true rfl) (s_X8_must_t X 1 2 μ_33 (Or.inr ((congrFun (hF33.at (by omega) (by omega)) _).trans ((am_up_nk (by omega)).trans ((congrFun (hFNb.at (by omega) (by omega)) _).trans ((congrFun (hF31.at (by omega) (by omega)) _).trans hb_29))))) rfl) (fun μ_37 hμ37 => ?_)
                  have hF37 := hμ37
                  refine w_aload_n dX8_metreHere_116 rfl rfl (by first | decide | omega) ?_
                  refine w_getIx (o := 45) (f := 43) (x := 1) fX8_metreHere_117 rfl rfl (Nat.le_of_ble_eq_true rfl) rfl ((congrFun (hF37.at (by omega) (by omega)) _).trans ((congrFun (hF33.at (by omega) (by omega)) _).trans ((am_up_nk (by omega)).trans ((congrFun (hFNb.at (by omega) (by omega)) _).trans ((congrFun (hF31.at (by omega) (by omega)) _).trans hb_29))))) ?_
                  refine w_if_eq (tgt := 124) dX8_metreHere_120 rfl (R32.in (by decide)) (fun c120 => ?_) (fun c120 => ?_)
                  · skip
                    exact absurd c120 (by decide)
                  · skip
                    have hP9 : tkL b n (ln0 b n σ 0 (sk b n a) e) μ μ_37 := tkL_no (ln0_1 (Or.inr (by unfold tooL; omega))) (by omega) (((congrFun (hF37.at (by omega) (by omega)) _).trans ((congrFun (hF33.at (by omega) (by omega)) _).trans ((am_up_nk (by omega)).trans ((congrFun (hFNb.at (by omega) (by omega)) _).trans ((congrFun (hF31.at (by omega) (by omega)) _).trans hb_29))))).trans (by rfl)) (((congrFun (hF37.at (by omega) (by omega)) _).trans ((congrFun (hF33.at (by omega) (by omega)) _).trans ((am_up_nk (by omega)).trans ((congrFun (hFNb.at (by omega) (by omega)) _).trans ((congrFun (hF31.at (by omega) (by omega)) _).trans h1_29))))).trans (by rfl)) (((congrFun (hF37.at (by omega) (by omega)) _).trans ((congrFun (hF33.at (by omega) (by omega)) _).trans ((am_up_nk (by omega)).trans ((congrFun (hFNb.at (by omega) (by omega)) _).trans ((congrFun (hF31.at (by omega) (by omega)) _).trans (h2_29.trans rfl)))))).trans (by exact hK.1))
                    exact w_retV dX8_metreHere_123 rfl ⟨((hF37.wd (by omega) (by omega)).tr ((hF33.wd (by omega) (by omega)).tr (((hFNb.wd (by omega) (by omega)).tr ((hF31.wd (by omega) (by omega)).tr (hF29.wd (by omega) (by omega)))).up (by omega)))), (by exact hP9), (fun k h1 => ((congrFun (hF37.at (by omega) (by omega)) _).trans ((congrFun (hF33.at (by omega) (by omega)) _).trans ((am_up_nk (by omega)).trans ((congrFun (hFNb.at (by omega) (by omega)) _).trans ((congrFun (hF31.at (by omega) (by omega)) _).trans (hf_29 k (by omega)))))))), (RTc.cg2 hR (fun o h1 => ((hF37.at (by omega) (by omega)).trans ((hF33.at (by omega) (by omega)).trans ((am_up_o (by omega)).trans ((hFNb.at (by omega) (by omega)).trans ((hF31.at (by omega) (by omega)).trans (hF29.at (by omega) (by omega)))))))) (fun k h1 => ((congrFun (hF37.at (by omega) (by omega)) _).trans ((congrFun (hF33.at (by omega) (by omega)) _).trans ((am_up_nk (by omega)).trans ((congrFun (hFNb.at (by omega) (by omega)) _).trans ((congrFun (hF31.at (by omega) (by omega)) _).trans (hf_29 _ (by omega))))))))), (by rw [(((congrFun (hF37.at (by omega) (by omega)) _).trans ((congrFun (hF33.at (by omega) (by omega)) _).trans ((am_up_nk (by omega)).trans ((congrFun (hFNb.at (by omega) (by omega)) _).trans ((congrFun (hF31.at (by omega) (by omega)) _).trans (hf_29 _ (by omega))))))).trans (by rfl)), (((congrFun (hF37.at (by omega) (by omega)) _).trans ((congrFun (hF33.at (by omega) (by omega)) _).trans ((am_up_nk (by omega)).trans ((congrFun (hFNb.at (by omega) (by omega)) _).trans ((congrFun (hF31.at (by omega) (by omega)) _).trans (hf_29 _ (by omega))))))).trans (by rfl))]; omega)⟩
          · skip
            refine w_iconst dX8_metreHere_72 ?_
            refine w_goto (tgt := 77) dX8_metreHere_73 rfl ?_
            refine w_iconst dX8_metreHere_77 ?_
            refine w_callVV (o := 45) (ci := 8) (as := [(0, 1), (0, 1)]) (rest := []) (k := 0) fX8_metreHere_78 rfl rfl rfl rfl rfl rfl rfl rfl (Nat.le_of_ble_eq_true rfl) (s_X8_must_t X 1 1 (am_up μNb 45 44 xNb) (Or.inr ((am_up_nk (by omega)).trans ((congrFun (hFNb.at (by omega) (by omega)) _).trans ((congrFun (hF31.at (by omega) (by omega)) _).trans hb_29)))) rfl) (fun μ_38 hμ38 => ?_)
            have hF38 := hμ38
            refine w_aload_n dX8_metreHere_81 rfl rfl (by first | decide | omega) ?_
            refine w_aload_n dX8_metreHere_82 rfl rfl (by first | decide | omega) ?_
            refine w_getIx (o := 45) (f := 40) (x := μ 45 40) fX8_metreHere_83 rfl rfl (Nat.le_of_ble_eq_true rfl) rfl ((congrFun (hF38.at (by omega) (by omega)) _).trans ((am_up_nk (by omega)).trans ((congrFun (hFNb.at (by omega) (by omega)) _).trans ((congrFun (hF31.at (by omega) (by omega)) _).trans (hf_29 _ (by omega)))))) ?_
            refine w_iconst dX8_metreHere_86 ?_
            refine w_icmp_eq (tgt := 107) dX8_metreHere_87 rfl (R32.in (by omega)) (R32.in (by decide)) (fun c87 => ?_) (fun c87 => ?_)
            · skip
              refine w_iconst dX8_metreHere_107 ?_
              refine w_goto (tgt := 112) dX8_metreHere_108 rfl ?_
              refine w_iconst dX8_metreHere_112 ?_
              refine w_callVV (o := 45) (ci := 8) (as := [(0, 1), (0, 2)]) (rest := []) (k := 0) fX8_metreHere_113 rfl rfl rfl rfl rfl rfl rfl rfl (Nat.le_of_ble_eq_true rfl) (s_X8_must_t X 1 2 μ_38 (Or.inr ((congrFun (hF38.at (by omega) (by omega)) _).trans ((am_up_nk (by omega)).trans ((congrFun (hFNb.at (by omega) (by omega)) _).trans ((congrFun (hF31.at (by omega) (by omega)) _).trans hb_29))))) rfl) (fun μ_39 hμ39 => ?_)
              have hF39 := hμ39
              refine w_aload_n dX8_metreHere_116 rfl rfl (by first | decide | omega) ?_
              refine w_getIx (o := 45) (f := 43) (x := 1) fX8_metreHere_117 rfl rfl (Nat.le_of_ble_eq_true rfl) rfl ((congrFun (hF39.at (by omega) (by omega)) _).trans ((congrFun (hF38.at (by omega) (by omega)) _).trans ((am_up_nk (by omega)).trans ((congrFun (hFNb.at (by omega) (by omega)) _).trans ((congrFun (hF31.at (by omega) (by omega)) _).trans hb_29))))) ?_
              refine w_if_eq (tgt := 124) dX8_metreHere_120 rfl (R32.in (by decide)) (fun c120 => ?_) (fun c120 => ?_)
              · skip
                exact absurd c120 (by decide)
              · skip
                have hP9 : tkL b n (ln0 b n σ 0 (sk b n a) e) μ μ_39 := tkL_no (ln0_1 (Or.inr (by unfold tooL; omega))) (by omega) (((congrFun (hF39.at (by omega) (by omega)) _).trans ((congrFun (hF38.at (by omega) (by omega)) _).trans ((am_up_nk (by omega)).trans ((congrFun (hFNb.at (by omega) (by omega)) _).trans ((congrFun (hF31.at (by omega) (by omega)) _).trans hb_29))))).trans (by rfl)) (((congrFun (hF39.at (by omega) (by omega)) _).trans ((congrFun (hF38.at (by omega) (by omega)) _).trans ((am_up_nk (by omega)).trans ((congrFun (hFNb.at (by omega) (by omega)) _).trans ((congrFun (hF31.at (by omega) (by omega)) _).trans h1_29))))).trans (by rfl)) (((congrFun (hF39.at (by omega) (by omega)) _).trans ((congrFun (hF38.at (by omega) (by omega)) _).trans ((am_up_nk (by omega)).trans ((congrFun (hFNb.at (by omega) (by omega)) _).trans ((congrFun (hF31.at (by omega) (by omega)) _).trans (h2_29.trans rfl)))))).trans (by exact hK.1))
                exact w_retV dX8_metreHere_123 rfl ⟨((hF39.wd (by omega) (by omega)).tr ((hF38.wd (by omega) (by omega)).tr (((hFNb.wd (by omega) (by omega)).tr ((hF31.wd (by omega) (by omega)).tr (hF29.wd (by omega) (by omega)))).up (by omega)))), (by exact hP9), (fun k h1 => ((congrFun (hF39.at (by omega) (by omega)) _).trans ((congrFun (hF38.at (by omega) (by omega)) _).trans ((am_up_nk (by omega)).trans ((congrFun (hFNb.at (by omega) (by omega)) _).trans ((congrFun (hF31.at (by omega) (by omega)) _).trans (hf_29 k (by omega)))))))), (RTc.cg2 hR (fun o h1 => ((hF39.at (by omega) (by omega)).trans ((hF38.at (by omega) (by omega)).trans ((am_up_o (by omega)).trans ((hFNb.at (by omega) (by omega)).trans ((hF31.at (by omega) (by omega)).trans (hF29.at (by omega) (by omega)))))))) (fun k h1 => ((congrFun (hF39.at (by omega) (by omega)) _).trans ((congrFun (hF38.at (by omega) (by omega)) _).trans ((am_up_nk (by omega)).trans ((congrFun (hFNb.at (by omega) (by omega)) _).trans ((congrFun (hF31.at (by omega) (by omega)) _).trans (hf_29 _ (by omega))))))))), (by rw [(((congrFun (hF39.at (by omega) (by omega)) _).trans ((congrFun (hF38.at (by omega) (by omega)) _).trans ((am_up_nk (by omega)).trans ((congrFun (hFNb.at (by omega) (by omega)) _).trans ((congrFun (hF31.at (by omega) (by omega)) _).trans (hf_29 _ (by omega))))))).trans (by rfl)), (((congrFun (hF39.at (by omega) (by omega)) _).trans ((congrFun (hF38.at (by omega) (by omega)) _).trans ((am_up_nk (by omega)).trans ((congrFun (hFNb.at (by omega) (by omega)) _).trans ((congrFun (hF31.at (by omega) (by omega)) _).trans (hf_29 _ (by omega))))))).trans (by rfl))]; omega)⟩
            · skip
              refine w_aload_n dX8_metreHere_90 rfl rfl (by first | decide | omega) ?_
              refine w_getIx (o := 45) (f := 40) (x := μ 45 40) fX8_metreHere_91 rfl rfl (Nat.le_of_ble_eq_true rfl) rfl ((congrFun (hF38.at (by omega) (by omega)) _).trans ((am_up_nk (by omega)).trans ((congrFun (hFNb.at (by omega) (by omega)) _).trans ((congrFun (hF31.at (by omega) (by omega)) _).trans (hf_29 _ (by omega)))))) ?_
              refine w_iconst dX8_metreHere_94 ?_
              refine w_icmp_eq (tgt := 107) dX8_metreHere_95 rfl (R32.in (by omega)) (R32.in (by decide)) (fun c95 => ?_) (fun c95 => ?_)
              · skip
                refine w_iconst dX8_metreHere_107 ?_
                refine w_goto (tgt := 112) dX8_metreHere_108 rfl ?_
                refine w_iconst dX8_metreHere_112 ?_
                refine w_callVV (o := 45) (ci := 8) (as := [(0, 1), (0, 2)]) (rest := []) (k := 0) fX8_metreHere_113 rfl rfl rfl rfl rfl rfl rfl rfl (Nat.le_of_ble_eq_true rfl) (s_X8_must_t X 1 2 μ_38 (Or.inr ((congrFun (hF38.at (by omega) (by omega)) _).trans ((am_up_nk (by omega)).trans ((congrFun (hFNb.at (by omega) (by omega)) _).trans ((congrFun (hF31.at (by omega) (by omega)) _).trans hb_29))))) rfl) (fun μ_40 hμ40 => ?_)
                have hF40 := hμ40
                refine w_aload_n dX8_metreHere_116 rfl rfl (by first | decide | omega) ?_
                refine w_getIx (o := 45) (f := 43) (x := 1) fX8_metreHere_117 rfl rfl (Nat.le_of_ble_eq_true rfl) rfl ((congrFun (hF40.at (by omega) (by omega)) _).trans ((congrFun (hF38.at (by omega) (by omega)) _).trans ((am_up_nk (by omega)).trans ((congrFun (hFNb.at (by omega) (by omega)) _).trans ((congrFun (hF31.at (by omega) (by omega)) _).trans hb_29))))) ?_
                refine w_if_eq (tgt := 124) dX8_metreHere_120 rfl (R32.in (by decide)) (fun c120 => ?_) (fun c120 => ?_)
                · skip
                  exact absurd c120 (by decide)
                · skip
                  have hP9 : tkL b n (ln0 b n σ 0 (sk b n a) e) μ μ_40 := tkL_no (ln0_1 (Or.inr (by unfold tooL; omega))) (by omega) (((congrFun (hF40.at (by omega) (by omega)) _).trans ((congrFun (hF38.at (by omega) (by omega)) _).trans ((am_up_nk (by omega)).trans ((congrFun (hFNb.at (by omega) (by omega)) _).trans ((congrFun (hF31.at (by omega) (by omega)) _).trans hb_29))))).trans (by rfl)) (((congrFun (hF40.at (by omega) (by omega)) _).trans ((congrFun (hF38.at (by omega) (by omega)) _).trans ((am_up_nk (by omega)).trans ((congrFun (hFNb.at (by omega) (by omega)) _).trans ((congrFun (hF31.at (by omega) (by omega)) _).trans h1_29))))).trans (by rfl)) (((congrFun (hF40.at (by omega) (by omega)) _).trans ((congrFun (hF38.at (by omega) (by omega)) _).trans ((am_up_nk (by omega)).trans ((congrFun (hFNb.at (by omega) (by omega)) _).trans ((congrFun (hF31.at (by omega) (by omega)) _).trans (h2_29.trans rfl)))))).trans (by exact hK.1))
                  exact w_retV dX8_metreHere_123 rfl ⟨((hF40.wd (by omega) (by omega)).tr ((hF38.wd (by omega) (by omega)).tr (((hFNb.wd (by omega) (by omega)).tr ((hF31.wd (by omega) (by omega)).tr (hF29.wd (by omega) (by omega)))).up (by omega)))), (by exact hP9), (fun k h1 => ((congrFun (hF40.at (by omega) (by omega)) _).trans ((congrFun (hF38.at (by omega) (by omega)) _).trans ((am_up_nk (by omega)).trans ((congrFun (hFNb.at (by omega) (by omega)) _).trans ((congrFun (hF31.at (by omega) (by omega)) _).trans (hf_29 k (by omega)))))))), (RTc.cg2 hR (fun o h1 => ((hF40.at (by omega) (by omega)).trans ((hF38.at (by omega) (by omega)).trans ((am_up_o (by omega)).trans ((hFNb.at (by omega) (by omega)).trans ((hF31.at (by omega) (by omega)).trans (hF29.at (by omega) (by omega)))))))) (fun k h1 => ((congrFun (hF40.at (by omega) (by omega)) _).trans ((congrFun (hF38.at (by omega) (by omega)) _).trans ((am_up_nk (by omega)).trans ((congrFun (hFNb.at (by omega) (by omega)) _).trans ((congrFun (hF31.at (by omega) (by omega)) _).trans (hf_29 _ (by omega))))))))), (by rw [(((congrFun (hF40.at (by omega) (by omega)) _).trans ((congrFun (hF38.at (by omega) (by omega)) _).trans ((am_up_nk (by omega)).trans ((congrFun (hFNb.at (by omega) (by omega)) _).trans ((congrFun (hF31.at (by omega) (by omega)) _).trans (hf_29 _ (by omega))))))).trans (by rfl)), (((congrFun (hF40.at (by omega) (by omega)) _).trans ((congrFun (hF38.at (by omega) (by omega)) _).trans ((am_up_nk (by omega)).trans ((congrFun (hFNb.at (by omega) (by omega)) _).trans ((congrFun (hF31.at (by omega) (by omega)) _).trans (hf_29 _ (by omega))))))).trans (by rfl))]; omega)⟩
              · skip
                refine w_aload_n dX8_metreHere_98 rfl rfl (by first | decide | omega) ?_
                refine w_getIx (o := 45) (f := 40) (x := μ 45 40) fX8_metreHere_99 rfl rfl (Nat.le_of_ble_eq_true rfl) rfl ((congrFun (hF38.at (by omega) (by omega)) _).trans ((am_up_nk (by omega)).trans ((congrFun (hFNb.at (by omega) (by omega)) _).trans ((congrFun (hF31.at (by omega) (by omega)) _).trans (hf_29 _ (by omega)))))) ?_
                refine w_bipush dX8_metreHere_102 (by decide) ?_
                refine w_icmp_ne (tgt := 111) dX8_metreHere_104 rfl (R32.in (by omega)) (R32.in (by decide)) (fun c104 => ?_) (fun c104 => ?_)
                · skip
                  refine w_iconst dX8_metreHere_111 ?_
                  refine w_iconst dX8_metreHere_112 ?_
                  refine w_callVV (o := 45) (ci := 8) (as := [(0, 0), (0, 2)]) (rest := []) (k := 0) fX8_metreHere_113 rfl rfl rfl rfl rfl rfl rfl rfl (Nat.le_of_ble_eq_true rfl) (s_X8_must_b X 0 2 μ_38 ((congrFun (hF38.at (by omega) (by omega)) _).trans ((am_up_nk (by omega)).trans ((congrFun (hFNb.at (by omega) (by omega)) _).trans ((congrFun (hF31.at (by omega) (by omega)) _).trans hb_29))))) (fun μ_41 hμ41 => ?_)
                  have hF41 := hμ41
                  refine w_aload_n dX8_metreHere_116 rfl rfl (by first | decide | omega) ?_
                  refine w_getIx (o := 45) (f := 43) (x := 1) fX8_metreHere_117 rfl rfl (Nat.le_of_ble_eq_true rfl) rfl ((congrFun (hF41.at (by omega) (by omega)) _).trans ((congrFun (hF38.at (by omega) (by omega)) _).trans ((am_up_nk (by omega)).trans ((congrFun (hFNb.at (by omega) (by omega)) _).trans ((congrFun (hF31.at (by omega) (by omega)) _).trans hb_29))))) ?_
                  refine w_if_eq (tgt := 124) dX8_metreHere_120 rfl (R32.in (by decide)) (fun c120 => ?_) (fun c120 => ?_)
                  · skip
                    exact absurd c120 (by decide)
                  · skip
                    have hP9 : tkL b n (ln0 b n σ 0 (sk b n a) e) μ μ_41 := tkL_no (ln0_1 (Or.inr (by unfold tooL; omega))) (by omega) (((congrFun (hF41.at (by omega) (by omega)) _).trans ((congrFun (hF38.at (by omega) (by omega)) _).trans ((am_up_nk (by omega)).trans ((congrFun (hFNb.at (by omega) (by omega)) _).trans ((congrFun (hF31.at (by omega) (by omega)) _).trans hb_29))))).trans (by rfl)) (((congrFun (hF41.at (by omega) (by omega)) _).trans ((congrFun (hF38.at (by omega) (by omega)) _).trans ((am_up_nk (by omega)).trans ((congrFun (hFNb.at (by omega) (by omega)) _).trans ((congrFun (hF31.at (by omega) (by omega)) _).trans h1_29))))).trans (by rfl)) (((congrFun (hF41.at (by omega) (by omega)) _).trans ((congrFun (hF38.at (by omega) (by omega)) _).trans ((am_up_nk (by omega)).trans ((congrFun (hFNb.at (by omega) (by omega)) _).trans ((congrFun (hF31.at (by omega) (by omega)) _).trans (h2_29.trans rfl)))))).trans (by exact hK.1))
                    exact w_retV dX8_metreHere_123 rfl ⟨((hF41.wd (by omega) (by omega)).tr ((hF38.wd (by omega) (by omega)).tr (((hFNb.wd (by omega) (by omega)).tr ((hF31.wd (by omega) (by omega)).tr (hF29.wd (by omega) (by omega)))).up (by omega)))), (by exact hP9), (fun k h1 => ((congrFun (hF41.at (by omega) (by omega)) _).trans ((congrFun (hF38.at (by omega) (by omega)) _).trans ((am_up_nk (by omega)).trans ((congrFun (hFNb.at (by omega) (by omega)) _).trans ((congrFun (hF31.at (by omega) (by omega)) _).trans (hf_29 k (by omega)))))))), (RTc.cg2 hR (fun o h1 => ((hF41.at (by omega) (by omega)).trans ((hF38.at (by omega) (by omega)).trans ((am_up_o (by omega)).trans ((hFNb.at (by omega) (by omega)).trans ((hF31.at (by omega) (by omega)).trans (hF29.at (by omega) (by omega)))))))) (fun k h1 => ((congrFun (hF41.at (by omega) (by omega)) _).trans ((congrFun (hF38.at (by omega) (by omega)) _).trans ((am_up_nk (by omega)).trans ((congrFun (hFNb.at (by omega) (by omega)) _).trans ((congrFun (hF31.at (by omega) (by omega)) _).trans (hf_29 _ (by omega))))))))), (by rw [(((congrFun (hF41.at (by omega) (by omega)) _).trans ((congrFun (hF38.at (by omega) (by omega)) _).trans ((am_up_nk (by omega)).trans ((congrFun (hFNb.at (by omega) (by omega)) _).trans ((congrFun (hF31.at (by omega) (by omega)) _).trans (hf_29 _ (by omega))))))).trans (by rfl)), (((congrFun (hF41.at (by omega) (by omega)) _).trans ((congrFun (hF38.at (by omega) (by omega)) _).trans ((am_up_nk (by omega)).trans ((congrFun (hFNb.at (by omega) (by omega)) _).trans ((congrFun (hF31.at (by omega) (by omega)) _).trans (hf_29 _ (by omega))))))).trans (by rfl))]; omega)⟩
                · skip
                  refine w_iconst dX8_metreHere_107 ?_
                  refine w_goto (tgt := 112) dX8_metreHere_108 rfl ?_
                  refine w_iconst dX8_metreHere_112 ?_
                  refine w_callVV (o := 45) (ci := 8) (as := [(0, 1), (0, 2)]) (rest := []) (k := 0) fX8_metreHere_113 rfl rfl rfl rfl rfl rfl rfl rfl (Nat.le_of_ble_eq_true rfl) (s_X8_must_t X 1 2 μ_38 (Or.inr ((congrFun (hF38.at (by omega) (by omega)) _).trans ((am_up_nk (by omega)).trans ((congrFun (hFNb.at (by omega) (by omega)) _).trans ((congrFun (hF31.at (by omega) (by omega)) _).trans hb_29))))) rfl) (fun μ_42 hμ42 => ?_)
                  have hF42 := hμ42
                  refine w_aload_n dX8_metreHere_116 rfl rfl (by first | decide | omega) ?_
                  refine w_getIx (o := 45) (f := 43) (x := 1) fX8_metreHere_117 rfl rfl (Nat.le_of_ble_eq_true rfl) rfl ((congrFun (hF42.at (by omega) (by omega)) _).trans ((congrFun (hF38.at (by omega) (by omega)) _).trans ((am_up_nk (by omega)).trans ((congrFun (hFNb.at (by omega) (by omega)) _).trans ((congrFun (hF31.at (by omega) (by omega)) _).trans hb_29))))) ?_
                  refine w_if_eq (tgt := 124) dX8_metreHere_120 rfl (R32.in (by decide)) (fun c120 => ?_) (fun c120 => ?_)
                  · skip
                    exact absurd c120 (by decide)
                  · skip
                    have hP9 : tkL b n (ln0 b n σ 0 (sk b n a) e) μ μ_42 := tkL_no (ln0_1 (Or.inr (by unfold tooL; omega))) (by omega) (((congrFun (hF42.at (by omega) (by omega)) _).trans ((congrFun (hF38.at (by omega) (by omega)) _).trans ((am_up_nk (by omega)).trans ((congrFun (hFNb.at (by omega) (by omega)) _).trans ((congrFun (hF31.at (by omega) (by omega)) _).trans hb_29))))).trans (by rfl)) (((congrFun (hF42.at (by omega) (by omega)) _).trans ((congrFun (hF38.at (by omega) (by omega)) _).trans ((am_up_nk (by omega)).trans ((congrFun (hFNb.at (by omega) (by omega)) _).trans ((congrFun (hF31.at (by omega) (by omega)) _).trans h1_29))))).trans (by rfl)) (((congrFun (hF42.at (by omega) (by omega)) _).trans ((congrFun (hF38.at (by omega) (by omega)) _).trans ((am_up_nk (by omega)).trans ((congrFun (hFNb.at (by omega) (by omega)) _).trans ((congrFun (hF31.at (by omega) (by omega)) _).trans (h2_29.trans rfl)))))).trans (by exact hK.1))
                    exact w_retV dX8_metreHere_123 rfl ⟨((hF42.wd (by omega) (by omega)).tr ((hF38.wd (by omega) (by omega)).tr (((hFNb.wd (by omega) (by omega)).tr ((hF31.wd (by omega) (by omega)).tr (hF29.wd (by omega) (by omega)))).up (by omega)))), (by exact hP9), (fun k h1 => ((congrFun (hF42.at (by omega) (by omega)) _).trans ((congrFun (hF38.at (by omega) (by omega)) _).trans ((am_up_nk (by omega)).trans ((congrFun (hFNb.at (by omega) (by omega)) _).trans ((congrFun (hF31.at (by omega) (by omega)) _).trans (hf_29 k (by omega)))))))), (RTc.cg2 hR (fun o h1 => ((hF42.at (by omega) (by omega)).trans ((hF38.at (by omega) (by omega)).trans ((am_up_o (by omega)).trans ((hFNb.at (by omega) (by omega)).trans ((hF31.at (by omega) (by omega)).trans (hF29.at (by omega) (by omega)))))))) (fun k h1 => ((congrFun (hF42.at (by omega) (by omega)) _).trans ((congrFun (hF38.at (by omega) (by omega)) _).trans ((am_up_nk (by omega)).trans ((congrFun (hFNb.at (by omega) (by omega)) _).trans ((congrFun (hF31.at (by omega) (by omega)) _).trans (hf_29 _ (by omega))))))))), (by rw [(((congrFun (hF42.at (by omega) (by omega)) _).trans ((congrFun (hF38.at (by omega) (by omega)) _).trans ((am_up_nk (by omega)).trans ((congrFun (hFNb.at (by omega) (by omega)) _).trans ((congrFun (hF31.at (by omega) (by omega)) _).trans (hf_29 _ (by omega))))))).trans (by rfl)), (((congrFun (hF42.at (by omega) (by omega)) _).trans ((congrFun (hF38.at (by omega) (by omega)) _).trans ((am_up_nk (by omega)).trans ((congrFun (hFNb.at (by omega) (by omega)) _).trans ((congrFun (hF31.at (by omega) (by omega)) _).trans (hf_29 _ (by omega))))))).trans (by rfl))]; omega)⟩
        · skip
          exact absurd c45 (by decide)
      · skip
        refine w_iconst dX8_metreHere_32 ?_
        refine w_goto (tgt := 37) dX8_metreHere_33 rfl ?_
        refine w_iconst dX8_metreHere_37 ?_
        refine w_callVV (o := 45) (ci := 8) (as := [(0, 1), (0, 3)]) (rest := []) (k := 0) fX8_metreHere_38 rfl rfl rfl rfl rfl rfl rfl rfl (Nat.le_of_ble_eq_true rfl) (s_X8_must_t X 1 3 μ_29 (Or.inr hb_29) rfl) (fun μ_43 hμ43 => ?_)
        have hF43 := hμ43
        refine w_aload_n dX8_metreHere_41 rfl rfl (by first | decide | omega) ?_
        refine w_getIx (o := 45) (f := 43) (x := 1) fX8_metreHere_42 rfl rfl (Nat.le_of_ble_eq_true rfl) rfl ((congrFun (hF43.at (by omega) (by omega)) _).trans hb_29) ?_
        refine w_if_ne (tgt := 52) dX8_metreHere_45 rfl (R32.in (by decide)) (fun c45 => ?_) (fun c45 => ?_)
        · skip
          refine w_aload_n dX8_metreHere_52 rfl rfl (by first | decide | omega) ?_
          refine w_aload_n dX8_metreHere_53 rfl rfl (by first | decide | omega) ?_
          refine w_iconst dX8_metreHere_54 ?_
          refine w_bipush dX8_metreHere_55 (by decide) ?_
          refine w_callVI (o := 45) (ci := 8) (as := [(0, 1), (0, 12)]) (rest := [(2, 45)]) (k := 1) fX8_metreHere_57 rfl rfl rfl rfl rfl rfl rfl rfl (Nat.le_of_ble_eq_true rfl) (s_X8_numberHere_b X 1 12 μ_43 (by rw [((congrFun (hF43.at (by omega) (by omega)) _).trans (hf_29 _ (by omega)))]; omega) (by rw [((congrFun (hF43.at (by omega) (by omega)) _).trans (hf_29 _ (by omega)))]; omega) ((congrFun (hF43.at (by omega) (by omega)) _).trans hb_29) (by decide)) (fun xNb μNb hμNb => ?_)
          obtain ⟨hFNb, hz_Nb⟩ := hμNb
          refine w_putI (o := 45) (f := 44) fX8_metreHere_60 rfl rfl rfl rfl rfl ?_
          refine w_aload_n dX8_metreHere_63 rfl rfl (by first | decide | omega) ?_
          refine w_aload_n dX8_metreHere_64 rfl rfl (by first | decide | omega) ?_
          refine w_getIx (o := 45) (f := 39) (x := μ 45 39) fX8_metreHere_65 rfl rfl (Nat.le_of_ble_eq_true rfl) rfl ((am_up_nk (by omega)).trans ((congrFun (hFNb.at (by omega) (by omega)) _).trans ((congrFun (hF43.at (by omega) (by omega)) _).trans (hf_29 _ (by omega))))) ?_
          refine w_iconst dX8_metreHere_68 ?_
          refine w_icmp_ne (tgt := 76) dX8_metreHere_69 rfl (R32.in (by omega)) (R32.in (by decide)) (fun c69 => ?_) (fun c69 => ?_)
          · skip
            refine w_iconst dX8_metreHere_76 ?_
            refine w_iconst dX8_metreHere_77 ?_
            refine w_callVV (o := 45) (ci := 8) (as := [(0, 0), (0, 1)]) (rest := []) (k := 0) fX8_metreHere_78 rfl rfl rfl rfl rfl rfl rfl rfl (Nat.le_of_ble_eq_true rfl) (s_X8_must_b X 0 1 (am_up μNb 45 44 xNb) ((am_up_nk (by omega)).trans ((congrFun (hFNb.at (by omega) (by omega)) _).trans ((congrFun (hF43.at (by omega) (by omega)) _).trans hb_29)))) (fun μ_45 hμ45 => ?_)
            have hF45 := hμ45
            refine w_aload_n dX8_metreHere_81 rfl rfl (by first | decide | omega) ?_
            refine w_aload_n dX8_metreHere_82 rfl rfl (by first | decide | omega) ?_
            refine w_getIx (o := 45) (f := 40) (x := μ 45 40) fX8_metreHere_83 rfl rfl (Nat.le_of_ble_eq_true rfl) rfl ((congrFun (hF45.at (by omega) (by omega)) _).trans ((am_up_nk (by omega)).trans ((congrFun (hFNb.at (by omega) (by omega)) _).trans ((congrFun (hF43.at (by omega) (by omega)) _).trans (hf_29 _ (by omega)))))) ?_
            refine w_iconst dX8_metreHere_86 ?_
            refine w_icmp_eq (tgt := 107) dX8_metreHere_87 rfl (R32.in (by omega)) (R32.in (by decide)) (fun c87 => ?_) (fun c87 => ?_)
            · skip
              refine w_iconst dX8_metreHere_107 ?_
              refine w_goto (tgt := 112) dX8_metreHere_108 rfl ?_
              refine w_iconst dX8_metreHere_112 ?_
              refine w_callVV (o := 45) (ci := 8) (as := [(0, 1), (0, 2)]) (rest := []) (k := 0) fX8_metreHere_113 rfl rfl rfl rfl rfl rfl rfl rfl (Nat.le_of_ble_eq_true rfl) (s_X8_must_t X 1 2 μ_45 (Or.inr ((congrFun (hF45.at (by omega) (by omega)) _).trans ((am_up_nk (by omega)).trans ((congrFun (hFNb.at (by omega) (by omega)) _).trans ((congrFun (hF43.at (by omega) (by omega)) _).trans hb_29))))) rfl) (fun μ_46 hμ46 => ?_)
              have hF46 := hμ46
              refine w_aload_n dX8_metreHere_116 rfl rfl (by first | decide | omega) ?_
              refine w_getIx (o := 45) (f := 43) (x := 1) fX8_metreHere_117 rfl rfl (Nat.le_of_ble_eq_true rfl) rfl ((congrFun (hF46.at (by omega) (by omega)) _).trans ((congrFun (hF45.at (by omega) (by omega)) _).trans ((am_up_nk (by omega)).trans ((congrFun (hFNb.at (by omega) (by omega)) _).trans ((congrFun (hF43.at (by omega) (by omega)) _).trans hb_29))))) ?_
              refine w_if_eq (tgt := 124) dX8_metreHere_120 rfl (R32.in (by decide)) (fun c120 => ?_) (fun c120 => ?_)
              · skip
                exact absurd c120 (by decide)
              · skip
                have hP9 : tkL b n (ln0 b n σ 0 (sk b n a) e) μ μ_46 := tkL_no (ln0_1 (Or.inr (by unfold tooL; omega))) (by omega) (((congrFun (hF46.at (by omega) (by omega)) _).trans ((congrFun (hF45.at (by omega) (by omega)) _).trans ((am_up_nk (by omega)).trans ((congrFun (hFNb.at (by omega) (by omega)) _).trans ((congrFun (hF43.at (by omega) (by omega)) _).trans hb_29))))).trans (by rfl)) (((congrFun (hF46.at (by omega) (by omega)) _).trans ((congrFun (hF45.at (by omega) (by omega)) _).trans ((am_up_nk (by omega)).trans ((congrFun (hFNb.at (by omega) (by omega)) _).trans ((congrFun (hF43.at (by omega) (by omega)) _).trans h1_29))))).trans (by rfl)) (((congrFun (hF46.at (by omega) (by omega)) _).trans ((congrFun (hF45.at (by omega) (by omega)) _).trans ((am_up_nk (by omega)).trans ((congrFun (hFNb.at (by omega) (by omega)) _).trans ((congrFun (hF43.at (by omega) (by omega)) _).trans (h2_29.trans rfl)))))).trans (by exact hK.1))
                exact w_retV dX8_metreHere_123 rfl ⟨((hF46.wd (by omega) (by omega)).tr ((hF45.wd (by omega) (by omega)).tr (((hFNb.wd (by omega) (by omega)).tr ((hF43.wd (by omega) (by omega)).tr (hF29.wd (by omega) (by omega)))).up (by omega)))), (by exact hP9), (fun k h1 => ((congrFun (hF46.at (by omega) (by omega)) _).trans ((congrFun (hF45.at (by omega) (by omega)) _).trans ((am_up_nk (by omega)).trans ((congrFun (hFNb.at (by omega) (by omega)) _).trans ((congrFun (hF43.at (by omega) (by omega)) _).trans (hf_29 k (by omega)))))))), (RTc.cg2 hR (fun o h1 => ((hF46.at (by omega) (by omega)).trans ((hF45.at (by omega) (by omega)).trans ((am_up_o (by omega)).trans ((hFNb.at (by omega) (by omega)).trans ((hF43.at (by omega) (by omega)).trans (hF29.at (by omega) (by omega)))))))) (fun k h1 => ((congrFun (hF46.at (by omega) (by omega)) _).trans ((congrFun (hF45.at (by omega) (by omega)) _).trans ((am_up_nk (by omega)).trans ((congrFun (hFNb.at (by omega) (by omega)) _).trans ((congrFun (hF43.at (by omega) (by omega)) _).trans (hf_29 _ (by omega))))))))), (by rw [(((congrFun (hF46.at (by omega) (by omega)) _).trans ((congrFun (hF45.at (by omega) (by omega)) _).trans ((am_up_nk (by omega)).trans ((congrFun (hFNb.at (by omega) (by omega)) _).trans ((congrFun (hF43.at (by omega) (by omega)) _).trans (hf_29 _ (by omega))))))).trans (by rfl)), (((congrFun (hF46.at (by omega) (by omega)) _).trans ((congrFun (hF45.at (by omega) (by omega)) _).trans ((am_up_nk (by omega)).trans ((congrFun (hFNb.at (by omega) (by omega)) _).trans ((congrFun (hF43.at (by omega) (by omega)) _).trans (hf_29 _ (by omega))))))).trans (by rfl))]; omega)⟩
            · skip
              refine w_aload_n dX8_metreHere_90 rfl rfl (by first | decide | omega) ?_
              refine w_getIx (o := 45) (f := 40) (x := μ 45 40) fX8_metreHere_91 rfl rfl (Nat.le_of_ble_eq_true rfl) rfl ((congrFun (hF45.at (by omega) (by omega)) _).trans ((am_up_nk (by omega)).trans ((congrFun (hFNb.at (by omega) (by omega)) _).trans ((congrFun (hF43.at (by omega) (by omega)) _).trans (hf_29 _ (by omega)))))) ?_
              refine w_iconst dX8_metreHere_94 ?_
              refine w_icmp_eq (tgt := 107) dX8_metreHere_95 rfl (R32.in (by omega)) (R32.in (by decide)) (fun c95 => ?_) (fun c95 => ?_)
              · skip
                refine w_iconst dX8_metreHere_107 ?_
                refine w_goto (tgt := 112) dX8_metreHere_108 rfl ?_
                refine w_iconst dX8_metreHere_112 ?_
                refine w_callVV (o := 45) (ci := 8) (as := [(0, 1), (0, 2)]) (rest := []) (k := 0) fX8_metreHere_113 rfl rfl rfl rfl rfl rfl rfl rfl (Nat.le_of_ble_eq_true rfl) (s_X8_must_t X 1 2 μ_45 (Or.inr ((congrFun (hF45.at (by omega) (by omega)) _).trans ((am_up_nk (by omega)).trans ((congrFun (hFNb.at (by omega) (by omega)) _).trans ((congrFun (hF43.at (by omega) (by omega)) _).trans hb_29))))) rfl) (fun μ_47 hμ47 => ?_)
                have hF47 := hμ47
                refine w_aload_n dX8_metreHere_116 rfl rfl (by first | decide | omega) ?_
                refine w_getIx (o := 45) (f := 43) (x := 1) fX8_metreHere_117 rfl rfl (Nat.le_of_ble_eq_true rfl) rfl ((congrFun (hF47.at (by omega) (by omega)) _).trans ((congrFun (hF45.at (by omega) (by omega)) _).trans ((am_up_nk (by omega)).trans ((congrFun (hFNb.at (by omega) (by omega)) _).trans ((congrFun (hF43.at (by omega) (by omega)) _).trans hb_29))))) ?_
                refine w_if_eq (tgt := 124) dX8_metreHere_120 rfl (R32.in (by decide)) (fun c120 => ?_) (fun c120 => ?_)
                · skip
                  exact absurd c120 (by decide)
                · skip
                  have hP9 : tkL b n (ln0 b n σ 0 (sk b n a) e) μ μ_47 := tkL_no (ln0_1 (Or.inr (by unfold tooL; omega))) (by omega) (((congrFun (hF47.at (by omega) (by omega)) _).trans ((congrFun (hF45.at (by omega) (by omega)) _).trans ((am_up_nk (by omega)).trans ((congrFun (hFNb.at (by omega) (by omega)) _).trans ((congrFun (hF43.at (by omega) (by omega)) _).trans hb_29))))).trans (by rfl)) (((congrFun (hF47.at (by omega) (by omega)) _).trans ((congrFun (hF45.at (by omega) (by omega)) _).trans ((am_up_nk (by omega)).trans ((congrFun (hFNb.at (by omega) (by omega)) _).trans ((congrFun (hF43.at (by omega) (by omega)) _).trans h1_29))))).trans (by rfl)) (((congrFun (hF47.at (by omega) (by omega)) _).trans ((congrFun (hF45.at (by omega) (by omega)) _).trans ((am_up_nk (by omega)).trans ((congrFun (hFNb.at (by omega) (by omega)) _).trans ((congrFun (hF43.at (by omega) (by omega)) _).trans (h2_29.trans rfl)))))).trans (by exact hK.1))
                  exact w_retV dX8_metreHere_123 rfl ⟨((hF47.wd (by omega) (by omega)).tr ((hF45.wd (by omega) (by omega)).tr (((hFNb.wd (by omega) (by omega)).tr ((hF43.wd (by omega) (by omega)).tr (hF29.wd (by omega) (by omega)))).up (by omega)))), (by exact hP9), (fun k h1 => ((congrFun (hF47.at (by omega) (by omega)) _).trans ((congrFun (hF45.at (by omega) (by omega)) _).trans ((am_up_nk (by omega)).trans ((congrFun (hFNb.at (by omega) (by omega)) _).trans ((congrFun (hF43.at (by omega) (by omega)) _).trans (hf_29 k (by omega)))))))), (RTc.cg2 hR (fun o h1 => ((hF47.at (by omega) (by omega)).trans ((hF45.at (by omega) (by omega)).trans ((am_up_o (by omega)).trans ((hFNb.at (by omega) (by omega)).trans ((hF43.at (by omega) (by omega)).trans (hF29.at (by omega) (by omega)))))))) (fun k h1 => ((congrFun (hF47.at (by omega) (by omega)) _).trans ((congrFun (hF45.at (by omega) (by omega)) _).trans ((am_up_nk (by omega)).trans ((congrFun (hFNb.at (by omega) (by omega)) _).trans ((congrFun (hF43.at (by omega) (by omega)) _).trans (hf_29 _ (by omega))))))))), (by rw [(((congrFun (hF47.at (by omega) (by omega)) _).trans ((congrFun (hF45.at (by omega) (by omega)) _).trans ((am_up_nk (by omega)).trans ((congrFun (hFNb.at (by omega) (by omega)) _).trans ((congrFun (hF43.at (by omega) (by omega)) _).trans (hf_29 _ (by omega))))))).trans (by rfl)), (((congrFun (hF47.at (by omega) (by omega)) _).trans ((congrFun (hF45.at (by omega) (by omega)) _).trans ((am_up_nk (by omega)).trans ((congrFun (hFNb.at (by omega) (by omega)) _).trans ((congrFun (hF43.at (by omega) (by omega)) _).trans (hf_29 _ (by omega))))))).trans (by rfl))]; omega)⟩
              · skip
                refine w_aload_n dX8_metreHere_98 rfl rfl (by first | decide | omega) ?_
                refine w_getIx (o := 45) (f := 40) (x := μ 45 40) fX8_metreHere_99 rfl rfl (Nat.le_of_ble_eq_true rfl) rfl ((congrFun (hF45.at (by omega) (by omega)) _).trans ((am_up_nk (by omega)).trans ((congrFun (hFNb.at (by omega) (by omega)) _).trans ((congrFun (hF43.at (by omega) (by omega)) _).trans (hf_29 _ (by omega)))))) ?_
                refine w_bipush dX8_metreHere_102 (by decide) ?_
                refine w_icmp_ne (tgt := 111) dX8_metreHere_104 rfl (R32.in (by omega)) (R32.in (by decide)) (fun c104 => ?_) (fun c104 => ?_)
                · skip
                  refine w_iconst dX8_metreHere_111 ?_
                  refine w_iconst dX8_metreHere_112 ?_
                  refine w_callVV (o := 45) (ci := 8) (as := [(0, 0), (0, 2)]) (rest := []) (k := 0) fX8_metreHere_113 rfl rfl rfl rfl rfl rfl rfl rfl (Nat.le_of_ble_eq_true rfl) (s_X8_must_b X 0 2 μ_45 ((congrFun (hF45.at (by omega) (by omega)) _).trans ((am_up_nk (by omega)).trans ((congrFun (hFNb.at (by omega) (by omega)) _).trans ((congrFun (hF43.at (by omega) (by omega)) _).trans hb_29))))) (fun μ_48 hμ48 => ?_)
                  have hF48 := hμ48
                  refine w_aload_n dX8_metreHere_116 rfl rfl (by first | decide | omega) ?_
                  refine w_getIx (o := 45) (f := 43) (x := 1) fX8_metreHere_117 rfl rfl (Nat.le_of_ble_eq_true rfl) rfl ((congrFun (hF48.at (by omega) (by omega)) _).trans ((congrFun (hF45.at (by omega) (by omega)) _).trans ((am_up_nk (by omega)).trans ((congrFun (hFNb.at (by omega) (by omega)) _).trans ((congrFun (hF43.at (by omega) (by omega)) _).trans hb_29))))) ?_
                  refine w_if_eq (tgt := 124) dX8_metreHere_120 rfl (R32.in (by decide)) (fun c120 => ?_) (fun c120 => ?_)
                  · skip
                    exact absurd c120 (by decide)
                  · skip
                    have hP9 : tkL b n (ln0 b n σ 0 (sk b n a) e) μ μ_48 := tkL_no (ln0_1 (Or.inr (by unfold tooL; omega))) (by omega) (((congrFun (hF48.at (by omega) (by omega)) _).trans ((congrFun (hF45.at (by omega) (by omega)) _).trans ((am_up_nk (by omega)).trans ((congrFun (hFNb.at (by omega) (by omega)) _).trans ((congrFun (hF43.at (by omega) (by omega)) _).trans hb_29))))).trans (by rfl)) (((congrFun (hF48.at (by omega) (by omega)) _).trans ((congrFun (hF45.at (by omega) (by omega)) _).trans ((am_up_nk (by omega)).trans ((congrFun (hFNb.at (by omega) (by omega)) _).trans ((congrFun (hF43.at (by omega) (by omega)) _).trans h1_29))))).trans (by rfl)) (((congrFun (hF48.at (by omega) (by omega)) _).trans ((congrFun (hF45.at (by omega) (by omega)) _).trans ((am_up_nk (by omega)).trans ((congrFun (hFNb.at (by omega) (by omega)) _).trans ((congrFun (hF43.at (by omega) (by omega)) _).trans (h2_29.trans rfl)))))).trans (by exact hK.1))
                    exact w_retV dX8_metreHere_123 rfl ⟨((hF48.wd (by omega) (by omega)).tr ((hF45.wd (by omega) (by omega)).tr (((hFNb.wd (by omega) (by omega)).tr ((hF43.wd (by omega) (by omega)).tr (hF29.wd (by omega) (by omega)))).up (by omega)))), (by exact hP9), (fun k h1 => ((congrFun (hF48.at (by omega) (by omega)) _).trans ((congrFun (hF45.at (by omega) (by omega)) _).trans ((am_up_nk (by omega)).trans ((congrFun (hFNb.at (by omega) (by omega)) _).trans ((congrFun (hF43.at (by omega) (by omega)) _).trans (hf_29 k (by omega)))))))), (RTc.cg2 hR (fun o h1 => ((hF48.at (by omega) (by omega)).trans ((hF45.at (by omega) (by omega)).trans ((am_up_o (by omega)).trans ((hFNb.at (by omega) (by omega)).trans ((hF43.at (by omega) (by omega)).trans (hF29.at (by omega) (by omega)))))))) (fun k h1 => ((congrFun (hF48.at (by omega) (by omega)) _).trans ((congrFun (hF45.at (by omega) (by omega)) _).trans ((am_up_nk (by omega)).trans ((congrFun (hFNb.at (by omega) (by omega)) _).trans ((congrFun (hF43.at (by omega) (by omega)) _).trans (hf_29 _ (by omega))))))))), (by rw [(((congrFun (hF48.at (by omega) (by omega)) _).trans ((congrFun (hF45.at (by omega) (by omega)) _).trans ((am_up_nk (by omega)).trans ((congrFun (hFNb.at (by omega) (by omega)) _).trans ((congrFun (hF43.at (by omega) (by omega)) _).trans (hf_29 _ (by omega))))))).trans (by rfl)), (((congrFun (hF48.at (by omega) (by omega)) _).trans ((congrFun (hF45.at (by omega) (by omega)) _).trans ((am_up_nk (by omega)).trans ((congrFun (hFNb.at (by omega) (by omega)) _).trans ((congrFun (hF43.at (by omega) (by omega)) _).trans (hf_29 _ (by omega))))))).trans (by rfl))]; omega)⟩
                · skip
                  refine w_iconst dX8_metreHere_107 ?_
                  refine w_goto (tgt := 112) dX8_metreHere_108 rfl ?_
                  refine w_iconst dX8_metreHere_112 ?_
                  refine w_callVV (o := 45) (ci := 8) (as := [(0, 1), (0, 2)]) (rest := []) (k := 0) fX8_metreHere_113 rfl rfl rfl rfl rfl rfl rfl rfl (Nat.le_of_ble_eq_true rfl) (s_X8_must_t X 1 2 μ_45 (Or.inr ((congrFun (hF45.at (by omega) (by omega)) _).trans ((am_up_nk (by omega)).trans ((congrFun (hFNb.at (by omega) (by omega)) _).trans ((congrFun (hF43.at (by omega) (by omega)) _).trans hb_29))))) rfl) (fun μ_49 hμ49 => ?_)
                  have hF49 := hμ49
                  refine w_aload_n dX8_metreHere_116 rfl rfl (by first | decide | omega) ?_
                  refine w_getIx (o := 45) (f := 43) (x := 1) fX8_metreHere_117 rfl rfl (Nat.le_of_ble_eq_true rfl) rfl ((congrFun (hF49.at (by omega) (by omega)) _).trans ((congrFun (hF45.at (by omega) (by omega)) _).trans ((am_up_nk (by omega)).trans ((congrFun (hFNb.at (by omega) (by omega)) _).trans ((congrFun (hF43.at (by omega) (by omega)) _).trans hb_29))))) ?_
                  refine w_if_eq (tgt := 124) dX8_metreHere_120 rfl (R32.in (by decide)) (fun c120 => ?_) (fun c120 => ?_)
                  · skip
                    exact absurd c120 (by decide)
                  · skip
                    have hP9 : tkL b n (ln0 b n σ 0 (sk b n a) e) μ μ_49 := tkL_no (ln0_1 (Or.inr (by unfold tooL; omega))) (by omega) (((congrFun (hF49.at (by omega) (by omega)) _).trans ((congrFun (hF45.at (by omega) (by omega)) _).trans ((am_up_nk (by omega)).trans ((congrFun (hFNb.at (by omega) (by omega)) _).trans ((congrFun (hF43.at (by omega) (by omega)) _).trans hb_29))))).trans (by rfl)) (((congrFun (hF49.at (by omega) (by omega)) _).trans ((congrFun (hF45.at (by omega) (by omega)) _).trans ((am_up_nk (by omega)).trans ((congrFun (hFNb.at (by omega) (by omega)) _).trans ((congrFun (hF43.at (by omega) (by omega)) _).trans h1_29))))).trans (by rfl)) (((congrFun (hF49.at (by omega) (by omega)) _).trans ((congrFun (hF45.at (by omega) (by omega)) _).trans ((am_up_nk (by omega)).trans ((congrFun (hFNb.at (by omega) (by omega)) _).trans ((congrFun (hF43.at (by omega) (by omega)) _).trans (h2_29.trans rfl)))))).trans (by exact hK.1))
                    exact w_retV dX8_metreHere_123 rfl ⟨((hF49.wd (by omega) (by omega)).tr ((hF45.wd (by omega) (by omega)).tr (((hFNb.wd (by omega) (by omega)).tr ((hF43.wd (by omega) (by omega)).tr (hF29.wd (by omega) (by omega)))).up (by omega)))), (by exact hP9), (fun k h1 => ((congrFun (hF49.at (by omega) (by omega)) _).trans ((congrFun (hF45.at (by omega) (by omega)) _).trans ((am_up_nk (by omega)).trans ((congrFun (hFNb.at (by omega) (by omega)) _).trans ((congrFun (hF43.at (by omega) (by omega)) _).trans (hf_29 k (by omega)))))))), (RTc.cg2 hR (fun o h1 => ((hF49.at (by omega) (by omega)).trans ((hF45.at (by omega) (by omega)).trans ((am_up_o (by omega)).trans ((hFNb.at (by omega) (by omega)).trans ((hF43.at (by omega) (by omega)).trans (hF29.at (by omega) (by omega)))))))) (fun k h1 => ((congrFun (hF49.at (by omega) (by omega)) _).trans ((congrFun (hF45.at (by omega) (by omega)) _).trans ((am_up_nk (by omega)).trans ((congrFun (hFNb.at (by omega) (by omega)) _).trans ((congrFun (hF43.at (by omega) (by omega)) _).trans (hf_29 _ (by omega))))))))), (by rw [(((congrFun (hF49.at (by omega) (by omega)) _).trans ((congrFun (hF45.at (by omega) (by omega)) _).trans ((am_up_nk (by omega)).trans ((congrFun (hFNb.at (by omega) (by omega)) _).trans ((congrFun (hF43.at (by omega) (by omega)) _).trans (hf_29 _ (by omega))))))).trans (by rfl)), (((congrFun (hF49.at (by omega) (by omega)) _).trans ((congrFun (hF45.at (by omega) (by omega)) _).trans ((am_up_nk (by omega)).trans ((congrFun (hFNb.at (by omega) (by omega)) _).trans ((congrFun (hF43.at (by omega) (by omega)) _).trans (hf_29 _ (by omega))))))).trans (by rfl))]; omega)⟩
          · skip
            refine w_iconst dX8_metreHere_72 ?_
            refine w_goto (tgt := 77) dX8_metreHere_73 rfl ?_
            refine w_iconst dX8_metreHere_77 ?_
            refine w_callVV (o := 45) (ci := 8) (as := [(0, 1), (0, 1)]) (rest := []) (k := 0) fX8_metreHere_78 rfl rfl rfl rfl rfl rfl rfl rfl (Nat.le_of_ble_eq_true rfl) (s_X8_must_t X 1 1 (am_up μNb 45 44 xNb) (Or.inr ((am_up_nk (by omega)).trans ((congrFun (hFNb.at (by omega) (by omega)) _).trans ((congrFun (hF43.at (by omega) (by omega)) _).trans hb_29)))) rfl) (fun μ_50 hμ50 => ?_)
            have hF50 := hμ50
            refine w_aload_n dX8_metreHere_81 rfl rfl (by first | decide | omega) ?_
            refine w_aload_n dX8_metreHere_82 rfl rfl (by first | decide | omega) ?_
            refine w_getIx (o := 45) (f := 40) (x := μ 45 40) fX8_metreHere_83 rfl rfl (Nat.le_of_ble_eq_true rfl) rfl ((congrFun (hF50.at (by omega) (by omega)) _).trans ((am_up_nk (by omega)).trans ((congrFun (hFNb.at (by omega) (by omega)) _).trans ((congrFun (hF43.at (by omega) (by omega)) _).trans (hf_29 _ (by omega)))))) ?_
            refine w_iconst dX8_metreHere_86 ?_
            refine w_icmp_eq (tgt := 107) dX8_metreHere_87 rfl (R32.in (by omega)) (R32.in (by decide)) (fun c87 => ?_) (fun c87 => ?_)
            · skip
              refine w_iconst dX8_metreHere_107 ?_
              refine w_goto (tgt := 112) dX8_metreHere_108 rfl ?_
              refine w_iconst dX8_metreHere_112 ?_
              refine w_callVV (o := 45) (ci := 8) (as := [(0, 1), (0, 2)]) (rest := []) (k := 0) fX8_metreHere_113 rfl rfl rfl rfl rfl rfl rfl rfl (Nat.le_of_ble_eq_true rfl) (s_X8_must_t X 1 2 μ_50 (Or.inr ((congrFun (hF50.at (by omega) (by omega)) _).trans ((am_up_nk (by omega)).trans ((congrFun (hFNb.at (by omega) (by omega)) _).trans ((congrFun (hF43.at (by omega) (by omega)) _).trans hb_29))))) rfl) (fun μ_51 hμ51 => ?_)
              have hF51 := hμ51
              refine w_aload_n dX8_metreHere_116 rfl rfl (by first | decide | omega) ?_
              refine w_getIx (o := 45) (f := 43) (x := 1) fX8_metreHere_117 rfl rfl (Nat.le_of_ble_eq_true rfl) rfl ((congrFun (hF51.at (by omega) (by omega)) _).trans ((congrFun (hF50.at (by omega) (by omega)) _).trans ((am_up_nk (by omega)).trans ((congrFun (hFNb.at (by omega) (by omega)) _).trans ((congrFun (hF43.at (by omega) (by omega)) _).trans hb_29))))) ?_
              refine w_if_eq (tgt := 124) dX8_metreHere_120 rfl (R32.in (by decide)) (fun c120 => ?_) (fun c120 => ?_)
              · skip
                exact absurd c120 (by decide)
              · skip
                have hP9 : tkL b n (ln0 b n σ 0 (sk b n a) e) μ μ_51 := tkL_no (ln0_1 (Or.inr (by unfold tooL; omega))) (by omega) (((congrFun (hF51.at (by omega) (by omega)) _).trans ((congrFun (hF50.at (by omega) (by omega)) _).trans ((am_up_nk (by omega)).trans ((congrFun (hFNb.at (by omega) (by omega)) _).trans ((congrFun (hF43.at (by omega) (by omega)) _).trans hb_29))))).trans (by rfl)) (((congrFun (hF51.at (by omega) (by omega)) _).trans ((congrFun (hF50.at (by omega) (by omega)) _).trans ((am_up_nk (by omega)).trans ((congrFun (hFNb.at (by omega) (by omega)) _).trans ((congrFun (hF43.at (by omega) (by omega)) _).trans h1_29))))).trans (by rfl)) (((congrFun (hF51.at (by omega) (by omega)) _).trans ((congrFun (hF50.at (by omega) (by omega)) _).trans ((am_up_nk (by omega)).trans ((congrFun (hFNb.at (by omega) (by omega)) _).trans ((congrFun (hF43.at (by omega) (by omega)) _).trans (h2_29.trans rfl)))))).trans (by exact hK.1))
                exact w_retV dX8_metreHere_123 rfl ⟨((hF51.wd (by omega) (by omega)).tr ((hF50.wd (by omega) (by omega)).tr (((hFNb.wd (by omega) (by omega)).tr ((hF43.wd (by omega) (by omega)).tr (hF29.wd (by omega) (by omega)))).up (by omega)))), (by exact hP9), (fun k h1 => ((congrFun (hF51.at (by omega) (by omega)) _).trans ((congrFun (hF50.at (by omega) (by omega)) _).trans ((am_up_nk (by omega)).trans ((congrFun (hFNb.at (by omega) (by omega)) _).trans ((congrFun (hF43.at (by omega) (by omega)) _).trans (hf_29 k (by omega)))))))), (RTc.cg2 hR (fun o h1 => ((hF51.at (by omega) (by omega)).trans ((hF50.at (by omega) (by omega)).trans ((am_up_o (by omega)).trans ((hFNb.at (by omega) (by omega)).trans ((hF43.at (by omega) (by omega)).trans (hF29.at (by omega) (by omega)))))))) (fun k h1 => ((congrFun (hF51.at (by omega) (by omega)) _).trans ((congrFun (hF50.at (by omega) (by omega)) _).trans ((am_up_nk (by omega)).trans ((congrFun (hFNb.at (by omega) (by omega)) _).trans ((congrFun (hF43.at (by omega) (by omega)) _).trans (hf_29 _ (by omega))))))))), (by rw [(((congrFun (hF51.at (by omega) (by omega)) _).trans ((congrFun (hF50.at (by omega) (by omega)) _).trans ((am_up_nk (by omega)).trans ((congrFun (hFNb.at (by omega) (by omega)) _).trans ((congrFun (hF43.at (by omega) (by omega)) _).trans (hf_29 _ (by omega))))))).trans (by rfl)), (((congrFun (hF51.at (by omega) (by omega)) _).trans ((congrFun (hF50.at (by omega) (by omega)) _).trans ((am_up_nk (by omega)).trans ((congrFun (hFNb.at (by omega) (by omega)) _).trans ((congrFun (hF43.at (by omega) (by omega)) _).trans (hf_29 _ (by omega))))))).trans (by rfl))]; omega)⟩
            · skip
              refine w_aload_n dX8_metreHere_90 rfl rfl (by first | decide | omega) ?_
              refine w_getIx (o := 45) (f := 40) (x := μ 45 40) fX8_metreHere_91 rfl rfl (Nat.le_of_ble_eq_true rfl) rfl ((congrFun (hF50.at (by omega) (by omega)) _).trans ((am_up_nk (by omega)).trans ((congrFun (hFNb.at (by omega) (by omega)) _).trans ((congrFun (hF43.at (by omega) (by omega)) _).trans (hf_29 _ (by omega)))))) ?_
              refine w_iconst dX8_metreHere_94 ?_
              refine w_icmp_eq (tgt := 107) dX8_metreHere_95 rfl (R32.in (by omega)) (R32.in (by decide)) (fun c95 => ?_) (fun c95 => ?_)
              · skip
                refine w_iconst dX8_metreHere_107 ?_
                refine w_goto (tgt := 112) dX8_metreHere_108 rfl ?_
                refine w_iconst dX8_metreHere_112 ?_
                refine w_callVV (o := 45) (ci := 8) (as := [(0, 1), (0, 2)]) (rest := []) (k := 0) fX8_metreHere_113 rfl rfl rfl rfl rfl rfl rfl rfl (Nat.le_of_ble_eq_true rfl) (s_X8_must_t X 1 2 μ_50 (Or.inr ((congrFun (hF50.at (by omega) (by omega)) _).trans ((am_up_nk (by omega)).trans ((congrFun (hFNb.at (by omega) (by omega)) _).trans ((congrFun (hF43.at (by omega) (by omega)) _).trans hb_29))))) rfl) (fun μ_52 hμ52 => ?_)
                have hF52 := hμ52
                refine w_aload_n dX8_metreHere_116 rfl rfl (by first | decide | omega) ?_
                refine w_getIx (o := 45) (f := 43) (x := 1) fX8_metreHere_117 rfl rfl (Nat.le_of_ble_eq_true rfl) rfl ((congrFun (hF52.at (by omega) (by omega)) _).trans ((congrFun (hF50.at (by omega) (by omega)) _).trans ((am_up_nk (by omega)).trans ((congrFun (hFNb.at (by omega) (by omega)) _).trans ((congrFun (hF43.at (by omega) (by omega)) _).trans hb_29))))) ?_
                refine w_if_eq (tgt := 124) dX8_metreHere_120 rfl (R32.in (by decide)) (fun c120 => ?_) (fun c120 => ?_)
                · skip
                  exact absurd c120 (by decide)
                · skip
                  have hP9 : tkL b n (ln0 b n σ 0 (sk b n a) e) μ μ_52 := tkL_no (ln0_1 (Or.inr (by unfold tooL; omega))) (by omega) (((congrFun (hF52.at (by omega) (by omega)) _).trans ((congrFun (hF50.at (by omega) (by omega)) _).trans ((am_up_nk (by omega)).trans ((congrFun (hFNb.at (by omega) (by omega)) _).trans ((congrFun (hF43.at (by omega) (by omega)) _).trans hb_29))))).trans (by rfl)) (((congrFun (hF52.at (by omega) (by omega)) _).trans ((congrFun (hF50.at (by omega) (by omega)) _).trans ((am_up_nk (by omega)).trans ((congrFun (hFNb.at (by omega) (by omega)) _).trans ((congrFun (hF43.at (by omega) (by omega)) _).trans h1_29))))).trans (by rfl)) (((congrFun (hF52.at (by omega) (by omega)) _).trans ((congrFun (hF50.at (by omega) (by omega)) _).trans ((am_up_nk (by omega)).trans ((congrFun (hFNb.at (by omega) (by omega)) _).trans ((congrFun (hF43.at (by omega) (by omega)) _).trans (h2_29.trans rfl)))))).trans (by exact hK.1))
                  exact w_retV dX8_metreHere_123 rfl ⟨((hF52.wd (by omega) (by omega)).tr ((hF50.wd (by omega) (by omega)).tr (((hFNb.wd (by omega) (by omega)).tr ((hF43.wd (by omega) (by omega)).tr (hF29.wd (by omega) (by omega)))).up (by omega)))), (by exact hP9), (fun k h1 => ((congrFun (hF52.at (by omega) (by omega)) _).trans ((congrFun (hF50.at (by omega) (by omega)) _).trans ((am_up_nk (by omega)).trans ((congrFun (hFNb.at (by omega) (by omega)) _).trans ((congrFun (hF43.at (by omega) (by omega)) _).trans (hf_29 k (by omega)))))))), (RTc.cg2 hR (fun o h1 => ((hF52.at (by omega) (by omega)).trans ((hF50.at (by omega) (by omega)).trans ((am_up_o (by omega)).trans ((hFNb.at (by omega) (by omega)).trans ((hF43.at (by omega) (by omega)).trans (hF29.at (by omega) (by omega)))))))) (fun k h1 => ((congrFun (hF52.at (by omega) (by omega)) _).trans ((congrFun (hF50.at (by omega) (by omega)) _).trans ((am_up_nk (by omega)).trans ((congrFun (hFNb.at (by omega) (by omega)) _).trans ((congrFun (hF43.at (by omega) (by omega)) _).trans (hf_29 _ (by omega))))))))), (by rw [(((congrFun (hF52.at (by omega) (by omega)) _).trans ((congrFun (hF50.at (by omega) (by omega)) _).trans ((am_up_nk (by omega)).trans ((congrFun (hFNb.at (by omega) (by omega)) _).trans ((congrFun (hF43.at (by omega) (by omega)) _).trans (hf_29 _ (by omega))))))).trans (by rfl)), (((congrFun (hF52.at (by omega) (by omega)) _).trans ((congrFun (hF50.at (by omega) (by omega)) _).trans ((am_up_nk (by omega)).trans ((congrFun (hFNb.at (by omega) (by omega)) _).trans ((congrFun (hF43.at (by omega) (by omega)) _).trans (hf_29 _ (by omega))))))).trans (by rfl))]; omega)⟩
              · skip
                refine w_aload_n dX8_metreHere_98 rfl rfl (by first | decide | omega) ?_
                refine w_getIx (o := 45) (f := 40) (x := μ 45 40) fX8_metreHere_99 rfl rfl (Nat.le_of_ble_eq_true rfl) rfl ((congrFun (hF50.at (by omega) (by omega)) _).trans ((am_up_nk (by omega)).trans ((congrFun (hFNb.at (by omega) (by omega)) _).trans ((congrFun (hF43.at (by omega) (by omega)) _).trans (hf_29 _ (by omega)))))) ?_
                refine w_bipush dX8_metreHere_102 (by decide) ?_
                refine w_icmp_ne (tgt := 111) dX8_metreHere_104 rfl (R32.in (by omega)) (R32.in (by decide)) (fun c104 => ?_) (fun c104 => ?_)
                · skip
                  refine w_iconst dX8_metreHere_111 ?_
                  refine w_iconst dX8_metreHere_112 ?_
                  refine w_callVV (o := 45) (ci := 8) (as := [(0, 0), (0, 2)]) (rest := []) (k := 0) fX8_metreHere_113 rfl rfl rfl rfl rfl rfl rfl rfl (Nat.le_of_ble_eq_true rfl) (s_X8_must_b X 0 2 μ_50 ((congrFun (hF50.at (by omega) (by omega)) _).trans ((am_up_nk (by omega)).trans ((congrFun (hFNb.at (by omega) (by omega)) _).trans ((congrFun (hF43.at (by omega) (by omega)) _).trans hb_29))))) (fun μ_53 hμ53 => ?_)
                  have hF53 := hμ53
                  refine w_aload_n dX8_metreHere_116 rfl rfl (by first | decide | omega) ?_
                  refine w_getIx (o := 45) (f := 43) (x := 1) fX8_metreHere_117 rfl rfl (Nat.le_of_ble_eq_true rfl) rfl ((congrFun (hF53.at (by omega) (by omega)) _).trans ((congrFun (hF50.at (by omega) (by omega)) _).trans ((am_up_nk (by omega)).trans ((congrFun (hFNb.at (by omega) (by omega)) _).trans ((congrFun (hF43.at (by omega) (by omega)) _).trans hb_29))))) ?_
                  refine w_if_eq (tgt := 124) dX8_metreHere_120 rfl (R32.in (by decide)) (fun c120 => ?_) (fun c120 => ?_)
                  · skip
                    exact absurd c120 (by decide)
                  · skip
                    have hP9 : tkL b n (ln0 b n σ 0 (sk b n a) e) μ μ_53 := tkL_no (ln0_1 (Or.inr (by unfold tooL; omega))) (by omega) (((congrFun (hF53.at (by omega) (by omega)) _).trans ((congrFun (hF50.at (by omega) (by omega)) _).trans ((am_up_nk (by omega)).trans ((congrFun (hFNb.at (by omega) (by omega)) _).trans ((congrFun (hF43.at (by omega) (by omega)) _).trans hb_29))))).trans (by rfl)) (((congrFun (hF53.at (by omega) (by omega)) _).trans ((congrFun (hF50.at (by omega) (by omega)) _).trans ((am_up_nk (by omega)).trans ((congrFun (hFNb.at (by omega) (by omega)) _).trans ((congrFun (hF43.at (by omega) (by omega)) _).trans h1_29))))).trans (by rfl)) (((congrFun (hF53.at (by omega) (by omega)) _).trans ((congrFun (hF50.at (by omega) (by omega)) _).trans ((am_up_nk (by omega)).trans ((congrFun (hFNb.at (by omega) (by omega)) _).trans ((congrFun (hF43.at (by omega) (by omega)) _).trans (h2_29.trans rfl)))))).trans (by exact hK.1))
                    exact w_retV dX8_metreHere_123 rfl ⟨((hF53.wd (by omega) (by omega)).tr ((hF50.wd (by omega) (by omega)).tr (((hFNb.wd (by omega) (by omega)).tr ((hF43.wd (by omega) (by omega)).tr (hF29.wd (by omega) (by omega)))).up (by omega)))), (by exact hP9), (fun k h1 => ((congrFun (hF53.at (by omega) (by omega)) _).trans ((congrFun (hF50.at (by omega) (by omega)) _).trans ((am_up_nk (by omega)).trans ((congrFun (hFNb.at (by omega) (by omega)) _).trans ((congrFun (hF43.at (by omega) (by omega)) _).trans (hf_29 k (by omega)))))))), (RTc.cg2 hR (fun o h1 => ((hF53.at (by omega) (by omega)).trans ((hF50.at (by omega) (by omega)).trans ((am_up_o (by omega)).trans ((hFNb.at (by omega) (by omega)).trans ((hF43.at (by omega) (by omega)).trans (hF29.at (by omega) (by omega)))))))) (fun k h1 => ((congrFun (hF53.at (by omega) (by omega)) _).trans ((congrFun (hF50.at (by omega) (by omega)) _).trans ((am_up_nk (by omega)).trans ((congrFun (hFNb.at (by omega) (by omega)) _).trans ((congrFun (hF43.at (by omega) (by omega)) _).trans (hf_29 _ (by omega))))))))), (by rw [(((congrFun (hF53.at (by omega) (by omega)) _).trans ((congrFun (hF50.at (by omega) (by omega)) _).trans ((am_up_nk (by omega)).trans ((congrFun (hFNb.at (by omega) (by omega)) _).trans ((congrFun (hF43.at (by omega) (by omega)) _).trans (hf_29 _ (by omega))))))).trans (by rfl)), (((congrFun (hF53.at (by omega) (by omega)) _).trans ((congrFun (hF50.at (by omega) (by omega)) _).trans ((am_up_nk (by omega)).trans ((congrFun (hFNb.at (by omega) (by omega)) _).trans ((congrFun (hF43.at (by omega) (by omega)) _).trans (hf_29 _ (by omega))))))).trans (by rfl))]; omega)⟩
                · skip
                  refine w_iconst dX8_metreHere_107 ?_
                  refine w_goto (tgt := 112) dX8_metreHere_108 rfl ?_
                  refine w_iconst dX8_metreHere_112 ?_
                  refine w_callVV (o := 45) (ci := 8) (as := [(0, 1), (0, 2)]) (rest := []) (k := 0) fX8_metreHere_113 rfl rfl rfl rfl rfl rfl rfl rfl (Nat.le_of_ble_eq_true rfl) (s_X8_must_t X 1 2 μ_50 (Or.inr ((congrFun (hF50.at (by omega) (by omega)) _).trans ((am_up_nk (by omega)).trans ((congrFun (hFNb.at (by omega) (by omega)) _).trans ((congrFun (hF43.at (by omega) (by omega)) _).trans hb_29))))) rfl) (fun μ_54 hμ54 => ?_)
                  have hF54 := hμ54
                  refine w_aload_n dX8_metreHere_116 rfl rfl (by first | decide | omega) ?_
                  refine w_getIx (o := 45) (f := 43) (x := 1) fX8_metreHere_117 rfl rfl (Nat.le_of_ble_eq_true rfl) rfl ((congrFun (hF54.at (by omega) (by omega)) _).trans ((congrFun (hF50.at (by omega) (by omega)) _).trans ((am_up_nk (by omega)).trans ((congrFun (hFNb.at (by omega) (by omega)) _).trans ((congrFun (hF43.at (by omega) (by omega)) _).trans hb_29))))) ?_
                  refine w_if_eq (tgt := 124) dX8_metreHere_120 rfl (R32.in (by decide)) (fun c120 => ?_) (fun c120 => ?_)
                  · skip
                    exact absurd c120 (by decide)
                  · skip
                    have hP9 : tkL b n (ln0 b n σ 0 (sk b n a) e) μ μ_54 := tkL_no (ln0_1 (Or.inr (by unfold tooL; omega))) (by omega) (((congrFun (hF54.at (by omega) (by omega)) _).trans ((congrFun (hF50.at (by omega) (by omega)) _).trans ((am_up_nk (by omega)).trans ((congrFun (hFNb.at (by omega) (by omega)) _).trans ((congrFun (hF43.at (by omega) (by omega)) _).trans hb_29))))).trans (by rfl)) (((congrFun (hF54.at (by omega) (by omega)) _).trans ((congrFun (hF50.at (by omega) (by omega)) _).trans ((am_up_nk (by omega)).trans ((congrFun (hFNb.at (by omega) (by omega)) _).trans ((congrFun (hF43.at (by omega) (by omega)) _).trans h1_29))))).trans (by rfl)) (((congrFun (hF54.at (by omega) (by omega)) _).trans ((congrFun (hF50.at (by omega) (by omega)) _).trans ((am_up_nk (by omega)).trans ((congrFun (hFNb.at (by omega) (by omega)) _).trans ((congrFun (hF43.at (by omega) (by omega)) _).trans (h2_29.trans rfl)))))).trans (by exact hK.1))
                    exact w_retV dX8_metreHere_123 rfl ⟨((hF54.wd (by omega) (by omega)).tr ((hF50.wd (by omega) (by omega)).tr (((hFNb.wd (by omega) (by omega)).tr ((hF43.wd (by omega) (by omega)).tr (hF29.wd (by omega) (by omega)))).up (by omega)))), (by exact hP9), (fun k h1 => ((congrFun (hF54.at (by omega) (by omega)) _).trans ((congrFun (hF50.at (by omega) (by omega)) _).trans ((am_up_nk (by omega)).trans ((congrFun (hFNb.at (by omega) (by omega)) _).trans ((congrFun (hF43.at (by omega) (by omega)) _).trans (hf_29 k (by omega)))))))), (RTc.cg2 hR (fun o h1 => ((hF54.at (by omega) (by omega)).trans ((hF50.at (by omega) (by omega)).trans ((am_up_o (by omega)).trans ((hFNb.at (by omega) (by omega)).trans ((hF43.at (by omega) (by omega)).trans (hF29.at (by omega) (by omega)))))))) (fun k h1 => ((congrFun (hF54.at (by omega) (by omega)) _).trans ((congrFun (hF50.at (by omega) (by omega)) _).trans ((am_up_nk (by omega)).trans ((congrFun (hFNb.at (by omega) (by omega)) _).trans ((congrFun (hF43.at (by omega) (by omega)) _).trans (hf_29 _ (by omega))))))))), (by rw [(((congrFun (hF54.at (by omega) (by omega)) _).trans ((congrFun (hF50.at (by omega) (by omega)) _).trans ((am_up_nk (by omega)).trans ((congrFun (hFNb.at (by omega) (by omega)) _).trans ((congrFun (hF43.at (by omega) (by omega)) _).trans (hf_29 _ (by omega))))))).trans (by rfl)), (((congrFun (hF54.at (by omega) (by omega)) _).trans ((congrFun (hF50.at (by omega) (by omega)) _).trans ((am_up_nk (by omega)).trans ((congrFun (hFNb.at (by omega) (by omega)) _).trans ((congrFun (hF43.at (by omega) (by omega)) _).trans (hf_29 _ (by omega))))))).trans (by rfl))]; omega)⟩
        · skip
          exact absurd c45 (by decide)
    · skip
      refine w_iconst dX8_metreHere_15 ?_
      refine w_goto (tgt := 20) dX8_metreHere_16 rfl ?_
      refine w_iconst dX8_metreHere_20 ?_
      refine w_callVV (o := 45) (ci := 8) (as := [(0, 1), (0, 1)]) (rest := []) (k := 0) fX8_metreHere_21 rfl rfl rfl rfl rfl rfl rfl rfl (Nat.le_of_ble_eq_true rfl) (s_X8_must_t X 1 1 μ (Or.inl hb) rfl) (fun μ_55 hμ55 => ?_)
      have hF55 := hμ55
      refine w_aload_n dX8_metreHere_24 rfl rfl (by first | decide | omega) ?_
      refine w_aload_n dX8_metreHere_25 rfl rfl (by first | decide | omega) ?_
      refine w_getIx (o := 45) (f := 54) (x := σ 0 6) fX8_metreHere_26 rfl rfl (Nat.le_of_ble_eq_true rfl) rfl ((congrFun (hF55.at (by omega) (by omega)) _).trans hP.hm) ?_
      have hr56 := hP.ok.1.2.2.2.2.2.2.1
      refine w_if_ne (tgt := 36) dX8_metreHere_29 rfl (R32.in (by omega)) (fun c29 => ?_) (fun c29 => ?_)
      · skip
        have htl : tldS σ 0 = σ 0 6 := by unfold tldS; first | rfl | (rw [if_neg (by omega), if_pos rfl]) | (rw [if_neg (by omega), if_neg (by omega)])
        refine w_iconst dX8_metreHere_36 ?_
        refine w_iconst dX8_metreHere_37 ?_
        refine w_callVV (o := 45) (ci := 8) (as := [(0, 0), (0, 3)]) (rest := []) (k := 0) fX8_metreHere_38 rfl rfl rfl rfl rfl rfl rfl rfl (Nat.le_of_ble_eq_true rfl) (s_X8_must_f X 0 3 μ_55 ((congrFun (hF55.at (by omega) (by omega)) _).trans hb) rfl) (fun μ_57 hμ57 => ?_)
        obtain ⟨hF57, hb_57, h1_57, h2_57, hf_57⟩ := hμ57
        refine w_aload_n dX8_metreHere_41 rfl rfl (by first | decide | omega) ?_
        refine w_getIx (o := 45) (f := 43) (x := 1) fX8_metreHere_42 rfl rfl (Nat.le_of_ble_eq_true rfl) rfl hb_57 ?_
        refine w_if_ne (tgt := 52) dX8_metreHere_45 rfl (R32.in (by decide)) (fun c45 => ?_) (fun c45 => ?_)
        · skip
          refine w_aload_n dX8_metreHere_52 rfl rfl (by first | decide | omega) ?_
          refine w_aload_n dX8_metreHere_53 rfl rfl (by first | decide | omega) ?_
          refine w_iconst dX8_metreHere_54 ?_
          refine w_bipush dX8_metreHere_55 (by decide) ?_
          refine w_callVI (o := 45) (ci := 8) (as := [(0, 1), (0, 12)]) (rest := [(2, 45)]) (k := 1) fX8_metreHere_57 rfl rfl rfl rfl rfl rfl rfl rfl (Nat.le_of_ble_eq_true rfl) (s_X8_numberHere_b X 1 12 μ_57 (by rw [((hf_57 _ (by omega)).trans (congrFun (hF55.at (by omega) (by omega)) _))]; omega) (by rw [((hf_57 _ (by omega)).trans (congrFun (hF55.at (by omega) (by omega)) _))]; omega) hb_57 (by decide)) (fun xNb μNb hμNb => ?_)
          obtain ⟨hFNb, hz_Nb⟩ := hμNb
          refine w_putI (o := 45) (f := 44) fX8_metreHere_60 rfl rfl rfl rfl rfl ?_
          refine w_aload_n dX8_metreHere_63 rfl rfl (by first | decide | omega) ?_
          refine w_aload_n dX8_metreHere_64 rfl rfl (by first | decide | omega) ?_
          refine w_getIx (o := 45) (f := 39) (x := μ 45 39) fX8_metreHere_65 rfl rfl (Nat.le_of_ble_eq_true rfl) rfl ((am_up_nk (by omega)).trans ((congrFun (hFNb.at (by omega) (by omega)) _).trans ((hf_57 _ (by omega)).trans (congrFun (hF55.at (by omega) (by omega)) _)))) ?_
          refine w_iconst dX8_metreHere_68 ?_
          refine w_icmp_ne (tgt := 76) dX8_metreHere_69 rfl (R32.in (by omega)) (R32.in (by decide)) (fun c69 => ?_) (fun c69 => ?_)
          · skip
            refine w_iconst dX8_metreHere_76 ?_
            refine w_iconst dX8_metreHere_77 ?_
            refine w_callVV (o := 45) (ci := 8) (as := [(0, 0), (0, 1)]) (rest := []) (k := 0) fX8_metreHere_78 rfl rfl rfl rfl rfl rfl rfl rfl (Nat.le_of_ble_eq_true rfl) (s_X8_must_b X 0 1 (am_up μNb 45 44 xNb) ((am_up_nk (by omega)).trans ((congrFun (hFNb.at (by omega) (by omega)) _).trans hb_57))) (fun μ_59 hμ59 => ?_)
            have hF59 := hμ59
            refine w_aload_n dX8_metreHere_81 rfl rfl (by first | decide | omega) ?_
            refine w_aload_n dX8_metreHere_82 rfl rfl (by first | decide | omega) ?_
            refine w_getIx (o := 45) (f := 40) (x := μ 45 40) fX8_metreHere_83 rfl rfl (Nat.le_of_ble_eq_true rfl) rfl ((congrFun (hF59.at (by omega) (by omega)) _).trans ((am_up_nk (by omega)).trans ((congrFun (hFNb.at (by omega) (by omega)) _).trans ((hf_57 _ (by omega)).trans (congrFun (hF55.at (by omega) (by omega)) _))))) ?_
            refine w_iconst dX8_metreHere_86 ?_
            refine w_icmp_eq (tgt := 107) dX8_metreHere_87 rfl (R32.in (by omega)) (R32.in (by decide)) (fun c87 => ?_) (fun c87 => ?_)
            · skip
              refine w_iconst dX8_metreHere_107 ?_
              refine w_goto (tgt := 112) dX8_metreHere_108 rfl ?_
              refine w_iconst dX8_metreHere_112 ?_
              refine w_callVV (o := 45) (ci := 8) (as := [(0, 1), (0, 2)]) (rest := []) (k := 0) fX8_metreHere_113 rfl rfl rfl rfl rfl rfl rfl rfl (Nat.le_of_ble_eq_true rfl) (s_X8_must_t X 1 2 μ_59 (Or.inr ((congrFun (hF59.at (by omega) (by omega)) _).trans ((am_up_nk (by omega)).trans ((congrFun (hFNb.at (by omega) (by omega)) _).trans hb_57)))) rfl) (fun μ_60 hμ60 => ?_)
              have hF60 := hμ60
              refine w_aload_n dX8_metreHere_116 rfl rfl (by first | decide | omega) ?_
              refine w_getIx (o := 45) (f := 43) (x := 1) fX8_metreHere_117 rfl rfl (Nat.le_of_ble_eq_true rfl) rfl ((congrFun (hF60.at (by omega) (by omega)) _).trans ((congrFun (hF59.at (by omega) (by omega)) _).trans ((am_up_nk (by omega)).trans ((congrFun (hFNb.at (by omega) (by omega)) _).trans hb_57)))) ?_
              refine w_if_eq (tgt := 124) dX8_metreHere_120 rfl (R32.in (by decide)) (fun c120 => ?_) (fun c120 => ?_)
              · skip
                exact absurd c120 (by decide)
              · skip
                have hP9 : tkL b n (ln0 b n σ 0 (sk b n a) e) μ μ_60 := tkL_no (ln0_3 (by unfold tooL; omega) ⟨by omega, by rw [htl]; exact c29⟩) (by omega) (((congrFun (hF60.at (by omega) (by omega)) _).trans ((congrFun (hF59.at (by omega) (by omega)) _).trans ((am_up_nk (by omega)).trans ((congrFun (hFNb.at (by omega) (by omega)) _).trans hb_57)))).trans (by rfl)) (((congrFun (hF60.at (by omega) (by omega)) _).trans ((congrFun (hF59.at (by omega) (by omega)) _).trans ((am_up_nk (by omega)).trans ((congrFun (hFNb.at (by omega) (by omega)) _).trans h1_57)))).trans (by rfl)) (((congrFun (hF60.at (by omega) (by omega)) _).trans ((congrFun (hF59.at (by omega) (by omega)) _).trans ((am_up_nk (by omega)).trans ((congrFun (hFNb.at (by omega) (by omega)) _).trans (h2_57.trans (congrFun (hF55.at (by omega) (by omega)) _)))))).trans (by exact hK.1))
                exact w_retV dX8_metreHere_123 rfl ⟨((hF60.wd (by omega) (by omega)).tr ((hF59.wd (by omega) (by omega)).tr (((hFNb.wd (by omega) (by omega)).tr ((hF57.wd (by omega) (by omega)).tr (hF55.wd (by omega) (by omega)))).up (by omega)))), (by exact hP9), (fun k h1 => ((congrFun (hF60.at (by omega) (by omega)) _).trans ((congrFun (hF59.at (by omega) (by omega)) _).trans ((am_up_nk (by omega)).trans ((congrFun (hFNb.at (by omega) (by omega)) _).trans ((hf_57 k (by omega)).trans (congrFun (hF55.at (by omega) (by omega)) _))))))), (RTc.cg2 hR (fun o h1 => ((hF60.at (by omega) (by omega)).trans ((hF59.at (by omega) (by omega)).trans ((am_up_o (by omega)).trans ((hFNb.at (by omega) (by omega)).trans ((hF57.at (by omega) (by omega)).trans (hF55.at (by omega) (by omega)))))))) (fun k h1 => ((congrFun (hF60.at (by omega) (by omega)) _).trans ((congrFun (hF59.at (by omega) (by omega)) _).trans ((am_up_nk (by omega)).trans ((congrFun (hFNb.at (by omega) (by omega)) _).trans ((hf_57 _ (by omega)).trans (congrFun (hF55.at (by omega) (by omega)) _)))))))), (by rw [(((congrFun (hF60.at (by omega) (by omega)) _).trans ((congrFun (hF59.at (by omega) (by omega)) _).trans ((am_up_nk (by omega)).trans ((congrFun (hFNb.at (by omega) (by omega)) _).trans ((hf_57 _ (by omega)).trans (congrFun (hF55.at (by omega) (by omega)) _)))))).trans (by rfl)), (((congrFun (hF60.at (by omega) (by omega)) _).trans ((congrFun (hF59.at (by omega) (by omega)) _).trans ((am_up_nk (by omega)).trans ((congrFun (hFNb.at (by omega) (by omega)) _).trans ((hf_57 _ (by omega)).trans (congrFun (hF55.at (by omega) (by omega)) _)))))).trans (by rfl))]; omega)⟩
            · skip
              refine w_aload_n dX8_metreHere_90 rfl rfl (by first | decide | omega) ?_
              refine w_getIx (o := 45) (f := 40) (x := μ 45 40) fX8_metreHere_91 rfl rfl (Nat.le_of_ble_eq_true rfl) rfl ((congrFun (hF59.at (by omega) (by omega)) _).trans ((am_up_nk (by omega)).trans ((congrFun (hFNb.at (by omega) (by omega)) _).trans ((hf_57 _ (by omega)).trans (congrFun (hF55.at (by omega) (by omega)) _))))) ?_
              refine w_iconst dX8_metreHere_94 ?_
              refine w_icmp_eq (tgt := 107) dX8_metreHere_95 rfl (R32.in (by omega)) (R32.in (by decide)) (fun c95 => ?_) (fun c95 => ?_)
              · skip
                refine w_iconst dX8_metreHere_107 ?_
                refine w_goto (tgt := 112) dX8_metreHere_108 rfl ?_
                refine w_iconst dX8_metreHere_112 ?_
                refine w_callVV (o := 45) (ci := 8) (as := [(0, 1), (0, 2)]) (rest := []) (k := 0) fX8_metreHere_113 rfl rfl rfl rfl rfl rfl rfl rfl (Nat.le_of_ble_eq_true rfl) (s_X8_must_t X 1 2 μ_59 (Or.inr ((congrFun (hF59.at (by omega) (by omega)) _).trans ((am_up_nk (by omega)).trans ((congrFun (hFNb.at (by omega) (by omega)) _).trans hb_57)))) rfl) (fun μ_61 hμ61 => ?_)
                have hF61 := hμ61
                refine w_aload_n dX8_metreHere_116 rfl rfl (by first | decide | omega) ?_
                refine w_getIx (o := 45) (f := 43) (x := 1) fX8_metreHere_117 rfl rfl (Nat.le_of_ble_eq_true rfl) rfl ((congrFun (hF61.at (by omega) (by omega)) _).trans ((congrFun (hF59.at (by omega) (by omega)) _).trans ((am_up_nk (by omega)).trans ((congrFun (hFNb.at (by omega) (by omega)) _).trans hb_57)))) ?_
                refine w_if_eq (tgt := 124) dX8_metreHere_120 rfl (R32.in (by decide)) (fun c120 => ?_) (fun c120 => ?_)
                · skip
                  exact absurd c120 (by decide)
                · skip
                  have hP9 : tkL b n (ln0 b n σ 0 (sk b n a) e) μ μ_61 := tkL_no (ln0_3 (by unfold tooL; omega) ⟨by omega, by rw [htl]; exact c29⟩) (by omega) (((congrFun (hF61.at (by omega) (by omega)) _).trans ((congrFun (hF59.at (by omega) (by omega)) _).trans ((am_up_nk (by omega)).trans ((congrFun (hFNb.at (by omega) (by omega)) _).trans hb_57)))).trans (by rfl)) (((congrFun (hF61.at (by omega) (by omega)) _).trans ((congrFun (hF59.at (by omega) (by omega)) _).trans ((am_up_nk (by omega)).trans ((congrFun (hFNb.at (by omega) (by omega)) _).trans h1_57)))).trans (by rfl)) (((congrFun (hF61.at (by omega) (by omega)) _).trans ((congrFun (hF59.at (by omega) (by omega)) _).trans ((am_up_nk (by omega)).trans ((congrFun (hFNb.at (by omega) (by omega)) _).trans (h2_57.trans (congrFun (hF55.at (by omega) (by omega)) _)))))).trans (by exact hK.1))
                  exact w_retV dX8_metreHere_123 rfl ⟨((hF61.wd (by omega) (by omega)).tr ((hF59.wd (by omega) (by omega)).tr (((hFNb.wd (by omega) (by omega)).tr ((hF57.wd (by omega) (by omega)).tr (hF55.wd (by omega) (by omega)))).up (by omega)))), (by exact hP9), (fun k h1 => ((congrFun (hF61.at (by omega) (by omega)) _).trans ((congrFun (hF59.at (by omega) (by omega)) _).trans ((am_up_nk (by omega)).trans ((congrFun (hFNb.at (by omega) (by omega)) _).trans ((hf_57 k (by omega)).trans (congrFun (hF55.at (by omega) (by omega)) _))))))), (RTc.cg2 hR (fun o h1 => ((hF61.at (by omega) (by omega)).trans ((hF59.at (by omega) (by omega)).trans ((am_up_o (by omega)).trans ((hFNb.at (by omega) (by omega)).trans ((hF57.at (by omega) (by omega)).trans (hF55.at (by omega) (by omega)))))))) (fun k h1 => ((congrFun (hF61.at (by omega) (by omega)) _).trans ((congrFun (hF59.at (by omega) (by omega)) _).trans ((am_up_nk (by omega)).trans ((congrFun (hFNb.at (by omega) (by omega)) _).trans ((hf_57 _ (by omega)).trans (congrFun (hF55.at (by omega) (by omega)) _)))))))), (by rw [(((congrFun (hF61.at (by omega) (by omega)) _).trans ((congrFun (hF59.at (by omega) (by omega)) _).trans ((am_up_nk (by omega)).trans ((congrFun (hFNb.at (by omega) (by omega)) _).trans ((hf_57 _ (by omega)).trans (congrFun (hF55.at (by omega) (by omega)) _)))))).trans (by rfl)), (((congrFun (hF61.at (by omega) (by omega)) _).trans ((congrFun (hF59.at (by omega) (by omega)) _).trans ((am_up_nk (by omega)).trans ((congrFun (hFNb.at (by omega) (by omega)) _).trans ((hf_57 _ (by omega)).trans (congrFun (hF55.at (by omega) (by omega)) _)))))).trans (by rfl))]; omega)⟩
              · skip
                refine w_aload_n dX8_metreHere_98 rfl rfl (by first | decide | omega) ?_
                refine w_getIx (o := 45) (f := 40) (x := μ 45 40) fX8_metreHere_99 rfl rfl (Nat.le_of_ble_eq_true rfl) rfl ((congrFun (hF59.at (by omega) (by omega)) _).trans ((am_up_nk (by omega)).trans ((congrFun (hFNb.at (by omega) (by omega)) _).trans ((hf_57 _ (by omega)).trans (congrFun (hF55.at (by omega) (by omega)) _))))) ?_
                refine w_bipush dX8_metreHere_102 (by decide) ?_
                refine w_icmp_ne (tgt := 111) dX8_metreHere_104 rfl (R32.in (by omega)) (R32.in (by decide)) (fun c104 => ?_) (fun c104 => ?_)
                · skip
                  refine w_iconst dX8_metreHere_111 ?_
                  refine w_iconst dX8_metreHere_112 ?_
                  refine w_callVV (o := 45) (ci := 8) (as := [(0, 0), (0, 2)]) (rest := []) (k := 0) fX8_metreHere_113 rfl rfl rfl rfl rfl rfl rfl rfl (Nat.le_of_ble_eq_true rfl) (s_X8_must_b X 0 2 μ_59 ((congrFun (hF59.at (by omega) (by omega)) _).trans ((am_up_nk (by omega)).trans ((congrFun (hFNb.at (by omega) (by omega)) _).trans hb_57)))) (fun μ_62 hμ62 => ?_)
                  have hF62 := hμ62
                  refine w_aload_n dX8_metreHere_116 rfl rfl (by first | decide | omega) ?_
                  refine w_getIx (o := 45) (f := 43) (x := 1) fX8_metreHere_117 rfl rfl (Nat.le_of_ble_eq_true rfl) rfl ((congrFun (hF62.at (by omega) (by omega)) _).trans ((congrFun (hF59.at (by omega) (by omega)) _).trans ((am_up_nk (by omega)).trans ((congrFun (hFNb.at (by omega) (by omega)) _).trans hb_57)))) ?_
                  refine w_if_eq (tgt := 124) dX8_metreHere_120 rfl (R32.in (by decide)) (fun c120 => ?_) (fun c120 => ?_)
                  · skip
                    exact absurd c120 (by decide)
                  · skip
                    have hP9 : tkL b n (ln0 b n σ 0 (sk b n a) e) μ μ_62 := tkL_no (ln0_3 (by unfold tooL; omega) ⟨by omega, by rw [htl]; exact c29⟩) (by omega) (((congrFun (hF62.at (by omega) (by omega)) _).trans ((congrFun (hF59.at (by omega) (by omega)) _).trans ((am_up_nk (by omega)).trans ((congrFun (hFNb.at (by omega) (by omega)) _).trans hb_57)))).trans (by rfl)) (((congrFun (hF62.at (by omega) (by omega)) _).trans ((congrFun (hF59.at (by omega) (by omega)) _).trans ((am_up_nk (by omega)).trans ((congrFun (hFNb.at (by omega) (by omega)) _).trans h1_57)))).trans (by rfl)) (((congrFun (hF62.at (by omega) (by omega)) _).trans ((congrFun (hF59.at (by omega) (by omega)) _).trans ((am_up_nk (by omega)).trans ((congrFun (hFNb.at (by omega) (by omega)) _).trans (h2_57.trans (congrFun (hF55.at (by omega) (by omega)) _)))))).trans (by exact hK.1))
                    exact w_retV dX8_metreHere_123 rfl ⟨((hF62.wd (by omega) (by omega)).tr ((hF59.wd (by omega) (by omega)).tr (((hFNb.wd (by omega) (by omega)).tr ((hF57.wd (by omega) (by omega)).tr (hF55.wd (by omega) (by omega)))).up (by omega)))), (by exact hP9), (fun k h1 => ((congrFun (hF62.at (by omega) (by omega)) _).trans ((congrFun (hF59.at (by omega) (by omega)) _).trans ((am_up_nk (by omega)).trans ((congrFun (hFNb.at (by omega) (by omega)) _).trans ((hf_57 k (by omega)).trans (congrFun (hF55.at (by omega) (by omega)) _))))))), (RTc.cg2 hR (fun o h1 => ((hF62.at (by omega) (by omega)).trans ((hF59.at (by omega) (by omega)).trans ((am_up_o (by omega)).trans ((hFNb.at (by omega) (by omega)).trans ((hF57.at (by omega) (by omega)).trans (hF55.at (by omega) (by omega)))))))) (fun k h1 => ((congrFun (hF62.at (by omega) (by omega)) _).trans ((congrFun (hF59.at (by omega) (by omega)) _).trans ((am_up_nk (by omega)).trans ((congrFun (hFNb.at (by omega) (by omega)) _).trans ((hf_57 _ (by omega)).trans (congrFun (hF55.at (by omega) (by omega)) _)))))))), (by rw [(((congrFun (hF62.at (by omega) (by omega)) _).trans ((congrFun (hF59.at (by omega) (by omega)) _).trans ((am_up_nk (by omega)).trans ((congrFun (hFNb.at (by omega) (by omega)) _).trans ((hf_57 _ (by omega)).trans (congrFun (hF55.at (by omega) (by omega)) _)))))).trans (by rfl)), (((congrFun (hF62.at (by omega) (by omega)) _).trans ((congrFun (hF59.at (by omega) (by omega)) _).trans ((am_up_nk (by omega)).trans ((congrFun (hFNb.at (by omega) (by omega)) _).trans ((hf_57 _ (by omega)).trans (congrFun (hF55.at (by omega) (by omega)) _)))))).trans (by rfl))]; omega)⟩
                · skip
                  refine w_iconst dX8_metreHere_107 ?_
                  refine w_goto (tgt := 112) dX8_metreHere_108 rfl ?_
                  refine w_iconst dX8_metreHere_112 ?_
                  refine w_callVV (o := 45) (ci := 8) (as := [(0, 1), (0, 2)]) (rest := []) (k := 0) fX8_metreHere_113 rfl rfl rfl rfl rfl rfl rfl rfl (Nat.le_of_ble_eq_true rfl) (s_X8_must_t X 1 2 μ_59 (Or.inr ((congrFun (hF59.at (by omega) (by omega)) _).trans ((am_up_nk (by omega)).trans ((congrFun (hFNb.at (by omega) (by omega)) _).trans hb_57)))) rfl) (fun μ_63 hμ63 => ?_)
                  have hF63 := hμ63
                  refine w_aload_n dX8_metreHere_116 rfl rfl (by first | decide | omega) ?_
                  refine w_getIx (o := 45) (f := 43) (x := 1) fX8_metreHere_117 rfl rfl (Nat.le_of_ble_eq_true rfl) rfl ((congrFun (hF63.at (by omega) (by omega)) _).trans ((congrFun (hF59.at (by omega) (by omega)) _).trans ((am_up_nk (by omega)).trans ((congrFun (hFNb.at (by omega) (by omega)) _).trans hb_57)))) ?_
                  refine w_if_eq (tgt := 124) dX8_metreHere_120 rfl (R32.in (by decide)) (fun c120 => ?_) (fun c120 => ?_)
                  · skip
                    exact absurd c120 (by decide)
                  · skip
                    have hP9 : tkL b n (ln0 b n σ 0 (sk b n a) e) μ μ_63 := tkL_no (ln0_3 (by unfold tooL; omega) ⟨by omega, by rw [htl]; exact c29⟩) (by omega) (((congrFun (hF63.at (by omega) (by omega)) _).trans ((congrFun (hF59.at (by omega) (by omega)) _).trans ((am_up_nk (by omega)).trans ((congrFun (hFNb.at (by omega) (by omega)) _).trans hb_57)))).trans (by rfl)) (((congrFun (hF63.at (by omega) (by omega)) _).trans ((congrFun (hF59.at (by omega) (by omega)) _).trans ((am_up_nk (by omega)).trans ((congrFun (hFNb.at (by omega) (by omega)) _).trans h1_57)))).trans (by rfl)) (((congrFun (hF63.at (by omega) (by omega)) _).trans ((congrFun (hF59.at (by omega) (by omega)) _).trans ((am_up_nk (by omega)).trans ((congrFun (hFNb.at (by omega) (by omega)) _).trans (h2_57.trans (congrFun (hF55.at (by omega) (by omega)) _)))))).trans (by exact hK.1))
                    exact w_retV dX8_metreHere_123 rfl ⟨((hF63.wd (by omega) (by omega)).tr ((hF59.wd (by omega) (by omega)).tr (((hFNb.wd (by omega) (by omega)).tr ((hF57.wd (by omega) (by omega)).tr (hF55.wd (by omega) (by omega)))).up (by omega)))), (by exact hP9), (fun k h1 => ((congrFun (hF63.at (by omega) (by omega)) _).trans ((congrFun (hF59.at (by omega) (by omega)) _).trans ((am_up_nk (by omega)).trans ((congrFun (hFNb.at (by omega) (by omega)) _).trans ((hf_57 k (by omega)).trans (congrFun (hF55.at (by omega) (by omega)) _))))))), (RTc.cg2 hR (fun o h1 => ((hF63.at (by omega) (by omega)).trans ((hF59.at (by omega) (by omega)).trans ((am_up_o (by omega)).trans ((hFNb.at (by omega) (by omega)).trans ((hF57.at (by omega) (by omega)).trans (hF55.at (by omega) (by omega)))))))) (fun k h1 => ((congrFun (hF63.at (by omega) (by omega)) _).trans ((congrFun (hF59.at (by omega) (by omega)) _).trans ((am_up_nk (by omega)).trans ((congrFun (hFNb.at (by omega) (by omega)) _).trans ((hf_57 _ (by omega)).trans (congrFun (hF55.at (by omega) (by omega)) _)))))))), (by rw [(((congrFun (hF63.at (by omega) (by omega)) _).trans ((congrFun (hF59.at (by omega) (by omega)) _).trans ((am_up_nk (by omega)).trans ((congrFun (hFNb.at (by omega) (by omega)) _).trans ((hf_57 _ (by omega)).trans (congrFun (hF55.at (by omega) (by omega)) _)))))).trans (by rfl)), (((congrFun (hF63.at (by omega) (by omega)) _).trans ((congrFun (hF59.at (by omega) (by omega)) _).trans ((am_up_nk (by omega)).trans ((congrFun (hFNb.at (by omega) (by omega)) _).trans ((hf_57 _ (by omega)).trans (congrFun (hF55.at (by omega) (by omega)) _)))))).trans (by rfl))]; omega)⟩
          · skip
            refine w_iconst dX8_metreHere_72 ?_
            refine w_goto (tgt := 77) dX8_metreHere_73 rfl ?_
            refine w_iconst dX8_metreHere_77 ?_
            refine w_callVV (o := 45) (ci := 8) (as := [(0, 1), (0, 1)]) (rest := []) (k := 0) fX8_metreHere_78 rfl rfl rfl rfl rfl rfl rfl rfl (Nat.le_of_ble_eq_true rfl) (s_X8_must_t X 1 1 (am_up μNb 45 44 xNb) (Or.inr ((am_up_nk (by omega)).trans ((congrFun (hFNb.at (by omega) (by omega)) _).trans hb_57))) rfl) (fun μ_64 hμ64 => ?_)
            have hF64 := hμ64
            refine w_aload_n dX8_metreHere_81 rfl rfl (by first | decide | omega) ?_
            refine w_aload_n dX8_metreHere_82 rfl rfl (by first | decide | omega) ?_
            refine w_getIx (o := 45) (f := 40) (x := μ 45 40) fX8_metreHere_83 rfl rfl (Nat.le_of_ble_eq_true rfl) rfl ((congrFun (hF64.at (by omega) (by omega)) _).trans ((am_up_nk (by omega)).trans ((congrFun (hFNb.at (by omega) (by omega)) _).trans ((hf_57 _ (by omega)).trans (congrFun (hF55.at (by omega) (by omega)) _))))) ?_
            refine w_iconst dX8_metreHere_86 ?_
            refine w_icmp_eq (tgt := 107) dX8_metreHere_87 rfl (R32.in (by omega)) (R32.in (by decide)) (fun c87 => ?_) (fun c87 => ?_)
            · skip
              refine w_iconst dX8_metreHere_107 ?_
              refine w_goto (tgt := 112) dX8_metreHere_108 rfl ?_
              refine w_iconst dX8_metreHere_112 ?_
              refine w_callVV (o := 45) (ci := 8) (as := [(0, 1), (0, 2)]) (rest := []) (k := 0) fX8_metreHere_113 rfl rfl rfl rfl rfl rfl rfl rfl (Nat.le_of_ble_eq_true rfl) (s_X8_must_t X 1 2 μ_64 (Or.inr ((congrFun (hF64.at (by omega) (by omega)) _).trans ((am_up_nk (by omega)).trans ((congrFun (hFNb.at (by omega) (by omega)) _).trans hb_57)))) rfl) (fun μ_65 hμ65 => ?_)
              have hF65 := hμ65
              refine w_aload_n dX8_metreHere_116 rfl rfl (by first | decide | omega) ?_
              refine w_getIx (o := 45) (f := 43) (x := 1) fX8_metreHere_117 rfl rfl (Nat.le_of_ble_eq_true rfl) rfl ((congrFun (hF65.at (by omega) (by omega)) _).trans ((congrFun (hF64.at (by omega) (by omega)) _).trans ((am_up_nk (by omega)).trans ((congrFun (hFNb.at (by omega) (by omega)) _).trans hb_57)))) ?_
              refine w_if_eq (tgt := 124) dX8_metreHere_120 rfl (R32.in (by decide)) (fun c120 => ?_) (fun c120 => ?_)
              · skip
                exact absurd c120 (by decide)
              · skip
                have hP9 : tkL b n (ln0 b n σ 0 (sk b n a) e) μ μ_65 := tkL_no (ln0_3 (by unfold tooL; omega) ⟨by omega, by rw [htl]; exact c29⟩) (by omega) (((congrFun (hF65.at (by omega) (by omega)) _).trans ((congrFun (hF64.at (by omega) (by omega)) _).trans ((am_up_nk (by omega)).trans ((congrFun (hFNb.at (by omega) (by omega)) _).trans hb_57)))).trans (by rfl)) (((congrFun (hF65.at (by omega) (by omega)) _).trans ((congrFun (hF64.at (by omega) (by omega)) _).trans ((am_up_nk (by omega)).trans ((congrFun (hFNb.at (by omega) (by omega)) _).trans h1_57)))).trans (by rfl)) (((congrFun (hF65.at (by omega) (by omega)) _).trans ((congrFun (hF64.at (by omega) (by omega)) _).trans ((am_up_nk (by omega)).trans ((congrFun (hFNb.at (by omega) (by omega)) _).trans (h2_57.trans (congrFun (hF55.at (by omega) (by omega)) _)))))).trans (by exact hK.1))
                exact w_retV dX8_metreHere_123 rfl ⟨((hF65.wd (by omega) (by omega)).tr ((hF64.wd (by omega) (by omega)).tr (((hFNb.wd (by omega) (by omega)).tr ((hF57.wd (by omega) (by omega)).tr (hF55.wd (by omega) (by omega)))).up (by omega)))), (by exact hP9), (fun k h1 => ((congrFun (hF65.at (by omega) (by omega)) _).trans ((congrFun (hF64.at (by omega) (by omega)) _).trans ((am_up_nk (by omega)).trans ((congrFun (hFNb.at (by omega) (by omega)) _).trans ((hf_57 k (by omega)).trans (congrFun (hF55.at (by omega) (by omega)) _))))))), (RTc.cg2 hR (fun o h1 => ((hF65.at (by omega) (by omega)).trans ((hF64.at (by omega) (by omega)).trans ((am_up_o (by omega)).trans ((hFNb.at (by omega) (by omega)).trans ((hF57.at (by omega) (by omega)).trans (hF55.at (by omega) (by omega)))))))) (fun k h1 => ((congrFun (hF65.at (by omega) (by omega)) _).trans ((congrFun (hF64.at (by omega) (by omega)) _).trans ((am_up_nk (by omega)).trans ((congrFun (hFNb.at (by omega) (by omega)) _).trans ((hf_57 _ (by omega)).trans (congrFun (hF55.at (by omega) (by omega)) _)))))))), (by rw [(((congrFun (hF65.at (by omega) (by omega)) _).trans ((congrFun (hF64.at (by omega) (by omega)) _).trans ((am_up_nk (by omega)).trans ((congrFun (hFNb.at (by omega) (by omega)) _).trans ((hf_57 _ (by omega)).trans (congrFun (hF55.at (by omega) (by omega)) _)))))).trans (by rfl)), (((congrFun (hF65.at (by omega) (by omega)) _).trans ((congrFun (hF64.at (by omega) (by omega)) _).trans ((am_up_nk (by omega)).trans ((congrFun (hFNb.at (by omega) (by omega)) _).trans ((hf_57 _ (by omega)).trans (congrFun (hF55.at (by omega) (by omega)) _)))))).trans (by rfl))]; omega)⟩
            · skip
              refine w_aload_n dX8_metreHere_90 rfl rfl (by first | decide | omega) ?_
              refine w_getIx (o := 45) (f := 40) (x := μ 45 40) fX8_metreHere_91 rfl rfl (Nat.le_of_ble_eq_true rfl) rfl ((congrFun (hF64.at (by omega) (by omega)) _).trans ((am_up_nk (by omega)).trans ((congrFun (hFNb.at (by omega) (by omega)) _).trans ((hf_57 _ (by omega)).trans (congrFun (hF55.at (by omega) (by omega)) _))))) ?_
              refine w_iconst dX8_metreHere_94 ?_
              refine w_icmp_eq (tgt := 107) dX8_metreHere_95 rfl (R32.in (by omega)) (R32.in (by decide)) (fun c95 => ?_) (fun c95 => ?_)
              · skip
                refine w_iconst dX8_metreHere_107 ?_
                refine w_goto (tgt := 112) dX8_metreHere_108 rfl ?_
                refine w_iconst dX8_metreHere_112 ?_
                refine w_callVV (o := 45) (ci := 8) (as := [(0, 1), (0, 2)]) (rest := []) (k := 0) fX8_metreHere_113 rfl rfl rfl rfl rfl rfl rfl rfl (Nat.le_of_ble_eq_true rfl) (s_X8_must_t X 1 2 μ_64 (Or.inr ((congrFun (hF64.at (by omega) (by omega)) _).trans ((am_up_nk (by omega)).trans ((congrFun (hFNb.at (by omega) (by omega)) _).trans hb_57)))) rfl) (fun μ_66 hμ66 => ?_)
                have hF66 := hμ66
                refine w_aload_n dX8_metreHere_116 rfl rfl (by first | decide | omega) ?_
                refine w_getIx (o := 45) (f := 43) (x := 1) fX8_metreHere_117 rfl rfl (Nat.le_of_ble_eq_true rfl) rfl ((congrFun (hF66.at (by omega) (by omega)) _).trans ((congrFun (hF64.at (by omega) (by omega)) _).trans ((am_up_nk (by omega)).trans ((congrFun (hFNb.at (by omega) (by omega)) _).trans hb_57)))) ?_
                refine w_if_eq (tgt := 124) dX8_metreHere_120 rfl (R32.in (by decide)) (fun c120 => ?_) (fun c120 => ?_)
                · skip
                  exact absurd c120 (by decide)
                · skip
                  have hP9 : tkL b n (ln0 b n σ 0 (sk b n a) e) μ μ_66 := tkL_no (ln0_3 (by unfold tooL; omega) ⟨by omega, by rw [htl]; exact c29⟩) (by omega) (((congrFun (hF66.at (by omega) (by omega)) _).trans ((congrFun (hF64.at (by omega) (by omega)) _).trans ((am_up_nk (by omega)).trans ((congrFun (hFNb.at (by omega) (by omega)) _).trans hb_57)))).trans (by rfl)) (((congrFun (hF66.at (by omega) (by omega)) _).trans ((congrFun (hF64.at (by omega) (by omega)) _).trans ((am_up_nk (by omega)).trans ((congrFun (hFNb.at (by omega) (by omega)) _).trans h1_57)))).trans (by rfl)) (((congrFun (hF66.at (by omega) (by omega)) _).trans ((congrFun (hF64.at (by omega) (by omega)) _).trans ((am_up_nk (by omega)).trans ((congrFun (hFNb.at (by omega) (by omega)) _).trans (h2_57.trans (congrFun (hF55.at (by omega) (by omega)) _)))))).trans (by exact hK.1))
                  exact w_retV dX8_metreHere_123 rfl ⟨((hF66.wd (by omega) (by omega)).tr ((hF64.wd (by omega) (by omega)).tr (((hFNb.wd (by omega) (by omega)).tr ((hF57.wd (by omega) (by omega)).tr (hF55.wd (by omega) (by omega)))).up (by omega)))), (by exact hP9), (fun k h1 => ((congrFun (hF66.at (by omega) (by omega)) _).trans ((congrFun (hF64.at (by omega) (by omega)) _).trans ((am_up_nk (by omega)).trans ((congrFun (hFNb.at (by omega) (by omega)) _).trans ((hf_57 k (by omega)).trans (congrFun (hF55.at (by omega) (by omega)) _))))))), (RTc.cg2 hR (fun o h1 => ((hF66.at (by omega) (by omega)).trans ((hF64.at (by omega) (by omega)).trans ((am_up_o (by omega)).trans ((hFNb.at (by omega) (by omega)).trans ((hF57.at (by omega) (by omega)).trans (hF55.at (by omega) (by omega)))))))) (fun k h1 => ((congrFun (hF66.at (by omega) (by omega)) _).trans ((congrFun (hF64.at (by omega) (by omega)) _).trans ((am_up_nk (by omega)).trans ((congrFun (hFNb.at (by omega) (by omega)) _).trans ((hf_57 _ (by omega)).trans (congrFun (hF55.at (by omega) (by omega)) _)))))))), (by rw [(((congrFun (hF66.at (by omega) (by omega)) _).trans ((congrFun (hF64.at (by omega) (by omega)) _).trans ((am_up_nk (by omega)).trans ((congrFun (hFNb.at (by omega) (by omega)) _).trans ((hf_57 _ (by omega)).trans (congrFun (hF55.at (by omega) (by omega)) _)))))).trans (by rfl)), (((congrFun (hF66.at (by omega) (by omega)) _).trans ((congrFun (hF64.at (by omega) (by omega)) _).trans ((am_up_nk (by omega)).trans ((congrFun (hFNb.at (by omega) (by omega)) _).trans ((hf_57 _ (by omega)).trans (congrFun (hF55.at (by omega) (by omega)) _)))))).trans (by rfl))]; omega)⟩
              · skip
                refine w_aload_n dX8_metreHere_98 rfl rfl (by first | decide | omega) ?_
                refine w_getIx (o := 45) (f := 40) (x := μ 45 40) fX8_metreHere_99 rfl rfl (Nat.le_of_ble_eq_true rfl) rfl ((congrFun (hF64.at (by omega) (by omega)) _).trans ((am_up_nk (by omega)).trans ((congrFun (hFNb.at (by omega) (by omega)) _).trans ((hf_57 _ (by omega)).trans (congrFun (hF55.at (by omega) (by omega)) _))))) ?_
                refine w_bipush dX8_metreHere_102 (by decide) ?_
                refine w_icmp_ne (tgt := 111) dX8_metreHere_104 rfl (R32.in (by omega)) (R32.in (by decide)) (fun c104 => ?_) (fun c104 => ?_)
                · skip
                  refine w_iconst dX8_metreHere_111 ?_
                  refine w_iconst dX8_metreHere_112 ?_
                  refine w_callVV (o := 45) (ci := 8) (as := [(0, 0), (0, 2)]) (rest := []) (k := 0) fX8_metreHere_113 rfl rfl rfl rfl rfl rfl rfl rfl (Nat.le_of_ble_eq_true rfl) (s_X8_must_b X 0 2 μ_64 ((congrFun (hF64.at (by omega) (by omega)) _).trans ((am_up_nk (by omega)).trans ((congrFun (hFNb.at (by omega) (by omega)) _).trans hb_57)))) (fun μ_67 hμ67 => ?_)
                  have hF67 := hμ67
                  refine w_aload_n dX8_metreHere_116 rfl rfl (by first | decide | omega) ?_
                  refine w_getIx (o := 45) (f := 43) (x := 1) fX8_metreHere_117 rfl rfl (Nat.le_of_ble_eq_true rfl) rfl ((congrFun (hF67.at (by omega) (by omega)) _).trans ((congrFun (hF64.at (by omega) (by omega)) _).trans ((am_up_nk (by omega)).trans ((congrFun (hFNb.at (by omega) (by omega)) _).trans hb_57)))) ?_
                  refine w_if_eq (tgt := 124) dX8_metreHere_120 rfl (R32.in (by decide)) (fun c120 => ?_) (fun c120 => ?_)
                  · skip
                    exact absurd c120 (by decide)
                  · skip
                    have hP9 : tkL b n (ln0 b n σ 0 (sk b n a) e) μ μ_67 := tkL_no (ln0_3 (by unfold tooL; omega) ⟨by omega, by rw [htl]; exact c29⟩) (by omega) (((congrFun (hF67.at (by omega) (by omega)) _).trans ((congrFun (hF64.at (by omega) (by omega)) _).trans ((am_up_nk (by omega)).trans ((congrFun (hFNb.at (by omega) (by omega)) _).trans hb_57)))).trans (by rfl)) (((congrFun (hF67.at (by omega) (by omega)) _).trans ((congrFun (hF64.at (by omega) (by omega)) _).trans ((am_up_nk (by omega)).trans ((congrFun (hFNb.at (by omega) (by omega)) _).trans h1_57)))).trans (by rfl)) (((congrFun (hF67.at (by omega) (by omega)) _).trans ((congrFun (hF64.at (by omega) (by omega)) _).trans ((am_up_nk (by omega)).trans ((congrFun (hFNb.at (by omega) (by omega)) _).trans (h2_57.trans (congrFun (hF55.at (by omega) (by omega)) _)))))).trans (by exact hK.1))
                    exact w_retV dX8_metreHere_123 rfl ⟨((hF67.wd (by omega) (by omega)).tr ((hF64.wd (by omega) (by omega)).tr (((hFNb.wd (by omega) (by omega)).tr ((hF57.wd (by omega) (by omega)).tr (hF55.wd (by omega) (by omega)))).up (by omega)))), (by exact hP9), (fun k h1 => ((congrFun (hF67.at (by omega) (by omega)) _).trans ((congrFun (hF64.at (by omega) (by omega)) _).trans ((am_up_nk (by omega)).trans ((congrFun (hFNb.at (by omega) (by omega)) _).trans ((hf_57 k (by omega)).trans (congrFun (hF55.at (by omega) (by omega)) _))))))), (RTc.cg2 hR (fun o h1 => ((hF67.at (by omega) (by omega)).trans ((hF64.at (by omega) (by omega)).trans ((am_up_o (by omega)).trans ((hFNb.at (by omega) (by omega)).trans ((hF57.at (by omega) (by omega)).trans (hF55.at (by omega) (by omega)))))))) (fun k h1 => ((congrFun (hF67.at (by omega) (by omega)) _).trans ((congrFun (hF64.at (by omega) (by omega)) _).trans ((am_up_nk (by omega)).trans ((congrFun (hFNb.at (by omega) (by omega)) _).trans ((hf_57 _ (by omega)).trans (congrFun (hF55.at (by omega) (by omega)) _)))))))), (by rw [(((congrFun (hF67.at (by omega) (by omega)) _).trans ((congrFun (hF64.at (by omega) (by omega)) _).trans ((am_up_nk (by omega)).trans ((congrFun (hFNb.at (by omega) (by omega)) _).trans ((hf_57 _ (by omega)).trans (congrFun (hF55.at (by omega) (by omega)) _)))))).trans (by rfl)), (((congrFun (hF67.at (by omega) (by omega)) _).trans ((congrFun (hF64.at (by omega) (by omega)) _).trans ((am_up_nk (by omega)).trans ((congrFun (hFNb.at (by omega) (by omega)) _).trans ((hf_57 _ (by omega)).trans (congrFun (hF55.at (by omega) (by omega)) _)))))).trans (by rfl))]; omega)⟩
                · skip
                  refine w_iconst dX8_metreHere_107 ?_
                  refine w_goto (tgt := 112) dX8_metreHere_108 rfl ?_
                  refine w_iconst dX8_metreHere_112 ?_
                  refine w_callVV (o := 45) (ci := 8) (as := [(0, 1), (0, 2)]) (rest := []) (k := 0) fX8_metreHere_113 rfl rfl rfl rfl rfl rfl rfl rfl (Nat.le_of_ble_eq_true rfl) (s_X8_must_t X 1 2 μ_64 (Or.inr ((congrFun (hF64.at (by omega) (by omega)) _).trans ((am_up_nk (by omega)).trans ((congrFun (hFNb.at (by omega) (by omega)) _).trans hb_57)))) rfl) (fun μ_68 hμ68 => ?_)
                  have hF68 := hμ68
                  refine w_aload_n dX8_metreHere_116 rfl rfl (by first | decide | omega) ?_
                  refine w_getIx (o := 45) (f := 43) (x := 1) fX8_metreHere_117 rfl rfl (Nat.le_of_ble_eq_true rfl) rfl ((congrFun (hF68.at (by omega) (by omega)) _).trans ((congrFun (hF64.at (by omega) (by omega)) _).trans ((am_up_nk (by omega)).trans ((congrFun (hFNb.at (by omega) (by omega)) _).trans hb_57)))) ?_
                  refine w_if_eq (tgt := 124) dX8_metreHere_120 rfl (R32.in (by decide)) (fun c120 => ?_) (fun c120 => ?_)
                  · skip
                    exact absurd c120 (by decide)
                  · skip
                    have hP9 : tkL b n (ln0 b n σ 0 (sk b n a) e) μ μ_68 := tkL_no (ln0_3 (by unfold tooL; omega) ⟨by omega, by rw [htl]; exact c29⟩) (by omega) (((congrFun (hF68.at (by omega) (by omega)) _).trans ((congrFun (hF64.at (by omega) (by omega)) _).trans ((am_up_nk (by omega)).trans ((congrFun (hFNb.at (by omega) (by omega)) _).trans hb_57)))).trans (by rfl)) (((congrFun (hF68.at (by omega) (by omega)) _).trans ((congrFun (hF64.at (by omega) (by omega)) _).trans ((am_up_nk (by omega)).trans ((congrFun (hFNb.at (by omega) (by omega)) _).trans h1_57)))).trans (by rfl)) (((congrFun (hF68.at (by omega) (by omega)) _).trans ((congrFun (hF64.at (by omega) (by omega)) _).trans ((am_up_nk (by omega)).trans ((congrFun (hFNb.at (by omega) (by omega)) _).trans (h2_57.trans (congrFun (hF55.at (by omega) (by omega)) _)))))).trans (by exact hK.1))
                    exact w_retV dX8_metreHere_123 rfl ⟨((hF68.wd (by omega) (by omega)).tr ((hF64.wd (by omega) (by omega)).tr (((hFNb.wd (by omega) (by omega)).tr ((hF57.wd (by omega) (by omega)).tr (hF55.wd (by omega) (by omega)))).up (by omega)))), (by exact hP9), (fun k h1 => ((congrFun (hF68.at (by omega) (by omega)) _).trans ((congrFun (hF64.at (by omega) (by omega)) _).trans ((am_up_nk (by omega)).trans ((congrFun (hFNb.at (by omega) (by omega)) _).trans ((hf_57 k (by omega)).trans (congrFun (hF55.at (by omega) (by omega)) _))))))), (RTc.cg2 hR (fun o h1 => ((hF68.at (by omega) (by omega)).trans ((hF64.at (by omega) (by omega)).trans ((am_up_o (by omega)).trans ((hFNb.at (by omega) (by omega)).trans ((hF57.at (by omega) (by omega)).trans (hF55.at (by omega) (by omega)))))))) (fun k h1 => ((congrFun (hF68.at (by omega) (by omega)) _).trans ((congrFun (hF64.at (by omega) (by omega)) _).trans ((am_up_nk (by omega)).trans ((congrFun (hFNb.at (by omega) (by omega)) _).trans ((hf_57 _ (by omega)).trans (congrFun (hF55.at (by omega) (by omega)) _)))))))), (by rw [(((congrFun (hF68.at (by omega) (by omega)) _).trans ((congrFun (hF64.at (by omega) (by omega)) _).trans ((am_up_nk (by omega)).trans ((congrFun (hFNb.at (by omega) (by omega)) _).trans ((hf_57 _ (by omega)).trans (congrFun (hF55.at (by omega) (by omega)) _)))))).trans (by rfl)), (((congrFun (hF68.at (by omega) (by omega)) _).trans ((congrFun (hF64.at (by omega) (by omega)) _).trans ((am_up_nk (by omega)).trans ((congrFun (hFNb.at (by omega) (by omega)) _).trans ((hf_57 _ (by omega)).trans (congrFun (hF55.at (by omega) (by omega)) _)))))).trans (by rfl))]; omega)⟩
        · skip
          exact absurd c45 (by decide)
      · skip
        have hn1 : ¬ ((0 : Int) = -1 ∨ tooL σ 0) := by unfold tooL; omega
        have htl : tldS σ 0 = σ 0 6 := by unfold tldS; first | rfl | (rw [if_neg (by omega), if_pos rfl]) | (rw [if_neg (by omega), if_neg (by omega)])
        have hl9 : ln0 b n σ 0 (sk b n a) e = lMet b n σ e := by rw [ln0_b hn1 (by rw [htl]; omega) (by omega), lBod_0]
        refine w_iconst dX8_metreHere_32 ?_
        refine w_goto (tgt := 37) dX8_metreHere_33 rfl ?_
        refine w_iconst dX8_metreHere_37 ?_
        refine w_callVV (o := 45) (ci := 8) (as := [(0, 1), (0, 3)]) (rest := []) (k := 0) fX8_metreHere_38 rfl rfl rfl rfl rfl rfl rfl rfl (Nat.le_of_ble_eq_true rfl) (s_X8_must_t X 1 3 μ_55 (Or.inl ((congrFun (hF55.at (by omega) (by omega)) _).trans hb)) rfl) (fun μ_69 hμ69 => ?_)
        have hF69 := hμ69
        refine w_aload_n dX8_metreHere_41 rfl rfl (by first | decide | omega) ?_
        refine w_getIx (o := 45) (f := 43) (x := 0) fX8_metreHere_42 rfl rfl (Nat.le_of_ble_eq_true rfl) rfl ((congrFun (hF69.at (by omega) (by omega)) _).trans ((congrFun (hF55.at (by omega) (by omega)) _).trans hb)) ?_
        refine w_if_ne (tgt := 52) dX8_metreHere_45 rfl (R32.in (by decide)) (fun c45 => ?_) (fun c45 => ?_)
        · skip
          exact absurd c45 (by decide)
        · skip
          have h37c : μ_69 45 37 = e := (((congrFun (hF69.at (by omega) (by omega)) _).trans (congrFun (hF55.at (by omega) (by omega)) _)).trans (by exact he))
          have hatc : 0 ≤ μ_69 45 37 ∧ μ_69 45 37 ≤ n := by rw [h37c]; exact hae
          refine w_aload_n dX8_metreHere_48 rfl rfl (by first | decide | omega) ?_
          refine w_callVV (o := 45) (ci := 8) (as := []) (rest := []) (k := 1) fX8_metreHere_49 rfl rfl rfl rfl rfl rfl rfl rfl (Nat.le_of_ble_eq_true rfl) (s_X8_advance X b n μ_69 (RTc.cg2 hR (fun o h1 => ((hF69.at (by omega) (by omega)).trans (hF55.at (by omega) (by omega)))) (fun k h1 => ((congrFun (hF69.at (by omega) (by omega)) _).trans (congrFun (hF55.at (by omega) (by omega)) _)))) hatc) (fun μV hμV => ?_)
          obtain ⟨hFV, htk_V, hf_V, hR_V, hat_V⟩ := hμV
          rw [h37c] at htk_V
          have h41V : μV 45 41 = μ 45 41 := (((hf_V _ (by omega)).trans ((congrFun (hF69.at (by omega) (by omega)) _).trans (congrFun (hF55.at (by omega) (by omega)) _))).trans (by rfl))
          have h42V : μV 45 42 = μ 45 42 := (((hf_V _ (by omega)).trans ((congrFun (hF69.at (by omega) (by omega)) _).trans (congrFun (hF55.at (by omega) (by omega)) _))).trans (by rfl))
          refine w_aload_n dX8_metreHere_52 rfl rfl (by first | decide | omega) ?_
          refine w_aload_n dX8_metreHere_53 rfl rfl (by first | decide | omega) ?_
          refine w_iconst dX8_metreHere_54 ?_
          refine w_bipush dX8_metreHere_55 (by decide) ?_
          refine w_callVI (o := 45) (ci := 8) (as := [(0, 1), (0, 12)]) (rest := [(2, 45)]) (k := 1) fX8_metreHere_57 rfl rfl rfl rfl rfl rfl rfl rfl (Nat.le_of_ble_eq_true rfl) (s_X8_numberHere X b n e 1 12 μV hR_V (by first | omega | assumption) htk_V hae ((hf_V _ (by omega)).trans ((congrFun (hF69.at (by omega) (by omega)) _).trans ((congrFun (hF55.at (by omega) (by omega)) _).trans hb))) (by decide)) (fun xN μN hμN => ?_)
          obtain ⟨hFN, hz_N, hf_N, hR_N, htr_N⟩ := hμN
          rcases hz_N with hN | hN
          · skip
            have hKN := hN.2.2.2.1
            have hrN := hKN.r
            have hvN := hKN.v hbb hN.2.2.2.2.1
            have hatN := hKN.at hN.2.2.2.2.1
            have hw9 := nW_z hN.1
            have hv1 : 1 ≤ (nW b n 1 12 e).2.2.1 ∧ (nW b n 1 12 e).2.2.1 ≤ 12 := by rw [hw9.2.2]; exact hw9.2.1
            refine w_putI (o := 45) (f := 44) fX8_metreHere_60 rfl rfl rfl rfl rfl ?_
            refine w_aload_n dX8_metreHere_63 rfl rfl (by first | decide | omega) ?_
            refine w_aload_n dX8_metreHere_64 rfl rfl (by first | decide | omega) ?_
            refine w_getIx (o := 45) (f := 39) (x := μN 45 39) fX8_metreHere_65 rfl rfl (Nat.le_of_ble_eq_true rfl) rfl (am_up_nk (by omega)) ?_
            refine w_iconst dX8_metreHere_68 ?_
            refine w_icmp_ne (tgt := 76) dX8_metreHere_69 rfl (R32.in (by omega)) (R32.in (by decide)) (fun c69 => ?_) (fun c69 => ?_)
            · skip
              have hM2 := hKN.n2 c69
              refine w_iconst dX8_metreHere_76 ?_
              refine w_iconst dX8_metreHere_77 ?_
              refine w_callVV (o := 45) (ci := 8) (as := [(0, 0), (0, 1)]) (rest := []) (k := 0) fX8_metreHere_78 rfl rfl rfl rfl rfl rfl rfl rfl (Nat.le_of_ble_eq_true rfl) (s_X8_must_f X 0 1 (am_up μN 45 44 xN) ((am_up_nk (by omega)).trans hN.2.2.1) rfl) (fun μ_72 hμ72 => ?_)
              obtain ⟨hF72, hb_72, h1_72, h2_72, hf_72⟩ := hμ72
              refine w_aload_n dX8_metreHere_81 rfl rfl (by first | decide | omega) ?_
              refine w_aload_n dX8_metreHere_82 rfl rfl (by first | decide | omega) ?_
              refine w_getIx (o := 45) (f := 40) (x := μN 45 40) fX8_metreHere_83 rfl rfl (Nat.le_of_ble_eq_true rfl) rfl ((hf_72 _ (by omega)).trans (am_up_nk (by omega))) ?_
              refine w_iconst dX8_metreHere_86 ?_
              refine w_icmp_eq (tgt := 107) dX8_metreHere_87 rfl (R32.in (by omega)) (R32.in (by decide)) (fun c87 => ?_) (fun c87 => ?_)
              · skip
                refine w_iconst dX8_metreHere_107 ?_
                refine w_goto (tgt := 112) dX8_metreHere_108 rfl ?_
                refine w_iconst dX8_metreHere_112 ?_
                refine w_callVV (o := 45) (ci := 8) (as := [(0, 1), (0, 2)]) (rest := []) (k := 0) fX8_metreHere_113 rfl rfl rfl rfl rfl rfl rfl rfl (Nat.le_of_ble_eq_true rfl) (s_X8_must_t X 1 2 μ_72 (Or.inr hb_72) rfl) (fun μ_73 hμ73 => ?_)
                have hF73 := hμ73
                refine w_aload_n dX8_metreHere_116 rfl rfl (by first | decide | omega) ?_
                refine w_getIx (o := 45) (f := 43) (x := 1) fX8_metreHere_117 rfl rfl (Nat.le_of_ble_eq_true rfl) rfl ((congrFun (hF73.at (by omega) (by omega)) _).trans hb_72) ?_
                refine w_if_eq (tgt := 124) dX8_metreHere_120 rfl (R32.in (by decide)) (fun c120 => ?_) (fun c120 => ?_)
                · skip
                  exact absurd c120 (by decide)
                · skip
                  have hP9 : tkL b n (ln0 b n σ 0 (sk b n a) e) μ μ_73 := tkL_no (by rw [hl9]; unfold lMet; rw [if_neg (fun q9 => q9 hN.1), if_pos hM2]) (by omega) (((congrFun (hF73.at (by omega) (by omega)) _).trans hb_72).trans (by rfl)) (((congrFun (hF73.at (by omega) (by omega)) _).trans h1_72).trans (by rfl)) (((congrFun (hF73.at (by omega) (by omega)) _).trans (h2_72.trans (am_up_nk (by omega)))).trans (by exact hKN.1))
                  exact w_retV dX8_metreHere_123 rfl ⟨((hF73.wd (by omega) (by omega)).tr ((hF72.wd (by omega) (by omega)).tr (((hFN.wd (by omega) (by omega)).tr ((hFV.wd (by omega) (by omega)).tr ((hF69.wd (by omega) (by omega)).tr (hF55.wd (by omega) (by omega))))).up (by omega)))), (by exact hP9), (fun k h1 => ((congrFun (hF73.at (by omega) (by omega)) _).trans ((hf_72 k (by omega)).trans ((am_up_nk (by omega)).trans ((hf_N k (by omega)).trans ((hf_V k (by omega)).trans ((congrFun (hF69.at (by omega) (by omega)) _).trans (congrFun (hF55.at (by omega) (by omega)) _)))))))), (RTc.cg2 hR_N (fun o h1 => ((hF73.at (by omega) (by omega)).trans ((hF72.at (by omega) (by omega)).trans (am_up_o (by omega))))) (fun k h1 => ((congrFun (hF73.at (by omega) (by omega)) _).trans ((hf_72 _ (by omega)).trans (am_up_nk (by omega)))))), (by rw [(((congrFun (hF73.at (by omega) (by omega)) _).trans ((hf_72 _ (by omega)).trans (am_up_nk (by omega)))).trans (by rfl)), (((congrFun (hF73.at (by omega) (by omega)) _).trans ((hf_72 _ (by omega)).trans (am_up_nk (by omega)))).trans (by rfl))]; omega)⟩
              · skip
                refine w_aload_n dX8_metreHere_90 rfl rfl (by first | decide | omega) ?_
                refine w_getIx (o := 45) (f := 40) (x := μN 45 40) fX8_metreHere_91 rfl rfl (Nat.le_of_ble_eq_true rfl) rfl ((hf_72 _ (by omega)).trans (am_up_nk (by omega))) ?_
                refine w_iconst dX8_metreHere_94 ?_
                refine w_icmp_eq (tgt := 107) dX8_metreHere_95 rfl (R32.in (by omega)) (R32.in (by decide)) (fun c95 => ?_) (fun c95 => ?_)
                · skip
                  refine w_iconst dX8_metreHere_107 ?_
                  refine w_goto (tgt := 112) dX8_metreHere_108 rfl ?_
                  refine w_iconst dX8_metreHere_112 ?_
                  refine w_callVV (o := 45) (ci := 8) (as := [(0, 1), (0, 2)]) (rest := []) (k := 0) fX8_metreHere_113 rfl rfl rfl rfl rfl rfl rfl rfl (Nat.le_of_ble_eq_true rfl) (s_X8_must_t X 1 2 μ_72 (Or.inr hb_72) rfl) (fun μ_74 hμ74 => ?_)
                  have hF74 := hμ74
                  refine w_aload_n dX8_metreHere_116 rfl rfl (by first | decide | omega) ?_
                  refine w_getIx (o := 45) (f := 43) (x := 1) fX8_metreHere_117 rfl rfl (Nat.le_of_ble_eq_true rfl) rfl ((congrFun (hF74.at (by omega) (by omega)) _).trans hb_72) ?_
                  refine w_if_eq (tgt := 124) dX8_metreHere_120 rfl (R32.in (by decide)) (fun c120 => ?_) (fun c120 => ?_)
                  · skip
                    exact absurd c120 (by decide)
                  · skip
                    have hP9 : tkL b n (ln0 b n σ 0 (sk b n a) e) μ μ_74 := tkL_no (by rw [hl9]; unfold lMet; rw [if_neg (fun q9 => q9 hN.1), if_pos hM2]) (by omega) (((congrFun (hF74.at (by omega) (by omega)) _).trans hb_72).trans (by rfl)) (((congrFun (hF74.at (by omega) (by omega)) _).trans h1_72).trans (by rfl)) (((congrFun (hF74.at (by omega) (by omega)) _).trans (h2_72.trans (am_up_nk (by omega)))).trans (by exact hKN.1))
                    exact w_retV dX8_metreHere_123 rfl ⟨((hF74.wd (by omega) (by omega)).tr ((hF72.wd (by omega) (by omega)).tr (((hFN.wd (by omega) (by omega)).tr ((hFV.wd (by omega) (by omega)).tr ((hF69.wd (by omega) (by omega)).tr (hF55.wd (by omega) (by omega))))).up (by omega)))), (by exact hP9), (fun k h1 => ((congrFun (hF74.at (by omega) (by omega)) _).trans ((hf_72 k (by omega)).trans ((am_up_nk (by omega)).trans ((hf_N k (by omega)).trans ((hf_V k (by omega)).trans ((congrFun (hF69.at (by omega) (by omega)) _).trans (congrFun (hF55.at (by omega) (by omega)) _)))))))), (RTc.cg2 hR_N (fun o h1 => ((hF74.at (by omega) (by omega)).trans ((hF72.at (by omega) (by omega)).trans (am_up_o (by omega))))) (fun k h1 => ((congrFun (hF74.at (by omega) (by omega)) _).trans ((hf_72 _ (by omega)).trans (am_up_nk (by omega)))))), (by rw [(((congrFun (hF74.at (by omega) (by omega)) _).trans ((hf_72 _ (by omega)).trans (am_up_nk (by omega)))).trans (by rfl)), (((congrFun (hF74.at (by omega) (by omega)) _).trans ((hf_72 _ (by omega)).trans (am_up_nk (by omega)))).trans (by rfl))]; omega)⟩
                · skip
                  refine w_aload_n dX8_metreHere_98 rfl rfl (by first | decide | omega) ?_
                  refine w_getIx (o := 45) (f := 40) (x := μN 45 40) fX8_metreHere_99 rfl rfl (Nat.le_of_ble_eq_true rfl) rfl ((hf_72 _ (by omega)).trans (am_up_nk (by omega))) ?_
                  refine w_bipush dX8_metreHere_102 (by decide) ?_
                  refine w_icmp_ne (tgt := 111) dX8_metreHere_104 rfl (R32.in (by omega)) (R32.in (by decide)) (fun c104 => ?_) (fun c104 => ?_)
                  · skip
                    refine w_iconst dX8_metreHere_111 ?_
                    refine w_iconst dX8_metreHere_112 ?_
                    refine w_callVV (o := 45) (ci := 8) (as := [(0, 0), (0, 2)]) (rest := []) (k := 0) fX8_metreHere_113 rfl rfl rfl rfl rfl rfl rfl rfl (Nat.le_of_ble_eq_true rfl) (s_X8_must_b X 0 2 μ_72 hb_72) (fun μ_75 hμ75 => ?_)
                    have hF75 := hμ75
                    refine w_aload_n dX8_metreHere_116 rfl rfl (by first | decide | omega) ?_
                    refine w_getIx (o := 45) (f := 43) (x := 1) fX8_metreHere_117 rfl rfl (Nat.le_of_ble_eq_true rfl) rfl ((congrFun (hF75.at (by omega) (by omega)) _).trans hb_72) ?_
                    refine w_if_eq (tgt := 124) dX8_metreHere_120 rfl (R32.in (by decide)) (fun c120 => ?_) (fun c120 => ?_)
                    · skip
                      exact absurd c120 (by decide)
                    · skip
                      have hP9 : tkL b n (ln0 b n σ 0 (sk b n a) e) μ μ_75 := tkL_no (by rw [hl9]; unfold lMet; rw [if_neg (fun q9 => q9 hN.1), if_pos hM2]) (by omega) (((congrFun (hF75.at (by omega) (by omega)) _).trans hb_72).trans (by rfl)) (((congrFun (hF75.at (by omega) (by omega)) _).trans h1_72).trans (by rfl)) (((congrFun (hF75.at (by omega) (by omega)) _).trans (h2_72.trans (am_up_nk (by omega)))).trans (by exact hKN.1))
                      exact w_retV dX8_metreHere_123 rfl ⟨((hF75.wd (by omega) (by omega)).tr ((hF72.wd (by omega) (by omega)).tr (((hFN.wd (by omega) (by omega)).tr ((hFV.wd (by omega) (by omega)).tr ((hF69.wd (by omega) (by omega)).tr (hF55.wd (by omega) (by omega))))).up (by omega)))), (by exact hP9), (fun k h1 => ((congrFun (hF75.at (by omega) (by omega)) _).trans ((hf_72 k (by omega)).trans ((am_up_nk (by omega)).trans ((hf_N k (by omega)).trans ((hf_V k (by omega)).trans ((congrFun (hF69.at (by omega) (by omega)) _).trans (congrFun (hF55.at (by omega) (by omega)) _)))))))), (RTc.cg2 hR_N (fun o h1 => ((hF75.at (by omega) (by omega)).trans ((hF72.at (by omega) (by omega)).trans (am_up_o (by omega))))) (fun k h1 => ((congrFun (hF75.at (by omega) (by omega)) _).trans ((hf_72 _ (by omega)).trans (am_up_nk (by omega)))))), (by rw [(((congrFun (hF75.at (by omega) (by omega)) _).trans ((hf_72 _ (by omega)).trans (am_up_nk (by omega)))).trans (by rfl)), (((congrFun (hF75.at (by omega) (by omega)) _).trans ((hf_72 _ (by omega)).trans (am_up_nk (by omega)))).trans (by rfl))]; omega)⟩
                  · skip
                    refine w_iconst dX8_metreHere_107 ?_
                    refine w_goto (tgt := 112) dX8_metreHere_108 rfl ?_
                    refine w_iconst dX8_metreHere_112 ?_
                    refine w_callVV (o := 45) (ci := 8) (as := [(0, 1), (0, 2)]) (rest := []) (k := 0) fX8_metreHere_113 rfl rfl rfl rfl rfl rfl rfl rfl (Nat.le_of_ble_eq_true rfl) (s_X8_must_t X 1 2 μ_72 (Or.inr hb_72) rfl) (fun μ_76 hμ76 => ?_)
                    have hF76 := hμ76
                    refine w_aload_n dX8_metreHere_116 rfl rfl (by first | decide | omega) ?_
                    refine w_getIx (o := 45) (f := 43) (x := 1) fX8_metreHere_117 rfl rfl (Nat.le_of_ble_eq_true rfl) rfl ((congrFun (hF76.at (by omega) (by omega)) _).trans hb_72) ?_
                    refine w_if_eq (tgt := 124) dX8_metreHere_120 rfl (R32.in (by decide)) (fun c120 => ?_) (fun c120 => ?_)
                    · skip
                      exact absurd c120 (by decide)
                    · skip
                      have hP9 : tkL b n (ln0 b n σ 0 (sk b n a) e) μ μ_76 := tkL_no (by rw [hl9]; unfold lMet; rw [if_neg (fun q9 => q9 hN.1), if_pos hM2]) (by omega) (((congrFun (hF76.at (by omega) (by omega)) _).trans hb_72).trans (by rfl)) (((congrFun (hF76.at (by omega) (by omega)) _).trans h1_72).trans (by rfl)) (((congrFun (hF76.at (by omega) (by omega)) _).trans (h2_72.trans (am_up_nk (by omega)))).trans (by exact hKN.1))
                      exact w_retV dX8_metreHere_123 rfl ⟨((hF76.wd (by omega) (by omega)).tr ((hF72.wd (by omega) (by omega)).tr (((hFN.wd (by omega) (by omega)).tr ((hFV.wd (by omega) (by omega)).tr ((hF69.wd (by omega) (by omega)).tr (hF55.wd (by omega) (by omega))))).up (by omega)))), (by exact hP9), (fun k h1 => ((congrFun (hF76.at (by omega) (by omega)) _).trans ((hf_72 k (by omega)).trans ((am_up_nk (by omega)).trans ((hf_N k (by omega)).trans ((hf_V k (by omega)).trans ((congrFun (hF69.at (by omega) (by omega)) _).trans (congrFun (hF55.at (by omega) (by omega)) _)))))))), (RTc.cg2 hR_N (fun o h1 => ((hF76.at (by omega) (by omega)).trans ((hF72.at (by omega) (by omega)).trans (am_up_o (by omega))))) (fun k h1 => ((congrFun (hF76.at (by omega) (by omega)) _).trans ((hf_72 _ (by omega)).trans (am_up_nk (by omega)))))), (by rw [(((congrFun (hF76.at (by omega) (by omega)) _).trans ((hf_72 _ (by omega)).trans (am_up_nk (by omega)))).trans (by rfl)), (((congrFun (hF76.at (by omega) (by omega)) _).trans ((hf_72 _ (by omega)).trans (am_up_nk (by omega)))).trans (by rfl))]; omega)⟩
            · skip
              have hM := hKN.t2 c69 hN.2.2.2.2.1
              have hskM := sk_r b n (nW b n 1 12 e).2.2.2 hN.2.2.2.2.1.2
              have hdeM := de_r b n (sk b n (nW b n 1 12 e).2.2.2) hskM.2
              refine w_iconst dX8_metreHere_72 ?_
              refine w_goto (tgt := 77) dX8_metreHere_73 rfl ?_
              refine w_iconst dX8_metreHere_77 ?_
              refine w_callVV (o := 45) (ci := 8) (as := [(0, 1), (0, 1)]) (rest := []) (k := 0) fX8_metreHere_78 rfl rfl rfl rfl rfl rfl rfl rfl (Nat.le_of_ble_eq_true rfl) (s_X8_must_t X 1 1 (am_up μN 45 44 xN) (Or.inl ((am_up_nk (by omega)).trans hN.2.2.1)) rfl) (fun μ_77 hμ77 => ?_)
              have hF77 := hμ77
              refine w_aload_n dX8_metreHere_81 rfl rfl (by first | decide | omega) ?_
              refine w_aload_n dX8_metreHere_82 rfl rfl (by first | decide | omega) ?_
              refine w_getIx (o := 45) (f := 40) (x := μN 45 40) fX8_metreHere_83 rfl rfl (Nat.le_of_ble_eq_true rfl) rfl ((congrFun (hF77.at (by omega) (by omega)) _).trans (am_up_nk (by omega))) ?_
              refine w_iconst dX8_metreHere_86 ?_
              refine w_icmp_eq (tgt := 107) dX8_metreHere_87 rfl (R32.in (by omega)) (R32.in (by decide)) (fun c87 => ?_) (fun c87 => ?_)
              · skip
                refine w_iconst dX8_metreHere_107 ?_
                refine w_goto (tgt := 112) dX8_metreHere_108 rfl ?_
                refine w_iconst dX8_metreHere_112 ?_
                refine w_callVV (o := 45) (ci := 8) (as := [(0, 1), (0, 2)]) (rest := []) (k := 0) fX8_metreHere_113 rfl rfl rfl rfl rfl rfl rfl rfl (Nat.le_of_ble_eq_true rfl) (s_X8_must_t X 1 2 μ_77 (Or.inl ((congrFun (hF77.at (by omega) (by omega)) _).trans ((am_up_nk (by omega)).trans hN.2.2.1))) rfl) (fun μ_78 hμ78 => ?_)
                have hF78 := hμ78
                refine w_aload_n dX8_metreHere_116 rfl rfl (by first | decide | omega) ?_
                refine w_getIx (o := 45) (f := 43) (x := 0) fX8_metreHere_117 rfl rfl (Nat.le_of_ble_eq_true rfl) rfl ((congrFun (hF78.at (by omega) (by omega)) _).trans ((congrFun (hF77.at (by omega) (by omega)) _).trans ((am_up_nk (by omega)).trans hN.2.2.1))) ?_
                refine w_if_eq (tgt := 124) dX8_metreHere_120 rfl (R32.in (by decide)) (fun c120 => ?_) (fun c120 => ?_)
                · skip
                  have hv2 : nval b n (nW b n 1 12 e).2.2.2 = 2 ∨ nval b n (nW b n 1 12 e).2.2.2 = 4 ∨ nval b n (nW b n 1 12 e).2.2.2 = 8 := by have := hM.2.2; omega
                  refine w_aload_n dX8_metreHere_124 rfl rfl (by first | decide | omega) ?_
                  refine w_aload_n dX8_metreHere_125 rfl rfl (by first | decide | omega) ?_
                  refine w_getIx (o := 45) (f := 40) (x := μN 45 40) fX8_metreHere_126 rfl rfl (Nat.le_of_ble_eq_true rfl) rfl ((congrFun (hF78.at (by omega) (by omega)) _).trans ((congrFun (hF77.at (by omega) (by omega)) _).trans (am_up_nk (by omega)))) ?_
                  refine w_putI (o := 45) (f := 45) fX8_metreHere_129 rfl rfl rfl rfl rfl ?_
                  refine w_aload_n dX8_metreHere_132 rfl rfl (by first | decide | omega) ?_
                  refine w_iconst dX8_metreHere_133 ?_
                  refine w_putZ (o := 45) (f := 54) fX8_metreHere_134 rfl rfl rfl rfl rfl (Or.inr rfl) ?_
                  have h37w : (am_up (am_up μ_78 45 45 (μN 45 40)) 45 54 1) 45 37 = μN 45 37 := (((am_up_nk (by omega)).trans ((am_up_nk (by omega)).trans ((congrFun (hF78.at (by omega) (by omega)) _).trans ((congrFun (hF77.at (by omega) (by omega)) _).trans (am_up_nk (by omega)))))).trans (by rfl))
                  have hatw : 0 ≤ (am_up (am_up μ_78 45 45 (μN 45 40)) 45 54 1) 45 37 ∧ (am_up (am_up μ_78 45 45 (μN 45 40)) 45 54 1) 45 37 ≤ n := by rw [h37w]; exact hatN
                  refine w_aload_n dX8_metreHere_137 rfl rfl (by first | decide | omega) ?_
                  refine w_callVV (o := 45) (ci := 8) (as := []) (rest := []) (k := 1) fX8_metreHere_138 rfl rfl rfl rfl rfl rfl rfl rfl (Nat.le_of_ble_eq_true rfl) (s_X8_advance X b n (am_up (am_up μ_78 45 45 (μN 45 40)) 45 54 1) (RTc.cg2 hR_N (fun o h1 => ((am_up_o (by omega)).trans ((am_up_o (by omega)).trans ((hF78.at (by omega) (by omega)).trans ((hF77.at (by omega) (by omega)).trans (am_up_o (by omega))))))) (fun k h1 => ((am_up_nk (by omega)).trans ((am_up_nk (by omega)).trans ((congrFun (hF78.at (by omega) (by omega)) _).trans ((congrFun (hF77.at (by omega) (by omega)) _).trans (am_up_nk (by omega)))))))) hatw) (fun μW hμW => ?_)
                  obtain ⟨hFW, htk_W, hf_W, hR_W, hat_W⟩ := hμW
                  rw [h37w, hM.2.1] at htk_W
                  have hrW := htk_W.r
                  have hvW := htk_W.v hbb (by omega)
                  have hP9 : tkL b n (ln0 b n σ 0 (sk b n a) e) μ μW := tkL_ok (by rw [hl9]; unfold lMet; rw [if_neg (fun q9 => q9 hN.1), if_neg (fun q9 => q9 hM.1), if_neg (fun q9 => q9 hv2)]) (RPS_met hP (by omega) hv1 hv2 (fun o h1 => ((hFW.at (by omega) (by omega)).trans ((am_up_o (by omega)).trans ((am_up_o (by omega)).trans ((hF78.at (by omega) (by omega)).trans ((hF77.at (by omega) (by omega)).trans ((am_up_o (by omega)).trans ((hFN.at (by omega) (by omega)).trans ((hFV.at (by omega) (by omega)).trans ((hF69.at (by omega) (by omega)).trans (hF55.at (by omega) (by omega)))))))))))) (fun k h1 => ((hf_W k (by omega)).trans ((am_up_nk (by omega)).trans ((am_up_nk (by omega)).trans ((congrFun (hF78.at (by omega) (by omega)) _).trans ((congrFun (hF77.at (by omega) (by omega)) _).trans ((am_up_nk (by omega)).trans ((hf_N k (by omega)).trans ((hf_V k (by omega)).trans ((congrFun (hF69.at (by omega) (by omega)) _).trans (congrFun (hF55.at (by omega) (by omega)) _))))))))))) (((hf_W _ (by omega)).trans ((am_up_nk (by omega)).trans ((am_up_nk (by omega)).trans ((congrFun (hF78.at (by omega) (by omega)) _).trans ((congrFun (hF77.at (by omega) (by omega)) _).trans am_up_at))))).trans (by exact hN.2.1)) (((hf_W _ (by omega)).trans ((am_up_nk (by omega)).trans am_up_at)).trans (by have := hM.2.2; omega)) (((hf_W _ (by omega)).trans am_up_at).trans (by rfl))) (((hf_W _ (by omega)).trans ((am_up_nk (by omega)).trans ((am_up_nk (by omega)).trans ((congrFun (hF78.at (by omega) (by omega)) _).trans ((congrFun (hF77.at (by omega) (by omega)) _).trans ((am_up_nk (by omega)).trans hN.2.2.1)))))).trans (by rfl)) htk_W (by omega) (((hf_W _ (by omega)).trans ((am_up_nk (by omega)).trans ((am_up_nk (by omega)).trans ((congrFun (hF78.at (by omega) (by omega)) _).trans ((congrFun (hF77.at (by omega) (by omega)) _).trans ((am_up_nk (by omega)).trans (hN.2.2.2.2.2.1.trans h41V))))))).trans (by rfl)) (((hf_W _ (by omega)).trans ((am_up_nk (by omega)).trans ((am_up_nk (by omega)).trans ((congrFun (hF78.at (by omega) (by omega)) _).trans ((congrFun (hF77.at (by omega) (by omega)) _).trans ((am_up_nk (by omega)).trans (hN.2.2.2.2.2.2.trans h42V))))))).trans (by rfl))
                  exact w_retV dX8_metreHere_141 rfl ⟨((hFW.wd (by omega) (by omega)).tr ((((hF78.wd (by omega) (by omega)).tr ((hF77.wd (by omega) (by omega)).tr (((hFN.wd (by omega) (by omega)).tr ((hFV.wd (by omega) (by omega)).tr ((hF69.wd (by omega) (by omega)).tr (hF55.wd (by omega) (by omega))))).up (by omega)))).up (by omega)).up (by omega))), (by exact hP9), (fun k h1 => ((hf_W k (by omega)).trans ((am_up_nk (by omega)).trans ((am_up_nk (by omega)).trans ((congrFun (hF78.at (by omega) (by omega)) _).trans ((congrFun (hF77.at (by omega) (by omega)) _).trans ((am_up_nk (by omega)).trans ((hf_N k (by omega)).trans ((hf_V k (by omega)).trans ((congrFun (hF69.at (by omega) (by omega)) _).trans (congrFun (hF55.at (by omega) (by omega)) _))))))))))), hR_W, (by rw [((rfl : μW 45 39 = μW 45 39).trans (by rfl)), ((rfl : μW 45 40 = μW 45 40).trans (by rfl))]; omega)⟩
                · skip
                  exact absurd c120 (by decide)
              · skip
                refine w_aload_n dX8_metreHere_90 rfl rfl (by first | decide | omega) ?_
                refine w_getIx (o := 45) (f := 40) (x := μN 45 40) fX8_metreHere_91 rfl rfl (Nat.le_of_ble_eq_true rfl) rfl ((congrFun (hF77.at (by omega) (by omega)) _).trans (am_up_nk (by omega))) ?_
                refine w_iconst dX8_metreHere_94 ?_
                refine w_icmp_eq (tgt := 107) dX8_metreHere_95 rfl (R32.in (by omega)) (R32.in (by decide)) (fun c95 => ?_) (fun c95 => ?_)
                · skip
                  refine w_iconst dX8_metreHere_107 ?_
                  refine w_goto (tgt := 112) dX8_metreHere_108 rfl ?_
                  refine w_iconst dX8_metreHere_112 ?_
                  refine w_callVV (o := 45) (ci := 8) (as := [(0, 1), (0, 2)]) (rest := []) (k := 0) fX8_metreHere_113 rfl rfl rfl rfl rfl rfl rfl rfl (Nat.le_of_ble_eq_true rfl) (s_X8_must_t X 1 2 μ_77 (Or.inl ((congrFun (hF77.at (by omega) (by omega)) _).trans ((am_up_nk (by omega)).trans hN.2.2.1))) rfl) (fun μ_80 hμ80 => ?_)
                  have hF80 := hμ80
                  refine w_aload_n dX8_metreHere_116 rfl rfl (by first | decide | omega) ?_
                  refine w_getIx (o := 45) (f := 43) (x := 0) fX8_metreHere_117 rfl rfl (Nat.le_of_ble_eq_true rfl) rfl ((congrFun (hF80.at (by omega) (by omega)) _).trans ((congrFun (hF77.at (by omega) (by omega)) _).trans ((am_up_nk (by omega)).trans hN.2.2.1))) ?_
                  refine w_if_eq (tgt := 124) dX8_metreHere_120 rfl (R32.in (by decide)) (fun c120 => ?_) (fun c120 => ?_)
                  · skip
                    have hv2 : nval b n (nW b n 1 12 e).2.2.2 = 2 ∨ nval b n (nW b n 1 12 e).2.2.2 = 4 ∨ nval b n (nW b n 1 12 e).2.2.2 = 8 := by have := hM.2.2; omega
                    refine w_aload_n dX8_metreHere_124 rfl rfl (by first | decide | omega) ?_
                    refine w_aload_n dX8_metreHere_125 rfl rfl (by first | decide | omega) ?_
                    refine w_getIx (o := 45) (f := 40) (x := μN 45 40) fX8_metreHere_126 rfl rfl (Nat.le_of_ble_eq_true rfl) rfl ((congrFun (hF80.at (by omega) (by omega)) _).trans ((congrFun (hF77.at (by omega) (by omega)) _).trans (am_up_nk (by omega)))) ?_
                    refine w_putI (o := 45) (f := 45) fX8_metreHere_129 rfl rfl rfl rfl rfl ?_
                    refine w_aload_n dX8_metreHere_132 rfl rfl (by first | decide | omega) ?_
                    refine w_iconst dX8_metreHere_133 ?_
                    refine w_putZ (o := 45) (f := 54) fX8_metreHere_134 rfl rfl rfl rfl rfl (Or.inr rfl) ?_
                    have h37w : (am_up (am_up μ_80 45 45 (μN 45 40)) 45 54 1) 45 37 = μN 45 37 := (((am_up_nk (by omega)).trans ((am_up_nk (by omega)).trans ((congrFun (hF80.at (by omega) (by omega)) _).trans ((congrFun (hF77.at (by omega) (by omega)) _).trans (am_up_nk (by omega)))))).trans (by rfl))
                    have hatw : 0 ≤ (am_up (am_up μ_80 45 45 (μN 45 40)) 45 54 1) 45 37 ∧ (am_up (am_up μ_80 45 45 (μN 45 40)) 45 54 1) 45 37 ≤ n := by rw [h37w]; exact hatN
                    refine w_aload_n dX8_metreHere_137 rfl rfl (by first | decide | omega) ?_
                    refine w_callVV (o := 45) (ci := 8) (as := []) (rest := []) (k := 1) fX8_metreHere_138 rfl rfl rfl rfl rfl rfl rfl rfl (Nat.le_of_ble_eq_true rfl) (s_X8_advance X b n (am_up (am_up μ_80 45 45 (μN 45 40)) 45 54 1) (RTc.cg2 hR_N (fun o h1 => ((am_up_o (by omega)).trans ((am_up_o (by omega)).trans ((hF80.at (by omega) (by omega)).trans ((hF77.at (by omega) (by omega)).trans (am_up_o (by omega))))))) (fun k h1 => ((am_up_nk (by omega)).trans ((am_up_nk (by omega)).trans ((congrFun (hF80.at (by omega) (by omega)) _).trans ((congrFun (hF77.at (by omega) (by omega)) _).trans (am_up_nk (by omega)))))))) hatw) (fun μW hμW => ?_)
                    obtain ⟨hFW, htk_W, hf_W, hR_W, hat_W⟩ := hμW
                    rw [h37w, hM.2.1] at htk_W
                    have hrW := htk_W.r
                    have hvW := htk_W.v hbb (by omega)
                    have hP9 : tkL b n (ln0 b n σ 0 (sk b n a) e) μ μW := tkL_ok (by rw [hl9]; unfold lMet; rw [if_neg (fun q9 => q9 hN.1), if_neg (fun q9 => q9 hM.1), if_neg (fun q9 => q9 hv2)]) (RPS_met hP (by omega) hv1 hv2 (fun o h1 => ((hFW.at (by omega) (by omega)).trans ((am_up_o (by omega)).trans ((am_up_o (by omega)).trans ((hF80.at (by omega) (by omega)).trans ((hF77.at (by omega) (by omega)).trans ((am_up_o (by omega)).trans ((hFN.at (by omega) (by omega)).trans ((hFV.at (by omega) (by omega)).trans ((hF69.at (by omega) (by omega)).trans (hF55.at (by omega) (by omega)))))))))))) (fun k h1 => ((hf_W k (by omega)).trans ((am_up_nk (by omega)).trans ((am_up_nk (by omega)).trans ((congrFun (hF80.at (by omega) (by omega)) _).trans ((congrFun (hF77.at (by omega) (by omega)) _).trans ((am_up_nk (by omega)).trans ((hf_N k (by omega)).trans ((hf_V k (by omega)).trans ((congrFun (hF69.at (by omega) (by omega)) _).trans (congrFun (hF55.at (by omega) (by omega)) _))))))))))) (((hf_W _ (by omega)).trans ((am_up_nk (by omega)).trans ((am_up_nk (by omega)).trans ((congrFun (hF80.at (by omega) (by omega)) _).trans ((congrFun (hF77.at (by omega) (by omega)) _).trans am_up_at))))).trans (by exact hN.2.1)) (((hf_W _ (by omega)).trans ((am_up_nk (by omega)).trans am_up_at)).trans (by have := hM.2.2; omega)) (((hf_W _ (by omega)).trans am_up_at).trans (by rfl))) (((hf_W _ (by omega)).trans ((am_up_nk (by omega)).trans ((am_up_nk (by omega)).trans ((congrFun (hF80.at (by omega) (by omega)) _).trans ((congrFun (hF77.at (by omega) (by omega)) _).trans ((am_up_nk (by omega)).trans hN.2.2.1)))))).trans (by rfl)) htk_W (by omega) (((hf_W _ (by omega)).trans ((am_up_nk (by omega)).trans ((am_up_nk (by omega)).trans ((congrFun (hF80.at (by omega) (by omega)) _).trans ((congrFun (hF77.at (by omega) (by omega)) _).trans ((am_up_nk (by omega)).trans (hN.2.2.2.2.2.1.trans h41V))))))).trans (by rfl)) (((hf_W _ (by omega)).trans ((am_up_nk (by omega)).trans ((am_up_nk (by omega)).trans ((congrFun (hF80.at (by omega) (by omega)) _).trans ((congrFun (hF77.at (by omega) (by omega)) _).trans ((am_up_nk (by omega)).trans (hN.2.2.2.2.2.2.trans h42V))))))).trans (by rfl))
                    exact w_retV dX8_metreHere_141 rfl ⟨((hFW.wd (by omega) (by omega)).tr ((((hF80.wd (by omega) (by omega)).tr ((hF77.wd (by omega) (by omega)).tr (((hFN.wd (by omega) (by omega)).tr ((hFV.wd (by omega) (by omega)).tr ((hF69.wd (by omega) (by omega)).tr (hF55.wd (by omega) (by omega))))).up (by omega)))).up (by omega)).up (by omega))), (by exact hP9), (fun k h1 => ((hf_W k (by omega)).trans ((am_up_nk (by omega)).trans ((am_up_nk (by omega)).trans ((congrFun (hF80.at (by omega) (by omega)) _).trans ((congrFun (hF77.at (by omega) (by omega)) _).trans ((am_up_nk (by omega)).trans ((hf_N k (by omega)).trans ((hf_V k (by omega)).trans ((congrFun (hF69.at (by omega) (by omega)) _).trans (congrFun (hF55.at (by omega) (by omega)) _))))))))))), hR_W, (by rw [((rfl : μW 45 39 = μW 45 39).trans (by rfl)), ((rfl : μW 45 40 = μW 45 40).trans (by rfl))]; omega)⟩
                  · skip
                    exact absurd c120 (by decide)
                · skip
                  refine w_aload_n dX8_metreHere_98 rfl rfl (by first | decide | omega) ?_
                  refine w_getIx (o := 45) (f := 40) (x := μN 45 40) fX8_metreHere_99 rfl rfl (Nat.le_of_ble_eq_true rfl) rfl ((congrFun (hF77.at (by omega) (by omega)) _).trans (am_up_nk (by omega))) ?_
                  refine w_bipush dX8_metreHere_102 (by decide) ?_
                  refine w_icmp_ne (tgt := 111) dX8_metreHere_104 rfl (R32.in (by omega)) (R32.in (by decide)) (fun c104 => ?_) (fun c104 => ?_)
                  · skip
                    refine w_iconst dX8_metreHere_111 ?_
                    refine w_iconst dX8_metreHere_112 ?_
                    refine w_callVV (o := 45) (ci := 8) (as := [(0, 0), (0, 2)]) (rest := []) (k := 0) fX8_metreHere_113 rfl rfl rfl rfl rfl rfl rfl rfl (Nat.le_of_ble_eq_true rfl) (s_X8_must_f X 0 2 μ_77 ((congrFun (hF77.at (by omega) (by omega)) _).trans ((am_up_nk (by omega)).trans hN.2.2.1)) rfl) (fun μ_82 hμ82 => ?_)
                    obtain ⟨hF82, hb_82, h1_82, h2_82, hf_82⟩ := hμ82
                    refine w_aload_n dX8_metreHere_116 rfl rfl (by first | decide | omega) ?_
                    refine w_getIx (o := 45) (f := 43) (x := 1) fX8_metreHere_117 rfl rfl (Nat.le_of_ble_eq_true rfl) rfl hb_82 ?_
                    refine w_if_eq (tgt := 124) dX8_metreHere_120 rfl (R32.in (by decide)) (fun c120 => ?_) (fun c120 => ?_)
                    · skip
                      exact absurd c120 (by decide)
                    · skip
                      have hP9 : tkL b n (ln0 b n σ 0 (sk b n a) e) μ μ_82 := tkL_no (by rw [hl9]; unfold lMet; rw [if_neg (fun q9 => q9 hN.1), if_neg (fun q9 => q9 hM.1), if_pos (by have := hM.2.2; omega)]) (by omega) (hb_82.trans (by rfl)) (h1_82.trans (by rfl)) ((h2_82.trans ((congrFun (hF77.at (by omega) (by omega)) _).trans (am_up_nk (by omega)))).trans (by exact hKN.1))
                      exact w_retV dX8_metreHere_123 rfl ⟨((hF82.wd (by omega) (by omega)).tr ((hF77.wd (by omega) (by omega)).tr (((hFN.wd (by omega) (by omega)).tr ((hFV.wd (by omega) (by omega)).tr ((hF69.wd (by omega) (by omega)).tr (hF55.wd (by omega) (by omega))))).up (by omega)))), (by exact hP9), (fun k h1 => ((hf_82 k (by omega)).trans ((congrFun (hF77.at (by omega) (by omega)) _).trans ((am_up_nk (by omega)).trans ((hf_N k (by omega)).trans ((hf_V k (by omega)).trans ((congrFun (hF69.at (by omega) (by omega)) _).trans (congrFun (hF55.at (by omega) (by omega)) _)))))))), (RTc.cg2 hR_N (fun o h1 => ((hF82.at (by omega) (by omega)).trans ((hF77.at (by omega) (by omega)).trans (am_up_o (by omega))))) (fun k h1 => ((hf_82 _ (by omega)).trans ((congrFun (hF77.at (by omega) (by omega)) _).trans (am_up_nk (by omega)))))), (by rw [(((hf_82 _ (by omega)).trans ((congrFun (hF77.at (by omega) (by omega)) _).trans (am_up_nk (by omega)))).trans (by rfl)), (((hf_82 _ (by omega)).trans ((congrFun (hF77.at (by omega) (by omega)) _).trans (am_up_nk (by omega)))).trans (by rfl))]; omega)⟩
                  · skip
                    refine w_iconst dX8_metreHere_107 ?_
                    refine w_goto (tgt := 112) dX8_metreHere_108 rfl ?_
                    refine w_iconst dX8_metreHere_112 ?_
                    refine w_callVV (o := 45) (ci := 8) (as := [(0, 1), (0, 2)]) (rest := []) (k := 0) fX8_metreHere_113 rfl rfl rfl rfl rfl rfl rfl rfl (Nat.le_of_ble_eq_true rfl) (s_X8_must_t X 1 2 μ_77 (Or.inl ((congrFun (hF77.at (by omega) (by omega)) _).trans ((am_up_nk (by omega)).trans hN.2.2.1))) rfl) (fun μ_83 hμ83 => ?_)
                    have hF83 := hμ83
                    refine w_aload_n dX8_metreHere_116 rfl rfl (by first | decide | omega) ?_
                    refine w_getIx (o := 45) (f := 43) (x := 0) fX8_metreHere_117 rfl rfl (Nat.le_of_ble_eq_true rfl) rfl ((congrFun (hF83.at (by omega) (by omega)) _).trans ((congrFun (hF77.at (by omega) (by omega)) _).trans ((am_up_nk (by omega)).trans hN.2.2.1))) ?_
                    refine w_if_eq (tgt := 124) dX8_metreHere_120 rfl (R32.in (by decide)) (fun c120 => ?_) (fun c120 => ?_)
                    · skip
                      have hv2 : nval b n (nW b n 1 12 e).2.2.2 = 2 ∨ nval b n (nW b n 1 12 e).2.2.2 = 4 ∨ nval b n (nW b n 1 12 e).2.2.2 = 8 := by have := hM.2.2; omega
                      refine w_aload_n dX8_metreHere_124 rfl rfl (by first | decide | omega) ?_
                      refine w_aload_n dX8_metreHere_125 rfl rfl (by first | decide | omega) ?_
                      refine w_getIx (o := 45) (f := 40) (x := μN 45 40) fX8_metreHere_126 rfl rfl (Nat.le_of_ble_eq_true rfl) rfl ((congrFun (hF83.at (by omega) (by omega)) _).trans ((congrFun (hF77.at (by omega) (by omega)) _).trans (am_up_nk (by omega)))) ?_
                      refine w_putI (o := 45) (f := 45) fX8_metreHere_129 rfl rfl rfl rfl rfl ?_
                      refine w_aload_n dX8_metreHere_132 rfl rfl (by first | decide | omega) ?_
                      refine w_iconst dX8_metreHere_133 ?_
                      refine w_putZ (o := 45) (f := 54) fX8_metreHere_134 rfl rfl rfl rfl rfl (Or.inr rfl) ?_
                      have h37w : (am_up (am_up μ_83 45 45 (μN 45 40)) 45 54 1) 45 37 = μN 45 37 := (((am_up_nk (by omega)).trans ((am_up_nk (by omega)).trans ((congrFun (hF83.at (by omega) (by omega)) _).trans ((congrFun (hF77.at (by omega) (by omega)) _).trans (am_up_nk (by omega)))))).trans (by rfl))
                      have hatw : 0 ≤ (am_up (am_up μ_83 45 45 (μN 45 40)) 45 54 1) 45 37 ∧ (am_up (am_up μ_83 45 45 (μN 45 40)) 45 54 1) 45 37 ≤ n := by rw [h37w]; exact hatN
                      refine w_aload_n dX8_metreHere_137 rfl rfl (by first | decide | omega) ?_
                      refine w_callVV (o := 45) (ci := 8) (as := []) (rest := []) (k := 1) fX8_metreHere_138 rfl rfl rfl rfl rfl rfl rfl rfl (Nat.le_of_ble_eq_true rfl) (s_X8_advance X b n (am_up (am_up μ_83 45 45 (μN 45 40)) 45 54 1) (RTc.cg2 hR_N (fun o h1 => ((am_up_o (by omega)).trans ((am_up_o (by omega)).trans ((hF83.at (by omega) (by omega)).trans ((hF77.at (by omega) (by omega)).trans (am_up_o (by omega))))))) (fun k h1 => ((am_up_nk (by omega)).trans ((am_up_nk (by omega)).trans ((congrFun (hF83.at (by omega) (by omega)) _).trans ((congrFun (hF77.at (by omega) (by omega)) _).trans (am_up_nk (by omega)))))))) hatw) (fun μW hμW => ?_)
                      obtain ⟨hFW, htk_W, hf_W, hR_W, hat_W⟩ := hμW
                      rw [h37w, hM.2.1] at htk_W
                      have hrW := htk_W.r
                      have hvW := htk_W.v hbb (by omega)
                      have hP9 : tkL b n (ln0 b n σ 0 (sk b n a) e) μ μW := tkL_ok (by rw [hl9]; unfold lMet; rw [if_neg (fun q9 => q9 hN.1), if_neg (fun q9 => q9 hM.1), if_neg (fun q9 => q9 hv2)]) (RPS_met hP (by omega) hv1 hv2 (fun o h1 => ((hFW.at (by omega) (by omega)).trans ((am_up_o (by omega)).trans ((am_up_o (by omega)).trans ((hF83.at (by omega) (by omega)).trans ((hF77.at (by omega) (by omega)).trans ((am_up_o (by omega)).trans ((hFN.at (by omega) (by omega)).trans ((hFV.at (by omega) (by omega)).trans ((hF69.at (by omega) (by omega)).trans (hF55.at (by omega) (by omega)))))))))))) (fun k h1 => ((hf_W k (by omega)).trans ((am_up_nk (by omega)).trans ((am_up_nk (by omega)).trans ((congrFun (hF83.at (by omega) (by omega)) _).trans ((congrFun (hF77.at (by omega) (by omega)) _).trans ((am_up_nk (by omega)).trans ((hf_N k (by omega)).trans ((hf_V k (by omega)).trans ((congrFun (hF69.at (by omega) (by omega)) _).trans (congrFun (hF55.at (by omega) (by omega)) _))))))))))) (((hf_W _ (by omega)).trans ((am_up_nk (by omega)).trans ((am_up_nk (by omega)).trans ((congrFun (hF83.at (by omega) (by omega)) _).trans ((congrFun (hF77.at (by omega) (by omega)) _).trans am_up_at))))).trans (by exact hN.2.1)) (((hf_W _ (by omega)).trans ((am_up_nk (by omega)).trans am_up_at)).trans (by have := hM.2.2; omega)) (((hf_W _ (by omega)).trans am_up_at).trans (by rfl))) (((hf_W _ (by omega)).trans ((am_up_nk (by omega)).trans ((am_up_nk (by omega)).trans ((congrFun (hF83.at (by omega) (by omega)) _).trans ((congrFun (hF77.at (by omega) (by omega)) _).trans ((am_up_nk (by omega)).trans hN.2.2.1)))))).trans (by rfl)) htk_W (by omega) (((hf_W _ (by omega)).trans ((am_up_nk (by omega)).trans ((am_up_nk (by omega)).trans ((congrFun (hF83.at (by omega) (by omega)) _).trans ((congrFun (hF77.at (by omega) (by omega)) _).trans ((am_up_nk (by omega)).trans (hN.2.2.2.2.2.1.trans h41V))))))).trans (by rfl)) (((hf_W _ (by omega)).trans ((am_up_nk (by omega)).trans ((am_up_nk (by omega)).trans ((congrFun (hF83.at (by omega) (by omega)) _).trans ((congrFun (hF77.at (by omega) (by omega)) _).trans ((am_up_nk (by omega)).trans (hN.2.2.2.2.2.2.trans h42V))))))).trans (by rfl))
                      exact w_retV dX8_metreHere_141 rfl ⟨((hFW.wd (by omega) (by omega)).tr ((((hF83.wd (by omega) (by omega)).tr ((hF77.wd (by omega) (by omega)).tr (((hFN.wd (by omega) (by omega)).tr ((hFV.wd (by omega) (by omega)).tr ((hF69.wd (by omega) (by omega)).tr (hF55.wd (by omega) (by omega))))).up (by omega)))).up (by omega)).up (by omega))), (by exact hP9), (fun k h1 => ((hf_W k (by omega)).trans ((am_up_nk (by omega)).trans ((am_up_nk (by omega)).trans ((congrFun (hF83.at (by omega) (by omega)) _).trans ((congrFun (hF77.at (by omega) (by omega)) _).trans ((am_up_nk (by omega)).trans ((hf_N k (by omega)).trans ((hf_V k (by omega)).trans ((congrFun (hF69.at (by omega) (by omega)) _).trans (congrFun (hF55.at (by omega) (by omega)) _))))))))))), hR_W, (by rw [((rfl : μW 45 39 = μW 45 39).trans (by rfl)), ((rfl : μW 45 40 = μW 45 40).trans (by rfl))]; omega)⟩
                    · skip
                      exact absurd c120 (by decide)
          · skip
            refine w_putI (o := 45) (f := 44) fX8_metreHere_60 rfl rfl rfl rfl rfl ?_
            refine w_aload_n dX8_metreHere_63 rfl rfl (by first | decide | omega) ?_
            refine w_aload_n dX8_metreHere_64 rfl rfl (by first | decide | omega) ?_
            refine w_getIx (o := 45) (f := 39) (x := μN 45 39) fX8_metreHere_65 rfl rfl (Nat.le_of_ble_eq_true rfl) rfl (am_up_nk (by omega)) ?_
            refine w_iconst dX8_metreHere_68 ?_
            refine w_icmp_ne (tgt := 76) dX8_metreHere_69 rfl (R32.in (by omega)) (R32.in (by decide)) (fun c69 => ?_) (fun c69 => ?_)
            · skip
              refine w_iconst dX8_metreHere_76 ?_
              refine w_iconst dX8_metreHere_77 ?_
              refine w_callVV (o := 45) (ci := 8) (as := [(0, 0), (0, 1)]) (rest := []) (k := 0) fX8_metreHere_78 rfl rfl rfl rfl rfl rfl rfl rfl (Nat.le_of_ble_eq_true rfl) (s_X8_must_b X 0 1 (am_up μN 45 44 xN) ((am_up_nk (by omega)).trans hN.2.1)) (fun μ_85 hμ85 => ?_)
              have hF85 := hμ85
              refine w_aload_n dX8_metreHere_81 rfl rfl (by first | decide | omega) ?_
              refine w_aload_n dX8_metreHere_82 rfl rfl (by first | decide | omega) ?_
              refine w_getIx (o := 45) (f := 40) (x := μN 45 40) fX8_metreHere_83 rfl rfl (Nat.le_of_ble_eq_true rfl) rfl ((congrFun (hF85.at (by omega) (by omega)) _).trans (am_up_nk (by omega))) ?_
              refine w_iconst dX8_metreHere_86 ?_
              refine w_icmp_eq (tgt := 107) dX8_metreHere_87 rfl (R32.in (by omega)) (R32.in (by decide)) (fun c87 => ?_) (fun c87 => ?_)
              · skip
                refine w_iconst dX8_metreHere_107 ?_
                refine w_goto (tgt := 112) dX8_metreHere_108 rfl ?_
                refine w_iconst dX8_metreHere_112 ?_
                refine w_callVV (o := 45) (ci := 8) (as := [(0, 1), (0, 2)]) (rest := []) (k := 0) fX8_metreHere_113 rfl rfl rfl rfl rfl rfl rfl rfl (Nat.le_of_ble_eq_true rfl) (s_X8_must_t X 1 2 μ_85 (Or.inr ((congrFun (hF85.at (by omega) (by omega)) _).trans ((am_up_nk (by omega)).trans hN.2.1))) rfl) (fun μ_86 hμ86 => ?_)
                have hF86 := hμ86
                refine w_aload_n dX8_metreHere_116 rfl rfl (by first | decide | omega) ?_
                refine w_getIx (o := 45) (f := 43) (x := 1) fX8_metreHere_117 rfl rfl (Nat.le_of_ble_eq_true rfl) rfl ((congrFun (hF86.at (by omega) (by omega)) _).trans ((congrFun (hF85.at (by omega) (by omega)) _).trans ((am_up_nk (by omega)).trans hN.2.1))) ?_
                refine w_if_eq (tgt := 124) dX8_metreHere_120 rfl (R32.in (by decide)) (fun c120 => ?_) (fun c120 => ?_)
                · skip
                  exact absurd c120 (by decide)
                · skip
                  have hP9 : tkL b n (ln0 b n σ 0 (sk b n a) e) μ μ_86 := tkL_no (by rw [hl9]; unfold lMet; rw [if_pos hN.1]) (by omega) (((congrFun (hF86.at (by omega) (by omega)) _).trans ((congrFun (hF85.at (by omega) (by omega)) _).trans ((am_up_nk (by omega)).trans hN.2.1))).trans (by rfl)) (((congrFun (hF86.at (by omega) (by omega)) _).trans ((congrFun (hF85.at (by omega) (by omega)) _).trans ((am_up_nk (by omega)).trans hN.2.2.1))).trans (by rfl)) (((congrFun (hF86.at (by omega) (by omega)) _).trans ((congrFun (hF85.at (by omega) (by omega)) _).trans ((am_up_nk (by omega)).trans hN.2.2.2))).trans (by rfl))
                  exact w_retV dX8_metreHere_123 rfl ⟨((hF86.wd (by omega) (by omega)).tr ((hF85.wd (by omega) (by omega)).tr (((hFN.wd (by omega) (by omega)).tr ((hFV.wd (by omega) (by omega)).tr ((hF69.wd (by omega) (by omega)).tr (hF55.wd (by omega) (by omega))))).up (by omega)))), (by exact hP9), (fun k h1 => ((congrFun (hF86.at (by omega) (by omega)) _).trans ((congrFun (hF85.at (by omega) (by omega)) _).trans ((am_up_nk (by omega)).trans ((hf_N k (by omega)).trans ((hf_V k (by omega)).trans ((congrFun (hF69.at (by omega) (by omega)) _).trans (congrFun (hF55.at (by omega) (by omega)) _)))))))), (RTc.cg2 hR_N (fun o h1 => ((hF86.at (by omega) (by omega)).trans ((hF85.at (by omega) (by omega)).trans (am_up_o (by omega))))) (fun k h1 => ((congrFun (hF86.at (by omega) (by omega)) _).trans ((congrFun (hF85.at (by omega) (by omega)) _).trans (am_up_nk (by omega)))))), (by rw [(((congrFun (hF86.at (by omega) (by omega)) _).trans ((congrFun (hF85.at (by omega) (by omega)) _).trans (am_up_nk (by omega)))).trans (by rfl)), (((congrFun (hF86.at (by omega) (by omega)) _).trans ((congrFun (hF85.at (by omega) (by omega)) _).trans (am_up_nk (by omega)))).trans (by rfl))]; omega)⟩
              · skip
                refine w_aload_n dX8_metreHere_90 rfl rfl (by first | decide | omega) ?_
                refine w_getIx (o := 45) (f := 40) (x := μN 45 40) fX8_metreHere_91 rfl rfl (Nat.le_of_ble_eq_true rfl) rfl ((congrFun (hF85.at (by omega) (by omega)) _).trans (am_up_nk (by omega))) ?_
                refine w_iconst dX8_metreHere_94 ?_
                refine w_icmp_eq (tgt := 107) dX8_metreHere_95 rfl (R32.in (by omega)) (R32.in (by decide)) (fun c95 => ?_) (fun c95 => ?_)
                · skip
                  refine w_iconst dX8_metreHere_107 ?_
                  refine w_goto (tgt := 112) dX8_metreHere_108 rfl ?_
                  refine w_iconst dX8_metreHere_112 ?_
                  refine w_callVV (o := 45) (ci := 8) (as := [(0, 1), (0, 2)]) (rest := []) (k := 0) fX8_metreHere_113 rfl rfl rfl rfl rfl rfl rfl rfl (Nat.le_of_ble_eq_true rfl) (s_X8_must_t X 1 2 μ_85 (Or.inr ((congrFun (hF85.at (by omega) (by omega)) _).trans ((am_up_nk (by omega)).trans hN.2.1))) rfl) (fun μ_87 hμ87 => ?_)
                  have hF87 := hμ87
                  refine w_aload_n dX8_metreHere_116 rfl rfl (by first | decide | omega) ?_
                  refine w_getIx (o := 45) (f := 43) (x := 1) fX8_metreHere_117 rfl rfl (Nat.le_of_ble_eq_true rfl) rfl ((congrFun (hF87.at (by omega) (by omega)) _).trans ((congrFun (hF85.at (by omega) (by omega)) _).trans ((am_up_nk (by omega)).trans hN.2.1))) ?_
                  refine w_if_eq (tgt := 124) dX8_metreHere_120 rfl (R32.in (by decide)) (fun c120 => ?_) (fun c120 => ?_)
                  · skip
                    exact absurd c120 (by decide)
                  · skip
                    have hP9 : tkL b n (ln0 b n σ 0 (sk b n a) e) μ μ_87 := tkL_no (by rw [hl9]; unfold lMet; rw [if_pos hN.1]) (by omega) (((congrFun (hF87.at (by omega) (by omega)) _).trans ((congrFun (hF85.at (by omega) (by omega)) _).trans ((am_up_nk (by omega)).trans hN.2.1))).trans (by rfl)) (((congrFun (hF87.at (by omega) (by omega)) _).trans ((congrFun (hF85.at (by omega) (by omega)) _).trans ((am_up_nk (by omega)).trans hN.2.2.1))).trans (by rfl)) (((congrFun (hF87.at (by omega) (by omega)) _).trans ((congrFun (hF85.at (by omega) (by omega)) _).trans ((am_up_nk (by omega)).trans hN.2.2.2))).trans (by rfl))
                    exact w_retV dX8_metreHere_123 rfl ⟨((hF87.wd (by omega) (by omega)).tr ((hF85.wd (by omega) (by omega)).tr (((hFN.wd (by omega) (by omega)).tr ((hFV.wd (by omega) (by omega)).tr ((hF69.wd (by omega) (by omega)).tr (hF55.wd (by omega) (by omega))))).up (by omega)))), (by exact hP9), (fun k h1 => ((congrFun (hF87.at (by omega) (by omega)) _).trans ((congrFun (hF85.at (by omega) (by omega)) _).trans ((am_up_nk (by omega)).trans ((hf_N k (by omega)).trans ((hf_V k (by omega)).trans ((congrFun (hF69.at (by omega) (by omega)) _).trans (congrFun (hF55.at (by omega) (by omega)) _)))))))), (RTc.cg2 hR_N (fun o h1 => ((hF87.at (by omega) (by omega)).trans ((hF85.at (by omega) (by omega)).trans (am_up_o (by omega))))) (fun k h1 => ((congrFun (hF87.at (by omega) (by omega)) _).trans ((congrFun (hF85.at (by omega) (by omega)) _).trans (am_up_nk (by omega)))))), (by rw [(((congrFun (hF87.at (by omega) (by omega)) _).trans ((congrFun (hF85.at (by omega) (by omega)) _).trans (am_up_nk (by omega)))).trans (by rfl)), (((congrFun (hF87.at (by omega) (by omega)) _).trans ((congrFun (hF85.at (by omega) (by omega)) _).trans (am_up_nk (by omega)))).trans (by rfl))]; omega)⟩
                · skip
                  refine w_aload_n dX8_metreHere_98 rfl rfl (by first | decide | omega) ?_
                  refine w_getIx (o := 45) (f := 40) (x := μN 45 40) fX8_metreHere_99 rfl rfl (Nat.le_of_ble_eq_true rfl) rfl ((congrFun (hF85.at (by omega) (by omega)) _).trans (am_up_nk (by omega))) ?_
                  refine w_bipush dX8_metreHere_102 (by decide) ?_
                  refine w_icmp_ne (tgt := 111) dX8_metreHere_104 rfl (R32.in (by omega)) (R32.in (by decide)) (fun c104 => ?_) (fun c104 => ?_)
                  · skip
                    refine w_iconst dX8_metreHere_111 ?_
                    refine w_iconst dX8_metreHere_112 ?_
                    refine w_callVV (o := 45) (ci := 8) (as := [(0, 0), (0, 2)]) (rest := []) (k := 0) fX8_metreHere_113 rfl rfl rfl rfl rfl rfl rfl rfl (Nat.le_of_ble_eq_true rfl) (s_X8_must_b X 0 2 μ_85 ((congrFun (hF85.at (by omega) (by omega)) _).trans ((am_up_nk (by omega)).trans hN.2.1))) (fun μ_88 hμ88 => ?_)
                    have hF88 := hμ88
                    refine w_aload_n dX8_metreHere_116 rfl rfl (by first | decide | omega) ?_
                    refine w_getIx (o := 45) (f := 43) (x := 1) fX8_metreHere_117 rfl rfl (Nat.le_of_ble_eq_true rfl) rfl ((congrFun (hF88.at (by omega) (by omega)) _).trans ((congrFun (hF85.at (by omega) (by omega)) _).trans ((am_up_nk (by omega)).trans hN.2.1))) ?_
                    refine w_if_eq (tgt := 124) dX8_metreHere_120 rfl (R32.in (by decide)) (fun c120 => ?_) (fun c120 => ?_)
                    · skip
                      exact absurd c120 (by decide)
                    · skip
                      have hP9 : tkL b n (ln0 b n σ 0 (sk b n a) e) μ μ_88 := tkL_no (by rw [hl9]; unfold lMet; rw [if_pos hN.1]) (by omega) (((congrFun (hF88.at (by omega) (by omega)) _).trans ((congrFun (hF85.at (by omega) (by omega)) _).trans ((am_up_nk (by omega)).trans hN.2.1))).trans (by rfl)) (((congrFun (hF88.at (by omega) (by omega)) _).trans ((congrFun (hF85.at (by omega) (by omega)) _).trans ((am_up_nk (by omega)).trans hN.2.2.1))).trans (by rfl)) (((congrFun (hF88.at (by omega) (by omega)) _).trans ((congrFun (hF85.at (by omega) (by omega)) _).trans ((am_up_nk (by omega)).trans hN.2.2.2))).trans (by rfl))
                      exact w_retV dX8_metreHere_123 rfl ⟨((hF88.wd (by omega) (by omega)).tr ((hF85.wd (by omega) (by omega)).tr (((hFN.wd (by omega) (by omega)).tr ((hFV.wd (by omega) (by omega)).tr ((hF69.wd (by omega) (by omega)).tr (hF55.wd (by omega) (by omega))))).up (by omega)))), (by exact hP9), (fun k h1 => ((congrFun (hF88.at (by omega) (by omega)) _).trans ((congrFun (hF85.at (by omega) (by omega)) _).trans ((am_up_nk (by omega)).trans ((hf_N k (by omega)).trans ((hf_V k (by omega)).trans ((congrFun (hF69.at (by omega) (by omega)) _).trans (congrFun (hF55.at (by omega) (by omega)) _)))))))), (RTc.cg2 hR_N (fun o h1 => ((hF88.at (by omega) (by omega)).trans ((hF85.at (by omega) (by omega)).trans (am_up_o (by omega))))) (fun k h1 => ((congrFun (hF88.at (by omega) (by omega)) _).trans ((congrFun (hF85.at (by omega) (by omega)) _).trans (am_up_nk (by omega)))))), (by rw [(((congrFun (hF88.at (by omega) (by omega)) _).trans ((congrFun (hF85.at (by omega) (by omega)) _).trans (am_up_nk (by omega)))).trans (by rfl)), (((congrFun (hF88.at (by omega) (by omega)) _).trans ((congrFun (hF85.at (by omega) (by omega)) _).trans (am_up_nk (by omega)))).trans (by rfl))]; omega)⟩
                  · skip
                    refine w_iconst dX8_metreHere_107 ?_
                    refine w_goto (tgt := 112) dX8_metreHere_108 rfl ?_
                    refine w_iconst dX8_metreHere_112 ?_
                    refine w_callVV (o := 45) (ci := 8) (as := [(0, 1), (0, 2)]) (rest := []) (k := 0) fX8_metreHere_113 rfl rfl rfl rfl rfl rfl rfl rfl (Nat.le_of_ble_eq_true rfl) (s_X8_must_t X 1 2 μ_85 (Or.inr ((congrFun (hF85.at (by omega) (by omega)) _).trans ((am_up_nk (by omega)).trans hN.2.1))) rfl) (fun μ_89 hμ89 => ?_)
                    have hF89 := hμ89
                    refine w_aload_n dX8_metreHere_116 rfl rfl (by first | decide | omega) ?_
                    refine w_getIx (o := 45) (f := 43) (x := 1) fX8_metreHere_117 rfl rfl (Nat.le_of_ble_eq_true rfl) rfl ((congrFun (hF89.at (by omega) (by omega)) _).trans ((congrFun (hF85.at (by omega) (by omega)) _).trans ((am_up_nk (by omega)).trans hN.2.1))) ?_
                    refine w_if_eq (tgt := 124) dX8_metreHere_120 rfl (R32.in (by decide)) (fun c120 => ?_) (fun c120 => ?_)
                    · skip
                      exact absurd c120 (by decide)
                    · skip
                      have hP9 : tkL b n (ln0 b n σ 0 (sk b n a) e) μ μ_89 := tkL_no (by rw [hl9]; unfold lMet; rw [if_pos hN.1]) (by omega) (((congrFun (hF89.at (by omega) (by omega)) _).trans ((congrFun (hF85.at (by omega) (by omega)) _).trans ((am_up_nk (by omega)).trans hN.2.1))).trans (by rfl)) (((congrFun (hF89.at (by omega) (by omega)) _).trans ((congrFun (hF85.at (by omega) (by omega)) _).trans ((am_up_nk (by omega)).trans hN.2.2.1))).trans (by rfl)) (((congrFun (hF89.at (by omega) (by omega)) _).trans ((congrFun (hF85.at (by omega) (by omega)) _).trans ((am_up_nk (by omega)).trans hN.2.2.2))).trans (by rfl))
                      exact w_retV dX8_metreHere_123 rfl ⟨((hF89.wd (by omega) (by omega)).tr ((hF85.wd (by omega) (by omega)).tr (((hFN.wd (by omega) (by omega)).tr ((hFV.wd (by omega) (by omega)).tr ((hF69.wd (by omega) (by omega)).tr (hF55.wd (by omega) (by omega))))).up (by omega)))), (by exact hP9), (fun k h1 => ((congrFun (hF89.at (by omega) (by omega)) _).trans ((congrFun (hF85.at (by omega) (by omega)) _).trans ((am_up_nk (by omega)).trans ((hf_N k (by omega)).trans ((hf_V k (by omega)).trans ((congrFun (hF69.at (by omega) (by omega)) _).trans (congrFun (hF55.at (by omega) (by omega)) _)))))))), (RTc.cg2 hR_N (fun o h1 => ((hF89.at (by omega) (by omega)).trans ((hF85.at (by omega) (by omega)).trans (am_up_o (by omega))))) (fun k h1 => ((congrFun (hF89.at (by omega) (by omega)) _).trans ((congrFun (hF85.at (by omega) (by omega)) _).trans (am_up_nk (by omega)))))), (by rw [(((congrFun (hF89.at (by omega) (by omega)) _).trans ((congrFun (hF85.at (by omega) (by omega)) _).trans (am_up_nk (by omega)))).trans (by rfl)), (((congrFun (hF89.at (by omega) (by omega)) _).trans ((congrFun (hF85.at (by omega) (by omega)) _).trans (am_up_nk (by omega)))).trans (by rfl))]; omega)⟩
            · skip
              refine w_iconst dX8_metreHere_72 ?_
              refine w_goto (tgt := 77) dX8_metreHere_73 rfl ?_
              refine w_iconst dX8_metreHere_77 ?_
              refine w_callVV (o := 45) (ci := 8) (as := [(0, 1), (0, 1)]) (rest := []) (k := 0) fX8_metreHere_78 rfl rfl rfl rfl rfl rfl rfl rfl (Nat.le_of_ble_eq_true rfl) (s_X8_must_t X 1 1 (am_up μN 45 44 xN) (Or.inr ((am_up_nk (by omega)).trans hN.2.1)) rfl) (fun μ_90 hμ90 => ?_)
              have hF90 := hμ90
              refine w_aload_n dX8_metreHere_81 rfl rfl (by first | decide | omega) ?_
              refine w_aload_n dX8_metreHere_82 rfl rfl (by first | decide | omega) ?_
              refine w_getIx (o := 45) (f := 40) (x := μN 45 40) fX8_metreHere_83 rfl rfl (Nat.le_of_ble_eq_true rfl) rfl ((congrFun (hF90.at (by omega) (by omega)) _).trans (am_up_nk (by omega))) ?_
              refine w_iconst dX8_metreHere_86 ?_
              refine w_icmp_eq (tgt := 107) dX8_metreHere_87 rfl (R32.in (by omega)) (R32.in (by decide)) (fun c87 => ?_) (fun c87 => ?_)
              · skip
                refine w_iconst dX8_metreHere_107 ?_
                refine w_goto (tgt := 112) dX8_metreHere_108 rfl ?_
                refine w_iconst dX8_metreHere_112 ?_
                refine w_callVV (o := 45) (ci := 8) (as := [(0, 1), (0, 2)]) (rest := []) (k := 0) fX8_metreHere_113 rfl rfl rfl rfl rfl rfl rfl rfl (Nat.le_of_ble_eq_true rfl) (s_X8_must_t X 1 2 μ_90 (Or.inr ((congrFun (hF90.at (by omega) (by omega)) _).trans ((am_up_nk (by omega)).trans hN.2.1))) rfl) (fun μ_91 hμ91 => ?_)
                have hF91 := hμ91
                refine w_aload_n dX8_metreHere_116 rfl rfl (by first | decide | omega) ?_
                refine w_getIx (o := 45) (f := 43) (x := 1) fX8_metreHere_117 rfl rfl (Nat.le_of_ble_eq_true rfl) rfl ((congrFun (hF91.at (by omega) (by omega)) _).trans ((congrFun (hF90.at (by omega) (by omega)) _).trans ((am_up_nk (by omega)).trans hN.2.1))) ?_
                refine w_if_eq (tgt := 124) dX8_metreHere_120 rfl (R32.in (by decide)) (fun c120 => ?_) (fun c120 => ?_)
                · skip
                  exact absurd c120 (by decide)
                · skip
                  have hP9 : tkL b n (ln0 b n σ 0 (sk b n a) e) μ μ_91 := tkL_no (by rw [hl9]; unfold lMet; rw [if_pos hN.1]) (by omega) (((congrFun (hF91.at (by omega) (by omega)) _).trans ((congrFun (hF90.at (by omega) (by omega)) _).trans ((am_up_nk (by omega)).trans hN.2.1))).trans (by rfl)) (((congrFun (hF91.at (by omega) (by omega)) _).trans ((congrFun (hF90.at (by omega) (by omega)) _).trans ((am_up_nk (by omega)).trans hN.2.2.1))).trans (by rfl)) (((congrFun (hF91.at (by omega) (by omega)) _).trans ((congrFun (hF90.at (by omega) (by omega)) _).trans ((am_up_nk (by omega)).trans hN.2.2.2))).trans (by rfl))
                  exact w_retV dX8_metreHere_123 rfl ⟨((hF91.wd (by omega) (by omega)).tr ((hF90.wd (by omega) (by omega)).tr (((hFN.wd (by omega) (by omega)).tr ((hFV.wd (by omega) (by omega)).tr ((hF69.wd (by omega) (by omega)).tr (hF55.wd (by omega) (by omega))))).up (by omega)))), (by exact hP9), (fun k h1 => ((congrFun (hF91.at (by omega) (by omega)) _).trans ((congrFun (hF90.at (by omega) (by omega)) _).trans ((am_up_nk (by omega)).trans ((hf_N k (by omega)).trans ((hf_V k (by omega)).trans ((congrFun (hF69.at (by omega) (by omega)) _).trans (congrFun (hF55.at (by omega) (by omega)) _)))))))), (RTc.cg2 hR_N (fun o h1 => ((hF91.at (by omega) (by omega)).trans ((hF90.at (by omega) (by omega)).trans (am_up_o (by omega))))) (fun k h1 => ((congrFun (hF91.at (by omega) (by omega)) _).trans ((congrFun (hF90.at (by omega) (by omega)) _).trans (am_up_nk (by omega)))))), (by rw [(((congrFun (hF91.at (by omega) (by omega)) _).trans ((congrFun (hF90.at (by omega) (by omega)) _).trans (am_up_nk (by omega)))).trans (by rfl)), (((congrFun (hF91.at (by omega) (by omega)) _).trans ((congrFun (hF90.at (by omega) (by omega)) _).trans (am_up_nk (by omega)))).trans (by rfl))]; omega)⟩
              · skip
                refine w_aload_n dX8_metreHere_90 rfl rfl (by first | decide | omega) ?_
                refine w_getIx (o := 45) (f := 40) (x := μN 45 40) fX8_metreHere_91 rfl rfl (Nat.le_of_ble_eq_true rfl) rfl ((congrFun (hF90.at (by omega) (by omega)) _).trans (am_up_nk (by omega))) ?_
                refine w_iconst dX8_metreHere_94 ?_
                refine w_icmp_eq (tgt := 107) dX8_metreHere_95 rfl (R32.in (by omega)) (R32.in (by decide)) (fun c95 => ?_) (fun c95 => ?_)
                · skip
                  refine w_iconst dX8_metreHere_107 ?_
                  refine w_goto (tgt := 112) dX8_metreHere_108 rfl ?_
                  refine w_iconst dX8_metreHere_112 ?_
                  refine w_callVV (o := 45) (ci := 8) (as := [(0, 1), (0, 2)]) (rest := []) (k := 0) fX8_metreHere_113 rfl rfl rfl rfl rfl rfl rfl rfl (Nat.le_of_ble_eq_true rfl) (s_X8_must_t X 1 2 μ_90 (Or.inr ((congrFun (hF90.at (by omega) (by omega)) _).trans ((am_up_nk (by omega)).trans hN.2.1))) rfl) (fun μ_92 hμ92 => ?_)
                  have hF92 := hμ92
                  refine w_aload_n dX8_metreHere_116 rfl rfl (by first | decide | omega) ?_
                  refine w_getIx (o := 45) (f := 43) (x := 1) fX8_metreHere_117 rfl rfl (Nat.le_of_ble_eq_true rfl) rfl ((congrFun (hF92.at (by omega) (by omega)) _).trans ((congrFun (hF90.at (by omega) (by omega)) _).trans ((am_up_nk (by omega)).trans hN.2.1))) ?_
                  refine w_if_eq (tgt := 124) dX8_metreHere_120 rfl (R32.in (by decide)) (fun c120 => ?_) (fun c120 => ?_)
                  · skip
                    exact absurd c120 (by decide)
                  · skip
                    have hP9 : tkL b n (ln0 b n σ 0 (sk b n a) e) μ μ_92 := tkL_no (by rw [hl9]; unfold lMet; rw [if_pos hN.1]) (by omega) (((congrFun (hF92.at (by omega) (by omega)) _).trans ((congrFun (hF90.at (by omega) (by omega)) _).trans ((am_up_nk (by omega)).trans hN.2.1))).trans (by rfl)) (((congrFun (hF92.at (by omega) (by omega)) _).trans ((congrFun (hF90.at (by omega) (by omega)) _).trans ((am_up_nk (by omega)).trans hN.2.2.1))).trans (by rfl)) (((congrFun (hF92.at (by omega) (by omega)) _).trans ((congrFun (hF90.at (by omega) (by omega)) _).trans ((am_up_nk (by omega)).trans hN.2.2.2))).trans (by rfl))
                    exact w_retV dX8_metreHere_123 rfl ⟨((hF92.wd (by omega) (by omega)).tr ((hF90.wd (by omega) (by omega)).tr (((hFN.wd (by omega) (by omega)).tr ((hFV.wd (by omega) (by omega)).tr ((hF69.wd (by omega) (by omega)).tr (hF55.wd (by omega) (by omega))))).up (by omega)))), (by exact hP9), (fun k h1 => ((congrFun (hF92.at (by omega) (by omega)) _).trans ((congrFun (hF90.at (by omega) (by omega)) _).trans ((am_up_nk (by omega)).trans ((hf_N k (by omega)).trans ((hf_V k (by omega)).trans ((congrFun (hF69.at (by omega) (by omega)) _).trans (congrFun (hF55.at (by omega) (by omega)) _)))))))), (RTc.cg2 hR_N (fun o h1 => ((hF92.at (by omega) (by omega)).trans ((hF90.at (by omega) (by omega)).trans (am_up_o (by omega))))) (fun k h1 => ((congrFun (hF92.at (by omega) (by omega)) _).trans ((congrFun (hF90.at (by omega) (by omega)) _).trans (am_up_nk (by omega)))))), (by rw [(((congrFun (hF92.at (by omega) (by omega)) _).trans ((congrFun (hF90.at (by omega) (by omega)) _).trans (am_up_nk (by omega)))).trans (by rfl)), (((congrFun (hF92.at (by omega) (by omega)) _).trans ((congrFun (hF90.at (by omega) (by omega)) _).trans (am_up_nk (by omega)))).trans (by rfl))]; omega)⟩
                · skip
                  refine w_aload_n dX8_metreHere_98 rfl rfl (by first | decide | omega) ?_
                  refine w_getIx (o := 45) (f := 40) (x := μN 45 40) fX8_metreHere_99 rfl rfl (Nat.le_of_ble_eq_true rfl) rfl ((congrFun (hF90.at (by omega) (by omega)) _).trans (am_up_nk (by omega))) ?_
                  refine w_bipush dX8_metreHere_102 (by decide) ?_
                  refine w_icmp_ne (tgt := 111) dX8_metreHere_104 rfl (R32.in (by omega)) (R32.in (by decide)) (fun c104 => ?_) (fun c104 => ?_)
                  · skip
                    refine w_iconst dX8_metreHere_111 ?_
                    refine w_iconst dX8_metreHere_112 ?_
                    refine w_callVV (o := 45) (ci := 8) (as := [(0, 0), (0, 2)]) (rest := []) (k := 0) fX8_metreHere_113 rfl rfl rfl rfl rfl rfl rfl rfl (Nat.le_of_ble_eq_true rfl) (s_X8_must_b X 0 2 μ_90 ((congrFun (hF90.at (by omega) (by omega)) _).trans ((am_up_nk (by omega)).trans hN.2.1))) (fun μ_93 hμ93 => ?_)
                    have hF93 := hμ93
                    refine w_aload_n dX8_metreHere_116 rfl rfl (by first | decide | omega) ?_
                    refine w_getIx (o := 45) (f := 43) (x := 1) fX8_metreHere_117 rfl rfl (Nat.le_of_ble_eq_true rfl) rfl ((congrFun (hF93.at (by omega) (by omega)) _).trans ((congrFun (hF90.at (by omega) (by omega)) _).trans ((am_up_nk (by omega)).trans hN.2.1))) ?_
                    refine w_if_eq (tgt := 124) dX8_metreHere_120 rfl (R32.in (by decide)) (fun c120 => ?_) (fun c120 => ?_)
                    · skip
                      exact absurd c120 (by decide)
                    · skip
                      have hP9 : tkL b n (ln0 b n σ 0 (sk b n a) e) μ μ_93 := tkL_no (by rw [hl9]; unfold lMet; rw [if_pos hN.1]) (by omega) (((congrFun (hF93.at (by omega) (by omega)) _).trans ((congrFun (hF90.at (by omega) (by omega)) _).trans ((am_up_nk (by omega)).trans hN.2.1))).trans (by rfl)) (((congrFun (hF93.at (by omega) (by omega)) _).trans ((congrFun (hF90.at (by omega) (by omega)) _).trans ((am_up_nk (by omega)).trans hN.2.2.1))).trans (by rfl)) (((congrFun (hF93.at (by omega) (by omega)) _).trans ((congrFun (hF90.at (by omega) (by omega)) _).trans ((am_up_nk (by omega)).trans hN.2.2.2))).trans (by rfl))
                      exact w_retV dX8_metreHere_123 rfl ⟨((hF93.wd (by omega) (by omega)).tr ((hF90.wd (by omega) (by omega)).tr (((hFN.wd (by omega) (by omega)).tr ((hFV.wd (by omega) (by omega)).tr ((hF69.wd (by omega) (by omega)).tr (hF55.wd (by omega) (by omega))))).up (by omega)))), (by exact hP9), (fun k h1 => ((congrFun (hF93.at (by omega) (by omega)) _).trans ((congrFun (hF90.at (by omega) (by omega)) _).trans ((am_up_nk (by omega)).trans ((hf_N k (by omega)).trans ((hf_V k (by omega)).trans ((congrFun (hF69.at (by omega) (by omega)) _).trans (congrFun (hF55.at (by omega) (by omega)) _)))))))), (RTc.cg2 hR_N (fun o h1 => ((hF93.at (by omega) (by omega)).trans ((hF90.at (by omega) (by omega)).trans (am_up_o (by omega))))) (fun k h1 => ((congrFun (hF93.at (by omega) (by omega)) _).trans ((congrFun (hF90.at (by omega) (by omega)) _).trans (am_up_nk (by omega)))))), (by rw [(((congrFun (hF93.at (by omega) (by omega)) _).trans ((congrFun (hF90.at (by omega) (by omega)) _).trans (am_up_nk (by omega)))).trans (by rfl)), (((congrFun (hF93.at (by omega) (by omega)) _).trans ((congrFun (hF90.at (by omega) (by omega)) _).trans (am_up_nk (by omega)))).trans (by rfl))]; omega)⟩
                  · skip
                    refine w_iconst dX8_metreHere_107 ?_
                    refine w_goto (tgt := 112) dX8_metreHere_108 rfl ?_
                    refine w_iconst dX8_metreHere_112 ?_
                    refine w_callVV (o := 45) (ci := 8) (as := [(0, 1), (0, 2)]) (rest := []) (k := 0) fX8_metreHere_113 rfl rfl rfl rfl rfl rfl rfl rfl (Nat.le_of_ble_eq_true rfl) (s_X8_must_t X 1 2 μ_90 (Or.inr ((congrFun (hF90.at (by omega) (by omega)) _).trans ((am_up_nk (by omega)).trans hN.2.1))) rfl) (fun μ_94 hμ94 => ?_)
                    have hF94 := hμ94
                    refine w_aload_n dX8_metreHere_116 rfl rfl (by first | decide | omega) ?_
                    refine w_getIx (o := 45) (f := 43) (x := 1) fX8_metreHere_117 rfl rfl (Nat.le_of_ble_eq_true rfl) rfl ((congrFun (hF94.at (by omega) (by omega)) _).trans ((congrFun (hF90.at (by omega) (by omega)) _).trans ((am_up_nk (by omega)).trans hN.2.1))) ?_
                    refine w_if_eq (tgt := 124) dX8_metreHere_120 rfl (R32.in (by decide)) (fun c120 => ?_) (fun c120 => ?_)
                    · skip
                      exact absurd c120 (by decide)
                    · skip
                      have hP9 : tkL b n (ln0 b n σ 0 (sk b n a) e) μ μ_94 := tkL_no (by rw [hl9]; unfold lMet; rw [if_pos hN.1]) (by omega) (((congrFun (hF94.at (by omega) (by omega)) _).trans ((congrFun (hF90.at (by omega) (by omega)) _).trans ((am_up_nk (by omega)).trans hN.2.1))).trans (by rfl)) (((congrFun (hF94.at (by omega) (by omega)) _).trans ((congrFun (hF90.at (by omega) (by omega)) _).trans ((am_up_nk (by omega)).trans hN.2.2.1))).trans (by rfl)) (((congrFun (hF94.at (by omega) (by omega)) _).trans ((congrFun (hF90.at (by omega) (by omega)) _).trans ((am_up_nk (by omega)).trans hN.2.2.2))).trans (by rfl))
                      exact w_retV dX8_metreHere_123 rfl ⟨((hF94.wd (by omega) (by omega)).tr ((hF90.wd (by omega) (by omega)).tr (((hFN.wd (by omega) (by omega)).tr ((hFV.wd (by omega) (by omega)).tr ((hF69.wd (by omega) (by omega)).tr (hF55.wd (by omega) (by omega))))).up (by omega)))), (by exact hP9), (fun k h1 => ((congrFun (hF94.at (by omega) (by omega)) _).trans ((congrFun (hF90.at (by omega) (by omega)) _).trans ((am_up_nk (by omega)).trans ((hf_N k (by omega)).trans ((hf_V k (by omega)).trans ((congrFun (hF69.at (by omega) (by omega)) _).trans (congrFun (hF55.at (by omega) (by omega)) _)))))))), (RTc.cg2 hR_N (fun o h1 => ((hF94.at (by omega) (by omega)).trans ((hF90.at (by omega) (by omega)).trans (am_up_o (by omega))))) (fun k h1 => ((congrFun (hF94.at (by omega) (by omega)) _).trans ((congrFun (hF90.at (by omega) (by omega)) _).trans (am_up_nk (by omega)))))), (by rw [(((congrFun (hF94.at (by omega) (by omega)) _).trans ((congrFun (hF90.at (by omega) (by omega)) _).trans (am_up_nk (by omega)))).trans (by rfl)), (((congrFun (hF94.at (by omega) (by omega)) _).trans ((congrFun (hF90.at (by omega) (by omega)) _).trans (am_up_nk (by omega)))).trans (by rfl))]; omega)⟩
