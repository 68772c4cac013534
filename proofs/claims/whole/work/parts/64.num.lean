set_option maxRecDepth 100000 in
set_option maxHeartbeats 4000000 in
theorem s_X8_isMark (X : AX) (c : Int) (μ : Mu) (h39 : 0 ≤ μ 45 39 ∧ μ 45 39 ≤ 4) (h40 : -1 ≤ μ 45 40 ∧ μ 45 40 < 1073741824) (hc : 0 ≤ c ∧ c ≤ 127) : Wp (GG X) M_X8_isMark 0 [(2, 45), (0, c)] [] μ (pP 0 (am_b (μ 45 39 = 3 ∧ μ 45 40 = c)) μ) := by
  refine w_aload_n dX8_isMark_0 rfl rfl (by first | decide | omega) ?_
  refine w_getIx (o := 45) (f := 39) (x := μ 45 39) fX8_isMark_1 rfl rfl (Nat.le_of_ble_eq_true rfl) rfl rfl ?_
  refine w_iconst dX8_isMark_4 ?_
  refine w_icmp_ne (tgt := 20) dX8_isMark_5 rfl (R32.in (by omega)) (R32.in (by decide)) (fun c5 => ?_) (fun c5 => ?_)
  · skip
    refine w_iconst dX8_isMark_20 ?_
    exact w_zretP dX8_isMark_21 rfl (Or.inl rfl) (by first | exact am_b_t (by omega) | exact am_b_f (by omega))
  · skip
    refine w_aload_n dX8_isMark_8 rfl rfl (by first | decide | omega) ?_
    refine w_getIx (o := 45) (f := 40) (x := μ 45 40) fX8_isMark_9 rfl rfl (Nat.le_of_ble_eq_true rfl) rfl rfl ?_
    refine w_iload_n dX8_isMark_12 rfl rfl ?_
    refine w_icmp_ne (tgt := 20) dX8_isMark_13 rfl (R32.in (by omega)) (R32.in (by omega)) (fun c13 => ?_) (fun c13 => ?_)
    · skip
      refine w_iconst dX8_isMark_20 ?_
      exact w_zretP dX8_isMark_21 rfl (Or.inl rfl) (by first | exact am_b_t (by omega) | exact am_b_f (by omega))
    · skip
      refine w_iconst dX8_isMark_16 ?_
      refine w_goto (tgt := 21) dX8_isMark_17 rfl ?_
      exact w_zretP dX8_isMark_21 rfl (Or.inr rfl) (by first | exact am_b_t (by omega) | exact am_b_f (by omega))

set_option maxRecDepth 100000 in
set_option maxHeartbeats 4000000 in
theorem s_X8_kindOf (X : AX) (v : Int) (μ : Mu) (hv : -2147483648 ≤ v ∧ v ≤ 2147483647) : Wp (GG X) M_X8_kindOf 0 [(0, v)] [] μ (pP 0 (kdo v) μ) := by
  refine w_iload_n dX8_kindOf_0 rfl rfl ?_
  refine w_iconst dX8_kindOf_1 ?_
  refine w_icmp_ne (tgt := 9) dX8_kindOf_2 rfl (R32.in (by omega)) (R32.in (by decide)) (fun c2 => ?_) (fun c2 => ?_)
  · skip
    refine w_iload_n dX8_kindOf_9 rfl rfl ?_
    refine w_bipush dX8_kindOf_10 (by decide) ?_
    refine w_icmp_ne (tgt := 19) dX8_kindOf_12 rfl (R32.in (by omega)) (R32.in (by decide)) (fun c12 => ?_) (fun c12 => ?_)
    · skip
      refine w_iload_n dX8_kindOf_19 rfl rfl ?_
      refine w_bipush dX8_kindOf_20 (by decide) ?_
      refine w_icmp_ne (tgt := 29) dX8_kindOf_22 rfl (R32.in (by omega)) (R32.in (by decide)) (fun c22 => ?_) (fun c22 => ?_)
      · skip
        refine w_iload_n dX8_kindOf_29 rfl rfl ?_
        refine w_bipush dX8_kindOf_30 (by decide) ?_
        refine w_icmp_ne (tgt := 39) dX8_kindOf_32 rfl (R32.in (by omega)) (R32.in (by decide)) (fun c32 => ?_) (fun c32 => ?_)
        · skip
          refine w_iconst dX8_kindOf_39 ?_
          exact w_iretP dX8_kindOf_40 rfl (by (unfold kdo; (repeat' split) <;> omega))
        · skip
          refine w_iconst dX8_kindOf_35 ?_
          refine w_goto (tgt := 40) dX8_kindOf_36 rfl ?_
          exact w_iretP dX8_kindOf_40 rfl (by (unfold kdo; (repeat' split) <;> omega))
      · skip
        refine w_iconst dX8_kindOf_25 ?_
        refine w_goto (tgt := 40) dX8_kindOf_26 rfl ?_
        exact w_iretP dX8_kindOf_40 rfl (by (unfold kdo; (repeat' split) <;> omega))
    · skip
      refine w_iconst dX8_kindOf_15 ?_
      refine w_goto (tgt := 40) dX8_kindOf_16 rfl ?_
      exact w_iretP dX8_kindOf_40 rfl (by (unfold kdo; (repeat' split) <;> omega))
  · skip
    refine w_iconst dX8_kindOf_5 ?_
    refine w_goto (tgt := 40) dX8_kindOf_6 rfl ?_
    exact w_iretP dX8_kindOf_40 rfl (by (unfold kdo; (repeat' split) <;> omega))

set_option maxRecDepth 100000 in
set_option maxHeartbeats 4000000 in
theorem s_X8_numberHere (X : AX) (b : Int → Int) (n : Int) (a : Int) (lo : Int) (hi : Int) (μ : Mu) (hR : RTc b n μ) (hat : 0 ≤ μ 45 37 ∧ μ 45 37 ≤ n) (hK : TK b n (sk b n a) μ) (ha : 0 ≤ a ∧ a ≤ n) (hb : μ 45 43 = 0) (hlh : (-1000 ≤ lo ∧ lo ≤ 1000) ∧ (-1000 ≤ hi ∧ hi ≤ 1000)) : Wp (GG X) M_X8_numberHere 0 [(2, 45), (0, lo), (0, hi), (9, 0)] [] μ (qI 0 fun z μ' => (Fr 45 45 1 0 μ' μ) ∧ (tkN b n (nW b n lo hi a) z μ μ') ∧ (∀ k9 : Int, (¬ k9 = 37 ∧ ¬ k9 = 38 ∧ ¬ k9 = 39 ∧ ¬ k9 = 40 ∧ ¬ k9 = 41 ∧ ¬ k9 = 42 ∧ ¬ k9 = 43) → μ' 45 k9 = μ 45 k9) ∧ (RTc b n μ') ∧ ((0 ≤ μ' 45 39 ∧ μ' 45 39 ≤ 4) ∧ (-1 ≤ μ' 45 40 ∧ μ' 45 40 < 1073741824))) := by
  have hn := hR.n
  have hbb := hR.bb
  have hr39 := hK.r
  have hr40 := hK.v hbb ha
  refine w_aload_n dX8_numberHere_0 rfl rfl (by first | decide | omega) ?_
  refine w_aload_n dX8_numberHere_1 rfl rfl (by first | decide | omega) ?_
  refine w_getIx (o := 45) (f := 39) (x := μ 45 39) fX8_numberHere_2 rfl rfl (Nat.le_of_ble_eq_true rfl) rfl rfl ?_
  refine w_iconst dX8_numberHere_5 ?_
  refine w_icmp_ne (tgt := 13) dX8_numberHere_6 rfl (R32.in (by omega)) (R32.in (by decide)) (fun c6 => ?_) (fun c6 => ?_)
  · skip
    have hN2 := hK.n2 c6
    refine w_iconst dX8_numberHere_13 ?_
    refine w_iconst dX8_numberHere_14 ?_
    refine w_callVV (o := 45) (ci := 8) (as := [(0, 0), (0, 1)]) (rest := []) (k := 0) fX8_numberHere_15 rfl rfl rfl rfl rfl rfl rfl rfl (Nat.le_of_ble_eq_true rfl) (s_X8_must_f X 0 1 μ hb rfl) (fun μ_1 hμ1 => ?_)
    obtain ⟨hF1, hb_1, h1_1, h2_1, hf_1⟩ := hμ1
    refine w_aload_n dX8_numberHere_18 rfl rfl (by first | decide | omega) ?_
    refine w_aload_n dX8_numberHere_19 rfl rfl (by first | decide | omega) ?_
    refine w_getIx (o := 45) (f := 40) (x := μ 45 40) fX8_numberHere_20 rfl rfl (Nat.le_of_ble_eq_true rfl) rfl (hf_1 _ (by omega)) ?_
    refine w_iload_n dX8_numberHere_23 rfl rfl ?_
    refine w_iload_n dX8_numberHere_24 rfl rfl ?_
    refine w_callSP (as := [(0, μ 45 40), (0, lo), (0, hi)]) (rest := [(2, 45)]) (k := 0) fX8_numberHere_25 rfl rfl rfl rfl rfl (Nat.le_of_ble_eq_true rfl) (s_X8_isIn X (μ 45 40) lo hi μ_1 (by first | omega | assumption) (by first | omega | assumption) (by first | omega | assumption)) ?_
    have hf2 := am_b_r (lo ≤ (μ 45 40) ∧ (μ 45 40) ≤ hi)
    by_cases hs28 : (lo ≤ (μ 45 40) ∧ (μ 45 40) ≤ hi)
    · refine Wp.topE (b := 1) (am_b_t hs28).symm ?_
      refine w_iconst dX8_numberHere_28 ?_
      refine w_callVV (o := 45) (ci := 8) (as := [(0, 1), (0, 2)]) (rest := []) (k := 0) fX8_numberHere_29 rfl rfl rfl rfl rfl rfl rfl rfl (Nat.le_of_ble_eq_true rfl) (s_X8_must_t X 1 2 μ_1 (Or.inr hb_1) rfl) (fun μ_3 hμ3 => ?_)
      have hF3 := hμ3
      refine w_aload_n dX8_numberHere_32 rfl rfl (by first | decide | omega) ?_
      refine w_getIx (o := 45) (f := 40) (x := μ 45 40) fX8_numberHere_33 rfl rfl (Nat.le_of_ble_eq_true rfl) rfl ((congrFun (hF3.at (by omega) (by omega)) _).trans (hf_1 _ (by omega))) ?_
      refine w_istore_n (ls' := [(2, 45), (0, lo), (0, hi), (0, μ 45 40)]) dX8_numberHere_36 rfl (Nat.le_of_ble_eq_true rfl) rfl rfl ?_
      refine w_aload_n dX8_numberHere_37 rfl rfl (by first | decide | omega) ?_
      refine w_getIx (o := 45) (f := 43) (x := 1) fX8_numberHere_38 rfl rfl (Nat.le_of_ble_eq_true rfl) rfl ((congrFun (hF3.at (by omega) (by omega)) _).trans hb_1) ?_
      refine w_if_ne (tgt := 48) dX8_numberHere_41 rfl (R32.in (by decide)) (fun c41 => ?_) (fun c41 => ?_)
      · skip
        have hP9 : tkN b n (nW b n lo hi a) (μ 45 40) μ μ_3 := tkN_no (nW_1 hN2) (by omega) (((congrFun (hF3.at (by omega) (by omega)) _).trans hb_1).trans (by rfl)) (((congrFun (hF3.at (by omega) (by omega)) _).trans h1_1).trans (by rfl)) (((congrFun (hF3.at (by omega) (by omega)) _).trans (h2_1.trans rfl)).trans (by exact hK.1))
        have hTR : (0 ≤ μ_3 45 39 ∧ μ_3 45 39 ≤ 4) ∧ (-1 ≤ μ_3 45 40 ∧ μ_3 45 40 < 1073741824) := (by rw [(((congrFun (hF3.at (by omega) (by omega)) _).trans (hf_1 _ (by omega))).trans (by rfl)), (((congrFun (hF3.at (by omega) (by omega)) _).trans (hf_1 _ (by omega))).trans (by rfl))]; omega)
        refine w_iload_n dX8_numberHere_48 rfl rfl ?_
        exact w_iretI dX8_numberHere_49 rfl ⟨((hF3.wd (by omega) (by omega)).tr hF1), (by exact hP9), (fun k h1 => ((congrFun (hF3.at (by omega) (by omega)) _).trans (hf_1 k (by omega)))), (RTc.cg2 hR (fun o h1 => ((hF3.at (by omega) (by omega)).trans (hF1.at (by omega) (by omega)))) (fun k h1 => ((congrFun (hF3.at (by omega) (by omega)) _).trans (hf_1 _ (by omega))))), (by exact hTR)⟩
      · skip
        exact absurd c41 (by decide)
    · refine Wp.topE (b := 0) (am_b_f hs28).symm ?_
      refine w_iconst dX8_numberHere_28 ?_
      refine w_callVV (o := 45) (ci := 8) (as := [(0, 0), (0, 2)]) (rest := []) (k := 0) fX8_numberHere_29 rfl rfl rfl rfl rfl rfl rfl rfl (Nat.le_of_ble_eq_true rfl) (s_X8_must_b X 0 2 μ_1 hb_1) (fun μ_4 hμ4 => ?_)
      have hF4 := hμ4
      refine w_aload_n dX8_numberHere_32 rfl rfl (by first | decide | omega) ?_
      refine w_getIx (o := 45) (f := 40) (x := μ 45 40) fX8_numberHere_33 rfl rfl (Nat.le_of_ble_eq_true rfl) rfl ((congrFun (hF4.at (by omega) (by omega)) _).trans (hf_1 _ (by omega))) ?_
      refine w_istore_n (ls' := [(2, 45), (0, lo), (0, hi), (0, μ 45 40)]) dX8_numberHere_36 rfl (Nat.le_of_ble_eq_true rfl) rfl rfl ?_
      refine w_aload_n dX8_numberHere_37 rfl rfl (by first | decide | omega) ?_
      refine w_getIx (o := 45) (f := 43) (x := 1) fX8_numberHere_38 rfl rfl (Nat.le_of_ble_eq_true rfl) rfl ((congrFun (hF4.at (by omega) (by omega)) _).trans hb_1) ?_
      refine w_if_ne (tgt := 48) dX8_numberHere_41 rfl (R32.in (by decide)) (fun c41 => ?_) (fun c41 => ?_)
      · skip
        have hP9 : tkN b n (nW b n lo hi a) (μ 45 40) μ μ_4 := tkN_no (nW_1 hN2) (by omega) (((congrFun (hF4.at (by omega) (by omega)) _).trans hb_1).trans (by rfl)) (((congrFun (hF4.at (by omega) (by omega)) _).trans h1_1).trans (by rfl)) (((congrFun (hF4.at (by omega) (by omega)) _).trans (h2_1.trans rfl)).trans (by exact hK.1))
        have hTR : (0 ≤ μ_4 45 39 ∧ μ_4 45 39 ≤ 4) ∧ (-1 ≤ μ_4 45 40 ∧ μ_4 45 40 < 1073741824) := (by rw [(((congrFun (hF4.at (by omega) (by omega)) _).trans (hf_1 _ (by omega))).trans (by rfl)), (((congrFun (hF4.at (by omega) (by omega)) _).trans (hf_1 _ (by omega))).trans (by rfl))]; omega)
        refine w_iload_n dX8_numberHere_48 rfl rfl ?_
        exact w_iretI dX8_numberHere_49 rfl ⟨((hF4.wd (by omega) (by omega)).tr hF1), (by exact hP9), (fun k h1 => ((congrFun (hF4.at (by omega) (by omega)) _).trans (hf_1 k (by omega)))), (RTc.cg2 hR (fun o h1 => ((hF4.at (by omega) (by omega)).trans (hF1.at (by omega) (by omega)))) (fun k h1 => ((congrFun (hF4.at (by omega) (by omega)) _).trans (hf_1 _ (by omega))))), (by exact hTR)⟩
      · skip
        exact absurd c41 (by decide)
  · skip
    have hN := hK.t2 c6 ha
    have hskr := sk_r b n a ha.2
    have hder := de_r b n (sk b n a) hskr.2
    refine w_iconst dX8_numberHere_9 ?_
    refine w_goto (tgt := 14) dX8_numberHere_10 rfl ?_
    refine w_iconst dX8_numberHere_14 ?_
    refine w_callVV (o := 45) (ci := 8) (as := [(0, 1), (0, 1)]) (rest := []) (k := 0) fX8_numberHere_15 rfl rfl rfl rfl rfl rfl rfl rfl (Nat.le_of_ble_eq_true rfl) (s_X8_must_t X 1 1 μ (Or.inl hb) rfl) (fun μ_5 hμ5 => ?_)
    have hF5 := hμ5
    refine w_aload_n dX8_numberHere_18 rfl rfl (by first | decide | omega) ?_
    refine w_aload_n dX8_numberHere_19 rfl rfl (by first | decide | omega) ?_
    refine w_getIx (o := 45) (f := 40) (x := μ 45 40) fX8_numberHere_20 rfl rfl (Nat.le_of_ble_eq_true rfl) rfl (congrFun (hF5.at (by omega) (by omega)) _) ?_
    refine w_iload_n dX8_numberHere_23 rfl rfl ?_
    refine w_iload_n dX8_numberHere_24 rfl rfl ?_
    refine w_callSP (as := [(0, μ 45 40), (0, lo), (0, hi)]) (rest := [(2, 45)]) (k := 0) fX8_numberHere_25 rfl rfl rfl rfl rfl (Nat.le_of_ble_eq_true rfl) (s_X8_isIn X (μ 45 40) lo hi μ_5 (by first | omega | assumption) (by first | omega | assumption) (by first | omega | assumption)) ?_
    have hf6 := am_b_r (lo ≤ (μ 45 40) ∧ (μ 45 40) ≤ hi)
    by_cases hs28 : (lo ≤ (μ 45 40) ∧ (μ 45 40) ≤ hi)
    · refine Wp.topE (b := 1) (am_b_t hs28).symm ?_
      refine w_iconst dX8_numberHere_28 ?_
      refine w_callVV (o := 45) (ci := 8) (as := [(0, 1), (0, 2)]) (rest := []) (k := 0) fX8_numberHere_29 rfl rfl rfl rfl rfl rfl rfl rfl (Nat.le_of_ble_eq_true rfl) (s_X8_must_t X 1 2 μ_5 (Or.inl ((congrFun (hF5.at (by omega) (by omega)) _).trans hb)) rfl) (fun μ_7 hμ7 => ?_)
      have hF7 := hμ7
      refine w_aload_n dX8_numberHere_32 rfl rfl (by first | decide | omega) ?_
      refine w_getIx (o := 45) (f := 40) (x := μ 45 40) fX8_numberHere_33 rfl rfl (Nat.le_of_ble_eq_true rfl) rfl ((congrFun (hF7.at (by omega) (by omega)) _).trans (congrFun (hF5.at (by omega) (by omega)) _)) ?_
      refine w_istore_n (ls' := [(2, 45), (0, lo), (0, hi), (0, μ 45 40)]) dX8_numberHere_36 rfl (Nat.le_of_ble_eq_true rfl) rfl rfl ?_
      refine w_aload_n dX8_numberHere_37 rfl rfl (by first | decide | omega) ?_
      refine w_getIx (o := 45) (f := 43) (x := 0) fX8_numberHere_38 rfl rfl (Nat.le_of_ble_eq_true rfl) rfl ((congrFun (hF7.at (by omega) (by omega)) _).trans ((congrFun (hF5.at (by omega) (by omega)) _).trans hb)) ?_
      refine w_if_ne (tgt := 48) dX8_numberHere_41 rfl (R32.in (by decide)) (fun c41 => ?_) (fun c41 => ?_)
      · skip
        exact absurd c41 (by decide)
      · skip
        have hat5 : 0 ≤ μ_7 45 37 ∧ μ_7 45 37 ≤ n := (by rw [(((congrFun (hF7.at (by omega) (by omega)) _).trans (congrFun (hF5.at (by omega) (by omega)) _)).trans (by rfl))]; exact hat)
        have h375 : μ_7 45 37 = μ 45 37 := (((congrFun (hF7.at (by omega) (by omega)) _).trans (congrFun (hF5.at (by omega) (by omega)) _)).trans (by rfl))
        refine w_aload_n dX8_numberHere_44 rfl rfl (by first | decide | omega) ?_
        refine w_callVV (o := 45) (ci := 8) (as := []) (rest := []) (k := 1) fX8_numberHere_45 rfl rfl rfl rfl rfl rfl rfl rfl (Nat.le_of_ble_eq_true rfl) (s_X8_advance X b n μ_7 (RTc.cg2 hR (fun o h1 => ((hF7.at (by omega) (by omega)).trans (hF5.at (by omega) (by omega)))) (fun k h1 => ((congrFun (hF7.at (by omega) (by omega)) _).trans (congrFun (hF5.at (by omega) (by omega)) _)))) hat5) (fun μV hμV => ?_)
        obtain ⟨hFV, htk_V, hf_V, hR_V, hat_V⟩ := hμV
        rw [h375, hN.2.1] at htk_V
        have hP9 : tkN b n (nW b n lo hi a) (μ 45 40) μ μV := tkN_ok (nW_0 hN.1 (by have := hN.2.2; omega)) (by have := hN.2.2; omega) (((hf_V _ (by omega)).trans ((congrFun (hF7.at (by omega) (by omega)) _).trans ((congrFun (hF5.at (by omega) (by omega)) _).trans hb))).trans (by rfl)) htk_V (by omega) (((hf_V _ (by omega)).trans ((congrFun (hF7.at (by omega) (by omega)) _).trans (congrFun (hF5.at (by omega) (by omega)) _))).trans (by rfl)) (((hf_V _ (by omega)).trans ((congrFun (hF7.at (by omega) (by omega)) _).trans (congrFun (hF5.at (by omega) (by omega)) _))).trans (by rfl))
        have hTR : (0 ≤ μV 45 39 ∧ μV 45 39 ≤ 4) ∧ (-1 ≤ μV 45 40 ∧ μV 45 40 < 1073741824) := ⟨htk_V.r, htk_V.v hbb (by omega)⟩
        refine w_iload_n dX8_numberHere_48 rfl rfl ?_
        exact w_iretI dX8_numberHere_49 rfl ⟨((hFV.wd (by omega) (by omega)).tr ((hF7.wd (by omega) (by omega)).tr (hF5.wd (by omega) (by omega)))), (by exact hP9), (fun k h1 => ((hf_V k (by omega)).trans ((congrFun (hF7.at (by omega) (by omega)) _).trans (congrFun (hF5.at (by omega) (by omega)) _)))), hR_V, (by exact hTR)⟩
    · refine Wp.topE (b := 0) (am_b_f hs28).symm ?_
      refine w_iconst dX8_numberHere_28 ?_
      refine w_callVV (o := 45) (ci := 8) (as := [(0, 0), (0, 2)]) (rest := []) (k := 0) fX8_numberHere_29 rfl rfl rfl rfl rfl rfl rfl rfl (Nat.le_of_ble_eq_true rfl) (s_X8_must_f X 0 2 μ_5 ((congrFun (hF5.at (by omega) (by omega)) _).trans hb) rfl) (fun μ_9 hμ9 => ?_)
      obtain ⟨hF9, hb_9, h1_9, h2_9, hf_9⟩ := hμ9
      refine w_aload_n dX8_numberHere_32 rfl rfl (by first | decide | omega) ?_
      refine w_getIx (o := 45) (f := 40) (x := μ 45 40) fX8_numberHere_33 rfl rfl (Nat.le_of_ble_eq_true rfl) rfl ((hf_9 _ (by omega)).trans (congrFun (hF5.at (by omega) (by omega)) _)) ?_
      refine w_istore_n (ls' := [(2, 45), (0, lo), (0, hi), (0, μ 45 40)]) dX8_numberHere_36 rfl (Nat.le_of_ble_eq_true rfl) rfl rfl ?_
      refine w_aload_n dX8_numberHere_37 rfl rfl (by first | decide | omega) ?_
      refine w_getIx (o := 45) (f := 43) (x := 1) fX8_numberHere_38 rfl rfl (Nat.le_of_ble_eq_true rfl) rfl hb_9 ?_
      refine w_if_ne (tgt := 48) dX8_numberHere_41 rfl (R32.in (by decide)) (fun c41 => ?_) (fun c41 => ?_)
      · skip
        have hP9 : tkN b n (nW b n lo hi a) (μ 45 40) μ μ_9 := tkN_no (nW_2 hN.1 (by have := hN.2.2; omega)) (by omega) (hb_9.trans (by rfl)) (h1_9.trans (by rfl)) ((h2_9.trans (congrFun (hF5.at (by omega) (by omega)) _)).trans (by exact hK.1))
        have hTR : (0 ≤ μ_9 45 39 ∧ μ_9 45 39 ≤ 4) ∧ (-1 ≤ μ_9 45 40 ∧ μ_9 45 40 < 1073741824) := (by rw [(((hf_9 _ (by omega)).trans (congrFun (hF5.at (by omega) (by omega)) _)).trans (by rfl)), (((hf_9 _ (by omega)).trans (congrFun (hF5.at (by omega) (by omega)) _)).trans (by rfl))]; omega)
        refine w_iload_n dX8_numberHere_48 rfl rfl ?_
        exact w_iretI dX8_numberHere_49 rfl ⟨((hF9.wd (by omega) (by omega)).tr (hF5.wd (by omega) (by omega))), (by exact hP9), (fun k h1 => ((hf_9 k (by omega)).trans (congrFun (hF5.at (by omega) (by omega)) _))), (RTc.cg2 hR (fun o h1 => ((hF9.at (by omega) (by omega)).trans (hF5.at (by omega) (by omega)))) (fun k h1 => ((hf_9 _ (by omega)).trans (congrFun (hF5.at (by omega) (by omega)) _)))), (by exact hTR)⟩
      · skip
        exact absurd c41 (by decide)

set_option maxRecDepth 100000 in
set_option maxHeartbeats 4000000 in
theorem s_X8_numberHere_b (X : AX) (lo : Int) (hi : Int) (μ : Mu) (h39 : 0 ≤ μ 45 39 ∧ μ 45 39 ≤ 4) (h40 : -1 ≤ μ 45 40 ∧ μ 45 40 < 1073741824) (hb1 : μ 45 43 = 1) (hlh : (-1000 ≤ lo ∧ lo ≤ 1000) ∧ (-1000 ≤ hi ∧ hi ≤ 1000)) : Wp (GG X) M_X8_numberHere 0 [(2, 45), (0, lo), (0, hi), (9, 0)] [] μ (qI 0 fun z μ' => (Fr 1 0 1 0 μ' μ) ∧ (z = μ 45 40)) := by
  refine w_aload_n dX8_numberHere_0 rfl rfl (by first | decide | omega) ?_
  refine w_aload_n dX8_numberHere_1 rfl rfl (by first | decide | omega) ?_
  refine w_getIx (o := 45) (f := 39) (x := μ 45 39) fX8_numberHere_2 rfl rfl (Nat.le_of_ble_eq_true rfl) rfl rfl ?_
  refine w_iconst dX8_numberHere_5 ?_
  refine w_icmp_ne (tgt := 13) dX8_numberHere_6 rfl (R32.in (by omega)) (R32.in (by decide)) (fun c6 => ?_) (fun c6 => ?_)
  · skip
    refine w_iconst dX8_numberHere_13 ?_
    refine w_iconst dX8_numberHere_14 ?_
    refine w_callVV (o := 45) (ci := 8) (as := [(0, 0), (0, 1)]) (rest := []) (k := 0) fX8_numberHere_15 rfl rfl rfl rfl rfl rfl rfl rfl (Nat.le_of_ble_eq_true rfl) (s_X8_must_b X 0 1 μ hb1) (fun μ_1 hμ1 => ?_)
    have hF1 := hμ1
    refine w_aload_n dX8_numberHere_18 rfl rfl (by first | decide | omega) ?_
    refine w_aload_n dX8_numberHere_19 rfl rfl (by first | decide | omega) ?_
    refine w_getIx (o := 45) (f := 40) (x := μ 45 40) fX8_numberHere_20 rfl rfl (Nat.le_of_ble_eq_true rfl) rfl (congrFun (hF1.at (by omega) (by omega)) _) ?_
    refine w_iload_n dX8_numberHere_23 rfl rfl ?_
    refine w_iload_n dX8_numberHere_24 rfl rfl ?_
    refine w_callSP (as := [(0, μ 45 40), (0, lo), (0, hi)]) (rest := [(2, 45)]) (k := 0) fX8_numberHere_25 rfl rfl rfl rfl rfl (Nat.le_of_ble_eq_true rfl) (s_X8_isIn X (μ 45 40) lo hi μ_1 (by first | omega | assumption) (by first | omega | assumption) (by first | omega | assumption)) ?_
    have hf2 := am_b_r (lo ≤ (μ 45 40) ∧ (μ 45 40) ≤ hi)
    by_cases hs28 : (lo ≤ (μ 45 40) ∧ (μ 45 40) ≤ hi)
    · refine Wp.topE (b := 1) (am_b_t hs28).symm ?_
      refine w_iconst dX8_numberHere_28 ?_
      refine w_callVV (o := 45) (ci := 8) (as := [(0, 1), (0, 2)]) (rest := []) (k := 0) fX8_numberHere_29 rfl rfl rfl rfl rfl rfl rfl rfl (Nat.le_of_ble_eq_true rfl) (s_X8_must_t X 1 2 μ_1 (Or.inr ((congrFun (hF1.at (by omega) (by omega)) _).trans hb1)) rfl) (fun μ_3 hμ3 => ?_)
      have hF3 := hμ3
      refine w_aload_n dX8_numberHere_32 rfl rfl (by first | decide | omega) ?_
      refine w_getIx (o := 45) (f := 40) (x := μ 45 40) fX8_numberHere_33 rfl rfl (Nat.le_of_ble_eq_true rfl) rfl ((congrFun (hF3.at (by omega) (by omega)) _).trans (congrFun (hF1.at (by omega) (by omega)) _)) ?_
      refine w_istore_n (ls' := [(2, 45), (0, lo), (0, hi), (0, μ 45 40)]) dX8_numberHere_36 rfl (Nat.le_of_ble_eq_true rfl) rfl rfl ?_
      refine w_aload_n dX8_numberHere_37 rfl rfl (by first | decide | omega) ?_
      refine w_getIx (o := 45) (f := 43) (x := 1) fX8_numberHere_38 rfl rfl (Nat.le_of_ble_eq_true rfl) rfl ((congrFun (hF3.at (by omega) (by omega)) _).trans ((congrFun (hF1.at (by omega) (by omega)) _).trans hb1)) ?_
      refine w_if_ne (tgt := 48) dX8_numberHere_41 rfl (R32.in (by decide)) (fun c41 => ?_) (fun c41 => ?_)
      · skip
        refine w_iload_n dX8_numberHere_48 rfl rfl ?_
        exact w_iretI dX8_numberHere_49 rfl ⟨((hF3.wd (by omega) (by omega)).tr hF1), (by rfl)⟩
      · skip
        exact absurd c41 (by decide)
    · refine Wp.topE (b := 0) (am_b_f hs28).symm ?_
      refine w_iconst dX8_numberHere_28 ?_
      refine w_callVV (o := 45) (ci := 8) (as := [(0, 0), (0, 2)]) (rest := []) (k := 0) fX8_numberHere_29 rfl rfl rfl rfl rfl rfl rfl rfl (Nat.le_of_ble_eq_true rfl) (s_X8_must_b X 0 2 μ_1 ((congrFun (hF1.at (by omega) (by omega)) _).trans hb1)) (fun μ_4 hμ4 => ?_)
      have hF4 := hμ4
      refine w_aload_n dX8_numberHere_32 rfl rfl (by first | decide | omega) ?_
      refine w_getIx (o := 45) (f := 40) (x := μ 45 40) fX8_numberHere_33 rfl rfl (Nat.le_of_ble_eq_true rfl) rfl ((congrFun (hF4.at (by omega) (by omega)) _).trans (congrFun (hF1.at (by omega) (by omega)) _)) ?_
      refine w_istore_n (ls' := [(2, 45), (0, lo), (0, hi), (0, μ 45 40)]) dX8_numberHere_36 rfl (Nat.le_of_ble_eq_true rfl) rfl rfl ?_
      refine w_aload_n dX8_numberHere_37 rfl rfl (by first | decide | omega) ?_
      refine w_getIx (o := 45) (f := 43) (x := 1) fX8_numberHere_38 rfl rfl (Nat.le_of_ble_eq_true rfl) rfl ((congrFun (hF4.at (by omega) (by omega)) _).trans ((congrFun (hF1.at (by omega) (by omega)) _).trans hb1)) ?_
      refine w_if_ne (tgt := 48) dX8_numberHere_41 rfl (R32.in (by decide)) (fun c41 => ?_) (fun c41 => ?_)
      · skip
        refine w_iload_n dX8_numberHere_48 rfl rfl ?_
        exact w_iretI dX8_numberHere_49 rfl ⟨((hF4.wd (by omega) (by omega)).tr hF1), (by rfl)⟩
      · skip
        exact absurd c41 (by decide)
  · skip
    refine w_iconst dX8_numberHere_9 ?_
    refine w_goto (tgt := 14) dX8_numberHere_10 rfl ?_
    refine w_iconst dX8_numberHere_14 ?_
    refine w_callVV (o := 45) (ci := 8) (as := [(0, 1), (0, 1)]) (rest := []) (k := 0) fX8_numberHere_15 rfl rfl rfl rfl rfl rfl rfl rfl (Nat.le_of_ble_eq_true rfl) (s_X8_must_t X 1 1 μ (Or.inr hb1) rfl) (fun μ_5 hμ5 => ?_)
    have hF5 := hμ5
    refine w_aload_n dX8_numberHere_18 rfl rfl (by first | decide | omega) ?_
    refine w_aload_n dX8_numberHere_19 rfl rfl (by first | decide | omega) ?_
    refine w_getIx (o := 45) (f := 40) (x := μ 45 40) fX8_numberHere_20 rfl rfl (Nat.le_of_ble_eq_true rfl) rfl (congrFun (hF5.at (by omega) (by omega)) _) ?_
    refine w_iload_n dX8_numberHere_23 rfl rfl ?_
    refine w_iload_n dX8_numberHere_24 rfl rfl ?_
    refine w_callSP (as := [(0, μ 45 40), (0, lo), (0, hi)]) (rest := [(2, 45)]) (k := 0) fX8_numberHere_25 rfl rfl rfl rfl rfl (Nat.le_of_ble_eq_true rfl) (s_X8_isIn X (μ 45 40) lo hi μ_5 (by first | omega | assumption) (by first | omega | assumption) (by first | omega | assumption)) ?_
    have hf6 := am_b_r (lo ≤ (μ 45 40) ∧ (μ 45 40) ≤ hi)
    by_cases hs28 : (lo ≤ (μ 45 40) ∧ (μ 45 40) ≤ hi)
    · refine Wp.topE (b := 1) (am_b_t hs28).symm ?_
      refine w_iconst dX8_numberHere_28 ?_
      refine w_callVV (o := 45) (ci := 8) (as := [(0, 1), (0, 2)]) (rest := []) (k := 0) fX8_numberHere_29 rfl rfl rfl rfl rfl rfl rfl rfl (Nat.le_of_ble_eq_true rfl) (s_X8_must_t X 1 2 μ_5 (Or.inr ((congrFun (hF5.at (by omega) (by omega)) _).trans hb1)) rfl) (fun μ_7 hμ7 => ?_)
      have hF7 := hμ7
      refine w_aload_n dX8_numberHere_32 rfl rfl (by first | decide | omega) ?_
      refine w_getIx (o := 45) (f := 40) (x := μ 45 40) fX8_numberHere_33 rfl rfl (Nat.le_of_ble_eq_true rfl) rfl ((congrFun (hF7.at (by omega) (by omega)) _).trans (congrFun (hF5.at (by omega) (by omega)) _)) ?_
      refine w_istore_n (ls' := [(2, 45), (0, lo), (0, hi), (0, μ 45 40)]) dX8_numberHere_36 rfl (Nat.le_of_ble_eq_true rfl) rfl rfl ?_
      refine w_aload_n dX8_numberHere_37 rfl rfl (by first | decide | omega) ?_
      refine w_getIx (o := 45) (f := 43) (x := 1) fX8_numberHere_38 rfl rfl (Nat.le_of_ble_eq_true rfl) rfl ((congrFun (hF7.at (by omega) (by omega)) _).trans ((congrFun (hF5.at (by omega) (by omega)) _).trans hb1)) ?_
      refine w_if_ne (tgt := 48) dX8_numberHere_41 rfl (R32.in (by decide)) (fun c41 => ?_) (fun c41 => ?_)
      · skip
        refine w_iload_n dX8_numberHere_48 rfl rfl ?_
        exact w_iretI dX8_numberHere_49 rfl ⟨((hF7.wd (by omega) (by omega)).tr hF5), (by rfl)⟩
      · skip
        exact absurd c41 (by decide)
    · refine Wp.topE (b := 0) (am_b_f hs28).symm ?_
      refine w_iconst dX8_numberHere_28 ?_
      refine w_callVV (o := 45) (ci := 8) (as := [(0, 0), (0, 2)]) (rest := []) (k := 0) fX8_numberHere_29 rfl rfl rfl rfl rfl rfl rfl rfl (Nat.le_of_ble_eq_true rfl) (s_X8_must_b X 0 2 μ_5 ((congrFun (hF5.at (by omega) (by omega)) _).trans hb1)) (fun μ_8 hμ8 => ?_)
      have hF8 := hμ8
      refine w_aload_n dX8_numberHere_32 rfl rfl (by first | decide | omega) ?_
      refine w_getIx (o := 45) (f := 40) (x := μ 45 40) fX8_numberHere_33 rfl rfl (Nat.le_of_ble_eq_true rfl) rfl ((congrFun (hF8.at (by omega) (by omega)) _).trans (congrFun (hF5.at (by omega) (by omega)) _)) ?_
      refine w_istore_n (ls' := [(2, 45), (0, lo), (0, hi), (0, μ 45 40)]) dX8_numberHere_36 rfl (Nat.le_of_ble_eq_true rfl) rfl rfl ?_
      refine w_aload_n dX8_numberHere_37 rfl rfl (by first | decide | omega) ?_
      refine w_getIx (o := 45) (f := 43) (x := 1) fX8_numberHere_38 rfl rfl (Nat.le_of_ble_eq_true rfl) rfl ((congrFun (hF8.at (by omega) (by omega)) _).trans ((congrFun (hF5.at (by omega) (by omega)) _).trans hb1)) ?_
      refine w_if_ne (tgt := 48) dX8_numberHere_41 rfl (R32.in (by decide)) (fun c41 => ?_) (fun c41 => ?_)
      · skip
        refine w_iload_n dX8_numberHere_48 rfl rfl ?_
        exact w_iretI dX8_numberHere_49 rfl ⟨((hF8.wd (by omega) (by omega)).tr hF5), (by rfl)⟩
      · skip
        exact absurd c41 (by decide)
