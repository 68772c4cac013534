set_option maxRecDepth 100000 in
set_option maxHeartbeats 4000000 in
theorem s_X8_positionHere (X : AX) (b : Int → Int) (n : Int) (a : Int) (μ : Mu) (hR : RTc b n μ) (hat : 0 ≤ μ 45 37 ∧ μ 45 37 ≤ n) (hK : TK b n (sk b n a) μ) (ha : 0 ≤ a ∧ a ≤ n) (hb : μ 45 43 = 0) : Wp (GG X) M_X8_positionHere 0 [(2, 45), (9, 0), (9, 0), (9, 0)] [] μ (qI 0 fun z μ' => (Fr 45 45 1 0 μ' μ) ∧ (tkN b n (nP b n a) z μ μ') ∧ (∀ k9 : Int, (¬ k9 = 37 ∧ ¬ k9 = 38 ∧ ¬ k9 = 39 ∧ ¬ k9 = 40 ∧ ¬ k9 = 41 ∧ ¬ k9 = 42 ∧ ¬ k9 = 43) → μ' 45 k9 = μ 45 k9) ∧ (RTc b n μ') ∧ ((0 ≤ μ' 45 39 ∧ μ' 45 39 ≤ 4) ∧ (-1 ≤ μ' 45 40 ∧ μ' 45 40 < 1073741824))) := by
  have hn := hR.n
  have hbb := hR.bb
  have hr39 := hK.r
  have hr40 := hK.v hbb ha
  have hskr := sk_r b n a ha.2
  have hsgr : 0 ≤ sg b n a ∧ sg b n a ≤ n := by have := sg_r (b := b) (n := n) (a := a) ha.2; omega
  refine w_aload_n dX8_positionHere_0 rfl rfl (by first | decide | omega) ?_
  refine w_getIx (o := 45) (f := 38) (x := μ 45 38) fX8_positionHere_1 rfl rfl (Nat.le_of_ble_eq_true rfl) rfl rfl ?_
  refine w_istore_n (ls' := [(2, 45), (0, μ 45 38), (9, 0), (9, 0)]) dX8_positionHere_4 rfl (Nat.le_of_ble_eq_true rfl) rfl rfl ?_
  refine w_aload_n dX8_positionHere_5 rfl rfl (by first | decide | omega) ?_
  refine w_bipush dX8_positionHere_6 (by decide) ?_
  refine w_callVP (o := 45) (ci := 8) (as := [(0, 45)]) (rest := []) (k := 0) fX8_positionHere_8 rfl rfl rfl rfl rfl rfl rfl rfl (Nat.le_of_ble_eq_true rfl) (s_X8_isMark X 45 μ (by first | omega | assumption) (by first | omega | assumption) (by decide)) ?_
  have hf1 := am_b_r (μ 45 39 = 3 ∧ μ 45 40 = 45)
  by_cases hs11 : (μ 45 39 = 3 ∧ μ 45 40 = 45)
  · refine Wp.topE (b := 1) (am_b_t hs11).symm ?_
    have hm : see b n (sk b n a) = 45 := (hK.mk (Or.inr rfl)).mp hs11
    refine w_istore_n (ls' := [(2, 45), (0, μ 45 38), (0, 1), (9, 0)]) dX8_positionHere_11 rfl (Nat.le_of_ble_eq_true rfl) rfl rfl ?_
    refine w_iload_n dX8_positionHere_12 rfl rfl ?_
    refine w_if_eq (tgt := 20) dX8_positionHere_13 rfl (R32.in (by decide)) (fun c13 => ?_) (fun c13 => ?_)
    · skip
      exact absurd c13 (by decide)
    · skip
      refine w_aload_n dX8_positionHere_16 rfl rfl (by first | decide | omega) ?_
      refine w_callVV (o := 45) (ci := 8) (as := []) (rest := []) (k := 1) fX8_positionHere_17 rfl rfl rfl rfl rfl rfl rfl rfl (Nat.le_of_ble_eq_true rfl) (s_X8_advance X b n μ hR hat) (fun μV hμV => ?_)
      obtain ⟨hFV, htk_V, hf_V, hR_V, hat_V⟩ := hμV
      have hK2 : TK b n (sk b n (sg b n a)) μV := by have e9 := htk_V; rw [hK.mn hm (Or.inr rfl)] at e9; unfold sg; rw [if_pos hm]; exact e9
      have hrV := hK2.r
      have hvV := hK2.v hbb hsgr
      have hat2 := hK2.at hsgr
      refine w_aload_n dX8_positionHere_20 rfl rfl (by first | decide | omega) ?_
      refine w_aload_n dX8_positionHere_21 rfl rfl (by first | decide | omega) ?_
      refine w_getIx (o := 45) (f := 39) (x := μV 45 39) fX8_positionHere_22 rfl rfl (Nat.le_of_ble_eq_true rfl) rfl rfl ?_
      refine w_iconst dX8_positionHere_25 ?_
      refine w_icmp_ne (tgt := 33) dX8_positionHere_26 rfl (R32.in (by omega)) (R32.in (by decide)) (fun c26 => ?_) (fun c26 => ?_)
      · skip
        have hM2 := hK2.n2 c26
        refine w_iconst dX8_positionHere_33 ?_
        refine w_iconst dX8_positionHere_34 ?_
        refine w_callVV (o := 45) (ci := 8) (as := [(0, 0), (0, 1)]) (rest := []) (k := 0) fX8_positionHere_35 rfl rfl rfl rfl rfl rfl rfl rfl (Nat.le_of_ble_eq_true rfl) (s_X8_must_f X 0 1 μV ((hf_V _ (by omega)).trans hb) rfl) (fun μ_3 hμ3 => ?_)
        obtain ⟨hF3, hb_3, h1_3, h2_3, hf_3⟩ := hμ3
        refine w_aload_n dX8_positionHere_38 rfl rfl (by first | decide | omega) ?_
        refine w_getIx (o := 45) (f := 43) (x := 1) fX8_positionHere_39 rfl rfl (Nat.le_of_ble_eq_true rfl) rfl hb_3 ?_
        refine w_if_ne (tgt := 69) dX8_positionHere_42 rfl (R32.in (by decide)) (fun c42 => ?_) (fun c42 => ?_)
        · skip
          refine w_iload_n dX8_positionHere_69 rfl rfl ?_
          refine w_if_eq (tgt := 81) dX8_positionHere_70 rfl (R32.in (by decide)) (fun c70 => ?_) (fun c70 => ?_)
          · skip
            exact absurd c70 (by decide)
          · skip
            refine w_aload_n dX8_positionHere_73 rfl rfl (by first | decide | omega) ?_
            refine w_getIx (o := 45) (f := 40) (x := μV 45 40) fX8_positionHere_74 rfl rfl (Nat.le_of_ble_eq_true rfl) rfl (hf_3 _ (by omega)) ?_
            refine w_ineg dX8_positionHere_77 ?_
            refine w_goto (tgt := 85) dX8_positionHere_78 rfl ?_
            refine w_istore_n (ls' := [(2, 45), (0, μ 45 38), (0, 1), (0, -(μV 45 40))]) dX8_positionHere_85 rfl (Nat.le_of_ble_eq_true rfl) rfl rfl ?_
            refine w_aload_n dX8_positionHere_86 rfl rfl (by first | decide | omega) ?_
            refine w_getIx (o := 45) (f := 43) (x := 1) fX8_positionHere_87 rfl rfl (Nat.le_of_ble_eq_true rfl) rfl hb_3 ?_
            refine w_if_ne (tgt := 97) dX8_positionHere_90 rfl (R32.in (by decide)) (fun c90 => ?_) (fun c90 => ?_)
            · skip
              have hP9 : tkN b n (nP b n a) (-(μV 45 40)) μ μ_3 := tkN_no (nP_1 hM2) (by omega) (hb_3.trans (by rfl)) (h1_3.trans (by rfl)) ((h2_3.trans rfl).trans (by exact hK2.1))
              refine w_iload_n dX8_positionHere_97 rfl rfl ?_
              exact w_iretI dX8_positionHere_98 rfl ⟨((hF3.wd (by omega) (by omega)).tr hFV), (by exact hP9), (fun k h1 => ((hf_3 k (by omega)).trans (hf_V k (by omega)))), (RTc.cg2 hR_V (fun o h1 => (hF3.at (by omega) (by omega))) (fun k h1 => (hf_3 _ (by omega)))), (by rw [((hf_3 _ (by omega)).trans (by rfl)), ((hf_3 _ (by omega)).trans (by rfl))]; omega)⟩
            · skip
              exact absurd c90 (by decide)
        · skip
          exact absurd c42 (by decide)
      · skip
        have hM := hK2.t2 c26 hsgr
        have hskM := sk_r b n (sg b n a) hsgr.2
        have hdeM := de_r b n (sk b n (sg b n a)) hskM.2
        refine w_iconst dX8_positionHere_29 ?_
        refine w_goto (tgt := 34) dX8_positionHere_30 rfl ?_
        refine w_iconst dX8_positionHere_34 ?_
        refine w_callVV (o := 45) (ci := 8) (as := [(0, 1), (0, 1)]) (rest := []) (k := 0) fX8_positionHere_35 rfl rfl rfl rfl rfl rfl rfl rfl (Nat.le_of_ble_eq_true rfl) (s_X8_must_t X 1 1 μV (Or.inl ((hf_V _ (by omega)).trans hb)) rfl) (fun μ_4 hμ4 => ?_)
        have hF4 := hμ4
        refine w_aload_n dX8_positionHere_38 rfl rfl (by first | decide | omega) ?_
        refine w_getIx (o := 45) (f := 43) (x := 0) fX8_positionHere_39 rfl rfl (Nat.le_of_ble_eq_true rfl) rfl ((congrFun (hF4.at (by omega) (by omega)) _).trans ((hf_V _ (by omega)).trans hb)) ?_
        refine w_if_ne (tgt := 69) dX8_positionHere_42 rfl (R32.in (by decide)) (fun c42 => ?_) (fun c42 => ?_)
        · skip
          exact absurd c42 (by decide)
        · skip
          refine w_aload_n dX8_positionHere_45 rfl rfl (by first | decide | omega) ?_
          refine w_getIx (o := 45) (f := 40) (x := μV 45 40) fX8_positionHere_46 rfl rfl (Nat.le_of_ble_eq_true rfl) rfl (congrFun (hF4.at (by omega) (by omega)) _) ?_
          refine w_bipush dX8_positionHere_49 (by decide) ?_
          refine w_icmp_le (tgt := 69) dX8_positionHere_51 rfl (R32.in (by omega)) (R32.in (by decide)) (fun c51 => ?_) (fun c51 => ?_)
          · skip
            refine w_iload_n dX8_positionHere_69 rfl rfl ?_
            refine w_if_eq (tgt := 81) dX8_positionHere_70 rfl (R32.in (by decide)) (fun c70 => ?_) (fun c70 => ?_)
            · skip
              exact absurd c70 (by decide)
            · skip
              refine w_aload_n dX8_positionHere_73 rfl rfl (by first | decide | omega) ?_
              refine w_getIx (o := 45) (f := 40) (x := μV 45 40) fX8_positionHere_74 rfl rfl (Nat.le_of_ble_eq_true rfl) rfl (congrFun (hF4.at (by omega) (by omega)) _) ?_
              refine w_ineg dX8_positionHere_77 ?_
              refine w_goto (tgt := 85) dX8_positionHere_78 rfl ?_
              refine w_istore_n (ls' := [(2, 45), (0, μ 45 38), (0, 1), (0, -(μV 45 40))]) dX8_positionHere_85 rfl (Nat.le_of_ble_eq_true rfl) rfl rfl ?_
              refine w_aload_n dX8_positionHere_86 rfl rfl (by first | decide | omega) ?_
              refine w_getIx (o := 45) (f := 43) (x := 0) fX8_positionHere_87 rfl rfl (Nat.le_of_ble_eq_true rfl) rfl ((congrFun (hF4.at (by omega) (by omega)) _).trans ((hf_V _ (by omega)).trans hb)) ?_
              refine w_if_ne (tgt := 97) dX8_positionHere_90 rfl (R32.in (by decide)) (fun c90 => ?_) (fun c90 => ?_)
              · skip
                exact absurd c90 (by decide)
              · skip
                have h375 : μ_4 45 37 = μV 45 37 := ((congrFun (hF4.at (by omega) (by omega)) _).trans (by rfl))
                have hat5 : 0 ≤ μ_4 45 37 ∧ μ_4 45 37 ≤ n := by rw [h375]; exact hat2
                refine w_aload_n dX8_positionHere_93 rfl rfl (by first | decide | omega) ?_
                refine w_callVV (o := 45) (ci := 8) (as := []) (rest := []) (k := 1) fX8_positionHere_94 rfl rfl rfl rfl rfl rfl rfl rfl (Nat.le_of_ble_eq_true rfl) (s_X8_advance X b n μ_4 (RTc.cg2 hR_V (fun o h1 => (hF4.at (by omega) (by omega))) (fun k h1 => (congrFun (hF4.at (by omega) (by omega)) _))) hat5) (fun μW hμW => ?_)
                obtain ⟨hFW, htk_W, hf_W, hR_W, hat_W⟩ := hμW
                rw [h375, hM.2.1] at htk_W
                have hrW := htk_W.r
                have hvW := htk_W.v hbb (by omega)
                have hP9 : tkN b n (nP b n a) (-(μV 45 40)) μ μW := tkN_ok (nP_0 hM.1 (by have := hM.2.2; omega)) (by rw [if_pos hm]; have := hM.2.2; omega) (((hf_W _ (by omega)).trans ((congrFun (hF4.at (by omega) (by omega)) _).trans ((hf_V _ (by omega)).trans hb))).trans (by rfl)) htk_W (by omega) (((hf_W _ (by omega)).trans ((congrFun (hF4.at (by omega) (by omega)) _).trans (hf_V _ (by omega)))).trans (by rfl)) (((hf_W _ (by omega)).trans ((congrFun (hF4.at (by omega) (by omega)) _).trans (hf_V _ (by omega)))).trans (by rfl))
                refine w_iload_n dX8_positionHere_97 rfl rfl ?_
                exact w_iretI dX8_positionHere_98 rfl ⟨((hFW.wd (by omega) (by omega)).tr ((hF4.wd (by omega) (by omega)).tr hFV)), (by exact hP9), (fun k h1 => ((hf_W k (by omega)).trans ((congrFun (hF4.at (by omega) (by omega)) _).trans (hf_V k (by omega))))), hR_W, (by rw [((rfl : μW 45 39 = μW 45 39).trans (by rfl)), ((rfl : μW 45 40 = μW 45 40).trans (by rfl))]; omega)⟩
          · skip
            refine w_aload_n dX8_positionHere_54 rfl rfl (by first | decide | omega) ?_
            refine w_iconst dX8_positionHere_55 ?_
            refine w_putZ (o := 45) (f := 43) fX8_positionHere_56 rfl rfl rfl rfl rfl (Or.inr rfl) ?_
            refine w_aload_n dX8_positionHere_59 rfl rfl (by first | decide | omega) ?_
            refine w_iconst dX8_positionHere_60 ?_
            refine w_putI (o := 45) (f := 41) fX8_positionHere_61 rfl rfl rfl rfl rfl ?_
            refine w_aload_n dX8_positionHere_64 rfl rfl (by first | decide | omega) ?_
            refine w_iload_n dX8_positionHere_65 rfl rfl ?_
            refine w_putI (o := 45) (f := 42) fX8_positionHere_66 rfl rfl rfl rfl rfl ?_
            refine w_iload_n dX8_positionHere_69 rfl rfl ?_
            refine w_if_eq (tgt := 81) dX8_positionHere_70 rfl (R32.in (by decide)) (fun c70 => ?_) (fun c70 => ?_)
            · skip
              exact absurd c70 (by decide)
            · skip
              refine w_aload_n dX8_positionHere_73 rfl rfl (by first | decide | omega) ?_
              refine w_getIx (o := 45) (f := 40) (x := μV 45 40) fX8_positionHere_74 rfl rfl (Nat.le_of_ble_eq_true rfl) rfl ((am_up_nk (by omega)).trans ((am_up_nk (by omega)).trans ((am_up_nk (by omega)).trans (congrFun (hF4.at (by omega) (by omega)) _)))) ?_
              refine w_ineg dX8_positionHere_77 ?_
              refine w_goto (tgt := 85) dX8_positionHere_78 rfl ?_
              refine w_istore_n (ls' := [(2, 45), (0, μ 45 38), (0, 1), (0, -(μV 45 40))]) dX8_positionHere_85 rfl (Nat.le_of_ble_eq_true rfl) rfl rfl ?_
              refine w_aload_n dX8_positionHere_86 rfl rfl (by first | decide | omega) ?_
              refine w_getIx (o := 45) (f := 43) (x := 1) fX8_positionHere_87 rfl rfl (Nat.le_of_ble_eq_true rfl) rfl ((am_up_nk (by omega)).trans ((am_up_nk (by omega)).trans am_up_at)) ?_
              refine w_if_ne (tgt := 97) dX8_positionHere_90 rfl (R32.in (by decide)) (fun c90 => ?_) (fun c90 => ?_)
              · skip
                have hP9 : tkN b n (nP b n a) (-(μV 45 40)) μ (am_up (am_up (am_up μ_4 45 43 1) 45 41 2) 45 42 (μ 45 38)) := tkN_no (nP_2 hM.1 (by have := hM.2.2; omega)) (by omega) (((am_up_nk (by omega)).trans ((am_up_nk (by omega)).trans am_up_at)).trans (by rfl)) (((am_up_nk (by omega)).trans am_up_at).trans (by rfl)) (am_up_at.trans (by exact hK.1))
                refine w_iload_n dX8_positionHere_97 rfl rfl ?_
                exact w_iretI dX8_positionHere_98 rfl ⟨(((((hF4.wd (by omega) (by omega)).tr hFV).up (by omega)).up (by omega)).up (by omega)), (by exact hP9), (fun k h1 => ((am_up_nk (by omega)).trans ((am_up_nk (by omega)).trans ((am_up_nk (by omega)).trans ((congrFun (hF4.at (by omega) (by omega)) _).trans (hf_V k (by omega))))))), (RTc.cg2 hR_V (fun o h1 => ((am_up_o (by omega)).trans ((am_up_o (by omega)).trans ((am_up_o (by omega)).trans (hF4.at (by omega) (by omega)))))) (fun k h1 => ((am_up_nk (by omega)).trans ((am_up_nk (by omega)).trans ((am_up_nk (by omega)).trans (congrFun (hF4.at (by omega) (by omega)) _)))))), (by rw [(((am_up_nk (by omega)).trans ((am_up_nk (by omega)).trans ((am_up_nk (by omega)).trans (congrFun (hF4.at (by omega) (by omega)) _)))).trans (by rfl)), (((am_up_nk (by omega)).trans ((am_up_nk (by omega)).trans ((am_up_nk (by omega)).trans (congrFun (hF4.at (by omega) (by omega)) _)))).trans (by rfl))]; omega)⟩
              · skip
                exact absurd c90 (by decide)
  · refine Wp.topE (b := 0) (am_b_f hs11).symm ?_
    have hm : ¬ see b n (sk b n a) = 45 := fun q9 => hs11 ((hK.mk (Or.inr rfl)).mpr q9)
    have hK2 : TK b n (sk b n (sg b n a)) μ := by unfold sg; rw [if_neg hm, sk_sk]; exact hK
    have hat2 := hat
    refine w_istore_n (ls' := [(2, 45), (0, μ 45 38), (0, 0), (9, 0)]) dX8_positionHere_11 rfl (Nat.le_of_ble_eq_true rfl) rfl rfl ?_
    refine w_iload_n dX8_positionHere_12 rfl rfl ?_
    refine w_if_eq (tgt := 20) dX8_positionHere_13 rfl (R32.in (by decide)) (fun c13 => ?_) (fun c13 => ?_)
    · skip
      refine w_aload_n dX8_positionHere_20 rfl rfl (by first | decide | omega) ?_
      refine w_aload_n dX8_positionHere_21 rfl rfl (by first | decide | omega) ?_
      refine w_getIx (o := 45) (f := 39) (x := μ 45 39) fX8_positionHere_22 rfl rfl (Nat.le_of_ble_eq_true rfl) rfl rfl ?_
      refine w_iconst dX8_positionHere_25 ?_
      refine w_icmp_ne (tgt := 33) dX8_positionHere_26 rfl (R32.in (by omega)) (R32.in (by decide)) (fun c26 => ?_) (fun c26 => ?_)
      · skip
        have hM2 := hK2.n2 c26
        refine w_iconst dX8_positionHere_33 ?_
        refine w_iconst dX8_positionHere_34 ?_
        refine w_callVV (o := 45) (ci := 8) (as := [(0, 0), (0, 1)]) (rest := []) (k := 0) fX8_positionHere_35 rfl rfl rfl rfl rfl rfl rfl rfl (Nat.le_of_ble_eq_true rfl) (s_X8_must_f X 0 1 μ hb rfl) (fun μ_6 hμ6 => ?_)
        obtain ⟨hF6, hb_6, h1_6, h2_6, hf_6⟩ := hμ6
        refine w_aload_n dX8_positionHere_38 rfl rfl (by first | decide | omega) ?_
        refine w_getIx (o := 45) (f := 43) (x := 1) fX8_positionHere_39 rfl rfl (Nat.le_of_ble_eq_true rfl) rfl hb_6 ?_
        refine w_if_ne (tgt := 69) dX8_positionHere_42 rfl (R32.in (by decide)) (fun c42 => ?_) (fun c42 => ?_)
        · skip
          refine w_iload_n dX8_positionHere_69 rfl rfl ?_
          refine w_if_eq (tgt := 81) dX8_positionHere_70 rfl (R32.in (by decide)) (fun c70 => ?_) (fun c70 => ?_)
          · skip
            refine w_aload_n dX8_positionHere_81 rfl rfl (by first | decide | omega) ?_
            refine w_getIx (o := 45) (f := 40) (x := μ 45 40) fX8_positionHere_82 rfl rfl (Nat.le_of_ble_eq_true rfl) rfl (hf_6 _ (by omega)) ?_
            refine w_istore_n (ls' := [(2, 45), (0, μ 45 38), (0, 0), (0, μ 45 40)]) dX8_positionHere_85 rfl (Nat.le_of_ble_eq_true rfl) rfl rfl ?_
            refine w_aload_n dX8_positionHere_86 rfl rfl (by first | decide | omega) ?_
            refine w_getIx (o := 45) (f := 43) (x := 1) fX8_positionHere_87 rfl rfl (Nat.le_of_ble_eq_true rfl) rfl hb_6 ?_
            refine w_if_ne (tgt := 97) dX8_positionHere_90 rfl (R32.in (by decide)) (fun c90 => ?_) (fun c90 => ?_)
            · skip
              have hP9 : tkN b n (nP b n a) (μ 45 40) μ μ_6 := tkN_no (nP_1 hM2) (by omega) (hb_6.trans (by rfl)) (h1_6.trans (by rfl)) ((h2_6.trans rfl).trans (by exact hK2.1))
              refine w_iload_n dX8_positionHere_97 rfl rfl ?_
              exact w_iretI dX8_positionHere_98 rfl ⟨hF6, (by exact hP9), (fun k h1 => (hf_6 k (by omega))), (RTc.cg2 hR (fun o h1 => (hF6.at (by omega) (by omega))) (fun k h1 => (hf_6 _ (by omega)))), (by rw [((hf_6 _ (by omega)).trans (by rfl)), ((hf_6 _ (by omega)).trans (by rfl))]; omega)⟩
            · skip
              exact absurd c90 (by decide)
          · skip
            exact absurd c70 (by decide)
        · skip
          exact absurd c42 (by decide)
      · skip
        have hM := hK2.t2 c26 hsgr
        have hskM := sk_r b n (sg b n a) hsgr.2
        have hdeM := de_r b n (sk b n (sg b n a)) hskM.2
        refine w_iconst dX8_positionHere_29 ?_
        refine w_goto (tgt := 34) dX8_positionHere_30 rfl ?_
        refine w_iconst dX8_positionHere_34 ?_
        refine w_callVV (o := 45) (ci := 8) (as := [(0, 1), (0, 1)]) (rest := []) (k := 0) fX8_positionHere_35 rfl rfl rfl rfl rfl rfl rfl rfl (Nat.le_of_ble_eq_true rfl) (s_X8_must_t X 1 1 μ (Or.inl hb) rfl) (fun μ_7 hμ7 => ?_)
        have hF7 := hμ7
        refine w_aload_n dX8_positionHere_38 rfl rfl (by first | decide | omega) ?_
        refine w_getIx (o := 45) (f := 43) (x := 0) fX8_positionHere_39 rfl rfl (Nat.le_of_ble_eq_true rfl) rfl ((congrFun (hF7.at (by omega) (by omega)) _).trans hb) ?_
        refine w_if_ne (tgt := 69) dX8_positionHere_42 rfl (R32.in (by decide)) (fun c42 => ?_) (fun c42 => ?_)
        · skip
          exact absurd c42 (by decide)
        · skip
          refine w_aload_n dX8_positionHere_45 rfl rfl (by first | decide | omega) ?_
          refine w_getIx (o := 45) (f := 40) (x := μ 45 40) fX8_positionHere_46 rfl rfl (Nat.le_of_ble_eq_true rfl) rfl (congrFun (hF7.at (by omega) (by omega)) _) ?_
          refine w_bipush dX8_positionHere_49 (by decide) ?_
          refine w_icmp_le (tgt := 69) dX8_positionHere_51 rfl (R32.in (by omega)) (R32.in (by decide)) (fun c51 => ?_) (fun c51 => ?_)
          · skip
            refine w_iload_n dX8_positionHere_69 rfl rfl ?_
            refine w_if_eq (tgt := 81) dX8_positionHere_70 rfl (R32.in (by decide)) (fun c70 => ?_) (fun c70 => ?_)
            · skip
              refine w_aload_n dX8_positionHere_81 rfl rfl (by first | decide | omega) ?_
              refine w_getIx (o := 45) (f := 40) (x := μ 45 40) fX8_positionHere_82 rfl rfl (Nat.le_of_ble_eq_true rfl) rfl (congrFun (hF7.at (by omega) (by omega)) _) ?_
              refine w_istore_n (ls' := [(2, 45), (0, μ 45 38), (0, 0), (0, μ 45 40)]) dX8_positionHere_85 rfl (Nat.le_of_ble_eq_true rfl) rfl rfl ?_
              refine w_aload_n dX8_positionHere_86 rfl rfl (by first | decide | omega) ?_
              refine w_getIx (o := 45) (f := 43) (x := 0) fX8_positionHere_87 rfl rfl (Nat.le_of_ble_eq_true rfl) rfl ((congrFun (hF7.at (by omega) (by omega)) _).trans hb) ?_
              refine w_if_ne (tgt := 97) dX8_positionHere_90 rfl (R32.in (by decide)) (fun c90 => ?_) (fun c90 => ?_)
              · skip
                exact absurd c90 (by decide)
              · skip
                have h375 : μ_7 45 37 = μ 45 37 := ((congrFun (hF7.at (by omega) (by omega)) _).trans (by rfl))
                have hat5 : 0 ≤ μ_7 45 37 ∧ μ_7 45 37 ≤ n := by rw [h375]; exact hat2
                refine w_aload_n dX8_positionHere_93 rfl rfl (by first | decide | omega) ?_
                refine w_callVV (o := 45) (ci := 8) (as := []) (rest := []) (k := 1) fX8_positionHere_94 rfl rfl rfl rfl rfl rfl rfl rfl (Nat.le_of_ble_eq_true rfl) (s_X8_advance X b n μ_7 (RTc.cg2 hR (fun o h1 => (hF7.at (by omega) (by omega))) (fun k h1 => (congrFun (hF7.at (by omega) (by omega)) _))) hat5) (fun μW hμW => ?_)
                obtain ⟨hFW, htk_W, hf_W, hR_W, hat_W⟩ := hμW
                rw [h375, hM.2.1] at htk_W
                have hrW := htk_W.r
                have hvW := htk_W.v hbb (by omega)
                have hP9 : tkN b n (nP b n a) (μ 45 40) μ μW := tkN_ok (nP_0 hM.1 (by have := hM.2.2; omega)) (by rw [if_neg hm]; have := hM.2.2; omega) (((hf_W _ (by omega)).trans ((congrFun (hF7.at (by omega) (by omega)) _).trans hb)).trans (by rfl)) htk_W (by omega) (((hf_W _ (by omega)).trans (congrFun (hF7.at (by omega) (by omega)) _)).trans (by rfl)) (((hf_W _ (by omega)).trans (congrFun (hF7.at (by omega) (by omega)) _)).trans (by rfl))
                refine w_iload_n dX8_positionHere_97 rfl rfl ?_
                exact w_iretI dX8_positionHere_98 rfl ⟨((hFW.wd (by omega) (by omega)).tr (hF7.wd (by omega) (by omega))), (by exact hP9), (fun k h1 => ((hf_W k (by omega)).trans (congrFun (hF7.at (by omega) (by omega)) _))), hR_W, (by rw [((rfl : μW 45 39 = μW 45 39).trans (by rfl)), ((rfl : μW 45 40 = μW 45 40).trans (by rfl))]; omega)⟩
            · skip
              exact absurd c70 (by decide)
          · skip
            refine w_aload_n dX8_positionHere_54 rfl rfl (by first | decide | omega) ?_
            refine w_iconst dX8_positionHere_55 ?_
            refine w_putZ (o := 45) (f := 43) fX8_positionHere_56 rfl rfl rfl rfl rfl (Or.inr rfl) ?_
            refine w_aload_n dX8_positionHere_59 rfl rfl (by first | decide | omega) ?_
            refine w_iconst dX8_positionHere_60 ?_
            refine w_putI (o := 45) (f := 41) fX8_positionHere_61 rfl rfl rfl rfl rfl ?_
            refine w_aload_n dX8_positionHere_64 rfl rfl (by first | decide | omega) ?_
            refine w_iload_n dX8_positionHere_65 rfl rfl ?_
            refine w_putI (o := 45) (f := 42) fX8_positionHere_66 rfl rfl rfl rfl rfl ?_
            refine w_iload_n dX8_positionHere_69 rfl rfl ?_
            refine w_if_eq (tgt := 81) dX8_positionHere_70 rfl (R32.in (by decide)) (fun c70 => ?_) (fun c70 => ?_)
            · skip
              refine w_aload_n dX8_positionHere_81 rfl rfl (by first | decide | omega) ?_
              refine w_getIx (o := 45) (f := 40) (x := μ 45 40) fX8_positionHere_82 rfl rfl (Nat.le_of_ble_eq_true rfl) rfl ((am_up_nk (by omega)).trans ((am_up_nk (by omega)).trans ((am_up_nk (by omega)).trans (congrFun (hF7.at (by omega) (by omega)) _)))) ?_
              refine w_istore_n (ls' := [(2, 45), (0, μ 45 38), (0, 0), (0, μ 45 40)]) dX8_positionHere_85 rfl (Nat.le_of_ble_eq_true rfl) rfl rfl ?_
              refine w_aload_n dX8_positionHere_86 rfl rfl (by first | decide | omega) ?_
              refine w_getIx (o := 45) (f := 43) (x := 1) fX8_positionHere_87 rfl rfl (Nat.le_of_ble_eq_true rfl) rfl ((am_up_nk (by omega)).trans ((am_up_nk (by omega)).trans am_up_at)) ?_
              refine w_if_ne (tgt := 97) dX8_positionHere_90 rfl (R32.in (by decide)) (fun c90 => ?_) (fun c90 => ?_)
              · skip
                have hP9 : tkN b n (nP b n a) (μ 45 40) μ (am_up (am_up (am_up μ_7 45 43 1) 45 41 2) 45 42 (μ 45 38)) := tkN_no (nP_2 hM.1 (by have := hM.2.2; omega)) (by omega) (((am_up_nk (by omega)).trans ((am_up_nk (by omega)).trans am_up_at)).trans (by rfl)) (((am_up_nk (by omega)).trans am_up_at).trans (by rfl)) (am_up_at.trans (by exact hK.1))
                refine w_iload_n dX8_positionHere_97 rfl rfl ?_
                exact w_iretI dX8_positionHere_98 rfl ⟨((((hF7.wd (by omega) (by omega)).up (by omega)).up (by omega)).up (by omega)), (by exact hP9), (fun k h1 => ((am_up_nk (by omega)).trans ((am_up_nk (by omega)).trans ((am_up_nk (by omega)).trans (congrFun (hF7.at (by omega) (by omega)) _))))), (RTc.cg2 hR (fun o h1 => ((am_up_o (by omega)).trans ((am_up_o (by omega)).trans ((am_up_o (by omega)).trans (hF7.at (by omega) (by omega)))))) (fun k h1 => ((am_up_nk (by omega)).trans ((am_up_nk (by omega)).trans ((am_up_nk (by omega)).trans (congrFun (hF7.at (by omega) (by omega)) _)))))), (by rw [(((am_up_nk (by omega)).trans ((am_up_nk (by omega)).trans ((am_up_nk (by omega)).trans (congrFun (hF7.at (by omega) (by omega)) _)))).trans (by rfl)), (((am_up_nk (by omega)).trans ((am_up_nk (by omega)).trans ((am_up_nk (by omega)).trans (congrFun (hF7.at (by omega) (by omega)) _)))).trans (by rfl))]; omega)⟩
              · skip
                exact absurd c90 (by decide)
            · skip
              exact absurd c70 (by decide)
    · skip
      exact absurd c13 (by decide)
