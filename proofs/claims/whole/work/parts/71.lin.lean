set_option maxRecDepth 100000 in
set_option maxHeartbeats 4000000 in
theorem s_X8_lineHere (X : AX) (b : Int → Int) (n : Int) (σ : Mu) (a : Int) (μ : Mu) (hR : RTc b n μ) (hP : RPS σ μ) (hK : TK b n (sk b n a) μ) (ha : 0 ≤ a ∧ a ≤ n) (hb : μ 45 43 = 0) : Wp (GG X) M_X8_lineHere 0 [(2, 45), (9, 0)] [] μ (qV fun μ' => (Fr 45 45 63 68 μ' μ) ∧ (tkL b n (lnF b n σ a) μ μ') ∧ (∀ k9 : Int, (¬ k9 = 37 ∧ ¬ k9 = 38 ∧ ¬ k9 = 39 ∧ ¬ k9 = 40 ∧ ¬ k9 = 41 ∧ ¬ k9 = 42 ∧ ¬ k9 = 43 ∧ ¬ k9 = 44 ∧ ¬ k9 = 45 ∧ ¬ k9 = 46 ∧ ¬ k9 = 47 ∧ ¬ k9 = 48 ∧ ¬ k9 = 49 ∧ ¬ k9 = 50 ∧ ¬ k9 = 51 ∧ ¬ k9 = 52 ∧ ¬ k9 = 53 ∧ ¬ k9 = 54 ∧ ¬ k9 = 55 ∧ ¬ k9 = 56 ∧ ¬ k9 = 57) → μ' 45 k9 = μ 45 k9) ∧ (RTc b n μ')) := by
  have hn := hR.n
  have hbb := hR.bb
  have hr39 := hK.r
  have hr40 := hK.v hbb ha
  have hok := hP.ok
  have hskr := sk_r b n a ha.2
  have hE1 := we_r b n (sk b n a) hskr.2
  have hE2 : 0 ≤ we b n (sk b n a) ∧ we b n (sk b n a) ≤ n := by omega
  refine w_aload_n dX8_lineHere_0 rfl rfl (by first | decide | omega) ?_
  refine w_aload_n dX8_lineHere_1 rfl rfl (by first | decide | omega) ?_
  refine w_getIx (o := 45) (f := 39) (x := μ 45 39) fX8_lineHere_2 rfl rfl (Nat.le_of_ble_eq_true rfl) rfl rfl ?_
  refine w_iconst dX8_lineHere_5 ?_
  refine w_icmp_ne (tgt := 13) dX8_lineHere_6 rfl (R32.in (by omega)) (R32.in (by decide)) (fun c6 => ?_) (fun c6 => ?_)
  · skip
    have hwe9 := hK.nw c6
    refine w_iconst dX8_lineHere_13 ?_
    refine w_iconst dX8_lineHere_14 ?_
    refine w_callVV (o := 45) (ci := 8) (as := [(0, 0), (0, 1)]) (rest := []) (k := 0) fX8_lineHere_15 rfl rfl rfl rfl rfl rfl rfl rfl (Nat.le_of_ble_eq_true rfl) (s_X8_must_f X 0 1 μ hb rfl) (fun μM hμM => ?_)
    obtain ⟨hFM, hb_M, h1_M, h2_M, hf_M⟩ := hμM
    refine w_aload_n dX8_lineHere_18 rfl rfl (by first | decide | omega) ?_
    refine w_getIx (o := 45) (f := 43) (x := 1) fX8_lineHere_19 rfl rfl (Nat.le_of_ble_eq_true rfl) rfl hb_M ?_
    refine w_if_eq (tgt := 26) dX8_lineHere_22 rfl (R32.in (by decide)) (fun c22 => ?_) (fun c22 => ?_)
    · skip
      exact absurd c22 (by decide)
    · skip
      have hP9 : tkL b n (lnF b n σ a) μ μM := tkL_no (by unfold lnF; rw [hwe9, wdC_s]; exact lnW_1 (Or.inl rfl)) (by omega) (hb_M.trans (by rfl)) (h1_M.trans (by rfl)) ((h2_M.trans rfl).trans (by exact hK.1))
      exact w_retV dX8_lineHere_25 rfl ⟨(hFM.wd (by omega) (by omega)), (by exact hP9), (fun k h1 => (hf_M k (by omega))), (RTc.cg2 hR (fun o h1 => (hFM.at (by omega) (by omega))) (fun k h1 => (hf_M _ (by omega))))⟩
  · skip
    have hW := hK.wd c6
    have hl9 : ∀ j, 0 ≤ j → j < (we b n (sk b n a)) - (sk b n a) → 97 ≤ b ((sk b n a) + j) ∧ b ((sk b n a) + j) ≤ 122 := fun j h1 h2 => we_all hskr.2 (by omega) (by omega)
    have hs0 : spd b (sk b n a) (we b n (sk b n a)) 0 = true ↔ μ 45 40 = 13816389 := by rw [hW.2.1]; exact spd_h (by decide) hE1.1 hl9
    have hs1 : spd b (sk b n a) (we b n (sk b n a)) 1 = true ↔ μ 45 40 = 20459828 := by rw [hW.2.1]; exact spd_h (by decide) hE1.1 hl9
    have hs2 : spd b (sk b n a) (we b n (sk b n a)) 2 = true ↔ μ 45 40 = 374949 := by rw [hW.2.1]; exact spd_h (by decide) hE1.1 hl9
    have hs3 : spd b (sk b n a) (we b n (sk b n a)) 3 = true ↔ μ 45 40 = 763013 := by rw [hW.2.1]; exact spd_h (by decide) hE1.1 hl9
    have hs4 : spd b (sk b n a) (we b n (sk b n a)) 4 = true ↔ μ 45 40 = 474757 := by rw [hW.2.1]; exact spd_h (by decide) hE1.1 hl9
    have hs5 : spd b (sk b n a) (we b n (sk b n a)) 5 = true ↔ μ 45 40 = 595572 := by rw [hW.2.1]; exact spd_h (by decide) hE1.1 hl9
    refine w_iconst dX8_lineHere_9 ?_
    refine w_goto (tgt := 14) dX8_lineHere_10 rfl ?_
    refine w_iconst dX8_lineHere_14 ?_
    refine w_callVV (o := 45) (ci := 8) (as := [(0, 1), (0, 1)]) (rest := []) (k := 0) fX8_lineHere_15 rfl rfl rfl rfl rfl rfl rfl rfl (Nat.le_of_ble_eq_true rfl) (s_X8_must_t X 1 1 μ (Or.inl hb) rfl) (fun μM hμM => ?_)
    have hFM := hμM
    refine w_aload_n dX8_lineHere_18 rfl rfl (by first | decide | omega) ?_
    refine w_getIx (o := 45) (f := 43) (x := 0) fX8_lineHere_19 rfl rfl (Nat.le_of_ble_eq_true rfl) rfl ((congrFun (hFM.at (by omega) (by omega)) _).trans hb) ?_
    refine w_if_eq (tgt := 26) dX8_lineHere_22 rfl (R32.in (by decide)) (fun c22 => ?_) (fun c22 => ?_)
    · skip
      have hbM : μM 45 43 = 0 := (((congrFun (hFM.at (by omega) (by omega)) _).trans hb).trans (by rfl))
      have heM : μM 45 37 = (we b n (sk b n a)) := ((congrFun (hFM.at (by omega) (by omega)) _).trans (by exact hW.2.2))
      have hKM : TK b n (sk b n a) μM := hK.cg (fun k h1 h2 => congrFun (hFM.at (by omega) (by omega)) k)
      have h41M : μM 45 41 = μ 45 41 := ((congrFun (hFM.at (by omega) (by omega)) _).trans (by rfl))
      have h42M : μM 45 42 = μ 45 42 := ((congrFun (hFM.at (by omega) (by omega)) _).trans (by rfl))
      refine w_aload_n dX8_lineHere_26 rfl rfl (by first | decide | omega) ?_
      refine w_getIx (o := 45) (f := 40) (x := μ 45 40) fX8_lineHere_27 rfl rfl (Nat.le_of_ble_eq_true rfl) rfl (congrFun (hFM.at (by omega) (by omega)) _) ?_
      refine w_istore_n (ls' := [(2, 45), (0, μ 45 40)]) dX8_lineHere_30 rfl (Nat.le_of_ble_eq_true rfl) rfl rfl ?_
      refine w_iload_n dX8_lineHere_31 rfl rfl ?_
      refine w_ldcw (n := 13816389) dX8_lineHere_32 k_1514 (by decide) ?_
      refine w_icmp_ne (tgt := 45) dX8_lineHere_35 rfl (R32.in (by omega)) (R32.in (by decide)) (fun c35 => ?_) (fun c35 => ?_)
      · skip
        refine w_iload_n dX8_lineHere_45 rfl rfl ?_
        refine w_ldcw (n := 20459828) dX8_lineHere_46 k_1523 (by decide) ?_
        refine w_icmp_ne (tgt := 59) dX8_lineHere_49 rfl (R32.in (by omega)) (R32.in (by decide)) (fun c49 => ?_) (fun c49 => ?_)
        · skip
          refine w_iload_n dX8_lineHere_59 rfl rfl ?_
          refine w_ldcw (n := 374949) dX8_lineHere_60 k_1532 (by decide) ?_
          refine w_icmp_ne (tgt := 73) dX8_lineHere_63 rfl (R32.in (by omega)) (R32.in (by decide)) (fun c63 => ?_) (fun c63 => ?_)
          · skip
            refine w_iload_n dX8_lineHere_73 rfl rfl ?_
            refine w_ldcw (n := 763013) dX8_lineHere_74 k_1537 (by decide) ?_
            refine w_icmp_ne (tgt := 87) dX8_lineHere_77 rfl (R32.in (by omega)) (R32.in (by decide)) (fun c77 => ?_) (fun c77 => ?_)
            · skip
              refine w_iload_n dX8_lineHere_87 rfl rfl ?_
              refine w_ldcw (n := 474757) dX8_lineHere_88 k_1545 (by decide) ?_
              refine w_icmp_eq (tgt := 101) dX8_lineHere_91 rfl (R32.in (by omega)) (R32.in (by decide)) (fun c91 => ?_) (fun c91 => ?_)
              · skip
                have hw9 : wdC b (sk b n a) (we b n (sk b n a)) = 4 := wdC_4 (fun q9 => c35 (hs0.mp q9)) (fun q9 => c49 (hs1.mp q9)) (fun q9 => c63 (hs2.mp q9)) (fun q9 => c77 (hs3.mp q9)) (hs4.mpr c91)
                have hln : lnF b n σ a = lEnd b n (ln0 b n σ 4 (sk b n a) (we b n (sk b n a))) := by unfold lnF; rw [hw9, lnW_ln0]
                refine w_aload_n dX8_lineHere_101 rfl rfl (by first | decide | omega) ?_
                refine w_iload_n dX8_lineHere_102 rfl rfl ?_
                refine w_ldcw (n := 474757) dX8_lineHere_103 k_1545 (by decide) ?_
                refine w_icmp_ne (tgt := 113) dX8_lineHere_106 rfl (R32.in (by omega)) (R32.in (by decide)) (fun c106 => ?_) (fun c106 => ?_)
                · skip
                  exact absurd c91 c106
                · skip
                  refine w_iconst dX8_lineHere_109 ?_
                  refine w_goto (tgt := 114) dX8_lineHere_110 rfl ?_
                  refine w_callVV (o := 45) (ci := 8) (as := [(0, 1)]) (rest := []) (k := 2) fX8_lineHere_114 rfl rfl rfl rfl rfl rfl rfl rfl (Nat.le_of_ble_eq_true rfl) (s_X8_elementHere X b n σ a (we b n (sk b n a)) 1 4 μM (RTc.cg2 hR (fun o h1 => (hFM.at (by omega) (by omega))) (fun k h1 => (congrFun (hFM.at (by omega) (by omega)) _))) (RPS.cg2 hP (fun o h1 => (hFM.at (by omega) (by omega))) (fun k h1 => (congrFun (hFM.at (by omega) (by omega)) _))) hKM (by first | omega | assumption) heM hE2 hbM (by decide)) (fun μX hμX => ?_)
                  obtain ⟨hFX, hz_X, hf_X, hR_X, htr_X⟩ := hμX
                  refine w_goto (tgt := 126) dX8_lineHere_117 rfl ?_
                  rcases hz_X with hX | hX
                  · skip
                    have hskX := sk_r b n _ hX.2.2.2.2.1.2
                    refine w_aload_n dX8_lineHere_126 rfl rfl (by first | decide | omega) ?_
                    refine w_aload_n dX8_lineHere_127 rfl rfl (by first | decide | omega) ?_
                    refine w_bipush dX8_lineHere_128 (by decide) ?_
                    refine w_callVP (o := 45) (ci := 8) (as := [(0, 59)]) (rest := [(2, 45)]) (k := 0) fX8_lineHere_130 rfl rfl rfl rfl rfl rfl rfl rfl (Nat.le_of_ble_eq_true rfl) (s_X8_isMark X 59 μX (by first | omega | assumption) (by first | omega | assumption) (by first | omega | assumption)) ?_
                    have hf4 := am_b_r (μX 45 39 = 3 ∧ μX 45 40 = 59)
                    by_cases hs133 : (μX 45 39 = 3 ∧ μX 45 40 = 59)
                    · refine Wp.topE (b := 1) (am_b_t hs133).symm ?_
                      have hm59 := (hX.2.2.2.1.mk (c := 59) (Or.inl rfl)).mp hs133
                      have hlt9 := see_lt hm59 (by omega)
                      refine w_iconst dX8_lineHere_133 ?_
                      refine w_callVV (o := 45) (ci := 8) (as := [(0, 1), (0, 1)]) (rest := []) (k := 0) fX8_lineHere_134 rfl rfl rfl rfl rfl rfl rfl rfl (Nat.le_of_ble_eq_true rfl) (s_X8_must_t X 1 1 μX (Or.inl hX.2.2.1) rfl) (fun μN hμN => ?_)
                      have hFN := hμN
                      refine w_aload_n dX8_lineHere_137 rfl rfl (by first | decide | omega) ?_
                      refine w_getIx (o := 45) (f := 43) (x := 0) fX8_lineHere_138 rfl rfl (Nat.le_of_ble_eq_true rfl) rfl ((congrFun (hFN.at (by omega) (by omega)) _).trans hX.2.2.1) ?_
                      refine w_if_ne (tgt := 148) dX8_lineHere_141 rfl (R32.in (by decide)) (fun c141 => ?_) (fun c141 => ?_)
                      · skip
                        exact absurd c141 (by decide)
                      · skip
                        have h37w : μN 45 37 = μX 45 37 := ((congrFun (hFN.at (by omega) (by omega)) _).trans (by rfl))
                        have hatw : 0 ≤ μN 45 37 ∧ μN 45 37 ≤ n := by rw [h37w]; exact hX.2.2.2.1.at hX.2.2.2.2.1
                        refine w_aload_n dX8_lineHere_144 rfl rfl (by first | decide | omega) ?_
                        refine w_callVV (o := 45) (ci := 8) (as := []) (rest := []) (k := 1) fX8_lineHere_145 rfl rfl rfl rfl rfl rfl rfl rfl (Nat.le_of_ble_eq_true rfl) (s_X8_advance X b n μN (RTc.cg2 hR_X (fun o h1 => (hFN.at (by omega) (by omega))) (fun k h1 => (congrFun (hFN.at (by omega) (by omega)) _))) hatw) (fun μW hμW => ?_)
                        obtain ⟨hFW, htk_W, hf_W, hR_W, hat_W⟩ := hμW
                        rw [h37w, hX.2.2.2.1.mn hm59 (Or.inl rfl)] at htk_W
                        have hP9 : tkL b n (lnF b n σ a) μ μW := (by rw [hln, lEnd_0 hX.1 hm59]; exact Or.inl ⟨rfl, RPS.cg2 hX.2.1 (fun o h1 => (hFW.at (by omega) (by omega)).trans (hFN.at (by omega) (by omega))) (fun k h1 => (hf_W k (by omega)).trans (congrFun (hFN.at (by omega) (by omega)) k)), (((hf_W _ (by omega)).trans ((congrFun (hFN.at (by omega) (by omega)) _).trans hX.2.2.1)).trans (by rfl)), htk_W, (by constructor <;> first | omega | (show _ + 1 ≤ n; omega) | (show 0 ≤ _ + 1; omega)), (((hf_W _ (by omega)).trans ((congrFun (hFN.at (by omega) (by omega)) _).trans (hX.2.2.2.2.2.1.trans h41M))).trans (by rfl)), (((hf_W _ (by omega)).trans ((congrFun (hFN.at (by omega) (by omega)) _).trans (hX.2.2.2.2.2.2.trans h42M))).trans (by rfl))⟩)
                        exact w_retV dX8_lineHere_148 rfl ⟨((hFW.wd (by omega) (by omega)).tr ((hFN.wd (by omega) (by omega)).tr ((hFX.wd (by omega) (by omega)).tr (hFM.wd (by omega) (by omega))))), (by exact hP9), (fun k h1 => ((hf_W k (by omega)).trans ((congrFun (hFN.at (by omega) (by omega)) _).trans ((hf_X k (by omega)).trans (congrFun (hFM.at (by omega) (by omega)) _))))), hR_W⟩
                    · refine Wp.topE (b := 0) (am_b_f hs133).symm ?_
                      have hm59 := fun q9 => hs133 ((hX.2.2.2.1.mk (c := 59) (Or.inl rfl)).mpr q9)
                      refine w_iconst dX8_lineHere_133 ?_
                      refine w_callVV (o := 45) (ci := 8) (as := [(0, 0), (0, 1)]) (rest := []) (k := 0) fX8_lineHere_134 rfl rfl rfl rfl rfl rfl rfl rfl (Nat.le_of_ble_eq_true rfl) (s_X8_must_f X 0 1 μX hX.2.2.1 rfl) (fun μN hμN => ?_)
                      obtain ⟨hFN, hb_N, h1_N, h2_N, hf_N⟩ := hμN
                      refine w_aload_n dX8_lineHere_137 rfl rfl (by first | decide | omega) ?_
                      refine w_getIx (o := 45) (f := 43) (x := 1) fX8_lineHere_138 rfl rfl (Nat.le_of_ble_eq_true rfl) rfl hb_N ?_
                      refine w_if_ne (tgt := 148) dX8_lineHere_141 rfl (R32.in (by decide)) (fun c141 => ?_) (fun c141 => ?_)
                      · skip
                        have hP9 : tkL b n (lnF b n σ a) μ μN := (by rw [hln, lEnd_1 hX.1 hm59]; exact Or.inr ⟨(show ¬ (1 : Int) = 0 by decide), (hb_N.trans (by rfl)), (h1_N.trans (by rfl)), ((h2_N.trans rfl).trans (by exact hX.2.2.2.1.1))⟩)
                        exact w_retV dX8_lineHere_148 rfl ⟨((hFN.wd (by omega) (by omega)).tr ((hFX.wd (by omega) (by omega)).tr (hFM.wd (by omega) (by omega)))), (by exact hP9), (fun k h1 => ((hf_N k (by omega)).trans ((hf_X k (by omega)).trans (congrFun (hFM.at (by omega) (by omega)) _)))), (RTc.cg2 hR_X (fun o h1 => (hFN.at (by omega) (by omega))) (fun k h1 => (hf_N _ (by omega))))⟩
                      · skip
                        exact absurd c141 (by decide)
                  · skip
                    refine w_aload_n dX8_lineHere_126 rfl rfl (by first | decide | omega) ?_
                    refine w_aload_n dX8_lineHere_127 rfl rfl (by first | decide | omega) ?_
                    refine w_bipush dX8_lineHere_128 (by decide) ?_
                    refine w_callVP (o := 45) (ci := 8) (as := [(0, 59)]) (rest := [(2, 45)]) (k := 0) fX8_lineHere_130 rfl rfl rfl rfl rfl rfl rfl rfl (Nat.le_of_ble_eq_true rfl) (s_X8_isMark X 59 μX (by first | omega | assumption) (by first | omega | assumption) (by first | omega | assumption)) ?_
                    have hf8 := am_b_r (μX 45 39 = 3 ∧ μX 45 40 = 59)
                    by_cases hs133 : (μX 45 39 = 3 ∧ μX 45 40 = 59)
                    · refine Wp.topE (b := 1) (am_b_t hs133).symm ?_
                      refine w_iconst dX8_lineHere_133 ?_
                      refine w_callVV (o := 45) (ci := 8) (as := [(0, 1), (0, 1)]) (rest := []) (k := 0) fX8_lineHere_134 rfl rfl rfl rfl rfl rfl rfl rfl (Nat.le_of_ble_eq_true rfl) (s_X8_must_t X 1 1 μX (Or.inr hX.2.1) rfl) (fun μN hμN => ?_)
                      have hFN := hμN
                      refine w_aload_n dX8_lineHere_137 rfl rfl (by first | decide | omega) ?_
                      refine w_getIx (o := 45) (f := 43) (x := 1) fX8_lineHere_138 rfl rfl (Nat.le_of_ble_eq_true rfl) rfl ((congrFun (hFN.at (by omega) (by omega)) _).trans hX.2.1) ?_
                      refine w_if_ne (tgt := 148) dX8_lineHere_141 rfl (R32.in (by decide)) (fun c141 => ?_) (fun c141 => ?_)
                      · skip
                        have hP9 : tkL b n (lnF b n σ a) μ μN := (by rw [hln, lEnd_b hX.1]; exact Or.inr ⟨hX.1, (((congrFun (hFN.at (by omega) (by omega)) _).trans hX.2.1).trans (by rfl)), ((congrFun (hFN.at (by omega) (by omega)) _).trans (by exact hX.2.2.1)), ((congrFun (hFN.at (by omega) (by omega)) _).trans (by exact hX.2.2.2))⟩)
                        exact w_retV dX8_lineHere_148 rfl ⟨((hFN.wd (by omega) (by omega)).tr ((hFX.wd (by omega) (by omega)).tr (hFM.wd (by omega) (by omega)))), (by exact hP9), (fun k h1 => ((congrFun (hFN.at (by omega) (by omega)) _).trans ((hf_X k (by omega)).trans (congrFun (hFM.at (by omega) (by omega)) _)))), (RTc.cg2 hR_X (fun o h1 => (hFN.at (by omega) (by omega))) (fun k h1 => (congrFun (hFN.at (by omega) (by omega)) _)))⟩
                      · skip
                        exact absurd c141 (by decide)
                    · refine Wp.topE (b := 0) (am_b_f hs133).symm ?_
                      refine w_iconst dX8_lineHere_133 ?_
                      refine w_callVV (o := 45) (ci := 8) (as := [(0, 0), (0, 1)]) (rest := []) (k := 0) fX8_lineHere_134 rfl rfl rfl rfl rfl rfl rfl rfl (Nat.le_of_ble_eq_true rfl) (s_X8_must_b X 0 1 μX hX.2.1) (fun μN hμN => ?_)
                      have hFN := hμN
                      refine w_aload_n dX8_lineHere_137 rfl rfl (by first | decide | omega) ?_
                      refine w_getIx (o := 45) (f := 43) (x := 1) fX8_lineHere_138 rfl rfl (Nat.le_of_ble_eq_true rfl) rfl ((congrFun (hFN.at (by omega) (by omega)) _).trans hX.2.1) ?_
                      refine w_if_ne (tgt := 148) dX8_lineHere_141 rfl (R32.in (by decide)) (fun c141 => ?_) (fun c141 => ?_)
                      · skip
                        have hP9 : tkL b n (lnF b n σ a) μ μN := (by rw [hln, lEnd_b hX.1]; exact Or.inr ⟨hX.1, (((congrFun (hFN.at (by omega) (by omega)) _).trans hX.2.1).trans (by rfl)), ((congrFun (hFN.at (by omega) (by omega)) _).trans (by exact hX.2.2.1)), ((congrFun (hFN.at (by omega) (by omega)) _).trans (by exact hX.2.2.2))⟩)
                        exact w_retV dX8_lineHere_148 rfl ⟨((hFN.wd (by omega) (by omega)).tr ((hFX.wd (by omega) (by omega)).tr (hFM.wd (by omega) (by omega)))), (by exact hP9), (fun k h1 => ((congrFun (hFN.at (by omega) (by omega)) _).trans ((hf_X k (by omega)).trans (congrFun (hFM.at (by omega) (by omega)) _)))), (RTc.cg2 hR_X (fun o h1 => (hFN.at (by omega) (by omega))) (fun k h1 => (congrFun (hFN.at (by omega) (by omega)) _)))⟩
                      · skip
                        exact absurd c141 (by decide)
              · skip
                refine w_iload_n dX8_lineHere_94 rfl rfl ?_
                refine w_ldcw (n := 595572) dX8_lineHere_95 k_1546 (by decide) ?_
                refine w_icmp_ne (tgt := 120) dX8_lineHere_98 rfl (R32.in (by omega)) (R32.in (by decide)) (fun c98 => ?_) (fun c98 => ?_)
                · skip
                  have hw9 : wdC b (sk b n a) (we b n (sk b n a)) = -1 := wdC_n (fun q9 => c35 (hs0.mp q9)) (fun q9 => c49 (hs1.mp q9)) (fun q9 => c63 (hs2.mp q9)) (fun q9 => c77 (hs3.mp q9)) (fun q9 => c91 (hs4.mp q9)) (fun q9 => c98 (hs5.mp q9))
                  refine w_aload_n dX8_lineHere_120 rfl rfl (by first | decide | omega) ?_
                  refine w_iconst dX8_lineHere_121 ?_
                  refine w_iconst dX8_lineHere_122 ?_
                  refine w_callVV (o := 45) (ci := 8) (as := [(0, 0), (0, 1)]) (rest := []) (k := 0) fX8_lineHere_123 rfl rfl rfl rfl rfl rfl rfl rfl (Nat.le_of_ble_eq_true rfl) (s_X8_must_f X 0 1 μM ((congrFun (hFM.at (by omega) (by omega)) _).trans hb) rfl) (fun μU hμU => ?_)
                  obtain ⟨hFU, hb_U, h1_U, h2_U, hf_U⟩ := hμU
                  refine w_aload_n dX8_lineHere_126 rfl rfl (by first | decide | omega) ?_
                  refine w_aload_n dX8_lineHere_127 rfl rfl (by first | decide | omega) ?_
                  refine w_bipush dX8_lineHere_128 (by decide) ?_
                  refine w_callVP (o := 45) (ci := 8) (as := [(0, 59)]) (rest := [(2, 45)]) (k := 0) fX8_lineHere_130 rfl rfl rfl rfl rfl rfl rfl rfl (Nat.le_of_ble_eq_true rfl) (s_X8_isMark X 59 μU (by rw [((hf_U _ (by omega)).trans (congrFun (hFM.at (by omega) (by omega)) _))]; omega) (by rw [((hf_U _ (by omega)).trans (congrFun (hFM.at (by omega) (by omega)) _))]; omega) (by decide)) ?_
                  have hf12 := am_b_r (μU 45 39 = 3 ∧ μU 45 40 = 59)
                  by_cases hs133 : (μU 45 39 = 3 ∧ μU 45 40 = 59)
                  · refine Wp.topE (b := 1) (am_b_t hs133).symm ?_
                    refine w_iconst dX8_lineHere_133 ?_
                    refine w_callVV (o := 45) (ci := 8) (as := [(0, 1), (0, 1)]) (rest := []) (k := 0) fX8_lineHere_134 rfl rfl rfl rfl rfl rfl rfl rfl (Nat.le_of_ble_eq_true rfl) (s_X8_must_t X 1 1 μU (Or.inr hb_U) rfl) (fun μN hμN => ?_)
                    have hFN := hμN
                    refine w_aload_n dX8_lineHere_137 rfl rfl (by first | decide | omega) ?_
                    refine w_getIx (o := 45) (f := 43) (x := 1) fX8_lineHere_138 rfl rfl (Nat.le_of_ble_eq_true rfl) rfl ((congrFun (hFN.at (by omega) (by omega)) _).trans hb_U) ?_
                    refine w_if_ne (tgt := 148) dX8_lineHere_141 rfl (R32.in (by decide)) (fun c141 => ?_) (fun c141 => ?_)
                    · skip
                      have hP9 : tkL b n (lnF b n σ a) μ μN := tkL_no (by unfold lnF; rw [hw9]; exact lnW_1 (Or.inl rfl)) (by omega) (((congrFun (hFN.at (by omega) (by omega)) _).trans hb_U).trans (by rfl)) (((congrFun (hFN.at (by omega) (by omega)) _).trans h1_U).trans (by rfl)) (((congrFun (hFN.at (by omega) (by omega)) _).trans (h2_U.trans (congrFun (hFM.at (by omega) (by omega)) _))).trans (by exact hK.1))
                      exact w_retV dX8_lineHere_148 rfl ⟨((hFN.wd (by omega) (by omega)).tr ((hFU.wd (by omega) (by omega)).tr (hFM.wd (by omega) (by omega)))), (by exact hP9), (fun k h1 => ((congrFun (hFN.at (by omega) (by omega)) _).trans ((hf_U k (by omega)).trans (congrFun (hFM.at (by omega) (by omega)) _)))), (RTc.cg2 hR (fun o h1 => ((hFN.at (by omega) (by omega)).trans ((hFU.at (by omega) (by omega)).trans (hFM.at (by omega) (by omega))))) (fun k h1 => ((congrFun (hFN.at (by omega) (by omega)) _).trans ((hf_U _ (by omega)).trans (congrFun (hFM.at (by omega) (by omega)) _)))))⟩
                    · skip
                      exact absurd c141 (by decide)
                  · refine Wp.topE (b := 0) (am_b_f hs133).symm ?_
                    refine w_iconst dX8_lineHere_133 ?_
                    refine w_callVV (o := 45) (ci := 8) (as := [(0, 0), (0, 1)]) (rest := []) (k := 0) fX8_lineHere_134 rfl rfl rfl rfl rfl rfl rfl rfl (Nat.le_of_ble_eq_true rfl) (s_X8_must_b X 0 1 μU hb_U) (fun μN hμN => ?_)
                    have hFN := hμN
                    refine w_aload_n dX8_lineHere_137 rfl rfl (by first | decide | omega) ?_
                    refine w_getIx (o := 45) (f := 43) (x := 1) fX8_lineHere_138 rfl rfl (Nat.le_of_ble_eq_true rfl) rfl ((congrFun (hFN.at (by omega) (by omega)) _).trans hb_U) ?_
                    refine w_if_ne (tgt := 148) dX8_lineHere_141 rfl (R32.in (by decide)) (fun c141 => ?_) (fun c141 => ?_)
                    · skip
                      have hP9 : tkL b n (lnF b n σ a) μ μN := tkL_no (by unfold lnF; rw [hw9]; exact lnW_1 (Or.inl rfl)) (by omega) (((congrFun (hFN.at (by omega) (by omega)) _).trans hb_U).trans (by rfl)) (((congrFun (hFN.at (by omega) (by omega)) _).trans h1_U).trans (by rfl)) (((congrFun (hFN.at (by omega) (by omega)) _).trans (h2_U.trans (congrFun (hFM.at (by omega) (by omega)) _))).trans (by exact hK.1))
                      exact w_retV dX8_lineHere_148 rfl ⟨((hFN.wd (by omega) (by omega)).tr ((hFU.wd (by omega) (by omega)).tr (hFM.wd (by omega) (by omega)))), (by exact hP9), (fun k h1 => ((congrFun (hFN.at (by omega) (by omega)) _).trans ((hf_U k (by omega)).trans (congrFun (hFM.at (by omega) (by omega)) _)))), (RTc.cg2 hR (fun o h1 => ((hFN.at (by omega) (by omega)).trans ((hFU.at (by omega) (by omega)).trans (hFM.at (by omega) (by omega))))) (fun k h1 => ((congrFun (hFN.at (by omega) (by omega)) _).trans ((hf_U _ (by omega)).trans (congrFun (hFM.at (by omega) (by omega)) _)))))⟩
                    · skip
                      exact absurd c141 (by decide)
                · skip
                  have hw9 : wdC b (sk b n a) (we b n (sk b n a)) = 5 := wdC_5 (fun q9 => c35 (hs0.mp q9)) (fun q9 => c49 (hs1.mp q9)) (fun q9 => c63 (hs2.mp q9)) (fun q9 => c77 (hs3.mp q9)) (fun q9 => c91 (hs4.mp q9)) (hs5.mpr c98)
                  have hln : lnF b n σ a = lEnd b n (ln0 b n σ 5 (sk b n a) (we b n (sk b n a))) := by unfold lnF; rw [hw9, lnW_ln0]
                  refine w_aload_n dX8_lineHere_101 rfl rfl (by first | decide | omega) ?_
                  refine w_iload_n dX8_lineHere_102 rfl rfl ?_
                  refine w_ldcw (n := 474757) dX8_lineHere_103 k_1545 (by decide) ?_
                  refine w_icmp_ne (tgt := 113) dX8_lineHere_106 rfl (R32.in (by omega)) (R32.in (by decide)) (fun c106 => ?_) (fun c106 => ?_)
                  · skip
                    refine w_iconst dX8_lineHere_113 ?_
                    refine w_callVV (o := 45) (ci := 8) (as := [(0, 0)]) (rest := []) (k := 2) fX8_lineHere_114 rfl rfl rfl rfl rfl rfl rfl rfl (Nat.le_of_ble_eq_true rfl) (s_X8_elementHere X b n σ a (we b n (sk b n a)) 0 5 μM (RTc.cg2 hR (fun o h1 => (hFM.at (by omega) (by omega))) (fun k h1 => (congrFun (hFM.at (by omega) (by omega)) _))) (RPS.cg2 hP (fun o h1 => (hFM.at (by omega) (by omega))) (fun k h1 => (congrFun (hFM.at (by omega) (by omega)) _))) hKM (by first | omega | assumption) heM hE2 hbM (by decide)) (fun μX hμX => ?_)
                    obtain ⟨hFX, hz_X, hf_X, hR_X, htr_X⟩ := hμX
                    refine w_goto (tgt := 126) dX8_lineHere_117 rfl ?_
                    rcases hz_X with hX | hX
                    · skip
                      have hskX := sk_r b n _ hX.2.2.2.2.1.2
                      refine w_aload_n dX8_lineHere_126 rfl rfl (by first | decide | omega) ?_
                      refine w_aload_n dX8_lineHere_127 rfl rfl (by first | decide | omega) ?_
                      refine w_bipush dX8_lineHere_128 (by decide) ?_
                      refine w_callVP (o := 45) (ci := 8) (as := [(0, 59)]) (rest := [(2, 45)]) (k := 0) fX8_lineHere_130 rfl rfl rfl rfl rfl rfl rfl rfl (Nat.le_of_ble_eq_true rfl) (s_X8_isMark X 59 μX (by first | omega | assumption) (by first | omega | assumption) (by first | omega | assumption)) ?_
                      have hf16 := am_b_r (μX 45 39 = 3 ∧ μX 45 40 = 59)
                      by_cases hs133 : (μX 45 39 = 3 ∧ μX 45 40 = 59)
                      · refine Wp.topE (b := 1) (am_b_t hs133).symm ?_
                        have hm59 := (hX.2.2.2.1.mk (c := 59) (Or.inl rfl)).mp hs133
                        have hlt9 := see_lt hm59 (by omega)
                        refine w_iconst dX8_lineHere_133 ?_
                        refine w_callVV (o := 45) (ci := 8) (as := [(0, 1), (0, 1)]) (rest := []) (k := 0) fX8_lineHere_134 rfl rfl rfl rfl rfl rfl rfl rfl (Nat.le_of_ble_eq_true rfl) (s_X8_must_t X 1 1 μX (Or.inl hX.2.2.1) rfl) (fun μN hμN => ?_)
                        have hFN := hμN
                        refine w_aload_n dX8_lineHere_137 rfl rfl (by first | decide | omega) ?_
                        refine w_getIx (o := 45) (f := 43) (x := 0) fX8_lineHere_138 rfl rfl (Nat.le_of_ble_eq_true rfl) rfl ((congrFun (hFN.at (by omega) (by omega)) _).trans hX.2.2.1) ?_
                        refine w_if_ne (tgt := 148) dX8_lineHere_141 rfl (R32.in (by decide)) (fun c141 => ?_) (fun c141 => ?_)
                        · skip
                          exact absurd c141 (by decide)
                        · skip
                          have h37w : μN 45 37 = μX 45 37 := ((congrFun (hFN.at (by omega) (by omega)) _).trans (by rfl))
                          have hatw : 0 ≤ μN 45 37 ∧ μN 45 37 ≤ n := by rw [h37w]; exact hX.2.2.2.1.at hX.2.2.2.2.1
                          refine w_aload_n dX8_lineHere_144 rfl rfl (by first | decide | omega) ?_
                          refine w_callVV (o := 45) (ci := 8) (as := []) (rest := []) (k := 1) fX8_lineHere_145 rfl rfl rfl rfl rfl rfl rfl rfl (Nat.le_of_ble_eq_true rfl) (s_X8_advance X b n μN (RTc.cg2 hR_X (fun o h1 => (hFN.at (by omega) (by omega))) (fun k h1 => (congrFun (hFN.at (by omega) (by omega)) _))) hatw) (fun μW hμW => ?_)
                          obtain ⟨hFW, htk_W, hf_W, hR_W, hat_W⟩ := hμW
                          rw [h37w, hX.2.2.2.1.mn hm59 (Or.inl rfl)] at htk_W
                          have hP9 : tkL b n (lnF b n σ a) μ μW := (by rw [hln, lEnd_0 hX.1 hm59]; exact Or.inl ⟨rfl, RPS.cg2 hX.2.1 (fun o h1 => (hFW.at (by omega) (by omega)).trans (hFN.at (by omega) (by omega))) (fun k h1 => (hf_W k (by omega)).trans (congrFun (hFN.at (by omega) (by omega)) k)), (((hf_W _ (by omega)).trans ((congrFun (hFN.at (by omega) (by omega)) _).trans hX.2.2.1)).trans (by rfl)), htk_W, (by constructor <;> first | omega | (show _ + 1 ≤ n; omega) | (show 0 ≤ _ + 1; omega)), (((hf_W _ (by omega)).trans ((congrFun (hFN.at (by omega) (by omega)) _).trans (hX.2.2.2.2.2.1.trans h41M))).trans (by rfl)), (((hf_W _ (by omega)).trans ((congrFun (hFN.at (by omega) (by omega)) _).trans (hX.2.2.2.2.2.2.trans h42M))).trans (by rfl))⟩)
                          exact w_retV dX8_lineHere_148 rfl ⟨((hFW.wd (by omega) (by omega)).tr ((hFN.wd (by omega) (by omega)).tr ((hFX.wd (by omega) (by omega)).tr (hFM.wd (by omega) (by omega))))), (by exact hP9), (fun k h1 => ((hf_W k (by omega)).trans ((congrFun (hFN.at (by omega) (by omega)) _).trans ((hf_X k (by omega)).trans (congrFun (hFM.at (by omega) (by omega)) _))))), hR_W⟩
                      · refine Wp.topE (b := 0) (am_b_f hs133).symm ?_
                        have hm59 := fun q9 => hs133 ((hX.2.2.2.1.mk (c := 59) (Or.inl rfl)).mpr q9)
                        refine w_iconst dX8_lineHere_133 ?_
                        refine w_callVV (o := 45) (ci := 8) (as := [(0, 0), (0, 1)]) (rest := []) (k := 0) fX8_lineHere_134 rfl rfl rfl rfl rfl rfl rfl rfl (Nat.le_of_ble_eq_true rfl) (s_X8_must_f X 0 1 μX hX.2.2.1 rfl) (fun μN hμN => ?_)
                        obtain ⟨hFN, hb_N, h1_N, h2_N, hf_N⟩ := hμN
                        refine w_aload_n dX8_lineHere_137 rfl rfl (by first | decide | omega) ?_
                        refine w_getIx (o := 45) (f := 43) (x := 1) fX8_lineHere_138 rfl rfl (Nat.le_of_ble_eq_true rfl) rfl hb_N ?_
                        refine w_if_ne (tgt := 148) dX8_lineHere_141 rfl (R32.in (by decide)) (fun c141 => ?_) (fun c141 => ?_)
                        · skip
                          have hP9 : tkL b n (lnF b n σ a) μ μN := (by rw [hln, lEnd_1 hX.1 hm59]; exact Or.inr ⟨(show ¬ (1 : Int) = 0 by decide), (hb_N.trans (by rfl)), (h1_N.trans (by rfl)), ((h2_N.trans rfl).trans (by exact hX.2.2.2.1.1))⟩)
                          exact w_retV dX8_lineHere_148 rfl ⟨((hFN.wd (by omega) (by omega)).tr ((hFX.wd (by omega) (by omega)).tr (hFM.wd (by omega) (by omega)))), (by exact hP9), (fun k h1 => ((hf_N k (by omega)).trans ((hf_X k (by omega)).trans (congrFun (hFM.at (by omega) (by omega)) _)))), (RTc.cg2 hR_X (fun o h1 => (hFN.at (by omega) (by omega))) (fun k h1 => (hf_N _ (by omega))))⟩
                        · skip
                          exact absurd c141 (by decide)
                    · skip
                      refine w_aload_n dX8_lineHere_126 rfl rfl (by first | decide | omega) ?_
                      refine w_aload_n dX8_lineHere_127 rfl rfl (by first | decide | omega) ?_
                      refine w_bipush dX8_lineHere_128 (by decide) ?_
                      refine w_callVP (o := 45) (ci := 8) (as := [(0, 59)]) (rest := [(2, 45)]) (k := 0) fX8_lineHere_130 rfl rfl rfl rfl rfl rfl rfl rfl (Nat.le_of_ble_eq_true rfl) (s_X8_isMark X 59 μX (by first | omega | assumption) (by first | omega | assumption) (by first | omega | assumption)) ?_
                      have hf20 := am_b_r (μX 45 39 = 3 ∧ μX 45 40 = 59)
                      by_cases hs133 : (μX 45 39 = 3 ∧ μX 45 40 = 59)
                      · refine Wp.topE (b := 1) (am_b_t hs133).symm ?_
                        refine w_iconst dX8_lineHere_133 ?_
                        refine w_callVV (o := 45) (ci := 8) (as := [(0, 1), (0, 1)]) (rest := []) (k := 0) fX8_lineHere_134 rfl rfl rfl rfl rfl rfl rfl rfl (Nat.le_of_ble_eq_true rfl) (s_X8_must_t X 1 1 μX (Or.inr hX.2.1) rfl) (fun μN hμN => ?_)
                        have hFN := hμN
                        refine w_aload_n dX8_lineHere_137 rfl rfl (by first | decide | omega) ?_
                        refine w_getIx (o := 45) (f := 43) (x := 1) fX8_lineHere_138 rfl rfl (Nat.le_of_ble_eq_true rfl) rfl ((congrFun (hFN.at (by omega) (by omega)) _).trans hX.2.1) ?_
                        refine w_if_ne (tgt := 148) dX8_lineHere_141 rfl (R32.in (by decide)) (fun c141 => ?_) (fun c141 => ?_)
                        · skip
                          have hP9 : tkL b n (lnF b n σ a) μ μN := (by rw [hln, lEnd_b hX.1]; exact Or.inr ⟨hX.1, (((congrFun (hFN.at (by omega) (by omega)) _).trans hX.2.1).trans (by rfl)), ((congrFun (hFN.at (by omega) (by omega)) _).trans (by exact hX.2.2.1)), ((congrFun (hFN.at (by omega) (by omega)) _).trans (by exact hX.2.2.2))⟩)
                          exact w_retV dX8_lineHere_148 rfl ⟨((hFN.wd (by omega) (by omega)).tr ((hFX.wd (by omega) (by omega)).tr (hFM.wd (by omega) (by omega)))), (by exact hP9), (fun k h1 => ((congrFun (hFN.at (by omega) (by omega)) _).trans ((hf_X k (by omega)).trans (congrFun (hFM.at (by omega) (by omega)) _)))), (RTc.cg2 hR_X (fun o h1 => (hFN.at (by omega) (by omega))) (fun k h1 => (congrFun (hFN.at (by omega) (by omega)) _)))⟩
                        · skip
                          exact absurd c141 (by decide)
                      · refine Wp.topE (b := 0) (am_b_f hs133).symm ?_
                        refine w_iconst dX8_lineHere_133 ?_
                        refine w_callVV (o := 45) (ci := 8) (as := [(0, 0), (0, 1)]) (rest := []) (k := 0) fX8_lineHere_134 rfl rfl rfl rfl rfl rfl rfl rfl (Nat.le_of_ble_eq_true rfl) (s_X8_must_b X 0 1 μX hX.2.1) (fun μN hμN => ?_)
                        have hFN := hμN
                        refine w_aload_n dX8_lineHere_137 rfl rfl (by first | decide | omega) ?_
                        refine w_getIx (o := 45) (f := 43) (x := 1) fX8_lineHere_138 rfl rfl (Nat.le_of_ble_eq_true rfl) rfl ((congrFun (hFN.at (by omega) (by omega)) _).trans hX.2.1) ?_
                        refine w_if_ne (tgt := 148) dX8_lineHere_141 rfl (R32.in (by decide)) (fun c141 => ?_) (fun c141 => ?_)
                        · skip
                          have hP9 : tkL b n (lnF b n σ a) μ μN := (by rw [hln, lEnd_b hX.1]; exact Or.inr ⟨hX.1, (((congrFun (hFN.at (by omega) (by omega)) _).trans hX.2.1).trans (by rfl)), ((congrFun (hFN.at (by omega) (by omega)) _).trans (by exact hX.2.2.1)), ((congrFun (hFN.at (by omega) (by omega)) _).trans (by exact hX.2.2.2))⟩)
                          exact w_retV dX8_lineHere_148 rfl ⟨((hFN.wd (by omega) (by omega)).tr ((hFX.wd (by omega) (by omega)).tr (hFM.wd (by omega) (by omega)))), (by exact hP9), (fun k h1 => ((congrFun (hFN.at (by omega) (by omega)) _).trans ((hf_X k (by omega)).trans (congrFun (hFM.at (by omega) (by omega)) _)))), (RTc.cg2 hR_X (fun o h1 => (hFN.at (by omega) (by omega))) (fun k h1 => (congrFun (hFN.at (by omega) (by omega)) _)))⟩
                        · skip
                          exact absurd c141 (by decide)
                  · skip
                    omega
            · skip
              have hw9 : wdC b (sk b n a) (we b n (sk b n a)) = 3 := wdC_3 (fun q9 => c35 (hs0.mp q9)) (fun q9 => c49 (hs1.mp q9)) (fun q9 => c63 (hs2.mp q9)) (hs3.mpr c77)
              have hln : lnF b n σ a = lEnd b n (ln0 b n σ 3 (sk b n a) (we b n (sk b n a))) := by unfold lnF; rw [hw9, lnW_ln0]
              refine w_aload_n dX8_lineHere_80 rfl rfl (by first | decide | omega) ?_
              refine w_callVV (o := 45) (ci := 8) (as := []) (rest := []) (k := 1) fX8_lineHere_81 rfl rfl rfl rfl rfl rfl rfl rfl (Nat.le_of_ble_eq_true rfl) (s_X8_wideHere X b n σ a (we b n (sk b n a)) μM (RTc.cg2 hR (fun o h1 => (hFM.at (by omega) (by omega))) (fun k h1 => (congrFun (hFM.at (by omega) (by omega)) _))) (RPS.cg2 hP (fun o h1 => (hFM.at (by omega) (by omega))) (fun k h1 => (congrFun (hFM.at (by omega) (by omega)) _))) hKM (by first | omega | assumption) heM hE2 hbM) (fun μX hμX => ?_)
              obtain ⟨hFX, hz_X, hf_X, hR_X, htr_X⟩ := hμX
              refine w_goto (tgt := 126) dX8_lineHere_84 rfl ?_
              rcases hz_X with hX | hX
              · skip
                have hskX := sk_r b n _ hX.2.2.2.2.1.2
                refine w_aload_n dX8_lineHere_126 rfl rfl (by first | decide | omega) ?_
                refine w_aload_n dX8_lineHere_127 rfl rfl (by first | decide | omega) ?_
                refine w_bipush dX8_lineHere_128 (by decide) ?_
                refine w_callVP (o := 45) (ci := 8) (as := [(0, 59)]) (rest := [(2, 45)]) (k := 0) fX8_lineHere_130 rfl rfl rfl rfl rfl rfl rfl rfl (Nat.le_of_ble_eq_true rfl) (s_X8_isMark X 59 μX (by first | omega | assumption) (by first | omega | assumption) (by first | omega | assumption)) ?_
                have hf24 := am_b_r (μX 45 39 = 3 ∧ μX 45 40 = 59)
                by_cases hs133 : (μX 45 39 = 3 ∧ μX 45 40 = 59)
                · refine Wp.topE (b := 1) (am_b_t hs133).symm ?_
                  have hm59 := (hX.2.2.2.1.mk (c := 59) (Or.inl rfl)).mp hs133
                  have hlt9 := see_lt hm59 (by omega)
                  refine w_iconst dX8_lineHere_133 ?_
                  refine w_callVV (o := 45) (ci := 8) (as := [(0, 1), (0, 1)]) (rest := []) (k := 0) fX8_lineHere_134 rfl rfl rfl rfl rfl rfl rfl rfl (Nat.le_of_ble_eq_true rfl) (s_X8_must_t X 1 1 μX (Or.inl hX.2.2.1) rfl) (fun μN hμN => ?_)
                  have hFN := hμN
                  refine w_aload_n dX8_lineHere_137 rfl rfl (by first | decide | omega) ?_
                  refine w_getIx (o := 45) (f := 43) (x := 0) fX8_lineHere_138 rfl rfl (Nat.le_of_ble_eq_true rfl) rfl ((congrFun (hFN.at (by omega) (by omega)) _).trans hX.2.2.1) ?_
                  refine w_if_ne (tgt := 148) dX8_lineHere_141 rfl (R32.in (by decide)) (fun c141 => ?_) (fun c141 => ?_)
                  · skip
                    exact absurd c141 (by decide)
                  · skip
                    have h37w : μN 45 37 = μX 45 37 := ((congrFun (hFN.at (by omega) (by omega)) _).trans (by rfl))
                    have hatw : 0 ≤ μN 45 37 ∧ μN 45 37 ≤ n := by rw [h37w]; exact hX.2.2.2.1.at hX.2.2.2.2.1
                    refine w_aload_n dX8_lineHere_144 rfl rfl (by first | decide | omega) ?_
                    refine w_callVV (o := 45) (ci := 8) (as := []) (rest := []) (k := 1) fX8_lineHere_145 rfl rfl rfl rfl rfl rfl rfl rfl (Nat.le_of_ble_eq_true rfl) (s_X8_advance X b n μN (RTc.cg2 hR_X (fun o h1 => (hFN.at (by omega) (by omega))) (fun k h1 => (congrFun (hFN.at (by omega) (by omega)) _))) hatw) (fun μW hμW => ?_)
                    obtain ⟨hFW, htk_W, hf_W, hR_W, hat_W⟩ := hμW
                    rw [h37w, hX.2.2.2.1.mn hm59 (Or.inl rfl)] at htk_W
                    have hP9 : tkL b n (lnF b n σ a) μ μW := (by rw [hln, lEnd_0 hX.1 hm59]; exact Or.inl ⟨rfl, RPS.cg2 hX.2.1 (fun o h1 => (hFW.at (by omega) (by omega)).trans (hFN.at (by omega) (by omega))) (fun k h1 => (hf_W k (by omega)).trans (congrFun (hFN.at (by omega) (by omega)) k)), (((hf_W _ (by omega)).trans ((congrFun (hFN.at (by omega) (by omega)) _).trans hX.2.2.1)).trans (by rfl)), htk_W, (by constructor <;> first | omega | (show _ + 1 ≤ n; omega) | (show 0 ≤ _ + 1; omega)), (((hf_W _ (by omega)).trans ((congrFun (hFN.at (by omega) (by omega)) _).trans (hX.2.2.2.2.2.1.trans h41M))).trans (by rfl)), (((hf_W _ (by omega)).trans ((congrFun (hFN.at (by omega) (by omega)) _).trans (hX.2.2.2.2.2.2.trans h42M))).trans (by rfl))⟩)
                    exact w_retV dX8_lineHere_148 rfl ⟨((hFW.wd (by omega) (by omega)).tr ((hFN.wd (by omega) (by omega)).tr ((hFX.wd (by omega) (by omega)).tr (hFM.wd (by omega) (by omega))))), (by exact hP9), (fun k h1 => ((hf_W k (by omega)).trans ((congrFun (hFN.at (by omega) (by omega)) _).trans ((hf_X k (by omega)).trans (congrFun (hFM.at (by omega) (by omega)) _))))), hR_W⟩
                · refine Wp.topE (b := 0) (am_b_f hs133).symm ?_
                  have hm59 := fun q9 => hs133 ((hX.2.2.2.1.mk (c := 59) (Or.inl rfl)).mpr q9)
                  refine w_iconst dX8_lineHere_133 ?_
                  refine w_callVV (o := 45) (ci := 8) (as := [(0, 0), (0, 1)]) (rest := []) (k := 0) fX8_lineHere_134 rfl rfl rfl rfl rfl rfl rfl rfl (Nat.le_of_ble_eq_true rfl) (s_X8_must_f X 0 1 μX hX.2.2.1 rfl) (fun μN hμN => ?_)
                  obtain ⟨hFN, hb_N, h1_N, h2_N, hf_N⟩ := hμN
                  refine w_aload_n dX8_lineHere_137 rfl rfl (by first | decide | omega) ?_
                  refine w_getIx (o := 45) (f := 43) (x := 1) fX8_lineHere_138 rfl rfl (Nat.le_of_ble_eq_true rfl) rfl hb_N ?_
                  refine w_if_ne (tgt := 148) dX8_lineHere_141 rfl (R32.in (by decide)) (fun c141 => ?_) (fun c141 => ?_)
                  · skip
                    have hP9 : tkL b n (lnF b n σ a) μ μN := (by rw [hln, lEnd_1 hX.1 hm59]; exact Or.inr ⟨(show ¬ (1 : Int) = 0 by decide), (hb_N.trans (by rfl)), (h1_N.trans (by rfl)), ((h2_N.trans rfl).trans (by exact hX.2.2.2.1.1))⟩)
                    exact w_retV dX8_lineHere_148 rfl ⟨((hFN.wd (by omega) (by omega)).tr ((hFX.wd (by omega) (by omega)).tr (hFM.wd (by omega) (by omega)))), (by exact hP9), (fun k h1 => ((hf_N k (by omega)).trans ((hf_X k (by omega)).trans (congrFun (hFM.at (by omega) (by omega)) _)))), (RTc.cg2 hR_X (fun o h1 => (hFN.at (by omega) (by omega))) (fun k h1 => (hf_N _ (by omega))))⟩
                  · skip
                    exact absurd c141 (by decide)
              · skip
                refine w_aload_n dX8_lineHere_126 rfl rfl (by first | decide | omega) ?_
                refine w_aload_n dX8_lineHere_127 rfl rfl (by first | decide | omega) ?_
                refine w_bipush dX8_lineHere_128 (by decide) ?_
                refine w_callVP (o := 45) (ci := 8) (as := [(0, 59)]) (rest := [(2, 45)]) (k := 0) fX8_lineHere_130 rfl rfl rfl rfl rfl rfl rfl rfl (Nat.le_of_ble_eq_true rfl) (s_X8_isMark X 59 μX (by first | omega | assumption) (by first | omega | assumption) (by first | omega | assumption)) ?_
                have hf28 := am_b_r (μX 45 39 = 3 ∧ μX 45 40 = 59)
                by_cases hs133 : (μX 45 39 = 3 ∧ μX 45 40 = 59)
                · refine Wp.topE (b := 1) (am_b_t hs133).symm ?_
                  refine w_iconst dX8_lineHere_133 ?_
                  refine w_callVV (o := 45) (ci := 8) (as := [(0, 1), (0, 1)]) (rest := []) (k := 0) fX8_lineHere_134 rfl rfl rfl rfl rfl rfl rfl rfl (Nat.le_of_ble_eq_true rfl) (s_X8_must_t X 1 1 μX (Or.inr hX.2.1) rfl) (fun μN hμN => ?_)
                  have hFN := hμN
                  refine w_aload_n dX8_lineHere_137 rfl rfl (by first | decide | omega) ?_
                  refine w_getIx (o := 45) (f := 43) (x := 1) fX8_lineHere_138 rfl rfl (Nat.le_of_ble_eq_true rfl) rfl ((congrFun (hFN.at (by omega) (by omega)) _).trans hX.2.1) ?_
                  refine w_if_ne (tgt := 148) dX8_lineHere_141 rfl (R32.in (by decide)) (fun c141 => ?_) (fun c141 => ?_)
                  · skip
                    have hP9 : tkL b n (lnF b n σ a) μ μN := (by rw [hln, lEnd_b hX.1]; exact Or.inr ⟨hX.1, (((congrFun (hFN.at (by omega) (by omega)) _).trans hX.2.1).trans (by rfl)), ((congrFun (hFN.at (by omega) (by omega)) _).trans (by exact hX.2.2.1)), ((congrFun (hFN.at (by omega) (by omega)) _).trans (by exact hX.2.2.2))⟩)
                    exact w_retV dX8_lineHere_148 rfl ⟨((hFN.wd (by omega) (by omega)).tr ((hFX.wd (by omega) (by omega)).tr (hFM.wd (by omega) (by omega)))), (by exact hP9), (fun k h1 => ((congrFun (hFN.at (by omega) (by omega)) _).trans ((hf_X k (by omega)).trans (congrFun (hFM.at (by omega) (by omega)) _)))), (RTc.cg2 hR_X (fun o h1 => (hFN.at (by omega) (by omega))) (fun k h1 => (congrFun (hFN.at (by omega) (by omega)) _)))⟩
                  · skip
                    exact absurd c141 (by decide)
                · refine Wp.topE (b := 0) (am_b_f hs133).symm ?_
                  refine w_iconst dX8_lineHere_133 ?_
                  refine w_callVV (o := 45) (ci := 8) (as := [(0, 0), (0, 1)]) (rest := []) (k := 0) fX8_lineHere_134 rfl rfl rfl rfl rfl rfl rfl rfl (Nat.le_of_ble_eq_true rfl) (s_X8_must_b X 0 1 μX hX.2.1) (fun μN hμN => ?_)
                  have hFN := hμN
                  refine w_aload_n dX8_lineHere_137 rfl rfl (by first | decide | omega) ?_
                  refine w_getIx (o := 45) (f := 43) (x := 1) fX8_lineHere_138 rfl rfl (Nat.le_of_ble_eq_true rfl) rfl ((congrFun (hFN.at (by omega) (by omega)) _).trans hX.2.1) ?_
                  refine w_if_ne (tgt := 148) dX8_lineHere_141 rfl (R32.in (by decide)) (fun c141 => ?_) (fun c141 => ?_)
                  · skip
                    have hP9 : tkL b n (lnF b n σ a) μ μN := (by rw [hln, lEnd_b hX.1]; exact Or.inr ⟨hX.1, (((congrFun (hFN.at (by omega) (by omega)) _).trans hX.2.1).trans (by rfl)), ((congrFun (hFN.at (by omega) (by omega)) _).trans (by exact hX.2.2.1)), ((congrFun (hFN.at (by omega) (by omega)) _).trans (by exact hX.2.2.2))⟩)
                    exact w_retV dX8_lineHere_148 rfl ⟨((hFN.wd (by omega) (by omega)).tr ((hFX.wd (by omega) (by omega)).tr (hFM.wd (by omega) (by omega)))), (by exact hP9), (fun k h1 => ((congrFun (hFN.at (by omega) (by omega)) _).trans ((hf_X k (by omega)).trans (congrFun (hFM.at (by omega) (by omega)) _)))), (RTc.cg2 hR_X (fun o h1 => (hFN.at (by omega) (by omega))) (fun k h1 => (congrFun (hFN.at (by omega) (by omega)) _)))⟩
                  · skip
                    exact absurd c141 (by decide)
          · skip
            have hw9 : wdC b (sk b n a) (we b n (sk b n a)) = 2 := wdC_2 (fun q9 => c35 (hs0.mp q9)) (fun q9 => c49 (hs1.mp q9)) (hs2.mpr c63)
            have hln : lnF b n σ a = lEnd b n (ln0 b n σ 2 (sk b n a) (we b n (sk b n a))) := by unfold lnF; rw [hw9, lnW_ln0]
            refine w_aload_n dX8_lineHere_66 rfl rfl (by first | decide | omega) ?_
            refine w_callVV (o := 45) (ci := 8) (as := []) (rest := []) (k := 0) fX8_lineHere_67 rfl rfl rfl rfl rfl rfl rfl rfl (Nat.le_of_ble_eq_true rfl) (s_X8_kneeHere X b n σ a (we b n (sk b n a)) μM (RTc.cg2 hR (fun o h1 => (hFM.at (by omega) (by omega))) (fun k h1 => (congrFun (hFM.at (by omega) (by omega)) _))) (RPS.cg2 hP (fun o h1 => (hFM.at (by omega) (by omega))) (fun k h1 => (congrFun (hFM.at (by omega) (by omega)) _))) hKM (by first | omega | assumption) heM hE2 hbM) (fun μX hμX => ?_)
            obtain ⟨hFX, hz_X, hf_X, hR_X, htr_X⟩ := hμX
            refine w_goto (tgt := 126) dX8_lineHere_70 rfl ?_
            rcases hz_X with hX | hX
            · skip
              have hskX := sk_r b n _ hX.2.2.2.2.1.2
              refine w_aload_n dX8_lineHere_126 rfl rfl (by first | decide | omega) ?_
              refine w_aload_n dX8_lineHere_127 rfl rfl (by first | decide | omega) ?_
              refine w_bipush dX8_lineHere_128 (by decide) ?_
              refine w_callVP (o := 45) (ci := 8) (as := [(0, 59)]) (rest := [(2, 45)]) (k := 0) fX8_lineHere_130 rfl rfl rfl rfl rfl rfl rfl rfl (Nat.le_of_ble_eq_true rfl) (s_X8_isMark X 59 μX (by first | omega | assumption) (by first | omega | assumption) (by first | omega | assumption)) ?_
              have hf32 := am_b_r (μX 45 39 = 3 ∧ μX 45 40 = 59)
              by_cases hs133 : (μX 45 39 = 3 ∧ μX 45 40 = 59)
              · refine Wp.topE (b := 1) (am_b_t hs133).symm ?_
                have hm59 := (hX.2.2.2.1.mk (c := 59) (Or.inl rfl)).mp hs133
                have hlt9 := see_lt hm59 (by omega)
                refine w_iconst dX8_lineHere_133 ?_
                refine w_callVV (o := 45) (ci := 8) (as := [(0, 1), (0, 1)]) (rest := []) (k := 0) fX8_lineHere_134 rfl rfl rfl rfl rfl rfl rfl rfl (Nat.le_of_ble_eq_true rfl) (s_X8_must_t X 1 1 μX (Or.inl hX.2.2.1) rfl) (fun μN hμN => ?_)
                have hFN := hμN
                refine w_aload_n dX8_lineHere_137 rfl rfl (by first | decide | omega) ?_
                refine w_getIx (o := 45) (f := 43) (x := 0) fX8_lineHere_138 rfl rfl (Nat.le_of_ble_eq_true rfl) rfl ((congrFun (hFN.at (by omega) (by omega)) _).trans hX.2.2.1) ?_
                refine w_if_ne (tgt := 148) dX8_lineHere_141 rfl (R32.in (by decide)) (fun c141 => ?_) (fun c141 => ?_)
                · skip
                  exact absurd c141 (by decide)
                · skip
                  have h37w : μN 45 37 = μX 45 37 := ((congrFun (hFN.at (by omega) (by omega)) _).trans (by rfl))
                  have hatw : 0 ≤ μN 45 37 ∧ μN 45 37 ≤ n := by rw [h37w]; exact hX.2.2.2.1.at hX.2.2.2.2.1
                  refine w_aload_n dX8_lineHere_144 rfl rfl (by first | decide | omega) ?_
                  refine w_callVV (o := 45) (ci := 8) (as := []) (rest := []) (k := 1) fX8_lineHere_145 rfl rfl rfl rfl rfl rfl rfl rfl (Nat.le_of_ble_eq_true rfl) (s_X8_advance X b n μN (RTc.cg2 hR_X (fun o h1 => (hFN.at (by omega) (by omega))) (fun k h1 => (congrFun (hFN.at (by omega) (by omega)) _))) hatw) (fun μW hμW => ?_)
                  obtain ⟨hFW, htk_W, hf_W, hR_W, hat_W⟩ := hμW
                  rw [h37w, hX.2.2.2.1.mn hm59 (Or.inl rfl)] at htk_W
                  have hP9 : tkL b n (lnF b n σ a) μ μW := (by rw [hln, lEnd_0 hX.1 hm59]; exact Or.inl ⟨rfl, RPS.cg2 hX.2.1 (fun o h1 => (hFW.at (by omega) (by omega)).trans (hFN.at (by omega) (by omega))) (fun k h1 => (hf_W k (by omega)).trans (congrFun (hFN.at (by omega) (by omega)) k)), (((hf_W _ (by omega)).trans ((congrFun (hFN.at (by omega) (by omega)) _).trans hX.2.2.1)).trans (by rfl)), htk_W, (by constructor <;> first | omega | (show _ + 1 ≤ n; omega) | (show 0 ≤ _ + 1; omega)), (((hf_W _ (by omega)).trans ((congrFun (hFN.at (by omega) (by omega)) _).trans (hX.2.2.2.2.2.1.trans h41M))).trans (by rfl)), (((hf_W _ (by omega)).trans ((congrFun (hFN.at (by omega) (by omega)) _).trans (hX.2.2.2.2.2.2.trans h42M))).trans (by rfl))⟩)
                  exact w_retV dX8_lineHere_148 rfl ⟨((hFW.wd (by omega) (by omega)).tr ((hFN.wd (by omega) (by omega)).tr ((hFX.wd (by omega) (by omega)).tr (hFM.wd (by omega) (by omega))))), (by exact hP9), (fun k h1 => ((hf_W k (by omega)).trans ((congrFun (hFN.at (by omega) (by omega)) _).trans ((hf_X k (by omega)).trans (congrFun (hFM.at (by omega) (by omega)) _))))), hR_W⟩
              · refine Wp.topE (b := 0) (am_b_f hs133).symm ?_
                have hm59 := fun q9 => hs133 ((hX.2.2.2.1.mk (c := 59) (Or.inl rfl)).mpr q9)
                refine w_iconst dX8_lineHere_133 ?_
                refine w_callVV (o := 45) (ci := 8) (as := [(0, 0), (0, 1)]) (rest := []) (k := 0) fX8_lineHere_134 rfl rfl rfl rfl rfl rfl rfl rfl (Nat.le_of_ble_eq_true rfl) (s_X8_must_f X 0 1 μX hX.2.2.1 rfl) (fun μN hμN => ?_)
                obtain ⟨hFN, hb_N, h1_N, h2_N, hf_N⟩ := hμN
                refine w_aload_n dX8_lineHere_137 rfl rfl (by first | decide | omega) ?_
                refine w_getIx (o := 45) (f := 43) (x := 1) fX8_lineHere_138 rfl rfl (Nat.le_of_ble_eq_true rfl) rfl hb_N ?_
                refine w_if_ne (tgt := 148) dX8_lineHere_141 rfl (R32.in (by decide)) (fun c141 => ?_) (fun c141 => ?_)
                · skip
                  have hP9 : tkL b n (lnF b n σ a) μ μN := (by rw [hln, lEnd_1 hX.1 hm59]; exact Or.inr ⟨(show ¬ (1 : Int) = 0 by decide), (hb_N.trans (by rfl)), (h1_N.trans (by rfl)), ((h2_N.trans rfl).trans (by exact hX.2.2.2.1.1))⟩)
                  exact w_retV dX8_lineHere_148 rfl ⟨((hFN.wd (by omega) (by omega)).tr ((hFX.wd (by omega) (by omega)).tr (hFM.wd (by omega) (by omega)))), (by exact hP9), (fun k h1 => ((hf_N k (by omega)).trans ((hf_X k (by omega)).trans (congrFun (hFM.at (by omega) (by omega)) _)))), (RTc.cg2 hR_X (fun o h1 => (hFN.at (by omega) (by omega))) (fun k h1 => (hf_N _ (by omega))))⟩
                · skip
                  exact absurd c141 (by decide)
            · skip
              refine w_aload_n dX8_lineHere_126 rfl rfl (by first | decide | omega) ?_
              refine w_aload_n dX8_lineHere_127 rfl rfl (by first | decide | omega) ?_
              refine w_bipush dX8_lineHere_128 (by decide) ?_
              refine w_callVP (o := 45) (ci := 8) (as := [(0, 59)]) (rest := [(2, 45)]) (k := 0) fX8_lineHere_130 rfl rfl rfl rfl rfl rfl rfl rfl (Nat.le_of_ble_eq_true rfl) (s_X8_isMark X 59 μX (by first | omega | assumption) (by first | omega | assumption) (by first | omega | assumption)) ?_
              have hf36 := am_b_r (μX 45 39 = 3 ∧ μX 45 40 = 59)
              by_cases hs133 : (μX 45 39 = 3 ∧ μX 45 40 = 59)
              · refine Wp.topE (b := 1) (am_b_t hs133).symm ?_
                refine w_iconst dX8_lineHere_133 ?_
                refine w_callVV (o := 45) (ci := 8) (as := [(0, 1), (0, 1)]) (rest := []) (k := 0) fX8_lineHere_134 rfl rfl rfl rfl rfl rfl rfl rfl (Nat.le_of_ble_eq_true rfl) (s_X8_must_t X 1 1 μX (Or.inr hX.2.1) rfl) (fun μN hμN => ?_)
                have hFN := hμN
                refine w_aload_n dX8_lineHere_137 rfl rfl (by first | decide | omega) ?_
                refine w_getIx (o := 45) (f := 43) (x := 1) fX8_lineHere_138 rfl rfl (Nat.le_of_ble_eq_true rfl) rfl ((congrFun (hFN.at (by omega) (by omega)) _).trans hX.2.1) ?_
                refine w_if_ne (tgt := 148) dX8_lineHere_141 rfl (R32.in (by decide)) (fun c141 => ?_) (fun c141 => ?_)
                · skip
                  have hP9 : tkL b n (lnF b n σ a) μ μN := (by rw [hln, lEnd_b hX.1]; exact Or.inr ⟨hX.1, (((congrFun (hFN.at (by omega) (by omega)) _).trans hX.2.1).trans (by rfl)), ((congrFun (hFN.at (by omega) (by omega)) _).trans (by exact hX.2.2.1)), ((congrFun (hFN.at (by omega) (by omega)) _).trans (by exact hX.2.2.2))⟩)
                  exact w_retV dX8_lineHere_148 rfl ⟨((hFN.wd (by omega) (by omega)).tr ((hFX.wd (by omega) (by omega)).tr (hFM.wd (by omega) (by omega)))), (by exact hP9), (fun k h1 => ((congrFun (hFN.at (by omega) (by omega)) _).trans ((hf_X k (by omega)).trans (congrFun (hFM.at (by omega) (by omega)) _)))), (RTc.cg2 hR_X (fun o h1 => (hFN.at (by omega) (by omega))) (fun k h1 => (congrFun (hFN.at (by omega) (by omega)) _)))⟩
                · skip
                  exact absurd c141 (by decide)
              · refine Wp.topE (b := 0) (am_b_f hs133).symm ?_
                refine w_iconst dX8_lineHere_133 ?_
                refine w_callVV (o := 45) (ci := 8) (as := [(0, 0), (0, 1)]) (rest := []) (k := 0) fX8_lineHere_134 rfl rfl rfl rfl rfl rfl rfl rfl (Nat.le_of_ble_eq_true rfl) (s_X8_must_b X 0 1 μX hX.2.1) (fun μN hμN => ?_)
                have hFN := hμN
                refine w_aload_n dX8_lineHere_137 rfl rfl (by first | decide | omega) ?_
                refine w_getIx (o := 45) (f := 43) (x := 1) fX8_lineHere_138 rfl rfl (Nat.le_of_ble_eq_true rfl) rfl ((congrFun (hFN.at (by omega) (by omega)) _).trans hX.2.1) ?_
                refine w_if_ne (tgt := 148) dX8_lineHere_141 rfl (R32.in (by decide)) (fun c141 => ?_) (fun c141 => ?_)
                · skip
                  have hP9 : tkL b n (lnF b n σ a) μ μN := (by rw [hln, lEnd_b hX.1]; exact Or.inr ⟨hX.1, (((congrFun (hFN.at (by omega) (by omega)) _).trans hX.2.1).trans (by rfl)), ((congrFun (hFN.at (by omega) (by omega)) _).trans (by exact hX.2.2.1)), ((congrFun (hFN.at (by omega) (by omega)) _).trans (by exact hX.2.2.2))⟩)
                  exact w_retV dX8_lineHere_148 rfl ⟨((hFN.wd (by omega) (by omega)).tr ((hFX.wd (by omega) (by omega)).tr (hFM.wd (by omega) (by omega)))), (by exact hP9), (fun k h1 => ((congrFun (hFN.at (by omega) (by omega)) _).trans ((hf_X k (by omega)).trans (congrFun (hFM.at (by omega) (by omega)) _)))), (RTc.cg2 hR_X (fun o h1 => (hFN.at (by omega) (by omega))) (fun k h1 => (congrFun (hFN.at (by omega) (by omega)) _)))⟩
                · skip
                  exact absurd c141 (by decide)
        · skip
          have hw9 : wdC b (sk b n a) (we b n (sk b n a)) = 1 := wdC_1 (fun q9 => c35 (hs0.mp q9)) (hs1.mpr c49)
          have hln : lnF b n σ a = lEnd b n (ln0 b n σ 1 (sk b n a) (we b n (sk b n a))) := by unfold lnF; rw [hw9, lnW_ln0]
          refine w_aload_n dX8_lineHere_52 rfl rfl (by first | decide | omega) ?_
          refine w_callVV (o := 45) (ci := 8) (as := []) (rest := []) (k := 2) fX8_lineHere_53 rfl rfl rfl rfl rfl rfl rfl rfl (Nat.le_of_ble_eq_true rfl) (s_X8_splitHere X b n σ a (we b n (sk b n a)) μM (RTc.cg2 hR (fun o h1 => (hFM.at (by omega) (by omega))) (fun k h1 => (congrFun (hFM.at (by omega) (by omega)) _))) (RPS.cg2 hP (fun o h1 => (hFM.at (by omega) (by omega))) (fun k h1 => (congrFun (hFM.at (by omega) (by omega)) _))) hKM (by first | omega | assumption) heM hE2 hbM) (fun μX hμX => ?_)
          obtain ⟨hFX, hz_X, hf_X, hR_X, htr_X⟩ := hμX
          refine w_goto (tgt := 126) dX8_lineHere_56 rfl ?_
          rcases hz_X with hX | hX
          · skip
            have hskX := sk_r b n _ hX.2.2.2.2.1.2
            refine w_aload_n dX8_lineHere_126 rfl rfl (by first | decide | omega) ?_
            refine w_aload_n dX8_lineHere_127 rfl rfl (by first | decide | omega) ?_
            refine w_bipush dX8_lineHere_128 (by decide) ?_
            refine w_callVP (o := 45) (ci := 8) (as := [(0, 59)]) (rest := [(2, 45)]) (k := 0) fX8_lineHere_130 rfl rfl rfl rfl rfl rfl rfl rfl (Nat.le_of_ble_eq_true rfl) (s_X8_isMark X 59 μX (by first | omega | assumption) (by first | omega | assumption) (by first | omega | assumption)) ?_
            have hf40 := am_b_r (μX 45 39 = 3 ∧ μX 45 40 = 59)
            by_cases hs133 : (μX 45 39 = 3 ∧ μX 45 40 = 59)
            · refine Wp.topE (b := 1) (am_b_t hs133).symm ?_
              have hm59 := (hX.2.2.2.1.mk (c := 59) (Or.inl rfl)).mp hs133
              have hlt9 := see_lt hm59 (by omega)
              refine w_iconst dX8_lineHere_133 ?_
              refine w_callVV (o := 45) (ci := 8) (as := [(0, 1), (0, 1)]) (rest := []) (k := 0) fX8_lineHere_134 rfl rfl rfl rfl rfl rfl rfl rfl (Nat.le_of_ble_eq_true rfl) (s_X8_must_t X 1 1 μX (Or.inl hX.2.2.1) rfl) (fun μN hμN => ?_)
              have hFN := hμN
              refine w_aload_n dX8_lineHere_137 rfl rfl (by first | decide | omega) ?_
              refine w_getIx (o := 45) (f := 43) (x := 0) fX8_lineHere_138 rfl rfl (Nat.le_of_ble_eq_true rfl) rfl ((congrFun (hFN.at (by omega) (by omega)) _).trans hX.2.2.1) ?_
              refine w_if_ne (tgt := 148) dX8_lineHere_141 rfl (R32.in (by decide)) (fun c141 => ?_) (fun c141 => ?_)
              · skip
                exact absurd c141 (by decide)
              · skip
                have h37w : μN 45 37 = μX 45 37 := ((congrFun (hFN.at (by omega) (by omega)) _).trans (by rfl))
                have hatw : 0 ≤ μN 45 37 ∧ μN 45 37 ≤ n := by rw [h37w]; exact hX.2.2.2.1.at hX.2.2.2.2.1
                refine w_aload_n dX8_lineHere_144 rfl rfl (by first | decide | omega) ?_
                refine w_callVV (o := 45) (ci := 8) (as := []) (rest := []) (k := 1) fX8_lineHere_145 rfl rfl rfl rfl rfl rfl rfl rfl (Nat.le_of_ble_eq_true rfl) (s_X8_advance X b n μN (RTc.cg2 hR_X (fun o h1 => (hFN.at (by omega) (by omega))) (fun k h1 => (congrFun (hFN.at (by omega) (by omega)) _))) hatw) (fun μW hμW => ?_)
                obtain ⟨hFW, htk_W, hf_W, hR_W, hat_W⟩ := hμW
                rw [h37w, hX.2.2.2.1.mn hm59 (Or.inl rfl)] at htk_W
                have hP9 : tkL b n (lnF b n σ a) μ μW := (by rw [hln, lEnd_0 hX.1 hm59]; exact Or.inl ⟨rfl, RPS.cg2 hX.2.1 (fun o h1 => (hFW.at (by omega) (by omega)).trans (hFN.at (by omega) (by omega))) (fun k h1 => (hf_W k (by omega)).trans (congrFun (hFN.at (by omega) (by omega)) k)), (((hf_W _ (by omega)).trans ((congrFun (hFN.at (by omega) (by omega)) _).trans hX.2.2.1)).trans (by rfl)), htk_W, (by constructor <;> first | omega | (show _ + 1 ≤ n; omega) | (show 0 ≤ _ + 1; omega)), (((hf_W _ (by omega)).trans ((congrFun (hFN.at (by omega) (by omega)) _).trans (hX.2.2.2.2.2.1.trans h41M))).trans (by rfl)), (((hf_W _ (by omega)).trans ((congrFun (hFN.at (by omega) (by omega)) _).trans (hX.2.2.2.2.2.2.trans h42M))).trans (by rfl))⟩)
                exact w_retV dX8_lineHere_148 rfl ⟨((hFW.wd (by omega) (by omega)).tr ((hFN.wd (by omega) (by omega)).tr ((hFX.wd (by omega) (by omega)).tr (hFM.wd (by omega) (by omega))))), (by exact hP9), (fun k h1 => ((hf_W k (by omega)).trans ((congrFun (hFN.at (by omega) (by omega)) _).trans ((hf_X k (by omega)).trans (congrFun (hFM.at (by omega) (by omega)) _))))), hR_W⟩
            · refine Wp.topE (b := 0) (am_b_f hs133).symm ?_
              have hm59 := fun q9 => hs133 ((hX.2.2.2.1.mk (c := 59) (Or.inl rfl)).mpr q9)
              refine w_iconst dX8_lineHere_133 ?_
              refine w_callVV (o := 45) (ci := 8) (as := [(0, 0), (0, 1)]) (rest := []) (k := 0) fX8_lineHere_134 rfl rfl rfl rfl rfl rfl rfl rfl (Nat.le_of_ble_eq_true rfl) (s_X8_must_f X 0 1 μX hX.2.2.1 rfl) (fun μN hμN => ?_)
              obtain ⟨hFN, hb_N, h1_N, h2_N, hf_N⟩ := hμN
              refine w_aload_n dX8_lineHere_137 rfl rfl (by first | decide | omega) ?_
              refine w_getIx (o := 45) (f := 43) (x := 1) fX8_lineHere_138 rfl rfl (Nat.le_of_ble_eq_true rfl) rfl hb_N ?_
              refine w_if_ne (tgt := 148) dX8_lineHere_141 rfl (R32.in (by decide)) (fun c141 => ?_) (fun c141 => ?_)
              · skip
                have hP9 : tkL b n (lnF b n σ a) μ μN := (by rw [hln, lEnd_1 hX.1 hm59]; exact Or.inr ⟨(show ¬ (1 : Int) = 0 by decide), (hb_N.trans (by rfl)), (h1_N.trans (by rfl)), ((h2_N.trans rfl).trans (by exact hX.2.2.2.1.1))⟩)
                exact w_retV dX8_lineHere_148 rfl ⟨((hFN.wd (by omega) (by omega)).tr ((hFX.wd (by omega) (by omega)).tr (hFM.wd (by omega) (by omega)))), (by exact hP9), (fun k h1 => ((hf_N k (by omega)).trans ((hf_X k (by omega)).trans (congrFun (hFM.at (by omega) (by omega)) _)))), (RTc.cg2 hR_X (fun o h1 => (hFN.at (by omega) (by omega))) (fun k h1 => (hf_N _ (by omega))))⟩
              · skip
                exact absurd c141 (by decide)
          · skip
            refine w_aload_n dX8_lineHere_126 rfl rfl (by first | decide | omega) ?_
            refine w_aload_n dX8_lineHere_127 rfl rfl (by first | decide | omega) ?_
            refine w_bipush dX8_lineHere_128 (by decide) ?_
            refine w_callVP (o := 45) (ci := 8) (as := [(0, 59)]) (rest := [(2, 45)]) (k := 0) fX8_lineHere_130 rfl rfl rfl rfl rfl rfl rfl rfl (Nat.le_of_ble_eq_true rfl) (s_X8_isMark X 59 μX (by first | omega | assumption) (by first | omega | assumption) (by first | omega | assumption)) ?_
            have hf44 := am_b_r (μX 45 39 = 3 ∧ μX 45 40 = 59)
            by_cases hs133 : (μX 45 39 = 3 ∧ μX 45 40 = 59)
            · refine Wp.topE (b := 1) (am_b_t hs133).symm ?_
              refine w_iconst dX8_lineHere_133 ?_
              refine w_callVV (o := 45) (ci := 8) (as := [(0, 1), (0, 1)]) (rest := []) (k := 0) fX8_lineHere_134 rfl rfl rfl rfl rfl rfl rfl rfl (Nat.le_of_ble_eq_true rfl) (s_X8_must_t X 1 1 μX (Or.inr hX.2.1) rfl) (fun μN hμN => ?_)
              have hFN := hμN
              refine w_aload_n dX8_lineHere_137 rfl rfl (by first | decide | omega) ?_
              refine w_getIx (o := 45) (f := 43) (x := 1) fX8_lineHere_138 rfl rfl (Nat.le_of_ble_eq_true rfl) rfl ((congrFun (hFN.at (by omega) (by omega)) _).trans hX.2.1) ?_
              refine w_if_ne (tgt := 148) dX8_lineHere_141 rfl (R32.in (by decide)) (fun c141 => ?_) (fun c141 => ?_)
              · skip
                have hP9 : tkL b n (lnF b n σ a) μ μN := (by rw [hln, lEnd_b hX.1]; exact Or.inr ⟨hX.1, (((congrFun (hFN.at (by omega) (by omega)) _).trans hX.2.1).trans (by rfl)), ((congrFun (hFN.at (by omega) (by omega)) _).trans (by exact hX.2.2.1)), ((congrFun (hFN.at (by omega) (by omega)) _).trans (by exact hX.2.2.2))⟩)
                exact w_retV dX8_lineHere_148 rfl ⟨((hFN.wd (by omega) (by omega)).tr ((hFX.wd (by omega) (by omega)).tr (hFM.wd (by omega) (by omega)))), (by exact hP9), (fun k h1 => ((congrFun (hFN.at (by omega) (by omega)) _).trans ((hf_X k (by omega)).trans (congrFun (hFM.at (by omega) (by omega)) _)))), (RTc.cg2 hR_X (fun o h1 => (hFN.at (by omega) (by omega))) (fun k h1 => (congrFun (hFN.at (by omega) (by omega)) _)))⟩
              · skip
                exact absurd c141 (by decide)
            · refine Wp.topE (b := 0) (am_b_f hs133).symm ?_
              refine w_iconst dX8_lineHere_133 ?_
              refine w_callVV (o := 45) (ci := 8) (as := [(0, 0), (0, 1)]) (rest := []) (k := 0) fX8_lineHere_134 rfl rfl rfl rfl rfl rfl rfl rfl (Nat.le_of_ble_eq_true rfl) (s_X8_must_b X 0 1 μX hX.2.1) (fun μN hμN => ?_)
              have hFN := hμN
              refine w_aload_n dX8_lineHere_137 rfl rfl (by first | decide | omega) ?_
              refine w_getIx (o := 45) (f := 43) (x := 1) fX8_lineHere_138 rfl rfl (Nat.le_of_ble_eq_true rfl) rfl ((congrFun (hFN.at (by omega) (by omega)) _).trans hX.2.1) ?_
              refine w_if_ne (tgt := 148) dX8_lineHere_141 rfl (R32.in (by decide)) (fun c141 => ?_) (fun c141 => ?_)
              · skip
                have hP9 : tkL b n (lnF b n σ a) μ μN := (by rw [hln, lEnd_b hX.1]; exact Or.inr ⟨hX.1, (((congrFun (hFN.at (by omega) (by omega)) _).trans hX.2.1).trans (by rfl)), ((congrFun (hFN.at (by omega) (by omega)) _).trans (by exact hX.2.2.1)), ((congrFun (hFN.at (by omega) (by omega)) _).trans (by exact hX.2.2.2))⟩)
                exact w_retV dX8_lineHere_148 rfl ⟨((hFN.wd (by omega) (by omega)).tr ((hFX.wd (by omega) (by omega)).tr (hFM.wd (by omega) (by omega)))), (by exact hP9), (fun k h1 => ((congrFun (hFN.at (by omega) (by omega)) _).trans ((hf_X k (by omega)).trans (congrFun (hFM.at (by omega) (by omega)) _)))), (RTc.cg2 hR_X (fun o h1 => (hFN.at (by omega) (by omega))) (fun k h1 => (congrFun (hFN.at (by omega) (by omega)) _)))⟩
              · skip
                exact absurd c141 (by decide)
      · skip
        have hw9 : wdC b (sk b n a) (we b n (sk b n a)) = 0 := wdC_0 (hs0.mpr c35)
        have hln : lnF b n σ a = lEnd b n (ln0 b n σ 0 (sk b n a) (we b n (sk b n a))) := by unfold lnF; rw [hw9, lnW_ln0]
        refine w_aload_n dX8_lineHere_38 rfl rfl (by first | decide | omega) ?_
        refine w_callVV (o := 45) (ci := 8) (as := []) (rest := []) (k := 0) fX8_lineHere_39 rfl rfl rfl rfl rfl rfl rfl rfl (Nat.le_of_ble_eq_true rfl) (s_X8_metreHere X b n σ a (we b n (sk b n a)) μM (RTc.cg2 hR (fun o h1 => (hFM.at (by omega) (by omega))) (fun k h1 => (congrFun (hFM.at (by omega) (by omega)) _))) (RPS.cg2 hP (fun o h1 => (hFM.at (by omega) (by omega))) (fun k h1 => (congrFun (hFM.at (by omega) (by omega)) _))) hKM (by first | omega | assumption) heM hE2 hbM) (fun μX hμX => ?_)
        obtain ⟨hFX, hz_X, hf_X, hR_X, htr_X⟩ := hμX
        refine w_goto (tgt := 126) dX8_lineHere_42 rfl ?_
        rcases hz_X with hX | hX
        · skip
          have hskX := sk_r b n _ hX.2.2.2.2.1.2
          refine w_aload_n dX8_lineHere_126 rfl rfl (by first | decide | omega) ?_
          refine w_aload_n dX8_lineHere_127 rfl rfl (by first | decide | omega) ?_
          refine w_bipush dX8_lineHere_128 (by decide) ?_
          refine w_callVP (o := 45) (ci := 8) (as := [(0, 59)]) (rest := [(2, 45)]) (k := 0) fX8_lineHere_130 rfl rfl rfl rfl rfl rfl rfl rfl (Nat.le_of_ble_eq_true rfl) (s_X8_isMark X 59 μX (by first | omega | assumption) (by first | omega | assumption) (by first | omega | assumption)) ?_
          have hf48 := am_b_r (μX 45 39 = 3 ∧ μX 45 40 = 59)
          by_cases hs133 : (μX 45 39 = 3 ∧ μX 45 40 = 59)
          · refine Wp.topE (b := 1) (am_b_t hs133).symm ?_
            have hm59 := (hX.2.2.2.1.mk (c := 59) (Or.inl rfl)).mp hs133
            have hlt9 := see_lt hm59 (by omega)
            refine w_iconst dX8_lineHere_133 ?_
            refine w_callVV (o := 45) (ci := 8) (as := [(0, 1), (0, 1)]) (rest := []) (k := 0) fX8_lineHere_134 rfl rfl rfl rfl rfl rfl rfl rfl (Nat.le_of_ble_eq_true rfl) (s_X8_must_t X 1 1 μX (Or.inl hX.2.2.1) rfl) (fun μN hμN => ?_)
            have hFN := hμN
            refine w_aload_n dX8_lineHere_137 rfl rfl (by first | decide | omega) ?_
            refine w_getIx (o := 45) (f := 43) (x := 0) fX8_lineHere_138 rfl rfl (Nat.le_of_ble_eq_true rfl) rfl ((congrFun (hFN.at (by omega) (by omega)) _).trans hX.2.2.1) ?_
            refine w_if_ne (tgt := 148) dX8_lineHere_141 rfl (R32.in (by decide)) (fun c141 => ?_) (fun c141 => ?_)
            · skip
              exact absurd c141 (by decide)
            · skip
              have h37w : μN 45 37 = μX 45 37 := ((congrFun (hFN.at (by omega) (by omega)) _).trans (by rfl))
              have hatw : 0 ≤ μN 45 37 ∧ μN 45 37 ≤ n := by rw [h37w]; exact hX.2.2.2.1.at hX.2.2.2.2.1
              refine w_aload_n dX8_lineHere_144 rfl rfl (by first | decide | omega) ?_
              refine w_callVV (o := 45) (ci := 8) (as := []) (rest := []) (k := 1) fX8_lineHere_145 rfl rfl rfl rfl rfl rfl rfl rfl (Nat.le_of_ble_eq_true rfl) (s_X8_advance X b n μN (RTc.cg2 hR_X (fun o h1 => (hFN.at (by omega) (by omega))) (fun k h1 => (congrFun (hFN.at (by omega) (by omega)) _))) hatw) (fun μW hμW => ?_)
              obtain ⟨hFW, htk_W, hf_W, hR_W, hat_W⟩ := hμW
              rw [h37w, hX.2.2.2.1.mn hm59 (Or.inl rfl)] at htk_W
              have hP9 : tkL b n (lnF b n σ a) μ μW := (by rw [hln, lEnd_0 hX.1 hm59]; exact Or.inl ⟨rfl, RPS.cg2 hX.2.1 (fun o h1 => (hFW.at (by omega) (by omega)).trans (hFN.at (by omega) (by omega))) (fun k h1 => (hf_W k (by omega)).trans (congrFun (hFN.at (by omega) (by omega)) k)), (((hf_W _ (by omega)).trans ((congrFun (hFN.at (by omega) (by omega)) _).trans hX.2.2.1)).trans (by rfl)), htk_W, (by constructor <;> first | omega | (show _ + 1 ≤ n; omega) | (show 0 ≤ _ + 1; omega)), (((hf_W _ (by omega)).trans ((congrFun (hFN.at (by omega) (by omega)) _).trans (hX.2.2.2.2.2.1.trans h41M))).trans (by rfl)), (((hf_W _ (by omega)).trans ((congrFun (hFN.at (by omega) (by omega)) _).trans (hX.2.2.2.2.2.2.trans h42M))).trans (by rfl))⟩)
              exact w_retV dX8_lineHere_148 rfl ⟨((hFW.wd (by omega) (by omega)).tr ((hFN.wd (by omega) (by omega)).tr ((hFX.wd (by omega) (by omega)).tr (hFM.wd (by omega) (by omega))))), (by exact hP9), (fun k h1 => ((hf_W k (by omega)).trans ((congrFun (hFN.at (by omega) (by omega)) _).trans ((hf_X k (by omega)).trans (congrFun (hFM.at (by omega) (by omega)) _))))), hR_W⟩
          · refine Wp.topE (b := 0) (am_b_f hs133).symm ?_
            have hm59 := fun q9 => hs133 ((hX.2.2.2.1.mk (c := 59) (Or.inl rfl)).mpr q9)
            refine w_iconst dX8_lineHere_133 ?_
            refine w_callVV (o := 45) (ci := 8) (as := [(0, 0), (0, 1)]) (rest := []) (k := 0) fX8_lineHere_134 rfl rfl rfl rfl rfl rfl rfl rfl (Nat.le_of_ble_eq_true rfl) (s_X8_must_f X 0 1 μX hX.2.2.1 rfl) (fun μN hμN => ?_)
            obtain ⟨hFN, hb_N, h1_N, h2_N, hf_N⟩ := hμN
            refine w_aload_n dX8_lineHere_137 rfl rfl (by first | decide | omega) ?_
            refine w_getIx (o := 45) (f := 43) (x := 1) fX8_lineHere_138 rfl rfl (Nat.le_of_ble_eq_true rfl) rfl hb_N ?_
            refine w_if_ne (tgt := 148) dX8_lineHere_141 rfl (R32.in (by decide)) (fun c141 => ?_) (fun c141 => ?_)
            · skip
              have hP9 : tkL b n (lnF b n σ a) μ μN := (by rw [hln, lEnd_1 hX.1 hm59]; exact Or.inr ⟨(show ¬ (1 : Int) = 0 by decide), (hb_N.trans (by rfl)), (h1_N.trans (by rfl)), ((h2_N.trans rfl).trans (by exact hX.2.2.2.1.1))⟩)
              exact w_retV dX8_lineHere_148 rfl ⟨((hFN.wd (by omega) (by omega)).tr ((hFX.wd (by omega) (by omega)).tr (hFM.wd (by omega) (by omega)))), (by exact hP9), (fun k h1 => ((hf_N k (by omega)).trans ((hf_X k (by omega)).trans (congrFun (hFM.at (by omega) (by omega)) _)))), (RTc.cg2 hR_X (fun o h1 => (hFN.at (by omega) (by omega))) (fun k h1 => (hf_N _ (by omega))))⟩
            · skip
              exact absurd c141 (by decide)
        · skip
          refine w_aload_n dX8_lineHere_126 rfl rfl (by first | decide | omega) ?_
          refine w_aload_n dX8_lineHere_127 rfl rfl (by first | decide | omega) ?_
          refine w_bipush dX8_lineHere_128 (by decide) ?_
          refine w_callVP (o := 45) (ci := 8) (as := [(0, 59)]) (rest := [(2, 45)]) (k := 0) fX8_lineHere_130 rfl rfl rfl rfl rfl rfl rfl rfl (Nat.le_of_ble_eq_true rfl) (s_X8_isMark X 59 μX (by first | omega | assumption) (by first | omega | assumption) (by first | omega | assumption)) ?_
          have hf52 := am_b_r (μX 45 39 = 3 ∧ μX 45 40 = 59)
          by_cases hs133 : (μX 45 39 = 3 ∧ μX 45 40 = 59)
          · refine Wp.topE (b := 1) (am_b_t hs133).symm ?_
            refine w_iconst dX8_lineHere_133 ?_
            refine w_callVV (o := 45) (ci := 8) (as := [(0, 1), (0, 1)]) (rest := []) (k := 0) fX8_lineHere_134 rfl rfl rfl rfl rfl rfl rfl rfl (Nat.le_of_ble_eq_true rfl) (s_X8_must_t X 1 1 μX (Or.inr hX.2.1) rfl) (fun μN hμN => ?_)
            have hFN := hμN
            refine w_aload_n dX8_lineHere_137 rfl rfl (by first | decide | omega) ?_
            refine w_getIx (o := 45) (f := 43) (x := 1) fX8_lineHere_138 rfl rfl (Nat.le_of_ble_eq_true rfl) rfl ((congrFun (hFN.at (by omega) (by omega)) _).trans hX.2.1) ?_
            refine w_if_ne (tgt := 148) dX8_lineHere_141 rfl (R32.in (by decide)) (fun c141 => ?_) (fun c141 => ?_)
            · skip
              have hP9 : tkL b n (lnF b n σ a) μ μN := (by rw [hln, lEnd_b hX.1]; exact Or.inr ⟨hX.1, (((congrFun (hFN.at (by omega) (by omega)) _).trans hX.2.1).trans (by rfl)), ((congrFun (hFN.at (by omega) (by omega)) _).trans (by exact hX.2.2.1)), ((congrFun (hFN.at (by omega) (by omega)) _).trans (by exact hX.2.2.2))⟩)
              exact w_retV dX8_lineHere_148 rfl ⟨((hFN.wd (by omega) (by omega)).tr ((hFX.wd (by omega) (by omega)).tr (hFM.wd (by omega) (by omega)))), (by exact hP9), (fun k h1 => ((congrFun (hFN.at (by omega) (by omega)) _).trans ((hf_X k (by omega)).trans (congrFun (hFM.at (by omega) (by omega)) _)))), (RTc.cg2 hR_X (fun o h1 => (hFN.at (by omega) (by omega))) (fun k h1 => (congrFun (hFN.at (by omega) (by omega)) _)))⟩
            · skip
              exact absurd c141 (by decide)
          · refine Wp.topE (b := 0) (am_b_f hs133).symm ?_
            refine w_iconst dX8_lineHere_133 ?_
            refine w_callVV (o := 45) (ci := 8) (as := [(0, 0), (0, 1)]) (rest := []) (k := 0) fX8_lineHere_134 rfl rfl rfl rfl rfl rfl rfl rfl (Nat.le_of_ble_eq_true rfl) (s_X8_must_b X 0 1 μX hX.2.1) (fun μN hμN => ?_)
            have hFN := hμN
            refine w_aload_n dX8_lineHere_137 rfl rfl (by first | decide | omega) ?_
            refine w_getIx (o := 45) (f := 43) (x := 1) fX8_lineHere_138 rfl rfl (Nat.le_of_ble_eq_true rfl) rfl ((congrFun (hFN.at (by omega) (by omega)) _).trans hX.2.1) ?_
            refine w_if_ne (tgt := 148) dX8_lineHere_141 rfl (R32.in (by decide)) (fun c141 => ?_) (fun c141 => ?_)
            · skip
              have hP9 : tkL b n (lnF b n σ a) μ μN := (by rw [hln, lEnd_b hX.1]; exact Or.inr ⟨hX.1, (((congrFun (hFN.at (by omega) (by omega)) _).trans hX.2.1).trans (by rfl)), ((congrFun (hFN.at (by omega) (by omega)) _).trans (by exact hX.2.2.1)), ((congrFun (hFN.at (by omega) (by omega)) _).trans (by exact hX.2.2.2))⟩)
              exact w_retV dX8_lineHere_148 rfl ⟨((hFN.wd (by omega) (by omega)).tr ((hFX.wd (by omega) (by omega)).tr (hFM.wd (by omega) (by omega)))), (by exact hP9), (fun k h1 => ((congrFun (hFN.at (by omega) (by omega)) _).trans ((hf_X k (by omega)).trans (congrFun (hFM.at (by omega) (by omega)) _)))), (RTc.cg2 hR_X (fun o h1 => (hFN.at (by omega) (by omega))) (fun k h1 => (congrFun (hFN.at (by omega) (by omega)) _)))⟩
            · skip
              exact absurd c141 (by decide)
    · skip
      exact absurd c22 (by decide)
