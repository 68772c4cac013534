set_option maxRecDepth 100000 in
set_option maxHeartbeats 4000000 in
theorem s_X3_readSplit (X : AX) (b : Int → Int) (n : Int) (q : Int) (σ : Mu) (μ : Mu) (hR : RDc b n q μ) (hat : 0 ≤ μ 42 4 ∧ μ 42 4 ≤ n) (hC : CPS σ q μ) : Wp (GG X) M_X3_readSplit 0 [(2, 42), (9, 0), (9, 0), (9, 0)] [] μ (qI 0 fun z μ' => (Fr 42 42 q (q + 1) μ' μ) ∧ (rdL (lSpl b n σ (μ 42 4)) q z μ') ∧ (z = 1 → (0 ≤ μ' 42 4 ∧ μ' 42 4 ≤ n)) ∧ (z = 0 ∨ z = 1) ∧ (z = 1 → μ' 42 0 = μ 42 0 ∧ μ' 42 1 = μ 42 1) ∧ (∀ k : Int, (¬ k = 0 ∧ ¬ k = 1 ∧ ¬ k = 4 ∧ ¬ k = 5 ∧ ¬ k = 6) → μ' 42 k = μ 42 k) ∧ (RDc b n q μ')) := by
  have hn := hR.n
  have hq := hR.at
  have hbb := hR.bb
  have hok := hC.ok
  have hbt := hok.1.2.2.1
  refine w_iconst dX3_readSplit_0 ?_
  refine w_istore_n (ls' := [(2, 42), (0, 0), (9, 0), (9, 0)]) dX3_readSplit_1 rfl (Nat.le_of_ble_eq_true rfl) rfl rfl ?_
  refine w_iconst dX3_readSplit_2 ?_
  refine w_istore_n (ls' := [(2, 42), (0, 0), (0, 0), (9, 0)]) dX3_readSplit_3 rfl (Nat.le_of_ble_eq_true rfl) rfl rfl ?_
  refine w_iconst dX3_readSplit_4 ?_
  refine w_istore_n (ls' := [(2, 42), (0, 0), (0, 0), (0, 0)]) dX3_readSplit_5 rfl (Nat.le_of_ble_eq_true rfl) rfl rfl ?_
  have hL6 : ∀ (n6 : Nat) (σ1 : Mu) (k : Int) (tg : Int) (t : Int) (μ1 : Mu), (7 - k).toNat = n6 → Fr 42 42 q (q + 1) μ1 μ → (0 ≤ k ∧ k ≤ 6) → (k ≤ tg ∧ tg ≤ σ 0 2) → (0 ≤ t ∧ t ≤ n) → (μ1 42 4 = t) → (k = 0 ∨ sk b n t = t) → (∀ o : Int, ¬ o = 6 → σ1 o = σ o) → (∀ j : Int, 0 ≤ j → j < k → 1 ≤ σ1 6 j ∧ σ1 6 j ≤ 12) → (∀ j : Int, 0 ≤ j → j < k → μ1 (q + 1) j = σ1 6 j) → (spL b n (8 - k).toNat σ1 k tg t = spL b n 8 σ 0 0 (μ 42 4)) → (RDc b n q μ1) → (∀ k9 : Int, (¬ k9 = 0 ∧ ¬ k9 = 1 ∧ ¬ k9 = 4 ∧ ¬ k9 = 5 ∧ ¬ k9 = 6) → μ1 42 k9 = μ 42 k9) → (μ1 42 0 = μ 42 0 ∧ μ1 42 1 = μ 42 1) → (∀ k9 : Int, (0 : Int) = 0 → μ1 q k9 = μ q k9) → Wp (GG X) M_X3_readSplit 6 [(2, 42), (0, k), (0, tg), (0, k)] [] μ1 (qI 0 fun z μ' => (Fr 42 42 q (q + 1) μ' μ) ∧ (rdL (lSpl b n σ (μ 42 4)) q z μ') ∧ (z = 1 → (0 ≤ μ' 42 4 ∧ μ' 42 4 ≤ n)) ∧ (z = 0 ∨ z = 1) ∧ (z = 1 → μ' 42 0 = μ 42 0 ∧ μ' 42 1 = μ 42 1) ∧ (∀ k : Int, (¬ k = 0 ∧ ¬ k = 1 ∧ ¬ k = 4 ∧ ¬ k = 5 ∧ ¬ k = 6) → μ' 42 k = μ 42 k) ∧ (RDc b n q μ')) := by
    intro n6
    induction n6 using Nat.strongRecOn with
    | ind n6 ih6 =>
      intro σ1 k tg t μ1 hn6 hF6 hk0 htg ht h41 hst hσ1 hp hrow hsp hR1 hfA h0A hfq
      refine w_iload_n dX3_readSplit_6 rfl rfl ?_
      refine w_if_eq (tgt := 23) dX3_readSplit_7 rfl (R32.in (by omega)) (fun c7 => ?_) (fun c7 => ?_)
      · skip
        have hat1 : 0 ≤ μ1 42 4 ∧ μ1 42 4 ≤ n := by rw [h41]; exact ht
        have hcond : k = 0 ∨ (k ≤ 6 ∧ dgA b n t) := by first | exact Or.inl c7 | exact Or.inr ⟨by omega, by unfold dgA; rw [hst.resolve_left c7]; exact c20⟩
        have h8 : (8 - k).toNat = (7 - k).toNat + 1 := by omega
        rw [h8] at hsp
        refine w_aload_n dX3_readSplit_23 rfl rfl (by first | decide | omega) ?_
        refine w_iconst dX3_readSplit_24 ?_
        refine w_iload_n dX3_readSplit_25 rfl rfl ?_
        refine w_bipush dX3_readSplit_26 (by decide) ?_
        have hJ28_1 : ∀ z1_0 : Int, z1_0 = (if 6 ≤ k then 0 else (σ 0 2) - tg) → Wp (GG X) M_X3_readSplit 44 [(2, 42), (0, k), (0, tg), (0, k)] [(0, z1_0), (0, 1), (2, 42)] μ1 (qI 0 fun z μ' => (Fr 42 42 q (q + 1) μ' μ) ∧ (rdL (lSpl b n σ (μ 42 4)) q z μ') ∧ (z = 1 → (0 ≤ μ' 42 4 ∧ μ' 42 4 ≤ n)) ∧ (z = 0 ∨ z = 1) ∧ (z = 1 → μ' 42 0 = μ 42 0 ∧ μ' 42 1 = μ 42 1) ∧ (∀ k : Int, (¬ k = 0 ∧ ¬ k = 1 ∧ ¬ k = 4 ∧ ¬ k = 5 ∧ ¬ k = 6) → μ' 42 k = μ 42 k) ∧ (RDc b n q μ')) := by
          intro z1_0 hz1_0
          have hsw : nW b n 1 z1_0 t = (spW b n σ1 k tg t) := by unfold spW; rw [hσ1 0 (by omega)]; congr 1; omega
          refine w_callVI (o := 42) (ci := 3) (as := [(0, 1), (0, z1_0)]) (rest := []) (k := 0) fX3_readSplit_44 rfl rfl rfl rfl rfl rfl rfl rfl (Nat.le_of_ble_eq_true rfl) (s_X3_takeNumberWithin X b n q 1 z1_0 μ1 hR1 hat1 (by omega)) (fun xW μW hμW => ?_)
          obtain ⟨hFW, hz_W, h6_W, ha_W, hz01_W, h01_W, hf_W, hR_W⟩ := hμW
          rw [h41, hsw] at hz_W
          refine w_if_ne (tgt := 52) dX3_readSplit_47 rfl (R32.in (by omega)) (fun c47 => ?_) (fun c47 => ?_)
          · skip
            have hW := hz_W.resolve_right (fun q9 => by omega)
            have hw9 := nW_z (by rw [hsw]; exact hW.2.1)
            rw [hsw] at hw9
            have hv9 : (spW b n σ1 k tg t).2.2.1 = nval b n t := by rw [hw9.2.2]
            have ht1 : 0 ≤ (spW b n σ1 k tg t).2.2.2 ∧ (spW b n σ1 k tg t).2.2.2 ≤ n := by rw [← hW.2.2.2]; exact ha_W hW.1
            have hskr := sk_r b n (spW b n σ1 k tg t).2.2.2 ht1.2
            refine w_aload_n dX3_readSplit_52 rfl rfl (by first | decide | omega) ?_
            refine w_getDx (o := 42) (f := 7) (x := q) fX3_readSplit_53 rfl rfl rfl rfl hR_W.pq ?_
            refine w_getR (o := (q).toNat) (x := q + 1) fX3_readSplit_56 (by omega) (pSh0 rfl rfl (by assumption)) rfl (pRf 5 1 rfl rfl (by assumption)) ?_
            refine w_iload_n dX3_readSplit_59 rfl rfl ?_
            refine w_aload_n dX3_readSplit_60 rfl rfl (by first | decide | omega) ?_
            refine w_getIx (o := 42) (f := 5) (x := (spW b n σ1 k tg t).2.2.1) fX3_readSplit_61 rfl rfl (Nat.le_of_ble_eq_true rfl) rfl hW.2.2.1 ?_
            refine w_iast (o := (q + 1).toNat) (n := 12) dX3_readSplit_64 (by omega) (pSh 1 rfl rfl (by assumption)) (Nat.le_of_ble_eq_true rfl) (by omega) (by omega) ?_
            refine w_iload_n dX3_readSplit_65 rfl rfl ?_
            refine w_aload_n dX3_readSplit_66 rfl rfl (by first | decide | omega) ?_
            refine w_getIx (o := 42) (f := 5) (x := (spW b n σ1 k tg t).2.2.1) fX3_readSplit_67 rfl rfl (Nat.le_of_ble_eq_true rfl) rfl ((congrFun (am_up_o (by first | decide | omega)) _).trans hW.2.2.1) ?_
            refine w_iadd dX3_readSplit_70 ?_
            refine w_istore_n (ls' := [(2, 42), (0, k), (0, tg + ((spW b n σ1 k tg t).2.2.1)), (0, k)]) dX3_readSplit_71 rfl (Nat.le_of_ble_eq_true rfl) rfl rfl ?_
            refine w_iinc (ls' := [(2, 42), (0, k + 1), (0, tg + ((spW b n σ1 k tg t).2.2.1)), (0, k)]) dX3_readSplit_72 rfl (Nat.le_of_ble_eq_true rfl) rfl rfl ?_
            refine w_aload_n dX3_readSplit_75 rfl rfl (by first | decide | omega) ?_
            have hat9 : 0 ≤ (am_up μW (q + 1) k ((spW b n σ1 k tg t).2.2.1)) 42 4 ∧ (am_up μW (q + 1) k ((spW b n σ1 k tg t).2.2.1)) 42 4 ≤ n := by rw [am_up_o (by omega), hW.2.2.2]; exact ht1
            refine w_callVV (o := 42) (ci := 3) (as := []) (rest := []) (k := 0) fX3_readSplit_76 rfl rfl rfl rfl rfl rfl rfl rfl (Nat.le_of_ble_eq_true rfl) (s_X3_skipBlanks X b n q (am_up μW (q + 1) k ((spW b n σ1 k tg t).2.2.1)) (RDc.cg2 hR_W (fun o h1 => (am_up_o (by omega))) (fun k h1 => (congrFun (am_up_o (by omega)) _))) hat9) (fun μS hμS => ?_)
            obtain ⟨hFS, h4_S, hf_S, hR_S⟩ := hμS
            have hf3 := sk_r b n ((am_up μW (q + 1) k ((spW b n σ1 k tg t).2.2.1)) 42 4) (by omega)
            rw [am_up_o (by omega), hW.2.2.2] at h4_S
            refine w_iinc (ls' := [(2, 42), (0, k + 1), (0, tg + ((spW b n σ1 k tg t).2.2.1)), (0, k + 1)]) dX3_readSplit_79 rfl (Nat.le_of_ble_eq_true rfl) rfl rfl ?_
            refine w_goto (tgt := 6) dX3_readSplit_82 rfl ?_
            exact ih6 _ (by omega) (am_up σ1 6 k (spW b n σ1 k tg t).2.2.1) (k + 1) (tg + ((spW b n σ1 k tg t).2.2.1)) (sk b n (spW b n σ1 k tg t).2.2.2) μS rfl ((hFS.wd (by omega) (by omega)).tr (((hFW.wd (by omega) (by omega)).tr hF6).up (by omega))) (by omega) (by omega) (by omega) (h4_S.trans (by rfl)) (Or.inr (sk_sk b n (spW b n σ1 k tg t).2.2.2)) (fun o h1 => (am_up_o h1).trans (hσ1 o h1)) (fun j h1 h2 => by rw [up_if]; by_cases e : j = k; (rw [if_pos e]; omega); (rw [if_neg e]; exact hp j h1 (by omega))) (fun j h1 h2 => by rw [hFS.at (by omega) (by omega), up_if, up_if]; by_cases e : j = k; (rw [if_pos e, if_pos e]); (rw [if_neg e, if_neg e, hFW.at (by omega) (by omega)]; exact hrow j h1 (by omega))) (by rw [show 8 - (k + 1) = 7 - k by omega]; exact (spL_go hcond hW.2.1).symm.trans hsp) hR_S (fun k h1 => ((hf_S k (by omega)).trans ((congrFun (am_up_o (by omega)) _).trans ((hf_W k (by omega)).trans (hfA k (by omega)))))) ⟨(hf_S 0 (by omega)).trans ((congrFun (am_up_o (by omega)) 0).trans ((h01_W hW.1).1.trans h0A.1)), (hf_S 1 (by omega)).trans ((congrFun (am_up_o (by omega)) 1).trans ((h01_W hW.1).2.trans h0A.2))⟩ (fun k h1 => ((congrFun (hFS.at (by omega) (by omega)) _).trans ((congrFun (am_up_o (by omega)) _).trans ((congrFun (hFW.at (by omega) (by omega)) _).trans (hfq k (by omega))))))
          · skip
            have hW := hz_W.resolve_left (fun q9 => by omega)
            have hspb := hsp.symm.trans (spL_bad hcond hW.2.1)
            refine w_iconst dX3_readSplit_50 ?_
            exact w_zretI dX3_readSplit_51 rfl (Or.inl rfl) ⟨((hFW.wd (by omega) (by omega)).tr hF6), (by exact rdL_no (by unfold lSpl; rw [hspb]; exact if_pos hW.2.1) hW.2.1 rfl hW.2.2.1 hW.2.2.2), (by first | (intro q9; omega) | (intro q9; rw [h4e]; omega)), (by omega), (by intro q9; omega), (fun k h1 => ((hf_W k (by omega)).trans (hfA k (by omega)))), hR_W⟩
        refine w_icmp_ge (tgt := 43) dX3_readSplit_28 rfl (R32.in (by omega)) (R32.in (by decide)) (fun c28 => ?_) (fun c28 => ?_)
        · skip
          refine w_iconst dX3_readSplit_43 ?_
          exact hJ28_1 _ (by first | omega | simp [*])
        · skip
          refine w_aload_n dX3_readSplit_31 rfl rfl (by first | decide | omega) ?_
          refine w_getDx (o := 42) (f := 7) (x := q) fX3_readSplit_32 rfl rfl rfl rfl hR1.pq ?_
          refine w_getIx (o := (q).toNat) (f := 1) (x := σ 0 2) fX3_readSplit_35 (by omega) (pSh0 rfl rfl (by assumption)) (Nat.le_of_ble_eq_true rfl) rfl ((hfq _ (by omega)).trans hC.f1) ?_
          refine w_iload_n dX3_readSplit_38 rfl rfl ?_
          refine w_isub dX3_readSplit_39 ?_
          refine w_goto (tgt := 44) dX3_readSplit_40 rfl ?_
          exact hJ28_1 _ (by first | omega | simp [*])
      · skip
        refine w_iload_n dX3_readSplit_10 rfl rfl ?_
        refine w_bipush dX3_readSplit_11 (by decide) ?_
        refine w_icmp_gt (tgt := 85) dX3_readSplit_13 rfl (R32.in (by omega)) (R32.in (by decide)) (fun c13 => ?_) (fun c13 => ?_)
        · skip
          omega
        · skip
          have hat1 : 0 ≤ μ1 42 4 ∧ μ1 42 4 ≤ n := by rw [h41]; exact ht
          refine w_aload_n dX3_readSplit_16 rfl rfl (by first | decide | omega) ?_
          refine w_callVP (o := 42) (ci := 3) (as := []) (rest := []) (k := 0) fX3_readSplit_17 rfl rfl rfl rfl rfl rfl rfl rfl (Nat.le_of_ble_eq_true rfl) (s_X3_isDigitHere X b n q μ1 hR1 hat1) ?_
          have hf4 := am_b_r (48 ≤ see b n (μ1 42 4) ∧ see b n (μ1 42 4) ≤ 57)
          refine Wp.topE (b := am_b (48 ≤ see b n t ∧ see b n t ≤ 57)) (by rw [h41]) ?_
          refine w_if_eq (tgt := 85) dX3_readSplit_20 rfl (R32.in (by have := am_b_r ((48 ≤ see b n t ∧ see b n t ≤ 57)); omega)) (fun c20 => ?_) (fun c20 => ?_)
          · skip
            replace c20 := am_b0 c20
            have hspe := hsp.symm.trans (spL_end (show ¬ (k = 0 ∨ (k ≤ 6 ∧ dgA b n t)) from fun q9 => by rcases q9 with q9 | q9; exact c7 q9; (have q8 := q9.2; unfold dgA at q8; rw [hst.resolve_left c7] at q8; exact c20 q8)))
            have hskt := hst.resolve_left c7
            refine w_aload_n dX3_readSplit_85 rfl rfl (by first | decide | omega) ?_
            refine w_getDx (o := 42) (f := 7) (x := q) fX3_readSplit_86 rfl rfl rfl rfl hR1.pq ?_
            refine w_iload_n dX3_readSplit_89 rfl rfl ?_
            refine w_putI (o := (q).toNat) (f := 4) fX3_readSplit_90 (by omega) (pSh0 rfl rfl (by assumption)) rfl rfl rfl ?_
            have hF_μ8 : Fr 42 42 q (q + 1) (am_up μ1 q 4 k) μ := (hF6.up (by omega))
            have hcp : CPS (am_up σ1 0 5 k) q (am_up μ1 q 4 k) := (CPS_sp hC (by omega) hσ1 hp (fun o h1 => (am_up_o (by omega)).trans (hF6.at (by omega) (by omega))) (fun j h1 => (am_up_nk h1).trans (hfq j rfl)) am_up_at (fun j h1 h2 => (congrFun (am_up_o (by omega)) j).trans (hrow j h1 h2)))
            have h4e : (am_up μ1 q 4 k) 42 4 = t := (((congrFun (am_up_o (by first | decide | omega)) _).trans h41).trans (by rfl))
            have hq1 : (am_up μ1 q 4 k) q 1 = σ 0 2 := (((am_up_nk (by omega)).trans ((hfq _ (by omega)).trans hC.f1)).trans (by rfl))
            have hR8 : RDc b n q (am_up μ1 q 4 k) := (RDc.cg2 hR1 (fun o h1 => (am_up_o (by omega))) (fun k h1 => (congrFun (am_up_o (by omega)) _)))
            have hff8 : ∀ k9 : Int, (¬ k9 = 0 ∧ ¬ k9 = 1 ∧ ¬ k9 = 4 ∧ ¬ k9 = 5 ∧ ¬ k9 = 6) → (am_up μ1 q 4 k) 42 k9 = μ 42 k9 := (fun k h1 => ((congrFun (am_up_o (by omega)) _).trans (hfA k (by omega))))
            have h08 : (am_up μ1 q 4 k) 42 0 = μ 42 0 ∧ (am_up μ1 q 4 k) 42 1 = μ 42 1 := ⟨(congrFun (am_up_o (by omega)) 0).trans h0A.1, (congrFun (am_up_o (by omega)) 1).trans h0A.2⟩
            refine Wp.mu (fun μ8 hμ8 => ?_)
            rw [← hμ8] at hF_μ8 hcp h4e hq1 hR8 hff8 h08
            clear hμ8
            have e02 : am_up σ1 0 5 k 0 2 = σ 0 2 := by rw [am_up_nk (by omega), hσ1 0 (by omega)]
            have hse9 := see_f b n t hbb ht.1
            refine w_iload_n dX3_readSplit_93 rfl rfl ?_
            refine w_aload_n dX3_readSplit_94 rfl rfl (by first | decide | omega) ?_
            refine w_getDx (o := 42) (f := 7) (x := q) fX3_readSplit_95 rfl rfl rfl rfl hR8.pq ?_
            refine w_getIx (o := (q).toNat) (f := 1) (x := (am_up σ1 0 5 k) 0 2) fX3_readSplit_98 (by omega) (pSh0 rfl rfl (by assumption)) (Nat.le_of_ble_eq_true rfl) rfl hcp.f1 ?_
            refine w_icmp_ge (tgt := 125) dX3_readSplit_101 rfl (R32.in (by omega)) (R32.in (by omega)) (fun c101 => ?_) (fun c101 => ?_)
            · skip
              refine w_iconst dX3_readSplit_125 ?_
              refine w_goto (tgt := 130) dX3_readSplit_126 rfl ?_
              exact w_zretI dX3_readSplit_130 rfl (Or.inr rfl) ⟨hF_μ8, (by first | exact rdL_ok (by unfold lSpl; rw [hspe]; exact (if_neg (fun q9 => q9 rfl)).trans (if_neg (show ¬ (tg < σ 0 2 ∧ see b n (sk b n t) = 59) from by rw [hskt]; omega))) rfl hcp h4e | exact rdL_no (by unfold lSpl; rw [hspe]; exact (if_neg (fun q9 => q9 rfl)).trans (if_pos (show (tg < σ 0 2 ∧ see b n (sk b n t) = 59) from by rw [hskt]; omega))) (by omega) rfl h0_F (h1_F.trans hskt.symm)), (by first | (intro q9; omega) | (intro q9; rw [h4e]; omega)), (by omega), (by first | (intro q9; omega) | exact fun _ => h08), (fun k h1 => (hff8 k (by omega))), hR8⟩
            · skip
              refine w_aload_n dX3_readSplit_104 rfl rfl (by first | decide | omega) ?_
              refine w_callVP (o := 42) (ci := 3) (as := []) (rest := []) (k := 0) fX3_readSplit_105 rfl rfl rfl rfl rfl rfl rfl rfl (Nat.le_of_ble_eq_true rfl) (s_X3_here X b n q μ8 hR8 (by rw [h4e]; omega)) ?_
              have hf5 := see_f b n (μ8 42 4) (by assumption) (by omega)
              refine Wp.topE (b := see b n t) (by rw [h4e]) ?_
              refine w_bipush dX3_readSplit_108 (by decide) ?_
              refine w_icmp_ne (tgt := 125) dX3_readSplit_110 rfl (R32.in (by omega)) (R32.in (by decide)) (fun c110 => ?_) (fun c110 => ?_)
              · skip
                refine w_iconst dX3_readSplit_125 ?_
                refine w_goto (tgt := 130) dX3_readSplit_126 rfl ?_
                exact w_zretI dX3_readSplit_130 rfl (Or.inr rfl) ⟨hF_μ8, (by first | exact rdL_ok (by unfold lSpl; rw [hspe]; exact (if_neg (fun q9 => q9 rfl)).trans (if_neg (show ¬ (tg < σ 0 2 ∧ see b n (sk b n t) = 59) from by rw [hskt]; omega))) rfl hcp h4e | exact rdL_no (by unfold lSpl; rw [hspe]; exact (if_neg (fun q9 => q9 rfl)).trans (if_pos (show (tg < σ 0 2 ∧ see b n (sk b n t) = 59) from by rw [hskt]; omega))) (by omega) rfl h0_F (h1_F.trans hskt.symm)), (by first | (intro q9; omega) | (intro q9; rw [h4e]; omega)), (by omega), (by first | (intro q9; omega) | exact fun _ => h08), (fun k h1 => (hff8 k (by omega))), hR8⟩
              · skip
                refine w_aload_n dX3_readSplit_113 rfl rfl (by first | decide | omega) ?_
                refine w_iconst dX3_readSplit_114 ?_
                refine w_aload_n dX3_readSplit_115 rfl rfl (by first | decide | omega) ?_
                refine w_getIx (o := 42) (f := 4) (x := t) fX3_readSplit_116 rfl rfl (Nat.le_of_ble_eq_true rfl) rfl h4e ?_
                refine w_callVI (o := 42) (ci := 3) (as := [(0, 5), (0, t)]) (rest := []) (k := 0) fX3_readSplit_119 rfl rfl rfl rfl rfl rfl rfl rfl (Nat.le_of_ble_eq_true rfl) (s_X3_fail X 5 t μ8) (fun xF μF hμF => ?_)
                obtain ⟨hFF, hz_F, h0_F, h1_F, hf_F⟩ := hμF
                refine w_if_eq (tgt := 129) dX3_readSplit_122 rfl (R32.in (by omega)) (fun c122 => ?_) (fun c122 => ?_)
                · skip
                  refine w_iconst dX3_readSplit_129 ?_
                  exact w_zretI dX3_readSplit_130 rfl (Or.inl rfl) ⟨((hFF.wd (by omega) (by omega)).tr hF_μ8), (by first | exact rdL_ok (by unfold lSpl; rw [hspe]; exact (if_neg (fun q9 => q9 rfl)).trans (if_neg (show ¬ (tg < σ 0 2 ∧ see b n (sk b n t) = 59) from by rw [hskt]; omega))) rfl hcp h4e | exact rdL_no (by unfold lSpl; rw [hspe]; exact (if_neg (fun q9 => q9 rfl)).trans (if_pos (show (tg < σ 0 2 ∧ see b n (sk b n t) = 59) from by rw [hskt]; omega))) (by omega) rfl h0_F (h1_F.trans hskt.symm)), (by first | (intro q9; omega) | (intro q9; rw [h4e]; omega)), (by omega), (by first | (intro q9; omega) | exact fun _ => h08), (fun k h1 => ((hf_F k (by omega)).trans (hff8 k (by omega)))), (RDc.cg2 hR8 (fun o h1 => (hFF.at (by omega) (by omega))) (fun k h1 => (hf_F _ (by omega))))⟩
                · skip
                  omega
          · skip
            replace c20 := am_b1 c20
            have hat1 : 0 ≤ μ1 42 4 ∧ μ1 42 4 ≤ n := by rw [h41]; exact ht
            have hcond : k = 0 ∨ (k ≤ 6 ∧ dgA b n t) := by first | exact Or.inl c7 | exact Or.inr ⟨by omega, by unfold dgA; rw [hst.resolve_left c7]; exact c20⟩
            have h8 : (8 - k).toNat = (7 - k).toNat + 1 := by omega
            rw [h8] at hsp
            refine w_aload_n dX3_readSplit_23 rfl rfl (by first | decide | omega) ?_
            refine w_iconst dX3_readSplit_24 ?_
            refine w_iload_n dX3_readSplit_25 rfl rfl ?_
            refine w_bipush dX3_readSplit_26 (by decide) ?_
            have hJ28_2 : ∀ z2_0 : Int, z2_0 = (if 6 ≤ k then 0 else (σ 0 2) - tg) → Wp (GG X) M_X3_readSplit 44 [(2, 42), (0, k), (0, tg), (0, k)] [(0, z2_0), (0, 1), (2, 42)] μ1 (qI 0 fun z μ' => (Fr 42 42 q (q + 1) μ' μ) ∧ (rdL (lSpl b n σ (μ 42 4)) q z μ') ∧ (z = 1 → (0 ≤ μ' 42 4 ∧ μ' 42 4 ≤ n)) ∧ (z = 0 ∨ z = 1) ∧ (z = 1 → μ' 42 0 = μ 42 0 ∧ μ' 42 1 = μ 42 1) ∧ (∀ k : Int, (¬ k = 0 ∧ ¬ k = 1 ∧ ¬ k = 4 ∧ ¬ k = 5 ∧ ¬ k = 6) → μ' 42 k = μ 42 k) ∧ (RDc b n q μ')) := by
              intro z2_0 hz2_0
              have hsw : nW b n 1 z2_0 t = (spW b n σ1 k tg t) := by unfold spW; rw [hσ1 0 (by omega)]; congr 1; omega
              refine w_callVI (o := 42) (ci := 3) (as := [(0, 1), (0, z2_0)]) (rest := []) (k := 0) fX3_readSplit_44 rfl rfl rfl rfl rfl rfl rfl rfl (Nat.le_of_ble_eq_true rfl) (s_X3_takeNumberWithin X b n q 1 z2_0 μ1 hR1 hat1 (by omega)) (fun xW μW hμW => ?_)
              obtain ⟨hFW, hz_W, h6_W, ha_W, hz01_W, h01_W, hf_W, hR_W⟩ := hμW
              rw [h41, hsw] at hz_W
              refine w_if_ne (tgt := 52) dX3_readSplit_47 rfl (R32.in (by omega)) (fun c47 => ?_) (fun c47 => ?_)
              · skip
                have hW := hz_W.resolve_right (fun q9 => by omega)
                have hw9 := nW_z (by rw [hsw]; exact hW.2.1)
                rw [hsw] at hw9
                have hv9 : (spW b n σ1 k tg t).2.2.1 = nval b n t := by rw [hw9.2.2]
                have ht1 : 0 ≤ (spW b n σ1 k tg t).2.2.2 ∧ (spW b n σ1 k tg t).2.2.2 ≤ n := by rw [← hW.2.2.2]; exact ha_W hW.1
                have hskr := sk_r b n (spW b n σ1 k tg t).2.2.2 ht1.2
                refine w_aload_n dX3_readSplit_52 rfl rfl (by first | decide | omega) ?_
                refine w_getDx (o := 42) (f := 7) (x := q) fX3_readSplit_53 rfl rfl rfl rfl hR_W.pq ?_
                refine w_getR (o := (q).toNat) (x := q + 1) fX3_readSplit_56 (by omega) (pSh0 rfl rfl (by assumption)) rfl (pRf 5 1 rfl rfl (by assumption)) ?_
                refine w_iload_n dX3_readSplit_59 rfl rfl ?_
                refine w_aload_n dX3_readSplit_60 rfl rfl (by first | decide | omega) ?_
                refine w_getIx (o := 42) (f := 5) (x := (spW b n σ1 k tg t).2.2.1) fX3_readSplit_61 rfl rfl (Nat.le_of_ble_eq_true rfl) rfl hW.2.2.1 ?_
                refine w_iast (o := (q + 1).toNat) (n := 12) dX3_readSplit_64 (by omega) (pSh 1 rfl rfl (by assumption)) (Nat.le_of_ble_eq_true rfl) (by omega) (by omega) ?_
                refine w_iload_n dX3_readSplit_65 rfl rfl ?_
                refine w_aload_n dX3_readSplit_66 rfl rfl (by first | decide | omega) ?_
                refine w_getIx (o := 42) (f := 5) (x := (spW b n σ1 k tg t).2.2.1) fX3_readSplit_67 rfl rfl (Nat.le_of_ble_eq_true rfl) rfl ((congrFun (am_up_o (by first | decide | omega)) _).trans hW.2.2.1) ?_
                refine w_iadd dX3_readSplit_70 ?_
                refine w_istore_n (ls' := [(2, 42), (0, k), (0, tg + ((spW b n σ1 k tg t).2.2.1)), (0, k)]) dX3_readSplit_71 rfl (Nat.le_of_ble_eq_true rfl) rfl rfl ?_
                refine w_iinc (ls' := [(2, 42), (0, k + 1), (0, tg + ((spW b n σ1 k tg t).2.2.1)), (0, k)]) dX3_readSplit_72 rfl (Nat.le_of_ble_eq_true rfl) rfl rfl ?_
                refine w_aload_n dX3_readSplit_75 rfl rfl (by first | decide | omega) ?_
                have hat9 : 0 ≤ (am_up μW (q + 1) k ((spW b n σ1 k tg t).2.2.1)) 42 4 ∧ (am_up μW (q + 1) k ((spW b n σ1 k tg t).2.2.1)) 42 4 ≤ n := by rw [am_up_o (by omega), hW.2.2.2]; exact ht1
                refine w_callVV (o := 42) (ci := 3) (as := []) (rest := []) (k := 0) fX3_readSplit_76 rfl rfl rfl rfl rfl rfl rfl rfl (Nat.le_of_ble_eq_true rfl) (s_X3_skipBlanks X b n q (am_up μW (q + 1) k ((spW b n σ1 k tg t).2.2.1)) (RDc.cg2 hR_W (fun o h1 => (am_up_o (by omega))) (fun k h1 => (congrFun (am_up_o (by omega)) _))) hat9) (fun μS hμS => ?_)
                obtain ⟨hFS, h4_S, hf_S, hR_S⟩ := hμS
                have hf9 := sk_r b n ((am_up μW (q + 1) k ((spW b n σ1 k tg t).2.2.1)) 42 4) (by omega)
                rw [am_up_o (by omega), hW.2.2.2] at h4_S
                refine w_iinc (ls' := [(2, 42), (0, k + 1), (0, tg + ((spW b n σ1 k tg t).2.2.1)), (0, k + 1)]) dX3_readSplit_79 rfl (Nat.le_of_ble_eq_true rfl) rfl rfl ?_
                refine w_goto (tgt := 6) dX3_readSplit_82 rfl ?_
                exact ih6 _ (by omega) (am_up σ1 6 k (spW b n σ1 k tg t).2.2.1) (k + 1) (tg + ((spW b n σ1 k tg t).2.2.1)) (sk b n (spW b n σ1 k tg t).2.2.2) μS rfl ((hFS.wd (by omega) (by omega)).tr (((hFW.wd (by omega) (by omega)).tr hF6).up (by omega))) (by omega) (by omega) (by omega) (h4_S.trans (by rfl)) (Or.inr (sk_sk b n (spW b n σ1 k tg t).2.2.2)) (fun o h1 => (am_up_o h1).trans (hσ1 o h1)) (fun j h1 h2 => by rw [up_if]; by_cases e : j = k; (rw [if_pos e]; omega); (rw [if_neg e]; exact hp j h1 (by omega))) (fun j h1 h2 => by rw [hFS.at (by omega) (by omega), up_if, up_if]; by_cases e : j = k; (rw [if_pos e, if_pos e]); (rw [if_neg e, if_neg e, hFW.at (by omega) (by omega)]; exact hrow j h1 (by omega))) (by rw [show 8 - (k + 1) = 7 - k by omega]; exact (spL_go hcond hW.2.1).symm.trans hsp) hR_S (fun k h1 => ((hf_S k (by omega)).trans ((congrFun (am_up_o (by omega)) _).trans ((hf_W k (by omega)).trans (hfA k (by omega)))))) ⟨(hf_S 0 (by omega)).trans ((congrFun (am_up_o (by omega)) 0).trans ((h01_W hW.1).1.trans h0A.1)), (hf_S 1 (by omega)).trans ((congrFun (am_up_o (by omega)) 1).trans ((h01_W hW.1).2.trans h0A.2))⟩ (fun k h1 => ((congrFun (hFS.at (by omega) (by omega)) _).trans ((congrFun (am_up_o (by omega)) _).trans ((congrFun (hFW.at (by omega) (by omega)) _).trans (hfq k (by omega))))))
              · skip
                have hW := hz_W.resolve_left (fun q9 => by omega)
                have hspb := hsp.symm.trans (spL_bad hcond hW.2.1)
                refine w_iconst dX3_readSplit_50 ?_
                exact w_zretI dX3_readSplit_51 rfl (Or.inl rfl) ⟨((hFW.wd (by omega) (by omega)).tr hF6), (by exact rdL_no (by unfold lSpl; rw [hspb]; exact if_pos hW.2.1) hW.2.1 rfl hW.2.2.1 hW.2.2.2), (by first | (intro q9; omega) | (intro q9; rw [h4e]; omega)), (by omega), (by intro q9; omega), (fun k h1 => ((hf_W k (by omega)).trans (hfA k (by omega)))), hR_W⟩
            refine w_icmp_ge (tgt := 43) dX3_readSplit_28 rfl (R32.in (by omega)) (R32.in (by decide)) (fun c28 => ?_) (fun c28 => ?_)
            · skip
              refine w_iconst dX3_readSplit_43 ?_
              exact hJ28_2 _ (by first | omega | simp [*])
            · skip
              refine w_aload_n dX3_readSplit_31 rfl rfl (by first | decide | omega) ?_
              refine w_getDx (o := 42) (f := 7) (x := q) fX3_readSplit_32 rfl rfl rfl rfl hR1.pq ?_
              refine w_getIx (o := (q).toNat) (f := 1) (x := σ 0 2) fX3_readSplit_35 (by omega) (pSh0 rfl rfl (by assumption)) (Nat.le_of_ble_eq_true rfl) rfl ((hfq _ (by omega)).trans hC.f1) ?_
              refine w_iload_n dX3_readSplit_38 rfl rfl ?_
              refine w_isub dX3_readSplit_39 ?_
              refine w_goto (tgt := 44) dX3_readSplit_40 rfl ?_
              exact hJ28_2 _ (by first | omega | simp [*])
  exact hL6 _ σ 0 0 (μ 42 4) μ rfl Fr.rf (by omega) (by omega) hat ((rfl : μ 42 4 = μ 42 4).trans (by rfl)) (Or.inl rfl) (fun o h1 => rfl) (fun j h1 h2 => by omega) (fun j h1 h2 => by omega) rfl hR (fun k h1 => rfl) ⟨rfl, rfl⟩ (fun k h1 => rfl)
