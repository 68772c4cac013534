set_option maxRecDepth 100000 in
set_option maxHeartbeats 4000000 in
theorem s_X2_findGroups (X : AX) (p : Int) (μ : Mu) (hI0 : PI μ p) (ho : ∀ j : Int, 0 ≤ j → j < μ p 7 → μ (p + 8) j = -1) (hx : ∀ j : Int, 0 ≤ j → j + 1 < μ p 7 → μ (p + 7) j + 4 ≤ μ (p + 7) (j + 1) ∧ μ (p + 7) (j + 1) ≤ μ (p + 7) j + 40) : Wp (GG X) M_X2_findGroups 0 [(2, p), (9, 0), (9, 0), (9, 0)] [] μ (qV fun μ' => (Fr p p (p + 8) (p + 10) μ' μ) ∧ (PG μ' p ∧ prl (μ' (p + 9)) (μ' (p + 10)) (μ' p 14) = seg (μ p 7) (fun j => runl μ p j 0) 0) ∧ (∀ k : Int, ¬ k = 14 → μ' p k = μ p k)) := by
  have hp := hI0.at
  have hsz := hI0.sz
  refine w_aload_n dX2_findGroups_0 rfl rfl (by first | decide | omega) ?_
  refine w_iconst dX2_findGroups_1 ?_
  refine w_putI (o := (p).toNat) (f := 14) fX2_findGroups_2 (by omega) (pSh0 rfl rfl (by assumption)) rfl rfl rfl ?_
  refine w_iconst dX2_findGroups_5 ?_
  refine w_istore_n (ls' := [(2, p), (0, 0), (9, 0), (9, 0)]) dX2_findGroups_6 rfl (Nat.le_of_ble_eq_true rfl) rfl rfl ?_
  have hL7 : ∀ (n7 : Nat) (i : Int) (μ1 : Mu), (μ p 7 - i).toNat = n7 → Fr p p (p + 8) (p + 10) μ1 μ → (∀ k9 : Int, ¬ k9 = 14 → μ1 p k9 = μ p k9) → (PI μ1 p) → (GRP μ μ1 p i (μ1 p 14)) → Wp (GG X) M_X2_findGroups 7 [(2, p), (0, i), (9, 0), (9, 0)] [] μ1 (qV fun μ' => (Fr p p (p + 8) (p + 10) μ' μ) ∧ (PG μ' p ∧ prl (μ' (p + 9)) (μ' (p + 10)) (μ' p 14) = seg (μ p 7) (fun j => runl μ p j 0) 0) ∧ (∀ k : Int, ¬ k = 14 → μ' p k = μ p k)) := by
    intro n7
    induction n7 using Nat.strongRecOn with
    | ind n7 ih7 =>
      intro i μ1 hn7 hF7 hff hI hG
      have hg9 := hG.1
      refine w_iload_n dX2_findGroups_7 rfl rfl ?_
      refine w_aload_n dX2_findGroups_8 rfl rfl (by first | decide | omega) ?_
      have hs7 : μ1 p 7 = μ p 7 := hff 7 (by omega)
      refine w_getIx (o := (p).toNat) (f := 7) (x := μ p 7) fX2_findGroups_9 (by omega) (pSh0 rfl rfl (by assumption)) (Nat.le_of_ble_eq_true rfl) rfl (hff 7 (by omega)) ?_
      have hr1 := PI.sz hI
      have hr2 := PI.sz hI0
      refine w_icmp_ge (tgt := 106) dX2_findGroups_12 rfl (R32.in (by omega)) (R32.in (by omega)) (fun c12 => ?_) (fun c12 => ?_)
      · skip
        exact w_retV dX2_findGroups_106 rfl ⟨hF7, (by exact GRP.pg hG (by omega) hI0 (fun o h1 => hF7.at (by omega) (by omega)) hff rfl hx), (fun k h1 => (hff k (by omega)))⟩
      · skip
        refine w_aload_n dX2_findGroups_15 rfl rfl (by first | decide | omega) ?_
        refine w_iload_n dX2_findGroups_16 rfl rfl ?_
        refine w_iconst dX2_findGroups_17 ?_
        refine w_callVP (o := (p).toNat) (ci := 2) (as := [(0, i), (0, 0)]) (rest := []) (k := 1) fX2_findGroups_18 rfl (by omega) (pSh0 rfl rfl (by assumption)) rfl rfl rfl rfl rfl (Nat.le_of_ble_eq_true rfl) (s_X2_runFrom X p i 0 μ1 μ1 (fun o h1 => rfl) hI (by first | omega | assumption) (by first | omega | assumption)) ?_
        have hf3 := runl_r μ1 p i 0 hI (by omega)
        have hr9 := runl_r μ p i 0 hI0 (by omega)
        refine Wp.topE (b := (runl μ p i 0)) (runl_cg3 (fun o h1 => hF7.at (by omega) (by omega)) hff) ?_
        refine w_istore_n (ls' := [(2, p), (0, i), (0, (runl μ p i 0)), (9, 0)]) dX2_findGroups_21 rfl (Nat.le_of_ble_eq_true rfl) rfl rfl ?_
        refine w_iload_n dX2_findGroups_22 rfl rfl ?_
        refine w_iconst dX2_findGroups_23 ?_
        refine w_icmp_le (tgt := 100) dX2_findGroups_24 rfl (R32.in (by omega)) (R32.in (by decide)) (fun c24 => ?_) (fun c24 => ?_)
        · skip
          refine w_iinc (ls' := [(2, p), (0, i + 1), (0, (runl μ p i 0)), (9, 0)]) dX2_findGroups_100 rfl (Nat.le_of_ble_eq_true rfl) rfl rfl ?_
          refine w_goto (tgt := 7) dX2_findGroups_103 rfl ?_
          refine Wp.fgl (ls' := [(2, p), (0, i + 1), (9, 0), (9, 0)]) 2 rfl ?_
          exact ih7 _ (by omega) (i + 1) μ1 rfl hF7 (fun k h1 => (hff k (by omega))) (by first | exact hI | exact PI.cg3 hI (fun o h1 => (am_up_o (by omega)).trans (hF61.at (by omega) (by omega))) (fun k h1 => (am_up_nk h1).trans (congrFun (hF61.at (by omega) (by omega)) k))) (by first | exact GRI_no hG (by omega) (by omega) | (rw [show (i + ((runl μ p i 0) - 1)) + 1 = i + (runl μ p i 0) by omega, am_up_at]; have h9 := GRI_go hG (by omega) (by omega) (by omega) (fun j h1 h2 => bmz_nt hI0 (by omega) (runl_nt h1 h2 (by omega))) hFo hMo hFg hMg (fun j h1 h2 => hO j h1 (by omega)) (fun j h1 => hO2 j (by omega)); unfold GRP; rw [am_up_o (by omega), am_up_o (by omega), am_up_o (by omega)]; exact h9))
        · skip
          refine w_aload_n dX2_findGroups_27 rfl rfl (by first | decide | omega) ?_
          refine w_getIx (o := (p).toNat) (f := 14) (x := μ1 p 14) fX2_findGroups_28 (by omega) (pSh0 rfl rfl (by assumption)) (Nat.le_of_ble_eq_true rfl) rfl rfl ?_
          refine w_aload_n dX2_findGroups_31 rfl rfl (by first | decide | omega) ?_
          refine w_getR (o := (p).toNat) (x := p + 9) fX2_findGroups_32 (by omega) (pSh0 rfl rfl (by assumption)) rfl (pRf 15 9 rfl rfl (by assumption)) ?_
          refine w_alen (o := (p + 9).toNat) (n := 32) (t := 0) (f := 32) dX2_findGroups_35 (by omega) (pSh 9 rfl rfl (by assumption)) (Nat.le_of_ble_eq_true rfl) rfl ?_
          refine w_icmp_ge (tgt := 100) dX2_findGroups_36 rfl (R32.in (by omega)) (R32.in (by decide)) (fun c36 => ?_) (fun c36 => ?_)
          · skip
            omega
          · skip
            refine w_aload_n dX2_findGroups_39 rfl rfl (by first | decide | omega) ?_
            refine w_getR (o := (p).toNat) (x := p + 9) fX2_findGroups_40 (by omega) (pSh0 rfl rfl (by assumption)) rfl (pRf 15 9 rfl rfl (by assumption)) ?_
            refine w_aload_n dX2_findGroups_43 rfl rfl (by first | decide | omega) ?_
            refine w_getIx (o := (p).toNat) (f := 14) (x := μ1 p 14) fX2_findGroups_44 (by omega) (pSh0 rfl rfl (by assumption)) (Nat.le_of_ble_eq_true rfl) rfl rfl ?_
            refine w_iload_n dX2_findGroups_47 rfl rfl ?_
            refine w_iast (o := (p + 9).toNat) (n := 32) dX2_findGroups_48 (by omega) (pSh 9 rfl rfl (by assumption)) (Nat.le_of_ble_eq_true rfl) (by omega) (by omega) ?_
            refine w_aload_n dX2_findGroups_49 rfl rfl (by first | decide | omega) ?_
            refine w_getR (o := (p).toNat) (x := p + 10) fX2_findGroups_50 (by omega) (pSh0 rfl rfl (by assumption)) rfl (pRf 16 10 rfl rfl (by assumption)) ?_
            refine w_aload_n dX2_findGroups_53 rfl rfl (by first | decide | omega) ?_
            refine w_getIx (o := (p).toNat) (f := 14) (x := μ1 p 14) fX2_findGroups_54 (by omega) (pSh0 rfl rfl (by assumption)) (Nat.le_of_ble_eq_true rfl) rfl (congrFun (am_up_o (by first | decide | omega)) _) ?_
            refine w_iload_n dX2_findGroups_57 rfl rfl ?_
            refine w_iast (o := (p + 10).toNat) (n := 32) dX2_findGroups_58 (by omega) (pSh 10 rfl rfl (by assumption)) (Nat.le_of_ble_eq_true rfl) (by omega) (by omega) ?_
            refine w_iload_n dX2_findGroups_59 rfl rfl ?_
            refine w_istore_n (ls' := [(2, p), (0, i), (0, (runl μ p i 0)), (0, i)]) dX2_findGroups_60 rfl (Nat.le_of_ble_eq_true rfl) rfl rfl ?_
            have hL61 : ∀ (n61 : Nat) (t : Int) (μ2 : Mu), (i + (runl μ p i 0) - t).toNat = n61 → Fr (p + 8) (p + 10) 1 0 μ2 μ1 → (i ≤ t ∧ t ≤ i + (runl μ p i 0)) → (∀ k9 : Int, ¬ k9 = μ1 p 14 → μ2 (p + 9) k9 = μ1 (p + 9) k9) → (∀ k9 : Int, ¬ k9 = μ1 p 14 → μ2 (p + 10) k9 = μ1 (p + 10) k9) → (μ2 (p + 9) (μ1 p 14) = i) → (μ2 (p + 10) (μ1 p 14) = (runl μ p i 0)) → (∀ j9 : Int, i ≤ j9 → j9 < t → μ2 (p + 8) j9 = μ1 p 14) → (∀ j9 : Int, ¬ (i ≤ j9 ∧ j9 < t) → μ2 (p + 8) j9 = μ1 (p + 8) j9) → Wp (GG X) M_X2_findGroups 61 [(2, p), (0, i), (0, (runl μ p i 0)), (0, t)] [] μ2 (qV fun μ' => (Fr p p (p + 8) (p + 10) μ' μ) ∧ (PG μ' p ∧ prl (μ' (p + 9)) (μ' (p + 10)) (μ' p 14) = seg (μ p 7) (fun j => runl μ p j 0) 0) ∧ (∀ k : Int, ¬ k = 14 → μ' p k = μ p k)) := by
              intro n61
              induction n61 using Nat.strongRecOn with
              | ind n61 ih61 =>
                intro t μ2 hn61 hF61 ht hFo hMo hFg hMg hO hO2
                refine w_iload_n dX2_findGroups_61 rfl rfl ?_
                refine w_iload_n dX2_findGroups_62 rfl rfl ?_
                refine w_iload_n dX2_findGroups_63 rfl rfl ?_
                refine w_iadd dX2_findGroups_64 ?_
                refine w_icmp_ge (tgt := 84) dX2_findGroups_65 rfl (R32.in (by omega)) (R32.in (by omega)) (fun c65 => ?_) (fun c65 => ?_)
                · skip
                  refine w_aload_n dX2_findGroups_84 rfl rfl (by first | decide | omega) ?_
                  refine w_dup dX2_findGroups_85 (by simp) ?_
                  refine w_getIx (o := (p).toNat) (f := 14) (x := μ1 p 14) fX2_findGroups_86 (by omega) (pSh0 rfl rfl (by assumption)) (Nat.le_of_ble_eq_true rfl) rfl (congrFun (hF61.at (by omega) (by omega)) _) ?_
                  refine w_iconst dX2_findGroups_89 ?_
                  refine w_iadd dX2_findGroups_90 ?_
                  refine w_putI (o := (p).toNat) (f := 14) fX2_findGroups_91 (by omega) (pSh0 rfl rfl (by assumption)) rfl rfl rfl ?_
                  refine w_iload_n dX2_findGroups_94 rfl rfl ?_
                  refine w_iload_n dX2_findGroups_95 rfl rfl ?_
                  refine w_iconst dX2_findGroups_96 ?_
                  refine w_isub dX2_findGroups_97 ?_
                  refine w_iadd dX2_findGroups_98 ?_
                  refine w_istore_n (ls' := [(2, p), (0, i + ((runl μ p i 0) - 1)), (0, (runl μ p i 0)), (0, t)]) dX2_findGroups_99 rfl (Nat.le_of_ble_eq_true rfl) rfl rfl ?_
                  refine w_iinc (ls' := [(2, p), (0, (i + ((runl μ p i 0) - 1)) + 1), (0, (runl μ p i 0)), (0, t)]) dX2_findGroups_100 rfl (Nat.le_of_ble_eq_true rfl) rfl rfl ?_
                  refine w_goto (tgt := 7) dX2_findGroups_103 rfl ?_
                  refine Wp.fgl (ls' := [(2, p), (0, (i + ((runl μ p i 0) - 1)) + 1), (9, 0), (0, t)]) 2 rfl ?_
                  refine Wp.fgl (ls' := [(2, p), (0, (i + ((runl μ p i 0) - 1)) + 1), (9, 0), (9, 0)]) 3 rfl ?_
                  exact ih7 _ (by omega) ((i + ((runl μ p i 0) - 1)) + 1) (am_up μ2 p 14 ((μ1 p 14) + 1)) rfl (((hF61.wd (by omega) (by omega)).tr hF7).up (by omega)) (fun k h1 => ((am_up_nk (by omega)).trans ((congrFun (hF61.at (by omega) (by omega)) _).trans (hff k (by omega))))) (by first | exact hI | exact PI.cg3 hI (fun o h1 => (am_up_o (by omega)).trans (hF61.at (by omega) (by omega))) (fun k h1 => (am_up_nk h1).trans (congrFun (hF61.at (by omega) (by omega)) k))) (by first | exact GRI_no hG (by omega) (by omega) | (rw [show (i + ((runl μ p i 0) - 1)) + 1 = i + (runl μ p i 0) by omega, am_up_at]; have h9 := GRI_go hG (by omega) (by omega) (by omega) (fun j h1 h2 => bmz_nt hI0 (by omega) (runl_nt h1 h2 (by omega))) hFo hMo hFg hMg (fun j h1 h2 => hO j h1 (by omega)) (fun j h1 => hO2 j (by omega)); unfold GRP; rw [am_up_o (by omega), am_up_o (by omega), am_up_o (by omega)]; exact h9))
                · skip
                  refine w_aload_n dX2_findGroups_68 rfl rfl (by first | decide | omega) ?_
                  refine w_getR (o := (p).toNat) (x := p + 8) fX2_findGroups_69 (by omega) (pSh0 rfl rfl (by assumption)) rfl (pRf 13 8 rfl rfl (by assumption)) ?_
                  refine w_iload_n dX2_findGroups_72 rfl rfl ?_
                  refine w_aload_n dX2_findGroups_73 rfl rfl (by first | decide | omega) ?_
                  refine w_getIx (o := (p).toNat) (f := 14) (x := μ1 p 14) fX2_findGroups_74 (by omega) (pSh0 rfl rfl (by assumption)) (Nat.le_of_ble_eq_true rfl) rfl (congrFun (hF61.at (by omega) (by omega)) _) ?_
                  refine w_iast (o := (p + 8).toNat) (n := 64) dX2_findGroups_77 (by omega) (pSh 8 rfl rfl (by assumption)) (Nat.le_of_ble_eq_true rfl) (by omega) (by omega) ?_
                  refine w_iinc (ls' := [(2, p), (0, i), (0, (runl μ p i 0)), (0, t + 1)]) dX2_findGroups_78 rfl (Nat.le_of_ble_eq_true rfl) rfl rfl ?_
                  refine w_goto (tgt := 61) dX2_findGroups_81 rfl ?_
                  exact ih61 _ (by omega) (t + 1) (am_up μ2 (p + 8) t (μ1 p 14)) rfl (hF61.up (by omega)) (by omega) (fun k9 h => (congrFun (am_up_o (by omega)) k9).trans (hFo k9 h)) (fun k9 h => (congrFun (am_up_o (by omega)) k9).trans (hMo k9 h)) ((congrFun (am_up_o (by omega)) _).trans hFg) ((congrFun (am_up_o (by omega)) _).trans hMg) (fun j9 h1 h2 => by rw [up_if]; by_cases e : j9 = t; exact if_pos e; rw [if_neg e]; exact hO j9 h1 (by omega)) (fun j9 h1 => by rw [up_if, if_neg (by omega)]; exact hO2 j9 (by omega))
            exact hL61 _ i (am_up (am_up μ1 (p + 9) (μ1 p 14) i) (p + 10) (μ1 p 14) (runl μ p i 0)) rfl ((Fr.rf.up (by omega)).up (by omega)) (by omega) (fun k9 h => (congrFun (am_up_o (by omega)) k9).trans (am_up_nk h)) (fun k9 h => (am_up_nk h).trans (congrFun (am_up_o (by omega)) k9)) ((congrFun (am_up_o (by omega)) _).trans am_up_at) am_up_at (fun j9 h1 h2 => by omega) (fun j9 h1 => (congrFun (am_up_o (by omega)) j9).trans (congrFun (am_up_o (by omega)) j9))
  exact hL7 _ 0 (am_up μ p 14 0) rfl (Fr.rf.up (by omega)) (fun k h1 => (am_up_nk (by omega))) (PI.cg3 hI0 (fun o h1 => am_up_o (by omega)) (fun k h1 => am_up_nk h1)) (by rw [am_up_at]; exact GRI_0 (by omega) (fun j h1 h2 => (congrFun (am_up_o (by omega)) j).trans (ho j h1 h2)))
