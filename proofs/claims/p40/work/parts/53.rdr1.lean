set_option maxRecDepth 100000 in
set_option maxHeartbeats 4000000 in
theorem s_X3_fail (X : AX) (c : Int) (w : Int) (μ : Mu) : Wp (GG X) M_X3_fail 0 [(2, 42), (0, c), (0, w)] [] μ (qI 0 fun z μ' => (Fr 42 42 1 0 μ' μ) ∧ (z = 0) ∧ (μ' 42 0 = c) ∧ (μ' 42 1 = w) ∧ (∀ k : Int, (¬ k = 0 ∧ ¬ k = 1) → μ' 42 k = μ 42 k)) := by
  refine w_aload_n dX3_fail_0 rfl rfl (by first | decide | omega) ?_
  refine w_iload_n dX3_fail_1 rfl rfl ?_
  refine w_putI (o := 42) (f := 0) fX3_fail_2 rfl rfl rfl rfl rfl ?_
  refine w_aload_n dX3_fail_5 rfl rfl (by first | decide | omega) ?_
  refine w_iload_n dX3_fail_6 rfl rfl ?_
  refine w_putI (o := 42) (f := 1) fX3_fail_7 rfl rfl rfl rfl rfl ?_
  refine w_iconst dX3_fail_10 ?_
  exact w_zretI dX3_fail_11 rfl (Or.inl rfl) ⟨((Fr.rf.up (by omega)).up (by omega)), (by rfl), (((am_up_nk (by omega)).trans am_up_at).trans (by rfl)), (am_up_at.trans (by rfl)), (fun k h1 => ((am_up_nk (by omega)).trans (am_up_nk (by omega))))⟩

set_option maxRecDepth 100000 in
set_option maxHeartbeats 4000000 in
theorem s_X3_here (X : AX) (b : Int → Int) (n : Int) (q : Int) (μ : Mu) (hR : RDc b n q μ) (hat : 0 ≤ μ 42 4 ∧ μ 42 4 ≤ n) : Wp (GG X) M_X3_here 0 [(2, 42)] [] μ (pP 0 (see b n (μ 42 4)) μ) := by
  have hn := hR.n
  have hq := hR.at
  have hbb := hR.bb
  refine w_aload_n dX3_here_0 rfl rfl (by first | decide | omega) ?_
  refine w_getIx (o := 42) (f := 4) (x := μ 42 4) fX3_here_1 rfl rfl (Nat.le_of_ble_eq_true rfl) rfl rfl ?_
  refine w_aload_n dX3_here_4 rfl rfl (by first | decide | omega) ?_
  refine w_getIx (o := 42) (f := 3) (x := n) fX3_here_5 rfl rfl (Nat.le_of_ble_eq_true rfl) rfl hR.l ?_
  have hr1 := hR.n
  refine w_icmp_ge (tgt := 23) dX3_here_8 rfl (R32.in (by omega)) (R32.in (by omega)) (fun c8 => ?_) (fun c8 => ?_)
  · skip
    refine w_iconst dX3_here_23 ?_
    exact w_iretP dX3_here_24 rfl (by unfold see; first | exact ifT (by omega) rfl | exact ifF (by omega) rfl)
  · skip
    refine w_aload_n dX3_here_11 rfl rfl (by first | decide | omega) ?_
    refine w_getR (o := 42) (x := 2) fX3_here_12 rfl rfl rfl rfl ?_
    refine w_aload_n dX3_here_15 rfl rfl (by first | decide | omega) ?_
    refine w_getIx (o := 42) (f := 4) (x := μ 42 4) fX3_here_16 rfl rfl (Nat.le_of_ble_eq_true rfl) rfl rfl ?_
    refine w_ialdx (o := 2) (n := 900) (x := b (μ 42 4)) dX3_here_19 rfl rfl (Nat.le_of_ble_eq_true rfl) (by omega) (hR.b (by omega)) ?_
    have hr2 := hR.br (j := (μ 42 4)) (by omega)
    refine w_goto (tgt := 24) dX3_here_20 rfl ?_
    exact w_iretP dX3_here_24 rfl (by unfold see; first | exact ifT (by omega) rfl | exact ifF (by omega) rfl)

set_option maxRecDepth 100000 in
set_option maxHeartbeats 4000000 in
theorem s_X3_isDigitHere (X : AX) (b : Int → Int) (n : Int) (q : Int) (μ : Mu) (hR : RDc b n q μ) (hat : 0 ≤ μ 42 4 ∧ μ 42 4 ≤ n) : Wp (GG X) M_X3_isDigitHere 0 [(2, 42)] [] μ (pP 0 (am_b (48 ≤ see b n (μ 42 4) ∧ see b n (μ 42 4) ≤ 57)) μ) := by
  have hn := hR.n
  have hq := hR.at
  have hbb := hR.bb
  refine w_aload_n dX3_isDigitHere_0 rfl rfl (by first | decide | omega) ?_
  refine w_getIx (o := 42) (f := 4) (x := μ 42 4) fX3_isDigitHere_1 rfl rfl (Nat.le_of_ble_eq_true rfl) rfl rfl ?_
  refine w_aload_n dX3_isDigitHere_4 rfl rfl (by first | decide | omega) ?_
  refine w_getIx (o := 42) (f := 3) (x := n) fX3_isDigitHere_5 rfl rfl (Nat.le_of_ble_eq_true rfl) rfl hR.l ?_
  have hr1 := hR.n
  refine w_icmp_ge (tgt := 43) dX3_isDigitHere_8 rfl (R32.in (by omega)) (R32.in (by omega)) (fun c8 => ?_) (fun c8 => ?_)
  · skip
    refine w_iconst dX3_isDigitHere_43 ?_
    exact w_zretP dX3_isDigitHere_44 rfl (Or.inl rfl) (by unfold see; first | exact am_b_t (by omega) | exact am_b_f (by omega))
  · skip
    refine w_aload_n dX3_isDigitHere_11 rfl rfl (by first | decide | omega) ?_
    refine w_getR (o := 42) (x := 2) fX3_isDigitHere_12 rfl rfl rfl rfl ?_
    refine w_aload_n dX3_isDigitHere_15 rfl rfl (by first | decide | omega) ?_
    refine w_getIx (o := 42) (f := 4) (x := μ 42 4) fX3_isDigitHere_16 rfl rfl (Nat.le_of_ble_eq_true rfl) rfl rfl ?_
    refine w_ialdx (o := 2) (n := 900) (x := b (μ 42 4)) dX3_isDigitHere_19 rfl rfl (Nat.le_of_ble_eq_true rfl) (by omega) (hR.b (by omega)) ?_
    have hr2 := hR.br (j := (μ 42 4)) (by omega)
    refine w_bipush dX3_isDigitHere_20 (by decide) ?_
    refine w_icmp_lt (tgt := 43) dX3_isDigitHere_22 rfl (R32.in (by omega)) (R32.in (by decide)) (fun c22 => ?_) (fun c22 => ?_)
    · skip
      refine w_iconst dX3_isDigitHere_43 ?_
      exact w_zretP dX3_isDigitHere_44 rfl (Or.inl rfl) (by unfold see; first | exact am_b_t (by omega) | exact am_b_f (by omega))
    · skip
      refine w_aload_n dX3_isDigitHere_25 rfl rfl (by first | decide | omega) ?_
      refine w_getR (o := 42) (x := 2) fX3_isDigitHere_26 rfl rfl rfl rfl ?_
      refine w_aload_n dX3_isDigitHere_29 rfl rfl (by first | decide | omega) ?_
      refine w_getIx (o := 42) (f := 4) (x := μ 42 4) fX3_isDigitHere_30 rfl rfl (Nat.le_of_ble_eq_true rfl) rfl rfl ?_
      refine w_ialdx (o := 2) (n := 900) (x := b (μ 42 4)) dX3_isDigitHere_33 rfl rfl (Nat.le_of_ble_eq_true rfl) (by omega) (hR.b (by omega)) ?_
      refine w_bipush dX3_isDigitHere_34 (by decide) ?_
      refine w_icmp_gt (tgt := 43) dX3_isDigitHere_36 rfl (R32.in (by omega)) (R32.in (by decide)) (fun c36 => ?_) (fun c36 => ?_)
      · skip
        refine w_iconst dX3_isDigitHere_43 ?_
        exact w_zretP dX3_isDigitHere_44 rfl (Or.inl rfl) (by unfold see; first | exact am_b_t (by omega) | exact am_b_f (by omega))
      · skip
        refine w_iconst dX3_isDigitHere_39 ?_
        refine w_goto (tgt := 44) dX3_isDigitHere_40 rfl ?_
        exact w_zretP dX3_isDigitHere_44 rfl (Or.inr rfl) (by unfold see; first | exact am_b_t (by omega) | exact am_b_f (by omega))

set_option maxRecDepth 100000 in
set_option maxHeartbeats 4000000 in
theorem s_X3_isLetterHere (X : AX) (b : Int → Int) (n : Int) (q : Int) (μ : Mu) (hR : RDc b n q μ) (hat : 0 ≤ μ 42 4 ∧ μ 42 4 ≤ n) : Wp (GG X) M_X3_isLetterHere 0 [(2, 42)] [] μ (pP 0 (am_b (97 ≤ see b n (μ 42 4) ∧ see b n (μ 42 4) ≤ 122)) μ) := by
  have hn := hR.n
  have hq := hR.at
  have hbb := hR.bb
  refine w_aload_n dX3_isLetterHere_0 rfl rfl (by first | decide | omega) ?_
  refine w_getIx (o := 42) (f := 4) (x := μ 42 4) fX3_isLetterHere_1 rfl rfl (Nat.le_of_ble_eq_true rfl) rfl rfl ?_
  refine w_aload_n dX3_isLetterHere_4 rfl rfl (by first | decide | omega) ?_
  refine w_getIx (o := 42) (f := 3) (x := n) fX3_isLetterHere_5 rfl rfl (Nat.le_of_ble_eq_true rfl) rfl hR.l ?_
  have hr1 := hR.n
  refine w_icmp_ge (tgt := 43) dX3_isLetterHere_8 rfl (R32.in (by omega)) (R32.in (by omega)) (fun c8 => ?_) (fun c8 => ?_)
  · skip
    refine w_iconst dX3_isLetterHere_43 ?_
    exact w_zretP dX3_isLetterHere_44 rfl (Or.inl rfl) (by unfold see; first | exact am_b_t (by omega) | exact am_b_f (by omega))
  · skip
    refine w_aload_n dX3_isLetterHere_11 rfl rfl (by first | decide | omega) ?_
    refine w_getR (o := 42) (x := 2) fX3_isLetterHere_12 rfl rfl rfl rfl ?_
    refine w_aload_n dX3_isLetterHere_15 rfl rfl (by first | decide | omega) ?_
    refine w_getIx (o := 42) (f := 4) (x := μ 42 4) fX3_isLetterHere_16 rfl rfl (Nat.le_of_ble_eq_true rfl) rfl rfl ?_
    refine w_ialdx (o := 2) (n := 900) (x := b (μ 42 4)) dX3_isLetterHere_19 rfl rfl (Nat.le_of_ble_eq_true rfl) (by omega) (hR.b (by omega)) ?_
    have hr2 := hR.br (j := (μ 42 4)) (by omega)
    refine w_bipush dX3_isLetterHere_20 (by decide) ?_
    refine w_icmp_lt (tgt := 43) dX3_isLetterHere_22 rfl (R32.in (by omega)) (R32.in (by decide)) (fun c22 => ?_) (fun c22 => ?_)
    · skip
      refine w_iconst dX3_isLetterHere_43 ?_
      exact w_zretP dX3_isLetterHere_44 rfl (Or.inl rfl) (by unfold see; first | exact am_b_t (by omega) | exact am_b_f (by omega))
    · skip
      refine w_aload_n dX3_isLetterHere_25 rfl rfl (by first | decide | omega) ?_
      refine w_getR (o := 42) (x := 2) fX3_isLetterHere_26 rfl rfl rfl rfl ?_
      refine w_aload_n dX3_isLetterHere_29 rfl rfl (by first | decide | omega) ?_
      refine w_getIx (o := 42) (f := 4) (x := μ 42 4) fX3_isLetterHere_30 rfl rfl (Nat.le_of_ble_eq_true rfl) rfl rfl ?_
      refine w_ialdx (o := 2) (n := 900) (x := b (μ 42 4)) dX3_isLetterHere_33 rfl rfl (Nat.le_of_ble_eq_true rfl) (by omega) (hR.b (by omega)) ?_
      refine w_bipush dX3_isLetterHere_34 (by decide) ?_
      refine w_icmp_gt (tgt := 43) dX3_isLetterHere_36 rfl (R32.in (by omega)) (R32.in (by decide)) (fun c36 => ?_) (fun c36 => ?_)
      · skip
        refine w_iconst dX3_isLetterHere_43 ?_
        exact w_zretP dX3_isLetterHere_44 rfl (Or.inl rfl) (by unfold see; first | exact am_b_t (by omega) | exact am_b_f (by omega))
      · skip
        refine w_iconst dX3_isLetterHere_39 ?_
        refine w_goto (tgt := 44) dX3_isLetterHere_40 rfl ?_
        exact w_zretP dX3_isLetterHere_44 rfl (Or.inr rfl) (by unfold see; first | exact am_b_t (by omega) | exact am_b_f (by omega))

set_option maxRecDepth 100000 in
set_option maxHeartbeats 4000000 in
theorem s_X3_skipBlanks (X : AX) (b : Int → Int) (n : Int) (q : Int) (μ : Mu) (hR : RDc b n q μ) (hat : 0 ≤ μ 42 4 ∧ μ 42 4 ≤ n) : Wp (GG X) M_X3_skipBlanks 0 [(2, 42)] [] μ (qV fun μ' => (Fr 42 42 1 0 μ' μ) ∧ (μ' 42 4 = sk b n (μ 42 4)) ∧ (∀ k : Int, (¬ k = 4) → μ' 42 k = μ 42 k) ∧ (RDc b n q μ')) := by
  have hn := hR.n
  have hq := hR.at
  have hbb := hR.bb
  have hL0 : ∀ (n0 : Nat) (t : Int) (μ1 : Mu), (n - t).toNat = n0 → Fr 42 42 1 0 μ1 μ → (0 ≤ t ∧ t ≤ n) → (μ1 42 4 = t) → (sk b n t = sk b n (μ 42 4)) → (∀ k : Int, (¬ k = 4) → μ1 42 k = μ 42 k) → (RDc b n q μ1) → Wp (GG X) M_X3_skipBlanks 0 [(2, 42)] [] μ1 (qV fun μ' => (Fr 42 42 1 0 μ' μ) ∧ (μ' 42 4 = sk b n (μ 42 4)) ∧ (∀ k : Int, (¬ k = 4) → μ' 42 k = μ 42 k) ∧ (RDc b n q μ')) := by
    intro n0
    induction n0 using Nat.strongRecOn with
    | ind n0 ih0 =>
      intro t μ1 hn0 hF0 ht0 h41 hsk hfA hR1
      refine w_aload_n dX3_skipBlanks_0 rfl rfl (by first | decide | omega) ?_
      refine w_getIx (o := 42) (f := 4) (x := t) fX3_skipBlanks_1 rfl rfl (Nat.le_of_ble_eq_true rfl) rfl h41 ?_
      refine w_aload_n dX3_skipBlanks_4 rfl rfl (by first | decide | omega) ?_
      refine w_getIx (o := 42) (f := 3) (x := n) fX3_skipBlanks_5 rfl rfl (Nat.le_of_ble_eq_true rfl) rfl hR1.l ?_
      have hr1 := hR1.n
      have hr2 := hR.n
      refine w_icmp_ge (tgt := 52) dX3_skipBlanks_8 rfl (R32.in (by omega)) (R32.in (by omega)) (fun c8 => ?_) (fun c8 => ?_)
      · skip
        exact w_retV dX3_skipBlanks_52 rfl ⟨hF0, (h41.trans (by rw [← hsk]; first | exact (sk_end (by omega)).symm | exact (sk_no (by omega)).symm)), (fun k h1 => (hfA k (by omega))), hR1⟩
      · skip
        refine w_aload_n dX3_skipBlanks_11 rfl rfl (by first | decide | omega) ?_
        refine w_getR (o := 42) (x := 2) fX3_skipBlanks_12 rfl rfl rfl rfl ?_
        refine w_aload_n dX3_skipBlanks_15 rfl rfl (by first | decide | omega) ?_
        refine w_getIx (o := 42) (f := 4) (x := t) fX3_skipBlanks_16 rfl rfl (Nat.le_of_ble_eq_true rfl) rfl h41 ?_
        refine w_ialdx (o := 2) (n := 900) (x := b t) dX3_skipBlanks_19 rfl rfl (Nat.le_of_ble_eq_true rfl) (by omega) (hR1.b (by omega)) ?_
        have hr3 := hR1.br (j := t) (by omega)
        have hr4 := hR.br (j := t) (by omega)
        refine w_bipush dX3_skipBlanks_20 (by decide) ?_
        refine w_icmp_eq (tgt := 39) dX3_skipBlanks_22 rfl (R32.in (by omega)) (R32.in (by decide)) (fun c22 => ?_) (fun c22 => ?_)
        · skip
          refine w_aload_n dX3_skipBlanks_39 rfl rfl (by first | decide | omega) ?_
          refine w_dup dX3_skipBlanks_40 (by simp) ?_
          refine w_getIx (o := 42) (f := 4) (x := t) fX3_skipBlanks_41 rfl rfl (Nat.le_of_ble_eq_true rfl) rfl h41 ?_
          refine w_iconst dX3_skipBlanks_44 ?_
          refine w_iadd dX3_skipBlanks_45 ?_
          refine w_putI (o := 42) (f := 4) fX3_skipBlanks_46 rfl rfl rfl rfl rfl ?_
          refine w_goto (tgt := 0) dX3_skipBlanks_49 rfl ?_
          exact ih0 _ (by omega) (t + 1) (am_up μ1 42 4 (t + 1)) rfl (hF0.up (by omega)) (by omega) (am_up_at.trans (by rfl)) (by rw [← sk_go (by omega) (by omega)]; exact hsk) (fun k h1 => ((am_up_nk (by omega)).trans (hfA k (by omega)))) (RDc.cg2 hR1 (fun o h1 => (am_up_o (by omega))) (fun k h1 => (am_up_nk (by omega))))
        · skip
          refine w_aload_n dX3_skipBlanks_25 rfl rfl (by first | decide | omega) ?_
          refine w_getR (o := 42) (x := 2) fX3_skipBlanks_26 rfl rfl rfl rfl ?_
          refine w_aload_n dX3_skipBlanks_29 rfl rfl (by first | decide | omega) ?_
          refine w_getIx (o := 42) (f := 4) (x := t) fX3_skipBlanks_30 rfl rfl (Nat.le_of_ble_eq_true rfl) rfl h41 ?_
          refine w_ialdx (o := 2) (n := 900) (x := b t) dX3_skipBlanks_33 rfl rfl (Nat.le_of_ble_eq_true rfl) (by omega) (hR1.b (by omega)) ?_
          refine w_bipush dX3_skipBlanks_34 (by decide) ?_
          refine w_icmp_ne (tgt := 52) dX3_skipBlanks_36 rfl (R32.in (by omega)) (R32.in (by decide)) (fun c36 => ?_) (fun c36 => ?_)
          · skip
            exact w_retV dX3_skipBlanks_52 rfl ⟨hF0, (h41.trans (by rw [← hsk]; first | exact (sk_end (by omega)).symm | exact (sk_no (by omega)).symm)), (fun k h1 => (hfA k (by omega))), hR1⟩
          · skip
            refine w_aload_n dX3_skipBlanks_39 rfl rfl (by first | decide | omega) ?_
            refine w_dup dX3_skipBlanks_40 (by simp) ?_
            refine w_getIx (o := 42) (f := 4) (x := t) fX3_skipBlanks_41 rfl rfl (Nat.le_of_ble_eq_true rfl) rfl h41 ?_
            refine w_iconst dX3_skipBlanks_44 ?_
            refine w_iadd dX3_skipBlanks_45 ?_
            refine w_putI (o := 42) (f := 4) fX3_skipBlanks_46 rfl rfl rfl rfl rfl ?_
            refine w_goto (tgt := 0) dX3_skipBlanks_49 rfl ?_
            exact ih0 _ (by omega) (t + 1) (am_up μ1 42 4 (t + 1)) rfl (hF0.up (by omega)) (by omega) (am_up_at.trans (by rfl)) (by rw [← sk_go (by omega) (by omega)]; exact hsk) (fun k h1 => ((am_up_nk (by omega)).trans (hfA k (by omega)))) (RDc.cg2 hR1 (fun o h1 => (am_up_o (by omega))) (fun k h1 => (am_up_nk (by omega))))
  exact hL0 _ (μ 42 4) μ rfl Fr.rf hat ((rfl : μ 42 4 = μ 42 4).trans (by rfl)) rfl (fun k h1 => rfl) hR

set_option maxRecDepth 100000 in
set_option maxHeartbeats 4000000 in
theorem s_X3_takeNumber (X : AX) (b : Int → Int) (n : Int) (q : Int) (μ : Mu) (hR : RDc b n q μ) (hat : 0 ≤ μ 42 4 ∧ μ 42 4 ≤ n) : Wp (GG X) M_X3_takeNumber 0 [(2, 42)] [] μ (qI 0 fun z μ' => (Fr 42 42 1 0 μ' μ) ∧ ((z = 1 ∧ dgA b n (μ 42 4) ∧ μ' 42 5 = nval b n (μ 42 4) ∧ μ' 42 6 = (sk b n (μ 42 4)) ∧ μ' 42 4 = de b n (sk b n (μ 42 4))) ∨ (z = 0 ∧ ¬ dgA b n (μ 42 4) ∧ μ' 42 0 = 1 ∧ μ' 42 1 = (sk b n (μ 42 4)))) ∧ (z = 1 → μ' 42 0 = μ 42 0 ∧ μ' 42 1 = μ 42 1) ∧ (∀ k : Int, (¬ k = 0 ∧ ¬ k = 1 ∧ ¬ k = 4 ∧ ¬ k = 5 ∧ ¬ k = 6) → μ' 42 k = μ 42 k) ∧ (RDc b n q μ')) := by
  have hn := hR.n
  have hq := hR.at
  have hbb := hR.bb
  refine w_aload_n dX3_takeNumber_0 rfl rfl (by first | decide | omega) ?_
  refine w_callVV (o := 42) (ci := 3) (as := []) (rest := []) (k := 0) fX3_takeNumber_1 rfl rfl rfl rfl rfl rfl rfl rfl (Nat.le_of_ble_eq_true rfl) (s_X3_skipBlanks X b n q μ hR (by first | omega | assumption)) (fun μS hμS => ?_)
  obtain ⟨hFS, h4_S, hf_S, hR_S⟩ := hμS
  have hf2 := sk_r b n (μ 42 4) (by omega)
  have hat2 : 0 ≤ μS 42 4 ∧ μS 42 4 ≤ n := by rw [h4_S]; have := sk_r b n (μ 42 4) hat.2; omega
  refine w_aload_n dX3_takeNumber_4 rfl rfl (by first | decide | omega) ?_
  refine w_aload_n dX3_takeNumber_5 rfl rfl (by first | decide | omega) ?_
  refine w_getIx (o := 42) (f := 4) (x := sk b n (μ 42 4)) fX3_takeNumber_6 rfl rfl (Nat.le_of_ble_eq_true rfl) rfl h4_S ?_
  refine w_putI (o := 42) (f := 6) fX3_takeNumber_9 rfl rfl rfl rfl rfl ?_
  refine w_aload_n dX3_takeNumber_12 rfl rfl (by first | decide | omega) ?_
  refine w_callVP (o := 42) (ci := 3) (as := []) (rest := []) (k := 0) fX3_takeNumber_13 rfl rfl rfl rfl rfl rfl rfl rfl (Nat.le_of_ble_eq_true rfl) (s_X3_isDigitHere X b n q (am_up μS 42 6 (sk b n (μ 42 4))) (RDc.cg2 hR_S (fun o h1 => (am_up_o (by omega))) (fun k h1 => (am_up_nk (by omega)))) (by rw [am_up_nk (by omega)]; exact hat2)) ?_
  have hf3 := am_b_r (48 ≤ see b n ((am_up μS 42 6 (sk b n (μ 42 4))) 42 4) ∧ see b n ((am_up μS 42 6 (sk b n (μ 42 4))) 42 4) ≤ 57)
  refine Wp.topE (b := am_b (48 ≤ see b n (sk b n (μ 42 4)) ∧ see b n (sk b n (μ 42 4)) ≤ 57)) (by rw [am_up_nk (by omega), h4_S]) ?_
  refine w_if_ne (tgt := 29) dX3_takeNumber_16 rfl (R32.in (by have := am_b_r ((48 ≤ see b n (sk b n (μ 42 4)) ∧ see b n (sk b n (μ 42 4)) ≤ 57)); omega)) (fun c16 => ?_) (fun c16 => ?_)
  · skip
    replace c16 := am_b1 c16
    refine w_aload_n dX3_takeNumber_29 rfl rfl (by first | decide | omega) ?_
    refine w_iconst dX3_takeNumber_30 ?_
    refine w_putI (o := 42) (f := 5) fX3_takeNumber_31 rfl rfl rfl rfl rfl ?_
    have hL34 : ∀ (n34 : Nat) (k : Int) (μ1 : Mu), (n - (sk b n (μ 42 4)) - k).toNat = n34 → Fr 42 42 1 0 μ1 μ → (0 ≤ k ∧ (sk b n (μ 42 4)) + k ≤ n) → (μ1 42 4 = (sk b n (μ 42 4)) + k) → (μ1 42 5 = nvl b (sk b n (μ 42 4)) k) → (μ1 42 6 = (sk b n (μ 42 4))) → (de b n ((sk b n (μ 42 4)) + k) = de b n (sk b n (μ 42 4))) → (∀ j, 0 ≤ j → j < k → 48 ≤ b ((sk b n (μ 42 4)) + j) ∧ b ((sk b n (μ 42 4)) + j) ≤ 57) → (∀ k : Int, (¬ k = 4 ∧ ¬ k = 5 ∧ ¬ k = 6) → μ1 42 k = μ 42 k) → (RDc b n q μ1) → Wp (GG X) M_X3_takeNumber 34 [(2, 42)] [] μ1 (qI 0 fun z μ' => (Fr 42 42 1 0 μ' μ) ∧ ((z = 1 ∧ dgA b n (μ 42 4) ∧ μ' 42 5 = nval b n (μ 42 4) ∧ μ' 42 6 = (sk b n (μ 42 4)) ∧ μ' 42 4 = de b n (sk b n (μ 42 4))) ∨ (z = 0 ∧ ¬ dgA b n (μ 42 4) ∧ μ' 42 0 = 1 ∧ μ' 42 1 = (sk b n (μ 42 4)))) ∧ (z = 1 → μ' 42 0 = μ 42 0 ∧ μ' 42 1 = μ 42 1) ∧ (∀ k : Int, (¬ k = 0 ∧ ¬ k = 1 ∧ ¬ k = 4 ∧ ¬ k = 5 ∧ ¬ k = 6) → μ' 42 k = μ 42 k) ∧ (RDc b n q μ')) := by
      intro n34
      induction n34 using Nat.strongRecOn with
      | ind n34 ih34 =>
        intro k μ1 hn34 hF34 hk0 h41 h51 h61 hde hdj hfA hR1
        have hskr := sk_r b n (μ 42 4) hat.2
        have hnv := (nv_two (b := b) (s := (sk b n (μ 42 4))) (m := k) hdj k hk0.1 (Int.le_refl _)).1
        refine w_aload_n dX3_takeNumber_34 rfl rfl (by first | decide | omega) ?_
        refine w_getIx (o := 42) (f := 4) (x := (sk b n (μ 42 4)) + k) fX3_takeNumber_35 rfl rfl (Nat.le_of_ble_eq_true rfl) rfl h41 ?_
        refine w_aload_n dX3_takeNumber_38 rfl rfl (by first | decide | omega) ?_
        refine w_getIx (o := 42) (f := 3) (x := n) fX3_takeNumber_39 rfl rfl (Nat.le_of_ble_eq_true rfl) rfl hR1.l ?_
        have hr4 := hR1.n
        have hr5 := hR.n
        refine w_icmp_ge (tgt := 94) dX3_takeNumber_42 rfl (R32.in (by omega)) (R32.in (by omega)) (fun c42 => ?_) (fun c42 => ?_)
        · skip
          have hdk : de b n (sk b n (μ 42 4)) = (sk b n (μ 42 4)) + k := by rw [← hde]; first | exact de_end (by omega) | exact de_no (fun q9 => c49 (by rw [h41]; unfold see; rw [if_pos (by omega)]; exact q9))
          refine w_iconst dX3_takeNumber_94 ?_
          exact w_zretI dX3_takeNumber_95 rfl (Or.inr rfl) ⟨hF34, (by exact Or.inl ⟨rfl, c16, by rw [h51]; unfold nval; rw [hdk]; congr 1; omega, h61, by rw [hdk]; exact h41⟩), (by exact fun _ => ⟨hfA 0 (by omega), hfA 1 (by omega)⟩), (fun k h1 => (hfA k (by omega))), hR1⟩
        · skip
          have hat3 : 0 ≤ μ1 42 4 ∧ μ1 42 4 ≤ n := by rw [h41]; omega
          refine w_aload_n dX3_takeNumber_45 rfl rfl (by first | decide | omega) ?_
          refine w_callVP (o := 42) (ci := 3) (as := []) (rest := []) (k := 0) fX3_takeNumber_46 rfl rfl rfl rfl rfl rfl rfl rfl (Nat.le_of_ble_eq_true rfl) (s_X3_isDigitHere X b n q μ1 hR1 (by first | omega | assumption)) ?_
          have hf6 := am_b_r (48 ≤ see b n (μ1 42 4) ∧ see b n (μ1 42 4) ≤ 57)
          refine w_if_eq (tgt := 94) dX3_takeNumber_49 rfl (R32.in (by have := am_b_r ((48 ≤ see b n (μ1 42 4) ∧ see b n (μ1 42 4) ≤ 57)); omega)) (fun c49 => ?_) (fun c49 => ?_)
          · skip
            replace c49 := am_b0 c49
            have hdk : de b n (sk b n (μ 42 4)) = (sk b n (μ 42 4)) + k := by rw [← hde]; first | exact de_end (by omega) | exact de_no (fun q9 => c49 (by rw [h41]; unfold see; rw [if_pos (by omega)]; exact q9))
            refine w_iconst dX3_takeNumber_94 ?_
            exact w_zretI dX3_takeNumber_95 rfl (Or.inr rfl) ⟨hF34, (by exact Or.inl ⟨rfl, c16, by rw [h51]; unfold nval; rw [hdk]; congr 1; omega, h61, by rw [hdk]; exact h41⟩), (by exact fun _ => ⟨hfA 0 (by omega), hfA 1 (by omega)⟩), (fun k h1 => (hfA k (by omega))), hR1⟩
          · skip
            replace c49 := am_b1 c49
            have hdg9 : 48 ≤ b ((sk b n (μ 42 4)) + k) ∧ b ((sk b n (μ 42 4)) + k) ≤ 57 := by have q9 := c49; rw [h41] at q9; unfold see at q9; rw [if_pos (by omega)] at q9; exact q9
            refine w_aload_n dX3_takeNumber_52 rfl rfl (by first | decide | omega) ?_
            refine w_ldc (n := 100000) dX3_takeNumber_53 k_489 (by decide) ?_
            refine w_aload_n dX3_takeNumber_55 rfl rfl (by first | decide | omega) ?_
            refine w_getIx (o := 42) (f := 5) (x := nvl b (sk b n (μ 42 4)) k) fX3_takeNumber_56 rfl rfl (Nat.le_of_ble_eq_true rfl) rfl h51 ?_
            refine w_bipush dX3_takeNumber_59 (by decide) ?_
            refine w_imul dX3_takeNumber_61 ?_
            refine w_aload_n dX3_takeNumber_62 rfl rfl (by first | decide | omega) ?_
            refine w_getR (o := 42) (x := 2) fX3_takeNumber_63 rfl rfl rfl rfl ?_
            refine w_aload_n dX3_takeNumber_66 rfl rfl (by first | decide | omega) ?_
            refine w_getIx (o := 42) (f := 4) (x := (sk b n (μ 42 4)) + k) fX3_takeNumber_67 rfl rfl (Nat.le_of_ble_eq_true rfl) rfl h41 ?_
            refine w_ialdx (o := 2) (n := 900) (x := b ((sk b n (μ 42 4)) + k)) dX3_takeNumber_70 rfl rfl (Nat.le_of_ble_eq_true rfl) (by omega) (hR1.b (by omega)) ?_
            have hr7 := hR1.br (j := ((sk b n (μ 42 4)) + k)) (by omega)
            have hr8 := hR.br (j := ((sk b n (μ 42 4)) + k)) (by omega)
            refine w_iadd dX3_takeNumber_71 ?_
            refine w_bipush dX3_takeNumber_72 (by decide) ?_
            refine w_isub dX3_takeNumber_74 ?_
            refine w_min fX3_takeNumber_75 (R32.in (by decide)) (R32.in (by omega)) (Nat.le_of_ble_eq_true rfl) ?_
            refine w_putI (o := 42) (f := 5) fX3_takeNumber_78 rfl rfl rfl rfl rfl ?_
            refine w_aload_n dX3_takeNumber_81 rfl rfl (by first | decide | omega) ?_
            refine w_dup dX3_takeNumber_82 (by simp) ?_
            refine w_getIx (o := 42) (f := 4) (x := (sk b n (μ 42 4)) + k) fX3_takeNumber_83 rfl rfl (Nat.le_of_ble_eq_true rfl) rfl ((am_up_nk (by omega)).trans h41) ?_
            refine w_iconst dX3_takeNumber_86 ?_
            refine w_iadd dX3_takeNumber_87 ?_
            refine w_putI (o := 42) (f := 4) fX3_takeNumber_88 rfl rfl rfl rfl rfl ?_
            refine w_goto (tgt := 34) dX3_takeNumber_91 rfl ?_
            exact ih34 _ (by omega) (k + 1) (am_up (am_up μ1 42 5 (min 100000 ((((nvl b (sk b n (μ 42 4)) k) * 10) + (b ((sk b n (μ 42 4)) + k))) - 48))) 42 4 (((sk b n (μ 42 4)) + k) + 1)) rfl ((hF34.up (by omega)).up (by omega)) (by omega) (am_up_at.trans (by omega)) (((am_up_nk (by omega)).trans am_up_at).trans (by rw [nvl_s hk0.1])) (((am_up_nk (by omega)).trans (am_up_nk (by omega))).trans (by exact h61)) (by rw [← Int.add_assoc, ← de_go (a := (sk b n (μ 42 4)) + k) (by omega) hdg9]; exact hde) (fun j h1 h2 => by by_cases e : j = k; exact e ▸ hdg9; exact hdj j h1 (by omega)) (fun k h1 => ((am_up_nk (by omega)).trans ((am_up_nk (by omega)).trans (hfA k (by omega))))) (RDc.cg2 hR1 (fun o h1 => ((am_up_o (by omega)).trans (am_up_o (by omega)))) (fun k h1 => ((am_up_nk (by omega)).trans (am_up_nk (by omega)))))
    exact hL34 _ 0 (am_up (am_up μS 42 6 (sk b n (μ 42 4))) 42 5 0) rfl ((hFS.up (by omega)).up (by omega)) (by have := sk_r b n (μ 42 4) hat.2; omega) (((am_up_nk (by omega)).trans ((am_up_nk (by omega)).trans h4_S)).trans (by omega)) (am_up_at.trans (by rfl)) (((am_up_nk (by omega)).trans am_up_at).trans (by rfl)) (by rw [Int.add_zero]) (fun j h1 h2 => by omega) (fun k h1 => ((am_up_nk (by omega)).trans ((am_up_nk (by omega)).trans (hf_S k (by omega))))) (RDc.cg2 hR_S (fun o h1 => ((am_up_o (by omega)).trans (am_up_o (by omega)))) (fun k h1 => ((am_up_nk (by omega)).trans (am_up_nk (by omega)))))
  · skip
    replace c16 := am_b0 c16
    refine w_aload_n dX3_takeNumber_19 rfl rfl (by first | decide | omega) ?_
    refine w_iconst dX3_takeNumber_20 ?_
    refine w_aload_n dX3_takeNumber_21 rfl rfl (by first | decide | omega) ?_
    refine w_getIx (o := 42) (f := 4) (x := sk b n (μ 42 4)) fX3_takeNumber_22 rfl rfl (Nat.le_of_ble_eq_true rfl) rfl ((am_up_nk (by omega)).trans h4_S) ?_
    refine w_callVI (o := 42) (ci := 3) (as := [(0, 1), (0, sk b n (μ 42 4))]) (rest := []) (k := 0) fX3_takeNumber_25 rfl rfl rfl rfl rfl rfl rfl rfl (Nat.le_of_ble_eq_true rfl) (s_X3_fail X 1 (sk b n (μ 42 4)) (am_up μS 42 6 (sk b n (μ 42 4)))) (fun xF μF hμF => ?_)
    obtain ⟨hFF, hz_F, h0_F, h1_F, hf_F⟩ := hμF
    exact w_zretI dX3_takeNumber_28 rfl (by omega) ⟨((hFF.wd (by omega) (by omega)).tr (hFS.up (by omega))), (by exact Or.inr ⟨hz_F, c16, h0_F, h1_F⟩), (by intro q9; omega), (fun k h1 => ((hf_F k (by omega)).trans ((am_up_nk (by omega)).trans (hf_S k (by omega))))), (RDc.cg2 hR_S (fun o h1 => ((hFF.at (by omega) (by omega)).trans (am_up_o (by omega)))) (fun k h1 => ((hf_F _ (by omega)).trans (am_up_nk (by omega)))))⟩
