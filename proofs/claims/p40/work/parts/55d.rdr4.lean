set_option maxRecDepth 100000 in
set_option maxHeartbeats 4000000 in
theorem s_X3_forgetTold (X : AX) (μ : Mu) : Wp (GG X) M_X3_forgetTold 0 [(2, 42), (9, 0)] [] μ (qV fun μ' => (Fr 43 44 1 0 μ' μ) ∧ (∀ k : Int, 0 ≤ k → k < 3 → μ' 43 k = 0) ∧ (∀ k : Int, 0 ≤ k → k < 4 → μ' 44 k = 0)) := by
  refine w_iconst dX3_forgetTold_0 ?_
  refine w_istore_n (ls' := [(2, 42), (0, 0)]) dX3_forgetTold_1 rfl (Nat.le_of_ble_eq_true rfl) rfl rfl ?_
  have hL2 : ∀ (n2 : Nat) (k : Int) (μ1 : Mu), (3 - k).toNat = n2 → Fr 43 44 1 0 μ1 μ → (0 ≤ k ∧ k ≤ 3) → (∀ j : Int, 0 ≤ j → j < k → μ1 43 j = 0) → Wp (GG X) M_X3_forgetTold 2 [(2, 42), (0, k)] [] μ1 (qV fun μ' => (Fr 43 44 1 0 μ' μ) ∧ (∀ k : Int, 0 ≤ k → k < 3 → μ' 43 k = 0) ∧ (∀ k : Int, 0 ≤ k → k < 4 → μ' 44 k = 0)) := by
    intro n2
    induction n2 using Nat.strongRecOn with
    | ind n2 ih2 =>
      intro k μ1 hn2 hF2 hk hr
      refine w_iload_n dX3_forgetTold_2 rfl rfl ?_
      refine w_aload_n dX3_forgetTold_3 rfl rfl (by first | decide | omega) ?_
      refine w_getR (o := 42) (x := 43) fX3_forgetTold_4 rfl rfl rfl rfl ?_
      refine w_alen (o := 43) (n := 3) (t := 1) (f := 3) dX3_forgetTold_7 rfl rfl (Nat.le_of_ble_eq_true rfl) rfl ?_
      refine w_icmp_ge (tgt := 24) dX3_forgetTold_8 rfl (R32.in (by omega)) (R32.in (by decide)) (fun c8 => ?_) (fun c8 => ?_)
      · skip
        refine w_iconst dX3_forgetTold_24 ?_
        refine w_istore_n (ls' := [(2, 42), (0, 0)]) dX3_forgetTold_25 rfl (Nat.le_of_ble_eq_true rfl) rfl rfl ?_
        have hL26 : ∀ (n26 : Nat) (k : Int) (μ2 : Mu), (4 - k).toNat = n26 → Fr 43 44 1 0 μ2 μ → (0 ≤ k ∧ k ≤ 4) → (∀ j : Int, 0 ≤ j → j < 3 → μ2 43 j = 0) → (∀ j : Int, 0 ≤ j → j < k → μ2 44 j = 0) → Wp (GG X) M_X3_forgetTold 26 [(2, 42), (0, k)] [] μ2 (qV fun μ' => (Fr 43 44 1 0 μ' μ) ∧ (∀ k : Int, 0 ≤ k → k < 3 → μ' 43 k = 0) ∧ (∀ k : Int, 0 ≤ k → k < 4 → μ' 44 k = 0)) := by
          intro n26
          induction n26 using Nat.strongRecOn with
          | ind n26 ih26 =>
            intro k μ2 hn26 hF26 hk hr3 hr4
            refine w_iload_n dX3_forgetTold_26 rfl rfl ?_
            refine w_aload_n dX3_forgetTold_27 rfl rfl (by first | decide | omega) ?_
            refine w_getR (o := 42) (x := 44) fX3_forgetTold_28 rfl rfl rfl rfl ?_
            refine w_alen (o := 44) (n := 4) (t := 1) (f := 4) dX3_forgetTold_31 rfl rfl (Nat.le_of_ble_eq_true rfl) rfl ?_
            refine w_icmp_ge (tgt := 48) dX3_forgetTold_32 rfl (R32.in (by omega)) (R32.in (by decide)) (fun c32 => ?_) (fun c32 => ?_)
            · skip
              exact w_retV dX3_forgetTold_48 rfl ⟨hF26, (by intro k9 h1 h2; exact hr3 k9 h1 h2), (by intro k9 h1 h2; exact hr4 k9 h1 (by omega))⟩
            · skip
              refine w_aload_n dX3_forgetTold_35 rfl rfl (by first | decide | omega) ?_
              refine w_getR (o := 42) (x := 44) fX3_forgetTold_36 rfl rfl rfl rfl ?_
              refine w_iload_n dX3_forgetTold_39 rfl rfl ?_
              refine w_iconst dX3_forgetTold_40 ?_
              refine w_zast (o := 44) (n := 4) dX3_forgetTold_41 rfl rfl (Nat.le_of_ble_eq_true rfl) (by omega) (by omega) (Or.inl rfl) ?_
              refine w_iinc (ls' := [(2, 42), (0, k + 1)]) dX3_forgetTold_42 rfl (Nat.le_of_ble_eq_true rfl) rfl rfl ?_
              refine w_goto (tgt := 26) dX3_forgetTold_45 rfl ?_
              exact ih26 _ (by omega) (k + 1) (am_up μ2 44 k 0) rfl (hF26.up (by omega)) (by first | omega | assumption) (fun j h1 h2 => (congrFun (am_up_o (by omega)) j).trans (hr3 j h1 h2)) (fillr (f := fun _ => 0) hr4 rfl)
        exact hL26 _ 0 μ1 rfl hF2 (by first | omega | assumption) (fun j h1 h2 => hr j h1 (by omega)) (fun j h1 h2 => by omega)
      · skip
        refine w_aload_n dX3_forgetTold_11 rfl rfl (by first | decide | omega) ?_
        refine w_getR (o := 42) (x := 43) fX3_forgetTold_12 rfl rfl rfl rfl ?_
        refine w_iload_n dX3_forgetTold_15 rfl rfl ?_
        refine w_iconst dX3_forgetTold_16 ?_
        refine w_zast (o := 43) (n := 3) dX3_forgetTold_17 rfl rfl (Nat.le_of_ble_eq_true rfl) (by omega) (by omega) (Or.inl rfl) ?_
        refine w_iinc (ls' := [(2, 42), (0, k + 1)]) dX3_forgetTold_18 rfl (Nat.le_of_ble_eq_true rfl) rfl rfl ?_
        refine w_goto (tgt := 2) dX3_forgetTold_21 rfl ?_
        exact ih2 _ (by omega) (k + 1) (am_up μ1 43 k 0) rfl (hF2.up (by omega)) (by first | omega | assumption) (fillr (f := fun _ => 0) hr rfl)
  exact hL2 _ 0 μ rfl Fr.rf (by first | omega | assumption) (fun j h1 h2 => by omega)

set_option maxRecDepth 100000 in
set_option maxHeartbeats 4000000 in
theorem s_X3_spells (X : AX) (b : Int → Int) (n : Int) (q : Int) (s : Int) (i : Int) (μ : Mu) (hR : RDc b n q μ) (hat : 0 ≤ μ 42 4 ∧ μ 42 4 ≤ n) (hs : 0 ≤ s ∧ s ≤ μ 42 4) (hi : 0 ≤ i ∧ i ≤ 5) : Wp (GG X) M_X3_spells 0 [(2, 42), (0, s), (3, i), (9, 0)] [] μ (pP 0 (am_b (spd b s (μ 42 4) i = true)) μ) := by
  have hn := hR.n
  have hq := hR.at
  have hbb := hR.bb
  have hwl := wln_r i
  refine w_aload_n dX3_spells_0 rfl rfl (by first | decide | omega) ?_
  refine w_getIx (o := 42) (f := 4) (x := μ 42 4) fX3_spells_1 rfl rfl (Nat.le_of_ble_eq_true rfl) rfl rfl ?_
  refine w_iload_n dX3_spells_4 rfl rfl ?_
  refine w_isub dX3_spells_5 ?_
  refine w_aload_nS dX3_spells_6 rfl rfl ?_
  refine w_lenK (i := (i).toNat) fX3_spells_7j (by omega) (by omega) (Nat.le_of_ble_eq_true rfl) ?_
  refine w_icmp_eq (tgt := 15) dX3_spells_10 rfl (R32.in (by omega)) (R32.in (by omega)) (fun c10 => ?_) (fun c10 => ?_)
  · skip
    refine w_iconst dX3_spells_15 ?_
    refine w_istore_n (ls' := [(2, 42), (0, s), (3, i), (0, 0)]) dX3_spells_16 rfl (Nat.le_of_ble_eq_true rfl) rfl rfl ?_
    have hL17 : ∀ (n17 : Nat) (k : Int), (wln i - k).toNat = n17 → (0 ≤ k ∧ k ≤ wln i) → (spI b s i k = true) → Wp (GG X) M_X3_spells 17 [(2, 42), (0, s), (3, i), (0, k)] [] μ (pP 0 (am_b (spd b s (μ 42 4) i = true)) μ) := by
      intro n17
      induction n17 using Nat.strongRecOn with
      | ind n17 ih17 =>
        intro k hn17 hk hsp
        refine w_iload_n dX3_spells_17 rfl rfl ?_
        refine w_aload_nS dX3_spells_18 rfl rfl ?_
        refine w_lenK (i := (i).toNat) fX3_spells_19j (by omega) (by omega) (Nat.le_of_ble_eq_true rfl) ?_
        refine w_icmp_ge (tgt := 49) dX3_spells_22 rfl (R32.in (by omega)) (R32.in (by omega)) (fun c22 => ?_) (fun c22 => ?_)
        · skip
          refine w_iconst dX3_spells_49 ?_
          exact w_zretP dX3_spells_50 rfl (Or.inr rfl) (by first | exact am_b_t (spd_t (by omega) (show k = wln i by omega) hsp) | exact am_b_f (spd_f1 (by omega)) | exact am_b_f (spd_f2 hk9 c38))
        · skip
          have hk9 : 0 ≤ k ∧ k < wln i := by omega
          have hwr := wch_r hi hk9
          have hbr := hR.br (j := s + k) (by omega)
          refine w_aload_n dX3_spells_25 rfl rfl (by first | decide | omega) ?_
          refine w_getR (o := 42) (x := 2) fX3_spells_26 rfl rfl rfl rfl ?_
          refine w_iload_n dX3_spells_29 rfl rfl ?_
          refine w_iload_n dX3_spells_30 rfl rfl ?_
          refine w_iadd dX3_spells_31 ?_
          refine w_ialdx (o := 2) (n := 900) (x := b (s + k)) dX3_spells_32 rfl rfl (Nat.le_of_ble_eq_true rfl) (by omega) (hR.b (by omega)) ?_
          have hr1 := hR.br (j := (s + k)) (by omega)
          refine w_aload_nS dX3_spells_33 rfl rfl ?_
          refine w_iload_n dX3_spells_34 rfl rfl ?_
          refine w_chK (i := (i).toNat) fX3_spells_35j (by omega) (by omega) (by omega) (Nat.le_of_ble_eq_true rfl) ?_
          refine w_icmp_eq (tgt := 43) dX3_spells_38 rfl (R32.in (by omega)) (R32.in (by omega)) (fun c38 => ?_) (fun c38 => ?_)
          · skip
            refine w_iinc (ls' := [(2, 42), (0, s), (3, i), (0, k + 1)]) dX3_spells_43 rfl (Nat.le_of_ble_eq_true rfl) rfl rfl ?_
            refine w_goto (tgt := 17) dX3_spells_46 rfl ?_
            exact ih17 _ (by omega) (k + 1) rfl (by first | omega | assumption) (by rw [spI_s (by omega), hsp, Bool.true_and, decide_eq_true_iff]; exact c38)
          · skip
            refine w_iconst dX3_spells_41 ?_
            exact w_zretP dX3_spells_42 rfl (Or.inl rfl) (by first | exact am_b_t (spd_t (by omega) (show k = wln i by omega) hsp) | exact am_b_f (spd_f1 (by omega)) | exact am_b_f (spd_f2 hk9 c38))
    exact hL17 _ 0 rfl (by first | omega | assumption) rfl
  · skip
    refine w_iconst dX3_spells_13 ?_
    exact w_zretP dX3_spells_14 rfl (Or.inl rfl) (by first | exact am_b_t (spd_t (by omega) (show k = wln i by omega) hsp) | exact am_b_f (spd_f1 (by omega)) | exact am_b_f (spd_f2 hk9 c38))

set_option maxRecDepth 100000 in
set_option maxHeartbeats 4000000 in
theorem s_X3_takeWord (X : AX) (b : Int → Int) (n : Int) (q : Int) (μ : Mu) (hR : RDc b n q μ) (hat : 0 ≤ μ 42 4 ∧ μ 42 4 ≤ n) : Wp (GG X) M_X3_takeWord 0 [(2, 42), (9, 0)] [] μ (qI 0 fun z μ' => (Fr 42 42 1 0 μ' μ) ∧ (z = wdC b (μ 42 4) (we b n (μ 42 4))) ∧ (μ' 42 4 = (we b n (μ 42 4))) ∧ (∀ k : Int, (¬ k = 4) → μ' 42 k = μ 42 k) ∧ (RDc b n q μ')) := by
  have hn := hR.n
  have hq := hR.at
  have hbb := hR.bb
  refine w_aload_n dX3_takeWord_0 rfl rfl (by first | decide | omega) ?_
  refine w_getIx (o := 42) (f := 4) (x := μ 42 4) fX3_takeWord_1 rfl rfl (Nat.le_of_ble_eq_true rfl) rfl rfl ?_
  refine w_istore_n (ls' := [(2, 42), (0, μ 42 4)]) dX3_takeWord_4 rfl (Nat.le_of_ble_eq_true rfl) rfl rfl ?_
  have hL5 : ∀ (n5 : Nat) (t : Int) (μ1 : Mu), (n - t).toNat = n5 → Fr 42 42 1 0 μ1 μ → ((μ 42 4) ≤ t ∧ t ≤ n) → (μ1 42 4 = t) → (we b n t = (we b n (μ 42 4))) → (∀ k9 : Int, (¬ k9 = 4) → μ1 42 k9 = μ 42 k9) → (RDc b n q μ1) → Wp (GG X) M_X3_takeWord 5 [(2, 42), (0, μ 42 4)] [] μ1 (qI 0 fun z μ' => (Fr 42 42 1 0 μ' μ) ∧ (z = wdC b (μ 42 4) (we b n (μ 42 4))) ∧ (μ' 42 4 = (we b n (μ 42 4))) ∧ (∀ k : Int, (¬ k = 4) → μ' 42 k = μ 42 k) ∧ (RDc b n q μ')) := by
    intro n5
    induction n5 using Nat.strongRecOn with
    | ind n5 ih5 =>
      intro t μ1 hn5 hF5 ht0 h41 hwe hfA hR1
      refine w_aload_n dX3_takeWord_5 rfl rfl (by first | decide | omega) ?_
      refine w_getIx (o := 42) (f := 4) (x := t) fX3_takeWord_6 rfl rfl (Nat.le_of_ble_eq_true rfl) rfl h41 ?_
      refine w_aload_n dX3_takeWord_9 rfl rfl (by first | decide | omega) ?_
      refine w_getIx (o := 42) (f := 3) (x := n) fX3_takeWord_10 rfl rfl (Nat.le_of_ble_eq_true rfl) rfl hR1.l ?_
      have hr1 := hR1.n
      have hr2 := hR.n
      refine w_icmp_ge (tgt := 36) dX3_takeWord_13 rfl (R32.in (by omega)) (R32.in (by omega)) (fun c13 => ?_) (fun c13 => ?_)
      · skip
        have hat1 : 0 ≤ μ1 42 4 ∧ μ1 42 4 ≤ n := by rw [h41]; omega
        have hs1 : 0 ≤ μ 42 4 ∧ μ 42 4 ≤ μ1 42 4 := by rw [h41]; omega
        have ht9 : t = (we b n (μ 42 4)) := by rw [← hwe]; first | exact (we_end (by omega)).symm | exact (we_no (fun q9 => c20 (by rw [h41]; unfold see; rw [if_pos (by omega)]; exact q9))).symm
        refine w_aload_n dX3_takeWord_36 rfl rfl (by first | decide | omega) ?_
        refine w_iload_n dX3_takeWord_37 rfl rfl ?_
        refine w_ldcS (i := 0) (q := (103, "metre")) (z := 0) dX3_takeWord_38 rfl rfl rfl ?_
        refine w_callVP (o := 42) (ci := 3) (as := [(0, μ 42 4), (3, 0)]) (rest := []) (k := 1) fX3_takeWord_40 rfl rfl rfl rfl rfl rfl rfl rfl (Nat.le_of_ble_eq_true rfl) (s_X3_spells X b n q (μ 42 4) 0 μ1 hR1 hat1 hs1 (by decide)) ?_
        have hf3 := am_b_r (spd b (μ 42 4) (μ1 42 4) 0 = true)
        refine Wp.topE (b := am_b (spd b (μ 42 4) t 0 = true)) (by rw [h41]) ?_
        refine w_if_eq (tgt := 48) dX3_takeWord_43 rfl (R32.in (by have := am_b_r ((spd b (μ 42 4) t 0 = true)); omega)) (fun c43 => ?_) (fun c43 => ?_)
        · skip
          replace c43 := am_b0 c43
          refine w_aload_n dX3_takeWord_48 rfl rfl (by first | decide | omega) ?_
          refine w_iload_n dX3_takeWord_49 rfl rfl ?_
          refine w_ldcS (i := 1) (q := (109, "split")) (z := 1) dX3_takeWord_50 rfl rfl rfl ?_
          refine w_callVP (o := 42) (ci := 3) (as := [(0, μ 42 4), (3, 1)]) (rest := []) (k := 1) fX3_takeWord_52 rfl rfl rfl rfl rfl rfl rfl rfl (Nat.le_of_ble_eq_true rfl) (s_X3_spells X b n q (μ 42 4) 1 μ1 hR1 hat1 hs1 (by decide)) ?_
          have hf4 := am_b_r (spd b (μ 42 4) (μ1 42 4) 1 = true)
          refine Wp.topE (b := am_b (spd b (μ 42 4) t 1 = true)) (by rw [h41]) ?_
          refine w_if_eq (tgt := 60) dX3_takeWord_55 rfl (R32.in (by have := am_b_r ((spd b (μ 42 4) t 1 = true)); omega)) (fun c55 => ?_) (fun c55 => ?_)
          · skip
            replace c55 := am_b0 c55
            refine w_aload_n dX3_takeWord_60 rfl rfl (by first | decide | omega) ?_
            refine w_iload_n dX3_takeWord_61 rfl rfl ?_
            refine w_ldcS (i := 2) (q := (111, "knee")) (z := 2) dX3_takeWord_62 rfl rfl rfl ?_
            refine w_callVP (o := 42) (ci := 3) (as := [(0, μ 42 4), (3, 2)]) (rest := []) (k := 1) fX3_takeWord_64 rfl rfl rfl rfl rfl rfl rfl rfl (Nat.le_of_ble_eq_true rfl) (s_X3_spells X b n q (μ 42 4) 2 μ1 hR1 hat1 hs1 (by decide)) ?_
            have hf5 := am_b_r (spd b (μ 42 4) (μ1 42 4) 2 = true)
            refine Wp.topE (b := am_b (spd b (μ 42 4) t 2 = true)) (by rw [h41]) ?_
            refine w_if_eq (tgt := 72) dX3_takeWord_67 rfl (R32.in (by have := am_b_r ((spd b (μ 42 4) t 2 = true)); omega)) (fun c67 => ?_) (fun c67 => ?_)
            · skip
              replace c67 := am_b0 c67
              refine w_aload_n dX3_takeWord_72 rfl rfl (by first | decide | omega) ?_
              refine w_iload_n dX3_takeWord_73 rfl rfl ?_
              refine w_ldcS (i := 3) (q := (113, "wide")) (z := 3) dX3_takeWord_74 rfl rfl rfl ?_
              refine w_callVP (o := 42) (ci := 3) (as := [(0, μ 42 4), (3, 3)]) (rest := []) (k := 1) fX3_takeWord_76 rfl rfl rfl rfl rfl rfl rfl rfl (Nat.le_of_ble_eq_true rfl) (s_X3_spells X b n q (μ 42 4) 3 μ1 hR1 hat1 hs1 (by decide)) ?_
              have hf6 := am_b_r (spd b (μ 42 4) (μ1 42 4) 3 = true)
              refine Wp.topE (b := am_b (spd b (μ 42 4) t 3 = true)) (by rw [h41]) ?_
              refine w_if_eq (tgt := 84) dX3_takeWord_79 rfl (R32.in (by have := am_b_r ((spd b (μ 42 4) t 3 = true)); omega)) (fun c79 => ?_) (fun c79 => ?_)
              · skip
                replace c79 := am_b0 c79
                refine w_aload_n dX3_takeWord_84 rfl rfl (by first | decide | omega) ?_
                refine w_iload_n dX3_takeWord_85 rfl rfl ?_
                refine w_ldcS (i := 4) (q := (115, "note")) (z := 4) dX3_takeWord_86 rfl rfl rfl ?_
                refine w_callVP (o := 42) (ci := 3) (as := [(0, μ 42 4), (3, 4)]) (rest := []) (k := 1) fX3_takeWord_88 rfl rfl rfl rfl rfl rfl rfl rfl (Nat.le_of_ble_eq_true rfl) (s_X3_spells X b n q (μ 42 4) 4 μ1 hR1 hat1 hs1 (by decide)) ?_
                have hf7 := am_b_r (spd b (μ 42 4) (μ1 42 4) 4 = true)
                refine Wp.topE (b := am_b (spd b (μ 42 4) t 4 = true)) (by rw [h41]) ?_
                refine w_if_eq (tgt := 96) dX3_takeWord_91 rfl (R32.in (by have := am_b_r ((spd b (μ 42 4) t 4 = true)); omega)) (fun c91 => ?_) (fun c91 => ?_)
                · skip
                  replace c91 := am_b0 c91
                  refine w_aload_n dX3_takeWord_96 rfl rfl (by first | decide | omega) ?_
                  refine w_iload_n dX3_takeWord_97 rfl rfl ?_
                  refine w_ldcS (i := 5) (q := (117, "rest")) (z := 5) dX3_takeWord_98 rfl rfl rfl ?_
                  refine w_callVP (o := 42) (ci := 3) (as := [(0, μ 42 4), (3, 5)]) (rest := []) (k := 1) fX3_takeWord_100 rfl rfl rfl rfl rfl rfl rfl rfl (Nat.le_of_ble_eq_true rfl) (s_X3_spells X b n q (μ 42 4) 5 μ1 hR1 hat1 hs1 (by decide)) ?_
                  have hf8 := am_b_r (spd b (μ 42 4) (μ1 42 4) 5 = true)
                  refine Wp.topE (b := am_b (spd b (μ 42 4) t 5 = true)) (by rw [h41]) ?_
                  refine w_if_eq (tgt := 110) dX3_takeWord_103 rfl (R32.in (by have := am_b_r ((spd b (μ 42 4) t 5 = true)); omega)) (fun c103 => ?_) (fun c103 => ?_)
                  · skip
                    replace c103 := am_b0 c103
                    refine w_iconst dX3_takeWord_110 ?_
                    exact w_iretI dX3_takeWord_111 rfl ⟨hF5, (by rw [← ht9]; first | exact (wdC_5 c43 c55 c67 c79 c91 c103).symm | exact (wdC_n c43 c55 c67 c79 c91 c103).symm), (by exact h41.trans ht9), (fun k h1 => (hfA k (by omega))), hR1⟩
                  · skip
                    replace c103 := am_b1 c103
                    refine w_iconst dX3_takeWord_106 ?_
                    refine w_goto (tgt := 111) dX3_takeWord_107 rfl ?_
                    exact w_iretI dX3_takeWord_111 rfl ⟨hF5, (by rw [← ht9]; first | exact (wdC_5 c43 c55 c67 c79 c91 c103).symm | exact (wdC_n c43 c55 c67 c79 c91 c103).symm), (by exact h41.trans ht9), (fun k h1 => (hfA k (by omega))), hR1⟩
                · skip
                  replace c91 := am_b1 c91
                  refine w_iconst dX3_takeWord_94 ?_
                  exact w_iretI dX3_takeWord_95 rfl ⟨hF5, (by rw [← ht9]; exact (wdC_4 c43 c55 c67 c79 c91).symm), (by exact h41.trans ht9), (fun k h1 => (hfA k (by omega))), hR1⟩
              · skip
                replace c79 := am_b1 c79
                refine w_iconst dX3_takeWord_82 ?_
                exact w_iretI dX3_takeWord_83 rfl ⟨hF5, (by rw [← ht9]; exact (wdC_3 c43 c55 c67 c79).symm), (by exact h41.trans ht9), (fun k h1 => (hfA k (by omega))), hR1⟩
            · skip
              replace c67 := am_b1 c67
              refine w_iconst dX3_takeWord_70 ?_
              exact w_iretI dX3_takeWord_71 rfl ⟨hF5, (by rw [← ht9]; exact (wdC_2 c43 c55 c67).symm), (by exact h41.trans ht9), (fun k h1 => (hfA k (by omega))), hR1⟩
          · skip
            replace c55 := am_b1 c55
            refine w_iconst dX3_takeWord_58 ?_
            exact w_iretI dX3_takeWord_59 rfl ⟨hF5, (by rw [← ht9]; exact (wdC_1 c43 c55).symm), (by exact h41.trans ht9), (fun k h1 => (hfA k (by omega))), hR1⟩
        · skip
          replace c43 := am_b1 c43
          refine w_iconst dX3_takeWord_46 ?_
          exact w_iretI dX3_takeWord_47 rfl ⟨hF5, (by rw [← ht9]; exact (wdC_0 c43).symm), (by exact h41.trans ht9), (fun k h1 => (hfA k (by omega))), hR1⟩
      · skip
        have hat1 : 0 ≤ μ1 42 4 ∧ μ1 42 4 ≤ n := by rw [h41]; omega
        refine w_aload_n dX3_takeWord_16 rfl rfl (by first | decide | omega) ?_
        refine w_callVP (o := 42) (ci := 3) (as := []) (rest := []) (k := 0) fX3_takeWord_17 rfl rfl rfl rfl rfl rfl rfl rfl (Nat.le_of_ble_eq_true rfl) (s_X3_isLetterHere X b n q μ1 hR1 hat1) ?_
        have hf9 := am_b_r (97 ≤ see b n (μ1 42 4) ∧ see b n (μ1 42 4) ≤ 122)
        refine w_if_eq (tgt := 36) dX3_takeWord_20 rfl (R32.in (by have := am_b_r ((97 ≤ see b n (μ1 42 4) ∧ see b n (μ1 42 4) ≤ 122)); omega)) (fun c20 => ?_) (fun c20 => ?_)
        · skip
          replace c20 := am_b0 c20
          have hat1 : 0 ≤ μ1 42 4 ∧ μ1 42 4 ≤ n := by rw [h41]; omega
          have hs1 : 0 ≤ μ 42 4 ∧ μ 42 4 ≤ μ1 42 4 := by rw [h41]; omega
          have ht9 : t = (we b n (μ 42 4)) := by rw [← hwe]; first | exact (we_end (by omega)).symm | exact (we_no (fun q9 => c20 (by rw [h41]; unfold see; rw [if_pos (by omega)]; exact q9))).symm
          refine w_aload_n dX3_takeWord_36 rfl rfl (by first | decide | omega) ?_
          refine w_iload_n dX3_takeWord_37 rfl rfl ?_
          refine w_ldcS (i := 0) (q := (103, "metre")) (z := 0) dX3_takeWord_38 rfl rfl rfl ?_
          refine w_callVP (o := 42) (ci := 3) (as := [(0, μ 42 4), (3, 0)]) (rest := []) (k := 1) fX3_takeWord_40 rfl rfl rfl rfl rfl rfl rfl rfl (Nat.le_of_ble_eq_true rfl) (s_X3_spells X b n q (μ 42 4) 0 μ1 hR1 hat1 hs1 (by decide)) ?_
          have hf10 := am_b_r (spd b (μ 42 4) (μ1 42 4) 0 = true)
          refine Wp.topE (b := am_b (spd b (μ 42 4) t 0 = true)) (by rw [h41]) ?_
          refine w_if_eq (tgt := 48) dX3_takeWord_43 rfl (R32.in (by have := am_b_r ((spd b (μ 42 4) t 0 = true)); omega)) (fun c43 => ?_) (fun c43 => ?_)
          · skip
            replace c43 := am_b0 c43
            refine w_aload_n dX3_takeWord_48 rfl rfl (by first | decide | omega) ?_
            refine w_iload_n dX3_takeWord_49 rfl rfl ?_
            refine w_ldcS (i := 1) (q := (109, "split")) (z := 1) dX3_takeWord_50 rfl rfl rfl ?_
            refine w_callVP (o := 42) (ci := 3) (as := [(0, μ 42 4), (3, 1)]) (rest := []) (k := 1) fX3_takeWord_52 rfl rfl rfl rfl rfl rfl rfl rfl (Nat.le_of_ble_eq_true rfl) (s_X3_spells X b n q (μ 42 4) 1 μ1 hR1 hat1 hs1 (by decide)) ?_
            have hf11 := am_b_r (spd b (μ 42 4) (μ1 42 4) 1 = true)
            refine Wp.topE (b := am_b (spd b (μ 42 4) t 1 = true)) (by rw [h41]) ?_
            refine w_if_eq (tgt := 60) dX3_takeWord_55 rfl (R32.in (by have := am_b_r ((spd b (μ 42 4) t 1 = true)); omega)) (fun c55 => ?_) (fun c55 => ?_)
            · skip
              replace c55 := am_b0 c55
              refine w_aload_n dX3_takeWord_60 rfl rfl (by first | decide | omega) ?_
              refine w_iload_n dX3_takeWord_61 rfl rfl ?_
              refine w_ldcS (i := 2) (q := (111, "knee")) (z := 2) dX3_takeWord_62 rfl rfl rfl ?_
              refine w_callVP (o := 42) (ci := 3) (as := [(0, μ 42 4), (3, 2)]) (rest := []) (k := 1) fX3_takeWord_64 rfl rfl rfl rfl rfl rfl rfl rfl (Nat.le_of_ble_eq_true rfl) (s_X3_spells X b n q (μ 42 4) 2 μ1 hR1 hat1 hs1 (by decide)) ?_
              have hf12 := am_b_r (spd b (μ 42 4) (μ1 42 4) 2 = true)
              refine Wp.topE (b := am_b (spd b (μ 42 4) t 2 = true)) (by rw [h41]) ?_
              refine w_if_eq (tgt := 72) dX3_takeWord_67 rfl (R32.in (by have := am_b_r ((spd b (μ 42 4) t 2 = true)); omega)) (fun c67 => ?_) (fun c67 => ?_)
              · skip
                replace c67 := am_b0 c67
                refine w_aload_n dX3_takeWord_72 rfl rfl (by first | decide | omega) ?_
                refine w_iload_n dX3_takeWord_73 rfl rfl ?_
                refine w_ldcS (i := 3) (q := (113, "wide")) (z := 3) dX3_takeWord_74 rfl rfl rfl ?_
                refine w_callVP (o := 42) (ci := 3) (as := [(0, μ 42 4), (3, 3)]) (rest := []) (k := 1) fX3_takeWord_76 rfl rfl rfl rfl rfl rfl rfl rfl (Nat.le_of_ble_eq_true rfl) (s_X3_spells X b n q (μ 42 4) 3 μ1 hR1 hat1 hs1 (by decide)) ?_
                have hf13 := am_b_r (spd b (μ 42 4) (μ1 42 4) 3 = true)
                refine Wp.topE (b := am_b (spd b (μ 42 4) t 3 = true)) (by rw [h41]) ?_
                refine w_if_eq (tgt := 84) dX3_takeWord_79 rfl (R32.in (by have := am_b_r ((spd b (μ 42 4) t 3 = true)); omega)) (fun c79 => ?_) (fun c79 => ?_)
                · skip
                  replace c79 := am_b0 c79
                  refine w_aload_n dX3_takeWord_84 rfl rfl (by first | decide | omega) ?_
                  refine w_iload_n dX3_takeWord_85 rfl rfl ?_
                  refine w_ldcS (i := 4) (q := (115, "note")) (z := 4) dX3_takeWord_86 rfl rfl rfl ?_
                  refine w_callVP (o := 42) (ci := 3) (as := [(0, μ 42 4), (3, 4)]) (rest := []) (k := 1) fX3_takeWord_88 rfl rfl rfl rfl rfl rfl rfl rfl (Nat.le_of_ble_eq_true rfl) (s_X3_spells X b n q (μ 42 4) 4 μ1 hR1 hat1 hs1 (by decide)) ?_
                  have hf14 := am_b_r (spd b (μ 42 4) (μ1 42 4) 4 = true)
                  refine Wp.topE (b := am_b (spd b (μ 42 4) t 4 = true)) (by rw [h41]) ?_
                  refine w_if_eq (tgt := 96) dX3_takeWord_91 rfl (R32.in (by have := am_b_r ((spd b (μ 42 4) t 4 = true)); omega)) (fun c91 => ?_) (fun c91 => ?_)
                  · skip
                    replace c91 := am_b0 c91
                    refine w_aload_n dX3_takeWord_96 rfl rfl (by first | decide | omega) ?_
                    refine w_iload_n dX3_takeWord_97 rfl rfl ?_
                    refine w_ldcS (i := 5) (q := (117, "rest")) (z := 5) dX3_takeWord_98 rfl rfl rfl ?_
                    refine w_callVP (o := 42) (ci := 3) (as := [(0, μ 42 4), (3, 5)]) (rest := []) (k := 1) fX3_takeWord_100 rfl rfl rfl rfl rfl rfl rfl rfl (Nat.le_of_ble_eq_true rfl) (s_X3_spells X b n q (μ 42 4) 5 μ1 hR1 hat1 hs1 (by decide)) ?_
                    have hf15 := am_b_r (spd b (μ 42 4) (μ1 42 4) 5 = true)
                    refine Wp.topE (b := am_b (spd b (μ 42 4) t 5 = true)) (by rw [h41]) ?_
                    refine w_if_eq (tgt := 110) dX3_takeWord_103 rfl (R32.in (by have := am_b_r ((spd b (μ 42 4) t 5 = true)); omega)) (fun c103 => ?_) (fun c103 => ?_)
                    · skip
                      replace c103 := am_b0 c103
                      refine w_iconst dX3_takeWord_110 ?_
                      exact w_iretI dX3_takeWord_111 rfl ⟨hF5, (by rw [← ht9]; first | exact (wdC_5 c43 c55 c67 c79 c91 c103).symm | exact (wdC_n c43 c55 c67 c79 c91 c103).symm), (by exact h41.trans ht9), (fun k h1 => (hfA k (by omega))), hR1⟩
                    · skip
                      replace c103 := am_b1 c103
                      refine w_iconst dX3_takeWord_106 ?_
                      refine w_goto (tgt := 111) dX3_takeWord_107 rfl ?_
                      exact w_iretI dX3_takeWord_111 rfl ⟨hF5, (by rw [← ht9]; first | exact (wdC_5 c43 c55 c67 c79 c91 c103).symm | exact (wdC_n c43 c55 c67 c79 c91 c103).symm), (by exact h41.trans ht9), (fun k h1 => (hfA k (by omega))), hR1⟩
                  · skip
                    replace c91 := am_b1 c91
                    refine w_iconst dX3_takeWord_94 ?_
                    exact w_iretI dX3_takeWord_95 rfl ⟨hF5, (by rw [← ht9]; exact (wdC_4 c43 c55 c67 c79 c91).symm), (by exact h41.trans ht9), (fun k h1 => (hfA k (by omega))), hR1⟩
                · skip
                  replace c79 := am_b1 c79
                  refine w_iconst dX3_takeWord_82 ?_
                  exact w_iretI dX3_takeWord_83 rfl ⟨hF5, (by rw [← ht9]; exact (wdC_3 c43 c55 c67 c79).symm), (by exact h41.trans ht9), (fun k h1 => (hfA k (by omega))), hR1⟩
              · skip
                replace c67 := am_b1 c67
                refine w_iconst dX3_takeWord_70 ?_
                exact w_iretI dX3_takeWord_71 rfl ⟨hF5, (by rw [← ht9]; exact (wdC_2 c43 c55 c67).symm), (by exact h41.trans ht9), (fun k h1 => (hfA k (by omega))), hR1⟩
            · skip
              replace c55 := am_b1 c55
              refine w_iconst dX3_takeWord_58 ?_
              exact w_iretI dX3_takeWord_59 rfl ⟨hF5, (by rw [← ht9]; exact (wdC_1 c43 c55).symm), (by exact h41.trans ht9), (fun k h1 => (hfA k (by omega))), hR1⟩
          · skip
            replace c43 := am_b1 c43
            refine w_iconst dX3_takeWord_46 ?_
            exact w_iretI dX3_takeWord_47 rfl ⟨hF5, (by rw [← ht9]; exact (wdC_0 c43).symm), (by exact h41.trans ht9), (fun k h1 => (hfA k (by omega))), hR1⟩
        · skip
          replace c20 := am_b1 c20
          have hlt9 : 97 ≤ b t ∧ b t ≤ 122 := by have q9 := c20; rw [h41] at q9; unfold see at q9; rw [if_pos (by omega)] at q9; exact q9
          refine w_aload_n dX3_takeWord_23 rfl rfl (by first | decide | omega) ?_
          refine w_dup dX3_takeWord_24 (by simp) ?_
          refine w_getIx (o := 42) (f := 4) (x := t) fX3_takeWord_25 rfl rfl (Nat.le_of_ble_eq_true rfl) rfl h41 ?_
          refine w_iconst dX3_takeWord_28 ?_
          refine w_iadd dX3_takeWord_29 ?_
          refine w_putI (o := 42) (f := 4) fX3_takeWord_30 rfl rfl rfl rfl rfl ?_
          refine w_goto (tgt := 5) dX3_takeWord_33 rfl ?_
          exact ih5 _ (by omega) (t + 1) (am_up μ1 42 4 (t + 1)) rfl (hF5.up (by omega)) (by omega) (am_up_at.trans (by rfl)) (by rw [← we_go (by omega) hlt9]; exact hwe) (fun k h1 => ((am_up_nk (by omega)).trans (hfA k (by omega)))) (RDc.cg2 hR1 (fun o h1 => (am_up_o (by omega))) (fun k h1 => (am_up_nk (by omega))))
  exact hL5 _ (μ 42 4) μ rfl Fr.rf (by omega) ((rfl : μ 42 4 = μ 42 4).trans (by rfl)) rfl (fun k h1 => rfl) hR
