set_option maxRecDepth 100000 in
set_option maxHeartbeats 4000000 in
theorem s_X7_text (X : AX) (p : Int) (q : Int) (n : Int) (μ : Mu) (h7 : μ 0 7 = p) (h8 : μ 0 8 = q) (hq : q = 20 ∨ q = 31) (hpq : p + q = 51) (h11 : 0 ≤ μ 1 1 ∧ μ 1 1 ≤ 900) (hb : ∀ j : Int, 0 ≤ j → j < 900 → 0 ≤ μ 2 j ∧ μ 2 j ≤ 255) (hn32 : -2147483648 ≤ n ∧ n ≤ 2147483647) : Wp (GG X) M_X7_text 0 [(2, 0), (0, n), (9, 0)] [] μ (qI 0 fun z μ' => (Fr 0 44 1 0 μ' μ) ∧ (((n < 0 ∨ μ 1 1 < n) → z = -2 ∧ μ' = μ) ∧ ((0 ≤ n ∧ n ≤ μ 1 1) → (μ' 1 1 = 0 ∧ ((z = -1 ∧ ¬ (rdN (μ 2) n n.toNat S0 0).1 = 0 ∧ μ' 0 7 = p ∧ μ' 0 8 = q ∧ μ' 42 0 = (rdN (μ 2) n n.toNat S0 0).1 ∧ μ' 42 1 = (rdN (μ 2) n n.toNat S0 0).2.1 ∧ μ' 3 2 = μ 3 2) ∨ (z = (rdN (μ 2) n n.toNat S0 0).2.2.1 0 1 ∧ (rdN (μ 2) n n.toNat S0 0).1 = 0 ∧ μ' 0 7 = q ∧ μ' 0 8 = p ∧ μ' 42 0 = 0 ∧ μ' 42 1 = -1 ∧ μ' 3 2 = 0 ∧ CPG (rdN (μ 2) n n.toNat S0 0).2.2.1 q μ'))))) ∧ (∀ o : Int, 2 ≤ o ∧ o ≤ 2 → μ' o = μ o) ∧ (∀ o : Int, 4 ≤ o ∧ o ≤ 19 → μ' o = μ o) ∧ (∀ o : Int, p ≤ o ∧ o ≤ p + 10 → μ' o = μ o) ∧ (∀ k : Int, (¬ k = 7 ∧ ¬ k = 8) → μ' 0 k = μ 0 k) ∧ (∀ k : Int, ¬ k = 1 → μ' 1 k = μ 1 k) ∧ (∀ k : Int, ¬ k = 2 → μ' 3 k = μ 3 k)) := by
  refine w_iload_n dX7_text_0 rfl rfl ?_
  refine w_if_lt (tgt := 15) dX7_text_1 rfl (R32.in (by omega)) (fun c1 => ?_) (fun c1 => ?_)
  · skip
    refine w_bipush dX7_text_15 (by decide) ?_
    exact w_iretI dX7_text_17 rfl ⟨Fr.rf, (by exact ⟨fun _ => ⟨rfl, rfl⟩, fun q9 => absurd q9 (by omega)⟩), (fun o h1 => rfl), (fun o h1 => rfl), (fun o h1 => rfl), (fun k h1 => rfl), (fun k h1 => rfl), (fun k h1 => rfl)⟩
  · skip
    refine w_iload_n dX7_text_4 rfl rfl ?_
    refine w_aload_n dX7_text_5 rfl rfl (by first | decide | omega) ?_
    refine w_getR (o := 0) (x := 1) fX7_text_6 rfl rfl rfl rfl ?_
    refine w_getIx (o := 1) (f := 1) (x := μ 1 1) fX7_text_9 rfl rfl (Nat.le_of_ble_eq_true rfl) rfl rfl ?_
    refine w_icmp_le (tgt := 18) dX7_text_12 rfl (R32.in (by omega)) (R32.in (by omega)) (fun c12 => ?_) (fun c12 => ?_)
    · skip
      refine w_aload_n dX7_text_18 rfl rfl (by first | decide | omega) ?_
      refine w_getR (o := 0) (x := 1) fX7_text_19 rfl rfl rfl rfl ?_
      refine w_iconst dX7_text_22 ?_
      refine w_putI (o := 1) (f := 1) fX7_text_23 rfl rfl rfl rfl rfl ?_
      refine w_aload_n dX7_text_26 rfl rfl (by first | decide | omega) ?_
      refine w_getR (o := 0) (x := 42) fX7_text_27 rfl rfl rfl rfl ?_
      refine w_iload_n dX7_text_30 rfl rfl ?_
      refine w_aload_n dX7_text_31 rfl rfl (by first | decide | omega) ?_
      refine w_getDx (o := 0) (f := 8) (x := q) fX7_text_32 rfl rfl rfl rfl ((congrFun (am_up_o (by first | decide | omega)) _).trans h8) ?_
      refine w_callVI (o := 42) (ci := 3) (as := [(0, n), (2, q)]) (rest := []) (k := 1) fX7_text_35 rfl rfl rfl rfl rfl rfl rfl rfl (Nat.le_of_ble_eq_true rfl) (s_X3_read X (μ 2) n q (am_up μ 1 1 0) (by first | omega | assumption) ⟨by omega, fun j h1 h2 => hb j h1 (by omega)⟩ (fun j h1 h2 => congrFun (am_up_o (by omega)) j)) (fun xR μR hμR => ?_)
      obtain ⟨hFR, hz_R, hz01_R⟩ := hμR
      refine w_if_ne (tgt := 43) dX7_text_38 rfl (R32.in (by omega)) (fun c38 => ?_) (fun c38 => ?_)
      · skip
        have hB := hz_R.resolve_right (fun q9 => by omega)
        have hCR : CPG (rdN (μ 2) n n.toNat S0 0).2.2.1 q μR := hB.2.2.1
        refine w_aload_n dX7_text_43 rfl rfl (by first | decide | omega) ?_
        refine w_getDx (o := 0) (f := 7) (x := p) fX7_text_44 rfl rfl rfl rfl ((congrFun (hFR.at (by omega) (by omega)) _).trans ((congrFun (am_up_o (by first | decide | omega)) _).trans h7)) ?_
        refine w_astore_n (ls' := [(2, 0), (0, n), (2, p)]) dX7_text_47 rfl (Nat.le_of_ble_eq_true rfl) rfl (by first | decide | omega) rfl ?_
        refine w_aload_n dX7_text_48 rfl rfl (by first | decide | omega) ?_
        refine w_aload_n dX7_text_49 rfl rfl (by first | decide | omega) ?_
        refine w_getDx (o := 0) (f := 8) (x := q) fX7_text_50 rfl rfl rfl rfl ((congrFun (hFR.at (by omega) (by omega)) _).trans ((congrFun (am_up_o (by first | decide | omega)) _).trans h8)) ?_
        refine w_putD (o := 0) (f := 7) fX7_text_53 rfl rfl rfl rfl rfl (by first | decide | omega) ?_
        refine w_aload_n dX7_text_56 rfl rfl (by first | decide | omega) ?_
        refine w_aload_n dX7_text_57 rfl rfl (by first | decide | omega) ?_
        refine w_putD (o := 0) (f := 8) fX7_text_58 rfl rfl rfl rfl rfl (by first | decide | omega) ?_
        refine w_aload_n dX7_text_61 rfl rfl (by first | decide | omega) ?_
        refine w_getR (o := 0) (x := 3) fX7_text_62 rfl rfl rfl rfl ?_
        refine w_iconst dX7_text_65 ?_
        refine w_putI (o := 3) (f := 2) fX7_text_66 rfl rfl rfl rfl rfl ?_
        refine w_aload_n dX7_text_69 rfl rfl (by first | decide | omega) ?_
        refine w_getDx (o := 0) (f := 7) (x := q) fX7_text_70 rfl rfl rfl rfl ((congrFun (am_up_o (by first | decide | omega)) _).trans ((am_up_nk (by omega)).trans am_up_at)) ?_
        refine w_getIx (o := (q).toNat) (f := 0) (x := μR q 0) fX7_text_73 (by omega) (pSh0 rfl rfl (by assumption)) (Nat.le_of_ble_eq_true rfl) rfl ((congrFun (am_up_o (by first | decide | omega)) _).trans ((congrFun (am_up_o (by first | decide | omega)) _).trans (congrFun (am_up_o (by first | decide | omega)) _))) ?_
        exact w_iretI dX7_text_76 rfl ⟨(((((hFR.wd (by omega) (by omega)).tr (Fr.rf.up (by omega))).up (by omega)).up (by omega)).up (by omega)), ⟨fun q9 => absurd q9 (by omega), fun q9 => ⟨(((congrFun (am_up_o (by first | decide | omega)) _).trans ((congrFun (am_up_o (by first | decide | omega)) _).trans ((congrFun (am_up_o (by first | decide | omega)) _).trans ((congrFun (hFR.at (by omega) (by omega)) _).trans am_up_at)))).trans (by rfl)), Or.inr ⟨hB.2.2.1.2.1.2.1, hB.2.1, (((congrFun (am_up_o (by first | decide | omega)) _).trans ((am_up_nk (by omega)).trans am_up_at)).trans (by rfl)), (((congrFun (am_up_o (by first | decide | omega)) _).trans am_up_at).trans (by rfl)), (((congrFun (am_up_o (by first | decide | omega)) _).trans ((congrFun (am_up_o (by first | decide | omega)) _).trans (congrFun (am_up_o (by first | decide | omega)) _))).trans (by exact hB.2.2.2.1)), (((congrFun (am_up_o (by first | decide | omega)) _).trans ((congrFun (am_up_o (by first | decide | omega)) _).trans (congrFun (am_up_o (by first | decide | omega)) _))).trans (by exact hB.2.2.2.2)), (am_up_at.trans (by rfl)), hB.2.2.1.cg (fun o h1 => (fun o h1 => ((am_up_o (by omega)).trans ((am_up_o (by omega)).trans (am_up_o (by omega))))) o h1)⟩⟩⟩, (fun o h1 => ((am_up_o (by omega)).trans ((am_up_o (by omega)).trans ((am_up_o (by omega)).trans ((hFR.at (by omega) (by omega)).trans (am_up_o (by omega))))))), (fun o h1 => ((am_up_o (by omega)).trans ((am_up_o (by omega)).trans ((am_up_o (by omega)).trans ((hFR.at (by omega) (by omega)).trans (am_up_o (by omega))))))), (fun o h1 => ((am_up_o (by omega)).trans ((am_up_o (by omega)).trans ((am_up_o (by omega)).trans ((hFR.at (by omega) (by omega)).trans (am_up_o (by omega))))))), (fun k h1 => ((congrFun (am_up_o (by omega)) _).trans ((am_up_nk (by omega)).trans ((am_up_nk (by omega)).trans ((congrFun (hFR.at (by omega) (by omega)) _).trans (congrFun (am_up_o (by omega)) _)))))), (fun k h1 => ((congrFun (am_up_o (by omega)) _).trans ((congrFun (am_up_o (by omega)) _).trans ((congrFun (am_up_o (by omega)) _).trans ((congrFun (hFR.at (by omega) (by omega)) _).trans (am_up_nk (by omega))))))), (fun k h1 => ((am_up_nk (by omega)).trans ((congrFun (am_up_o (by omega)) _).trans ((congrFun (am_up_o (by omega)) _).trans ((congrFun (hFR.at (by omega) (by omega)) _).trans (congrFun (am_up_o (by omega)) _))))))⟩
      · skip
        have hB := hz_R.resolve_left (fun q9 => by omega)
        refine w_iconst dX7_text_41 ?_
        exact w_iretI dX7_text_42 rfl ⟨((hFR.wd (by omega) (by omega)).tr (Fr.rf.up (by omega))), ⟨fun q9 => absurd q9 (by omega), fun q9 => ⟨(((congrFun (hFR.at (by omega) (by omega)) _).trans am_up_at).trans (by rfl)), Or.inl ⟨rfl, hB.2.1, (((congrFun (hFR.at (by omega) (by omega)) _).trans ((congrFun (am_up_o (by first | decide | omega)) _).trans h7)).trans (by rfl)), (((congrFun (hFR.at (by omega) (by omega)) _).trans ((congrFun (am_up_o (by first | decide | omega)) _).trans h8)).trans (by rfl)), hB.2.2.1, hB.2.2.2, (((congrFun (hFR.at (by omega) (by omega)) _).trans (congrFun (am_up_o (by first | decide | omega)) _)).trans (by rfl))⟩⟩⟩, (fun o h1 => ((hFR.at (by omega) (by omega)).trans (am_up_o (by omega)))), (fun o h1 => ((hFR.at (by omega) (by omega)).trans (am_up_o (by omega)))), (fun o h1 => ((hFR.at (by omega) (by omega)).trans (am_up_o (by omega)))), (fun k h1 => ((congrFun (hFR.at (by omega) (by omega)) _).trans (congrFun (am_up_o (by omega)) _))), (fun k h1 => ((congrFun (hFR.at (by omega) (by omega)) _).trans (am_up_nk (by omega)))), (fun k h1 => ((congrFun (hFR.at (by omega) (by omega)) _).trans (congrFun (am_up_o (by omega)) _)))⟩
    · skip
      refine w_bipush dX7_text_15 (by decide) ?_
      exact w_iretI dX7_text_17 rfl ⟨Fr.rf, (by exact ⟨fun _ => ⟨rfl, rfl⟩, fun q9 => absurd q9 (by omega)⟩), (fun o h1 => rfl), (fun o h1 => rfl), (fun o h1 => rfl), (fun k h1 => rfl), (fun k h1 => rfl), (fun k h1 => rfl)⟩
