set_option maxRecDepth 100000 in
set_option maxHeartbeats 4000000 in
theorem s_X8_laysAll (X : AX) (p : Int) (μ : Mu) (hI : PI μ p) (hP : PG μ p) (hl : prl (μ (p + 9)) (μ (p + 10)) (μ p 14) = seg (μ p 7) (fun j => runl μ p j 0) 0) (hLY : LAYS μ p) (h12 : μ 45 1 = μ p 1 ∧ μ 45 2 = μ p 2 ∧ μ 45 7 = μ p 7) (hkd : ∀ j : Int, 0 ≤ j → j < μ p 7 → μ 48 j = bok (μ (p + 3) j) ∧ μ 49 j = μ (p + 4) j) (hX : RX μ p) : Wp (GG X) M_X8_laysAll 0 [(2, 45), (9, 0), (9, 0), (9, 0), (9, 0), (9, 0)] [] μ (qV fun μ' => (Fr 45 45 51 55 μ' μ) ∧ (μ' 45 17 = μ p 14 ∧ (∀ k9 : Int, 0 ≤ k9 → k9 < μ p 14 → μ' 54 k9 = μ (p + 9) k9 ∧ μ' 55 k9 = μ (p + 10) k9)) ∧ (∀ j9 : Int, 0 ≤ j9 → j9 < μ p 7 → μ' 51 j9 = μ (p + 6) j9 ∧ μ' 52 j9 = μ (p + 7) j9 ∧ μ' 53 j9 = goR (μ (p + 8) j9)) ∧ (∀ k9 : Int, (¬ k9 = 17) → μ' 45 k9 = μ 45 k9)) := by
  have hI0 := hI
  have hp := hI0.at
  have hsz := hI0.sz
  refine w_iconst dX8_laysAll_0 ?_
  refine w_istore_n (ls' := [(2, 45), (0, 0), (9, 0), (9, 0), (9, 0), (9, 0)]) dX8_laysAll_1 rfl (Nat.le_of_ble_eq_true rfl) rfl rfl ?_
  refine w_iconst dX8_laysAll_2 ?_
  refine w_istore_n (ls' := [(2, 45), (0, 0), (0, 0), (9, 0), (9, 0), (9, 0)]) dX8_laysAll_3 rfl (Nat.le_of_ble_eq_true rfl) rfl rfl ?_
  refine w_iconst dX8_laysAll_4 ?_
  refine w_istore_n (ls' := [(2, 45), (0, 0), (0, 0), (0, 0), (9, 0), (9, 0)]) dX8_laysAll_5 rfl (Nat.le_of_ble_eq_true rfl) rfl rfl ?_
  have hL6 : ∀ (n6 : Nat) (u : Int) (t0 : Int) (a0 : Int) (μ1 : Mu), (μ p 7 - u).toNat = n6 → Fr 51 53 1 0 μ1 μ → (0 ≤ u ∧ u ≤ μ p 7) → (t0 = tqx μ p u) → (a0 = xqx μ p u) → (∀ j9 : Int, 0 ≤ j9 → j9 < u → μ1 51 j9 = μ (p + 6) j9 ∧ μ1 52 j9 = μ (p + 7) j9 ∧ μ1 53 j9 = -2) → Wp (GG X) M_X8_laysAll 6 [(2, 45), (0, t0), (0, a0), (0, u), (9, 0), (9, 0)] [] μ1 (qV fun μ' => (Fr 45 45 51 55 μ' μ) ∧ (μ' 45 17 = μ p 14 ∧ (∀ k9 : Int, 0 ≤ k9 → k9 < μ p 14 → μ' 54 k9 = μ (p + 9) k9 ∧ μ' 55 k9 = μ (p + 10) k9)) ∧ (∀ j9 : Int, 0 ≤ j9 → j9 < μ p 7 → μ' 51 j9 = μ (p + 6) j9 ∧ μ' 52 j9 = μ (p + 7) j9 ∧ μ' 53 j9 = goR (μ (p + 8) j9)) ∧ (∀ k9 : Int, (¬ k9 = 17) → μ' 45 k9 = μ 45 k9)) := by
    intro n6
    induction n6 using Nat.strongRecOn with
    | ind n6 ih6 =>
      intro u t0 a0 μ1 hn6 hF6 hu0 ht ha hr51
      have hs71 : μ1 45 7 = μ p 7 := by rw [hF6.at (o := 45) (by omega) (by omega)]; exact h12.2.2
      refine w_iload_n dX8_laysAll_6 rfl rfl ?_
      refine w_aload_n dX8_laysAll_7 rfl rfl (by first | decide | omega) ?_
      refine w_getIx (o := 45) (f := 7) (x := μ p 7) fX8_laysAll_8 rfl rfl (Nat.le_of_ble_eq_true rfl) rfl hs71 ?_
      refine w_icmp_ge (tgt := 68) dX8_laysAll_11 rfl (R32.in (by omega)) (R32.in (by omega)) (fun c11 => ?_) (fun c11 => ?_)
      · skip
        refine w_aload_n dX8_laysAll_68 rfl rfl (by first | decide | omega) ?_
        refine w_iconst dX8_laysAll_69 ?_
        have hp81 : ∀ o : Int, p ≤ o ∧ o ≤ p + 10 → μ1 o = μ o := fun o h1 => hF6.at (by omega) (by omega)
        have hI1 : PI μ1 p := (PI.cg hI (fun o h1 => (hF6.at (by omega) (by omega))))
        have hX1 : RX μ1 p := (RX.cg2 hX (fun o h1 => (hF6.at (by omega) (by omega))) (fun k h1 => (congrFun (hF6.at (by omega) (by omega)) _)))
        have hJ1 : RJl μ1 p := ⟨(by rw [hF6.at (o := 45) (by omega) (by omega), hp81 p (by omega)]; exact h12), fun j9 h1 h2 => by rw [hp81 p (by omega)] at h2; rw [hF6.at (o := 48) (by omega) (by omega), hF6.at (o := 49) (by omega) (by omega), hp81 (p + 3) (by omega), hp81 (p + 4) (by omega), hp81 (p + 6) (by omega)]; exact ⟨(hkd j9 h1 h2).1, (hkd j9 h1 h2).2, (hr51 j9 h1 (by omega)).1⟩⟩
        refine w_putI (o := 45) (f := 17) fX8_laysAll_70 rfl rfl rfl rfl rfl ?_
        refine w_iconst dX8_laysAll_73 ?_
        refine w_istore_n (ls' := [(2, 45), (0, t0), (0, a0), (0, 0), (9, 0), (9, 0)]) dX8_laysAll_74 rfl (Nat.le_of_ble_eq_true rfl) rfl rfl ?_
        have hL75 : ∀ (n75 : Nat) (i : Int) (μ2 : Mu), (μ p 7 - i).toNat = n75 → Fr 45 45 53 55 μ2 μ1 → (∀ k9 : Int, ¬ k9 = 17 → μ2 45 k9 = μ1 45 k9) → (GRR μ μ2 p i (μ2 45 17)) → (∀ j9 : Int, 0 ≤ j9 → j9 < μ p 7 → μ2 53 j9 = -2 ∨ 0 ≤ μ2 53 j9) → (∀ o : Int, o = 51 ∨ o = 52 → μ2 o = μ1 o) → Wp (GG X) M_X8_laysAll 75 [(2, 45), (9, 0), (9, 0), (0, i), (9, 0), (9, 0)] [] μ2 (qV fun μ' => (Fr 45 45 51 55 μ' μ) ∧ (μ' 45 17 = μ p 14 ∧ (∀ k9 : Int, 0 ≤ k9 → k9 < μ p 14 → μ' 54 k9 = μ (p + 9) k9 ∧ μ' 55 k9 = μ (p + 10) k9)) ∧ (∀ j9 : Int, 0 ≤ j9 → j9 < μ p 7 → μ' 51 j9 = μ (p + 6) j9 ∧ μ' 52 j9 = μ (p + 7) j9 ∧ μ' 53 j9 = goR (μ (p + 8) j9)) ∧ (∀ k9 : Int, (¬ k9 = 17) → μ' 45 k9 = μ 45 k9)) := by
          intro n75
          induction n75 using Nat.strongRecOn with
          | ind n75 ih75 =>
            intro i μ2 hn75 hF75 hfz hG hn2 hr5
            have hp9 : ∀ o : Int, p ≤ o ∧ o ≤ p + 10 → μ2 o = μ o := fun o h1 => (hF75.at (by omega) (by omega)).trans (hF6.at (by omega) (by omega))
            have hI : PI μ2 p := PI.cg hI0 hp9
            have hs72 : μ2 45 7 = μ p 7 := (hfz 7 (by omega)).trans hs71
            have hg9 := hG.1
            refine w_iload_n dX8_laysAll_75 rfl rfl ?_
            refine w_aload_n dX8_laysAll_76 rfl rfl (by first | decide | omega) ?_
            refine w_getIx (o := 45) (f := 7) (x := μ p 7) fX8_laysAll_77 rfl rfl (Nat.le_of_ble_eq_true rfl) rfl hs72 ?_
            refine w_icmp_ge (tgt := 179) dX8_laysAll_80 rfl (R32.in (by omega)) (R32.in (by omega)) (fun c80 => ?_) (fun c80 => ?_)
            · skip
              have hGE := GRR.end hG (by omega) hP hl hn2
              exact w_retV dX8_laysAll_179 rfl ⟨((hF75.wd (by omega) (by omega)).tr (hF6.wd (by omega) (by omega))), (by exact ⟨hGE.1, hGE.2.1⟩), (by exact fun j9 h1 h2 => ⟨by rw [hr5 51 (by omega)]; exact (hr51 j9 h1 (by omega)).1, by rw [hr5 52 (by omega)]; exact (hr51 j9 h1 (by omega)).2.1, hGE.2.2 j9 h1 h2⟩), (fun k h1 => ((hfz k (by omega)).trans (congrFun (hF6.at (by omega) (by omega)) _)))⟩
            · skip
              have hrl9 := runl_r μ p i 0 hI0 (by omega)
              have hs7p : μ2 p 7 = μ p 7 := by rw [hp9 p (by omega)]
              refine w_aload_n dX8_laysAll_83 rfl rfl (by first | decide | omega) ?_
              refine w_iload_n dX8_laysAll_84 rfl rfl ?_
              refine w_callVP (o := 45) (ci := 8) (as := [(0, i)]) (rest := []) (k := 0) fX8_laysAll_85 rfl rfl rfl rfl rfl rfl rfl rfl (Nat.le_of_ble_eq_true rfl) (s_X8_isBeamed_l X p i μ2 (PI.cg hI1 (fun o h1 => (hF75.at (by omega) (by omega)))) (RJl.cg2 hJ1 (fun o h1 => (hF75.at (by omega) (by omega))) (fun k h1 => (hfz _ (by omega)))) (RX.cg2 hX1 (fun o h1 => (hF75.at (by omega) (by omega))) (fun k h1 => (hfz _ (by omega)))) (by first | omega | assumption)) ?_
              have hf1 := am_b_r (0 < bmz μ2 p i)
              refine w_if_eq (tgt := 100) dX8_laysAll_88 rfl (R32.in (by have := am_b_r ((0 < bmz μ2 p i)); omega)) (fun c88 => ?_) (fun c88 => ?_)
              · skip
                replace c88 := am_b0 c88
                have hb9 : ¬ 0 < bmz μ p i := by rw [← bmz_cg9 hp9]; exact c88
                have hb0 := runl_0 (each := 0) hb9
                refine w_iload_n dX8_laysAll_100 rfl rfl ?_
                refine w_iconst dX8_laysAll_101 ?_
                refine w_iadd dX8_laysAll_102 ?_
                refine w_istore (ls' := [(2, 45), (9, 0), (9, 0), (0, i), (0, i + 1), (9, 0)]) dX8_laysAll_103 (Nat.le_of_ble_eq_true rfl) rfl rfl ?_
                refine w_iload dX8_laysAll_105 rfl ?_
                refine w_iload_n dX8_laysAll_107 rfl rfl ?_
                refine w_isub dX8_laysAll_108 ?_
                refine w_iconst dX8_laysAll_109 ?_
                refine w_icmp_le (tgt := 173) dX8_laysAll_110 rfl (R32.in (by omega)) (R32.in (by decide)) (fun c110 => ?_) (fun c110 => ?_)
                · skip
                  refine w_iload dX8_laysAll_173 rfl ?_
                  refine w_istore_n (ls' := [(2, 45), (9, 0), (9, 0), (0, i + 1), (0, i + 1), (9, 0)]) dX8_laysAll_175 rfl (Nat.le_of_ble_eq_true rfl) rfl rfl ?_
                  refine w_goto (tgt := 75) dX8_laysAll_176 rfl ?_
                  refine Wp.fgl (ls' := [(2, 45), (9, 0), (9, 0), (0, i + 1), (9, 0), (9, 0)]) 4 rfl ?_
                  exact ih75 _ (by omega) (i + 1) μ2 rfl hF75 (by first | exact hfz | exact (fun k9 h => (am_up_nk h).trans ((congrFun (hF139.at (by omega) (by omega)) _).trans (hfz k9 h)))) (by first | (rw [am_up_at]; exact GRR.up hGX (by omega)) | exact GRI_no hG (by omega) (by show ¬ 1 < runl μ p i 0; omega) | (rw [show i + runl μ p i 0 = i + 1 by omega]; exact GRI_no hG (by omega) (by show ¬ 1 < runl μ p i 0; omega))) (by first | exact hn2 | (rw [am_up_o (by omega)]; exact hnX)) (by first | exact hr5 | exact (fun o h => (am_up_o (by omega)).trans ((hF139.at (by omega) (by omega)).trans (hr5 o h))))
                · skip
                  omega
              · skip
                replace c88 := am_b1 c88
                have hb9 : 0 < bmz μ p i := by rw [← bmz_cg9 hp9]; exact c88
                have hb1 := runl_1 (each := 0) (by omega) hb9
                refine w_aload_n dX8_laysAll_91 rfl rfl (by first | decide | omega) ?_
                refine w_iload_n dX8_laysAll_92 rfl rfl ?_
                refine w_iconst dX8_laysAll_93 ?_
                refine w_callVP (o := 45) (ci := 8) (as := [(0, i), (0, 0)]) (rest := []) (k := 1) fX8_laysAll_94 rfl rfl rfl rfl rfl rfl rfl rfl (Nat.le_of_ble_eq_true rfl) (s_X8_endOf_l X p i 0 μ2 (PI.cg hI1 (fun o h1 => (hF75.at (by omega) (by omega)))) (RJl.cg2 hJ1 (fun o h1 => (hF75.at (by omega) (by omega))) (fun k h1 => (hfz _ (by omega)))) (RX.cg2 hX1 (fun o h1 => (hF75.at (by omega) (by omega))) (fun k h1 => (hfz _ (by omega)))) (by first | omega | assumption) (by omega) c88) ?_
                have hf2 := runl_r μ2 p i 0 hI (by omega)
                refine Wp.topE (b := i + runl μ p i 0) (by rw [runl_cg hp9]) ?_
                refine w_goto (tgt := 103) dX8_laysAll_97 rfl ?_
                refine w_istore (ls' := [(2, 45), (9, 0), (9, 0), (0, i), (0, i + runl μ p i 0), (9, 0)]) dX8_laysAll_103 (Nat.le_of_ble_eq_true rfl) rfl rfl ?_
                refine w_iload dX8_laysAll_105 rfl ?_
                refine w_iload_n dX8_laysAll_107 rfl rfl ?_
                refine w_isub dX8_laysAll_108 ?_
                refine w_iconst dX8_laysAll_109 ?_
                refine w_icmp_le (tgt := 173) dX8_laysAll_110 rfl (R32.in (by omega)) (R32.in (by decide)) (fun c110 => ?_) (fun c110 => ?_)
                · skip
                  refine w_iload dX8_laysAll_173 rfl ?_
                  refine w_istore_n (ls' := [(2, 45), (9, 0), (9, 0), (0, i + runl μ p i 0), (0, i + runl μ p i 0), (9, 0)]) dX8_laysAll_175 rfl (Nat.le_of_ble_eq_true rfl) rfl rfl ?_
                  refine w_goto (tgt := 75) dX8_laysAll_176 rfl ?_
                  refine Wp.fgl (ls' := [(2, 45), (9, 0), (9, 0), (0, i + runl μ p i 0), (9, 0), (9, 0)]) 4 rfl ?_
                  exact ih75 _ (by omega) (i + runl μ p i 0) μ2 rfl hF75 (by first | exact hfz | exact (fun k9 h => (am_up_nk h).trans ((congrFun (hF139.at (by omega) (by omega)) _).trans (hfz k9 h)))) (by first | (rw [am_up_at]; exact GRR.up hGX (by omega)) | exact GRI_no hG (by omega) (by show ¬ 1 < runl μ p i 0; omega) | (rw [show i + runl μ p i 0 = i + 1 by omega]; exact GRI_no hG (by omega) (by show ¬ 1 < runl μ p i 0; omega))) (by first | exact hn2 | (rw [am_up_o (by omega)]; exact hnX)) (by first | exact hr5 | exact (fun o h => (am_up_o (by omega)).trans ((hF139.at (by omega) (by omega)).trans (hr5 o h))))
                · skip
                  refine w_aload_n dX8_laysAll_113 rfl rfl (by first | decide | omega) ?_
                  refine w_getR (o := 45) (x := 54) fX8_laysAll_114 rfl rfl rfl rfl ?_
                  refine w_aload_n dX8_laysAll_117 rfl rfl (by first | decide | omega) ?_
                  refine w_getIx (o := 45) (f := 17) (x := μ2 45 17) fX8_laysAll_118 rfl rfl (Nat.le_of_ble_eq_true rfl) rfl rfl ?_
                  refine w_iload_n dX8_laysAll_121 rfl rfl ?_
                  refine w_iast (o := 54) (n := 33) dX8_laysAll_122 rfl rfl (Nat.le_of_ble_eq_true rfl) (by omega) (by omega) ?_
                  refine w_aload_n dX8_laysAll_123 rfl rfl (by first | decide | omega) ?_
                  refine w_getR (o := 45) (x := 55) fX8_laysAll_124 rfl rfl rfl rfl ?_
                  refine w_aload_n dX8_laysAll_127 rfl rfl (by first | decide | omega) ?_
                  refine w_getIx (o := 45) (f := 17) (x := μ2 45 17) fX8_laysAll_128 rfl rfl (Nat.le_of_ble_eq_true rfl) rfl (congrFun (am_up_o (by first | decide | omega)) _) ?_
                  refine w_iload dX8_laysAll_131 rfl ?_
                  refine w_iload_n dX8_laysAll_133 rfl rfl ?_
                  refine w_isub dX8_laysAll_134 ?_
                  refine w_iast (o := 55) (n := 33) dX8_laysAll_135 rfl rfl (Nat.le_of_ble_eq_true rfl) (by omega) (by omega) ?_
                  refine w_iload_n dX8_laysAll_136 rfl rfl ?_
                  refine w_istore (ls' := [(2, 45), (9, 0), (9, 0), (0, i), (0, i + runl μ p i 0), (0, i)]) dX8_laysAll_137 (Nat.le_of_ble_eq_true rfl) rfl rfl ?_
                  have hL139 : ∀ (n139 : Nat) (t : Int) (μ3 : Mu), (i + runl μ p i 0 - t).toNat = n139 → Fr 53 55 1 0 μ3 μ2 → (i ≤ t ∧ t ≤ i + runl μ p i 0) → (∀ k9 : Int, ¬ k9 = (μ2 45 17) → μ3 54 k9 = μ2 54 k9) → (∀ k9 : Int, ¬ k9 = (μ2 45 17) → μ3 55 k9 = μ2 55 k9) → (μ3 54 (μ2 45 17) = i) → (μ3 55 (μ2 45 17) = runl μ p i 0) → (∀ j9 : Int, i ≤ j9 → j9 < t → μ3 53 j9 = (μ2 45 17)) → (∀ j9 : Int, ¬ (i ≤ j9 ∧ j9 < t) → μ3 53 j9 = μ2 53 j9) → Wp (GG X) M_X8_laysAll 139 [(2, 45), (9, 0), (9, 0), (0, i), (0, i + runl μ p i 0), (0, t)] [] μ3 (qV fun μ' => (Fr 45 45 51 55 μ' μ) ∧ (μ' 45 17 = μ p 14 ∧ (∀ k9 : Int, 0 ≤ k9 → k9 < μ p 14 → μ' 54 k9 = μ (p + 9) k9 ∧ μ' 55 k9 = μ (p + 10) k9)) ∧ (∀ j9 : Int, 0 ≤ j9 → j9 < μ p 7 → μ' 51 j9 = μ (p + 6) j9 ∧ μ' 52 j9 = μ (p + 7) j9 ∧ μ' 53 j9 = goR (μ (p + 8) j9)) ∧ (∀ k9 : Int, (¬ k9 = 17) → μ' 45 k9 = μ 45 k9)) := by
                    intro n139
                    induction n139 using Nat.strongRecOn with
                    | ind n139 ih139 =>
                      intro t μ3 hn139 hF139 ht3 hFo hMo hFg hMg hO hO2
                      refine w_iload dX8_laysAll_139 rfl ?_
                      refine w_iload dX8_laysAll_141 rfl ?_
                      refine w_icmp_ge (tgt := 163) dX8_laysAll_143 rfl (R32.in (by omega)) (R32.in (by omega)) (fun c143 => ?_) (fun c143 => ?_)
                      · skip
                        refine w_aload_n dX8_laysAll_163 rfl rfl (by first | decide | omega) ?_
                        refine w_dup dX8_laysAll_164 (by simp) ?_
                        refine w_getIx (o := 45) (f := 17) (x := μ2 45 17) fX8_laysAll_165 rfl rfl (Nat.le_of_ble_eq_true rfl) rfl (congrFun (hF139.at (by omega) (by omega)) _) ?_
                        refine w_iconst dX8_laysAll_168 ?_
                        refine w_iadd dX8_laysAll_169 ?_
                        refine w_putI (o := 45) (f := 17) fX8_laysAll_170 rfl rfl rfl rfl rfl ?_
                        have hGX := GRI_go (rl := fun j => runl μ p j 0) hG (by omega) (by show 1 < runl μ p i 0; omega) (by show runl μ p i 0 ≤ _; omega) (fun j h1 h2 => trivial) hFo hMo hFg hMg (fun j h1 h2 => (congrArg goI (hO j h1 (by have h3 : j < i + runl μ p i 0 := h2; omega))).trans (goI_g (by omega))) (fun j h1 => congrArg goI (hO2 j (fun q => h1 (by show i ≤ j ∧ j < i + runl μ p i 0; omega))))
                        have hnX : ∀ j9 : Int, 0 ≤ j9 → j9 < μ p 7 → μ3 53 j9 = -2 ∨ 0 ≤ μ3 53 j9 := fun j9 h1 h2 => by by_cases e : i ≤ j9 ∧ j9 < t; (rw [hO j9 e.1 e.2]; exact Or.inr (by omega)); (rw [hO2 j9 e]; exact hn2 j9 h1 h2)
                        refine w_iload dX8_laysAll_173 rfl ?_
                        refine w_istore_n (ls' := [(2, 45), (9, 0), (9, 0), (0, i + runl μ p i 0), (0, i + runl μ p i 0), (0, t)]) dX8_laysAll_175 rfl (Nat.le_of_ble_eq_true rfl) rfl rfl ?_
                        refine w_goto (tgt := 75) dX8_laysAll_176 rfl ?_
                        refine Wp.fgl (ls' := [(2, 45), (9, 0), (9, 0), (0, i + runl μ p i 0), (9, 0), (0, t)]) 4 rfl ?_
                        refine Wp.fgl (ls' := [(2, 45), (9, 0), (9, 0), (0, i + runl μ p i 0), (9, 0), (9, 0)]) 5 rfl ?_
                        exact ih75 _ (by omega) (i + runl μ p i 0) (am_up μ3 45 17 ((μ2 45 17) + 1)) rfl (((hF139.wd (by omega) (by omega)).tr hF75).up (by omega)) (by first | exact hfz | exact (fun k9 h => (am_up_nk h).trans ((congrFun (hF139.at (by omega) (by omega)) _).trans (hfz k9 h)))) (by first | (rw [am_up_at]; exact GRR.up hGX (by omega)) | exact GRI_no hG (by omega) (by show ¬ 1 < runl μ p i 0; omega) | (rw [show i + runl μ p i 0 = i + 1 by omega]; exact GRI_no hG (by omega) (by show ¬ 1 < runl μ p i 0; omega))) (by first | exact hn2 | (rw [am_up_o (by omega)]; exact hnX)) (by first | exact hr5 | exact (fun o h => (am_up_o (by omega)).trans ((hF139.at (by omega) (by omega)).trans (hr5 o h))))
                      · skip
                        refine w_aload_n dX8_laysAll_146 rfl rfl (by first | decide | omega) ?_
                        refine w_getR (o := 45) (x := 53) fX8_laysAll_147 rfl rfl rfl rfl ?_
                        refine w_iload dX8_laysAll_150 rfl ?_
                        refine w_aload_n dX8_laysAll_152 rfl rfl (by first | decide | omega) ?_
                        refine w_getIx (o := 45) (f := 17) (x := μ2 45 17) fX8_laysAll_153 rfl rfl (Nat.le_of_ble_eq_true rfl) rfl (congrFun (hF139.at (by omega) (by omega)) _) ?_
                        refine w_iast (o := 53) (n := 64) dX8_laysAll_156 rfl rfl (Nat.le_of_ble_eq_true rfl) (by omega) (by omega) ?_
                        refine w_iinc (ls' := [(2, 45), (9, 0), (9, 0), (0, i), (0, i + runl μ p i 0), (0, t + 1)]) dX8_laysAll_157 rfl (Nat.le_of_ble_eq_true rfl) rfl rfl ?_
                        refine w_goto (tgt := 139) dX8_laysAll_160 rfl ?_
                        exact ih139 _ (by omega) (t + 1) (am_up μ3 53 t (μ2 45 17)) rfl (hF139.up (by omega)) (by omega) (fun k9 h => (congrFun (am_up_o (by omega)) k9).trans (hFo k9 h)) (fun k9 h => (congrFun (am_up_o (by omega)) k9).trans (hMo k9 h)) ((congrFun (am_up_o (by omega)) _).trans hFg) ((congrFun (am_up_o (by omega)) _).trans hMg) (fun j9 h1 h2 => by rw [up_if]; by_cases e : j9 = t; exact if_pos e; rw [if_neg e]; exact hO j9 h1 (by omega)) (fun j9 h1 => by rw [up_if, if_neg (by omega)]; exact hO2 j9 (by omega))
                  exact hL139 _ i (am_up (am_up μ2 54 (μ2 45 17) i) 55 (μ2 45 17) ((i + runl μ p i 0) - i)) rfl ((Fr.rf.up (by omega)).up (by omega)) (by omega) (fun k9 h => (congrFun (am_up_o (by omega)) k9).trans (am_up_nk h)) (fun k9 h => (am_up_nk h).trans (congrFun (am_up_o (by omega)) k9)) ((congrFun (am_up_o (by omega)) _).trans am_up_at) (am_up_at.trans (by omega)) (fun j9 h1 h2 => by omega) (fun j9 h1 => (congrFun (am_up_o (by omega)) j9).trans (congrFun (am_up_o (by omega)) j9))
        refine Wp.fgl (ls' := [(2, 45), (9, 0), (0, a0), (0, 0), (9, 0), (9, 0)]) 1 rfl ?_
        refine Wp.fgl (ls' := [(2, 45), (9, 0), (9, 0), (0, 0), (9, 0), (9, 0)]) 2 rfl ?_
        exact hL75 _ 0 (am_up μ1 45 17 0) rfl (Fr.rf.up (by omega)) (fun k9 h => am_up_nk h) (by rw [am_up_at]; exact GRR.up (GRI_0 (by omega) (fun j h1 h2 => (congrArg goI (hr51 j h1 (by omega)).2.2).trans goI_n)) (by omega)) (fun j9 h1 h2 => Or.inl ((congrFun (am_up_o (by omega)) j9).trans (hr51 j9 h1 (by omega)).2.2)) (fun o h => am_up_o (by omega))
      · skip
        have hti := hLY.t (i := u) (by omega)
        have hxi := hLY.x (i := u) (by omega)
        have htr := hI0.tm (q := p + 6) (i := u) rfl (by omega)
        have hxr := hI0.xs (q := p + 7) (i := u) rfl (by omega)
        refine w_aload_n dX8_laysAll_14 rfl rfl (by first | decide | omega) ?_
        refine w_getR (o := 45) (x := 51) fX8_laysAll_15 rfl rfl rfl rfl ?_
        refine w_iload_n dX8_laysAll_18 rfl rfl ?_
        refine w_iload_n dX8_laysAll_19 rfl rfl ?_
        refine w_iast (o := 51) (n := 64) dX8_laysAll_20 rfl rfl (Nat.le_of_ble_eq_true rfl) (by omega) (by omega) ?_
        refine w_aload_n dX8_laysAll_21 rfl rfl (by first | decide | omega) ?_
        refine w_getR (o := 45) (x := 52) fX8_laysAll_22 rfl rfl rfl rfl ?_
        refine w_iload_n dX8_laysAll_25 rfl rfl ?_
        refine w_iload_n dX8_laysAll_26 rfl rfl ?_
        refine w_iast (o := 52) (n := 64) dX8_laysAll_27 rfl rfl (Nat.le_of_ble_eq_true rfl) (by omega) (by omega) ?_
        refine w_iload_n dX8_laysAll_28 rfl rfl ?_
        refine w_aload_n dX8_laysAll_29 rfl rfl (by first | decide | omega) ?_
        refine w_getR (o := 45) (x := 48) fX8_laysAll_30 rfl rfl rfl rfl ?_
        refine w_iload_n dX8_laysAll_33 rfl rfl ?_
        refine w_ialdx (o := 48) (n := 64) (x := bok (μ (p + 3) u)) dX8_laysAll_34 rfl rfl (Nat.le_of_ble_eq_true rfl) (by omega) ((congrFun (am_up_o (by first | decide | omega)) _).trans ((congrFun (am_up_o (by first | decide | omega)) _).trans ((congrFun (hF6.at (by omega) (by omega)) _).trans ((hkd _ (by omega) (by omega)).1)))) ?_
        have hr3 := bok_f (μ (p + 3) u)
        refine w_callSP (as := [(0, bok (μ (p + 3) u))]) (rest := [(0, t0)]) (k := 0) fX8_laysAll_35 rfl rfl rfl rfl rfl (Nat.le_of_ble_eq_true rfl) (s_X8_longOf X (μ (p + 3) u) (am_up (am_up μ1 51 u t0) 52 u a0)) ?_
        have hf4 := lok_r (μ (p + 3) u)
        refine w_iadd dX8_laysAll_38 ?_
        refine w_istore_n (ls' := [(2, 45), (0, t0 + (lok (μ (p + 3) u))), (0, a0), (0, u), (9, 0), (9, 0)]) dX8_laysAll_39 rfl (Nat.le_of_ble_eq_true rfl) rfl rfl ?_
        refine w_iload_n dX8_laysAll_40 rfl rfl ?_
        refine w_aload_n dX8_laysAll_41 rfl rfl (by first | decide | omega) ?_
        refine w_getR (o := 45) (x := 47) fX8_laysAll_42 rfl rfl rfl rfl ?_
        refine w_aload_n dX8_laysAll_45 rfl rfl (by first | decide | omega) ?_
        refine w_getR (o := 45) (x := 48) fX8_laysAll_46 rfl rfl rfl rfl ?_
        refine w_iload_n dX8_laysAll_49 rfl rfl ?_
        refine w_ialdx (o := 48) (n := 64) (x := bok (μ (p + 3) u)) dX8_laysAll_50 rfl rfl (Nat.le_of_ble_eq_true rfl) (by omega) ((congrFun (am_up_o (by first | decide | omega)) _).trans ((congrFun (am_up_o (by first | decide | omega)) _).trans ((congrFun (hF6.at (by omega) (by omega)) _).trans ((hkd _ (by omega) (by omega)).1)))) ?_
        refine w_ialdx (o := 47) (n := 4) (x := μ (p + 2) (bok (μ (p + 3) u))) dX8_laysAll_51 rfl rfl (Nat.le_of_ble_eq_true rfl) (by omega) ((congrFun (am_up_o (by first | decide | omega)) _).trans ((congrFun (am_up_o (by first | decide | omega)) _).trans ((congrFun (hF6.at (by omega) (by omega)) _).trans (hX.wd (by omega))))) ?_
        have hr5 := PI.wd hI (q := p + 2) (i := (bok (μ (p + 3) u))) rfl (by omega)
        have hr6 := PI.wd hI0 (q := p + 2) (i := (bok (μ (p + 3) u))) rfl (by omega)
        refine w_iadd dX8_laysAll_52 ?_
        refine w_istore_n (ls' := [(2, 45), (0, t0 + (lok (μ (p + 3) u))), (0, a0 + (μ (p + 2) (bok (μ (p + 3) u)))), (0, u), (9, 0), (9, 0)]) dX8_laysAll_53 rfl (Nat.le_of_ble_eq_true rfl) rfl rfl ?_
        refine w_aload_n dX8_laysAll_54 rfl rfl (by first | decide | omega) ?_
        refine w_getR (o := 45) (x := 53) fX8_laysAll_55 rfl rfl rfl rfl ?_
        refine w_iload_n dX8_laysAll_58 rfl rfl ?_
        refine w_bipush dX8_laysAll_59 (by decide) ?_
        refine w_iast (o := 53) (n := 64) dX8_laysAll_61 rfl rfl (Nat.le_of_ble_eq_true rfl) (by omega) (by omega) ?_
        refine w_iinc (ls' := [(2, 45), (0, t0 + (lok (μ (p + 3) u))), (0, a0 + (μ (p + 2) (bok (μ (p + 3) u)))), (0, u + 1), (9, 0), (9, 0)]) dX8_laysAll_62 rfl (Nat.le_of_ble_eq_true rfl) rfl rfl ?_
        refine w_goto (tgt := 6) dX8_laysAll_65 rfl ?_
        exact ih6 _ (by omega) (u + 1) (t0 + (lok (μ (p + 3) u))) (a0 + (μ (p + 2) (bok (μ (p + 3) u)))) (am_up (am_up (am_up μ1 51 u t0) 52 u a0) 53 u (-2)) rfl (((hF6.up (by omega)).up (by omega)).up (by omega)) (by omega) (by rw [tqx_s hu0.1]; omega) (by rw [xqx_s hu0.1]; omega) (fun j9 h1 h2 => by by_cases e : j9 = u; (rw [e]; exact ⟨(congrFun (am_up_o (by omega)) _).trans ((congrFun (am_up_o (by omega)) _).trans (am_up_at.trans (ht.trans hti))), (congrFun (am_up_o (by omega)) _).trans (am_up_at.trans (ha.trans hxi)), am_up_at⟩); (have h9 := hr51 j9 h1 (by omega); exact ⟨(congrFun (am_up_o (by omega)) _).trans ((congrFun (am_up_o (by omega)) _).trans ((am_up_nk e).trans h9.1)), (congrFun (am_up_o (by omega)) _).trans ((am_up_nk e).trans ((congrFun (am_up_o (by omega)) _).trans h9.2.1)), (am_up_nk e).trans ((congrFun (am_up_o (by omega)) _).trans ((congrFun (am_up_o (by omega)) _).trans h9.2.2))⟩))
  exact hL6 _ 0 0 0 μ rfl Fr.rf (by omega) tqx_0.symm xqx_0.symm (fun j9 h1 h2 => by omega)
