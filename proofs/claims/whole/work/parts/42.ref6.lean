set_option maxRecDepth 100000 in
set_option maxHeartbeats 4000000 in
theorem s_X8_laysTotal (X : AX) (DD : Int → GDt) (F : Int → Int) (ng : Int) (μ : Mu) (hA : RAg DD F ng μ) : Wp (GG X) M_X8_laysTotal 0 [(2, 45), (9, 0), (9, 0), (9, 0)] [] μ (qV fun μ' => (Fr 45 45 57 61 μ' μ) ∧ (μ' 45 30 = (tst DD ng).1) ∧ (μ' 45 31 = (tst DD ng).2.1) ∧ (μ' 45 32 = (tst DD ng).2.2.1) ∧ (μ' 45 33 = (tst DD ng).2.2.2.2) ∧ (RAg DD F ng μ') ∧ (∀ k : Int, (¬ (21 ≤ k ∧ k ≤ 24) ∧ ¬ (29 ≤ k ∧ k ≤ 33)) → μ' 45 k = μ 45 k)) := by
  have hr := hA.r
  have hdd := hA.dd
  refine w_aload_n dX8_laysTotal_0 rfl rfl (by first | decide | omega) ?_
  refine w_iconst dX8_laysTotal_1 ?_
  refine w_putI (o := 45) (f := 30) fX8_laysTotal_2 rfl rfl rfl rfl rfl ?_
  refine w_aload_n dX8_laysTotal_5 rfl rfl (by first | decide | omega) ?_
  refine w_iconst dX8_laysTotal_6 ?_
  refine w_putI (o := 45) (f := 31) fX8_laysTotal_7 rfl rfl rfl rfl rfl ?_
  refine w_aload_n dX8_laysTotal_10 rfl rfl (by first | decide | omega) ?_
  refine w_bipush dX8_laysTotal_11 (by decide) ?_
  refine w_putI (o := 45) (f := 32) fX8_laysTotal_13 rfl rfl rfl rfl rfl ?_
  refine w_aload_n dX8_laysTotal_16 rfl rfl (by first | decide | omega) ?_
  refine w_iconst dX8_laysTotal_17 ?_
  refine w_putI (o := 45) (f := 33) fX8_laysTotal_18 rfl rfl rfl rfl rfl ?_
  refine w_iconst dX8_laysTotal_21 ?_
  refine w_istore_n (ls' := [(2, 45), (0, 0), (9, 0), (9, 0)]) dX8_laysTotal_22 rfl (Nat.le_of_ble_eq_true rfl) rfl rfl ?_
  refine w_iconst dX8_laysTotal_23 ?_
  refine w_istore_n (ls' := [(2, 45), (0, 0), (0, 0), (9, 0)]) dX8_laysTotal_24 rfl (Nat.le_of_ble_eq_true rfl) rfl rfl ?_
  have hL25 : ∀ (n25 : Nat) (g : Int) (m : Int) (μ1 : Mu), (ng - g).toNat = n25 → Fr 45 45 57 61 μ1 μ → (0 ≤ g ∧ g ≤ ng) → (RAg DD F ng μ1) → (μ1 45 30 = (tst DD g).1) → (μ1 45 31 = (tst DD g).2.1) → (μ1 45 32 = (tst DD g).2.2.1) → (μ1 45 33 = (tst DD g).2.2.2.2) → (m = max 0 (tst DD g).2.2.2.1) → (∀ k : Int, (¬ (21 ≤ k ∧ k ≤ 24) ∧ ¬ (29 ≤ k ∧ k ≤ 33)) → μ1 45 k = μ 45 k) → Wp (GG X) M_X8_laysTotal 25 [(2, 45), (0, m), (0, g), (9, 0)] [] μ1 (qV fun μ' => (Fr 45 45 57 61 μ' μ) ∧ (μ' 45 30 = (tst DD ng).1) ∧ (μ' 45 31 = (tst DD ng).2.1) ∧ (μ' 45 32 = (tst DD ng).2.2.1) ∧ (μ' 45 33 = (tst DD ng).2.2.2.2) ∧ (RAg DD F ng μ') ∧ (∀ k : Int, (¬ (21 ≤ k ∧ k ≤ 24) ∧ ¬ (29 ≤ k ∧ k ≤ 33)) → μ' 45 k = μ 45 k)) := by
    intro n25
    induction n25 using Nat.strongRecOn with
    | ind n25 ih25 =>
      intro g m μ1 hn25 hF25 hg0 hA1 h0 h1 h2 h3 hm hfA
      have htr := tst_r hdd g hg0.1 hg0.2
      have htw := tst_w hdd g hg0.1 hg0.2
      refine w_iload_n dX8_laysTotal_25 rfl rfl ?_
      refine w_aload_n dX8_laysTotal_26 rfl rfl (by first | decide | omega) ?_
      refine w_getIx (o := 45) (f := 17) (x := ng) fX8_laysTotal_27 rfl rfl (Nat.le_of_ble_eq_true rfl) rfl hA1.n ?_
      have hr1 := hA1.r
      have hr2 := hA.r
      refine w_icmp_ge (tgt := 118) dX8_laysTotal_30 rfl (R32.in (by omega)) (R32.in (by omega)) (fun c30 => ?_) (fun c30 => ?_)
      · skip
        exact w_retV dX8_laysTotal_118 rfl ⟨hF25, (by have he : g = ng := (by omega); rw [← he]; exact h0), (by have he : g = ng := (by omega); rw [← he]; exact h1), (by have he : g = ng := (by omega); rw [← he]; exact h2), (by have he : g = ng := (by omega); rw [← he]; exact h3), hA1, (fun k h1 => (hfA k (by omega)))⟩
      · skip
        refine w_aload_n dX8_laysTotal_33 rfl rfl (by first | decide | omega) ?_
        refine w_iload_n dX8_laysTotal_34 rfl rfl ?_
        refine w_iconst dX8_laysTotal_35 ?_
        refine w_callVI (o := 45) (ci := 8) (as := [(0, g), (0, 2)]) (rest := []) (k := 1) fX8_laysTotal_36 rfl rfl rfl rfl rfl rfl rfl rfl (Nat.le_of_ble_eq_true rfl) (s_X8_bestOf X (DD g) (F g) g 2 μ1 (hA1.gp (by omega)) (by first | omega | assumption)) (fun xB μB hμB => ?_)
        obtain ⟨hFB, hz_B, hS_B, hf_B⟩ := hμB
        have hgk := hA1.gp (g := g) (by omega)
        have hans := ansB_2 hgk.ok
        have hur := bU_r hgk.ok
        have hbk : am_b (¬ klow (DD g) = 99) = if klow (DD g) = 99 then 0 else 1 := (by by_cases q : klow (DD g) = 99 <;> simp [am_b, q])
        refine w_istore_n (ls' := [(2, 45), (0, m), (0, g), (0, xB)]) dX8_laysTotal_39 rfl (Nat.le_of_ble_eq_true rfl) rfl rfl ?_
        refine w_aload_n dX8_laysTotal_40 rfl rfl (by first | decide | omega) ?_
        refine w_dup dX8_laysTotal_41 (by simp) ?_
        refine w_getIx (o := 45) (f := 33) (x := (tst DD g).2.2.2.2) fX8_laysTotal_42 rfl rfl (Nat.le_of_ble_eq_true rfl) rfl ((hf_B _ (by omega)).trans h3) ?_
        refine w_aload_n dX8_laysTotal_45 rfl rfl (by first | decide | omega) ?_
        refine w_getIx (o := 45) (f := 21) (x := am_b (¬ klow (DD g) = 99)) fX8_laysTotal_46 rfl rfl (Nat.le_of_ble_eq_true rfl) rfl hS_B.1.rw.kn ?_
        refine w_if_eq (tgt := 56) dX8_laysTotal_49 rfl (R32.in (by have := am_b_r ((¬ klow (DD g) = 99)); omega)) (fun c49 => ?_) (fun c49 => ?_)
        · skip
          replace c49 := am_b0 c49
          refine w_iconst dX8_laysTotal_56 ?_
          refine w_iadd dX8_laysTotal_57 ?_
          refine w_putI (o := 45) (f := 33) fX8_laysTotal_58 rfl rfl rfl rfl rfl ?_
          refine w_iload_n dX8_laysTotal_61 rfl rfl ?_
          refine w_ldc (n := -1000000) dX8_laysTotal_62 k_1620 (by decide) ?_
          refine w_icmp_ne (tgt := 80) dX8_laysTotal_64 rfl (R32.in (by omega)) (R32.in (by decide)) (fun c64 => ?_) (fun c64 => ?_)
          · skip
            refine w_aload_n dX8_laysTotal_80 rfl rfl (by first | decide | omega) ?_
            refine w_dup dX8_laysTotal_81 (by simp) ?_
            refine w_getIx (o := 45) (f := 30) (x := (tst DD g).1) fX8_laysTotal_82 rfl rfl (Nat.le_of_ble_eq_true rfl) rfl ((am_up_nk (by omega)).trans ((hf_B _ (by omega)).trans h0)) ?_
            refine w_iload_n dX8_laysTotal_85 rfl rfl ?_
            refine w_iadd dX8_laysTotal_86 ?_
            refine w_putI (o := 45) (f := 30) fX8_laysTotal_87 rfl rfl rfl rfl rfl ?_
            refine w_aload_n dX8_laysTotal_90 rfl rfl (by first | decide | omega) ?_
            refine w_getIx (o := 45) (f := 32) (x := (tst DD g).2.2.1) fX8_laysTotal_91 rfl rfl (Nat.le_of_ble_eq_true rfl) rfl ((am_up_nk (by omega)).trans ((am_up_nk (by omega)).trans ((hf_B _ (by omega)).trans h2))) ?_
            refine w_if_lt (tgt := 105) dX8_laysTotal_94 rfl (R32.in (by omega)) (fun c94 => ?_) (fun c94 => ?_)
            · skip
              refine w_aload_n dX8_laysTotal_105 rfl rfl (by first | decide | omega) ?_
              refine w_iload_n dX8_laysTotal_106 rfl rfl ?_
              refine w_putI (o := 45) (f := 32) fX8_laysTotal_107 rfl rfl rfl rfl rfl ?_
              refine w_iload_n dX8_laysTotal_110 rfl rfl ?_
              refine w_istore_n (ls' := [(2, 45), (0, xB), (0, g), (0, xB)]) dX8_laysTotal_111 rfl (Nat.le_of_ble_eq_true rfl) rfl rfl ?_
              refine w_iinc (ls' := [(2, 45), (0, xB), (0, g + 1), (0, xB)]) dX8_laysTotal_112 rfl (Nat.le_of_ble_eq_true rfl) rfl rfl ?_
              refine w_goto (tgt := 25) dX8_laysTotal_115 rfl ?_
              refine Wp.fgl (ls' := [(2, 45), (0, xB), (0, g + 1), (9, 0)]) 3 rfl ?_
              exact ih25 _ (by omega) (g + 1) xB (am_up (am_up (am_up μB 45 33 (((tst DD g).2.2.2.2) + 0)) 45 30 (((tst DD g).1) + xB)) 45 32 g) rfl (((((hFB.wd (by omega) (by omega)).tr hF25).up (by omega)).up (by omega)).up (by omega)) (by first | omega | assumption) (RAg.cg2 hA1 (fun o h1 => ((am_up_o (by omega)).trans ((am_up_o (by omega)).trans ((am_up_o (by omega)).trans (hFB.at (by omega) (by omega)))))) (fun k h1 => ((am_up_nk (by omega)).trans ((am_up_nk (by omega)).trans ((am_up_nk (by omega)).trans (hf_B _ (by omega))))))) (((am_up_nk (by omega)).trans am_up_at).trans (by rw [tst_s hg0.1]; first | (rw [tstep_no (by omega)] <;> (try dsimp only) <;> omega) | (rw [tstep_ya (by omega)] <;> (try dsimp only) <;> omega))) (((am_up_nk (by omega)).trans ((am_up_nk (by omega)).trans ((am_up_nk (by omega)).trans ((hf_B _ (by omega)).trans h1)))).trans (by rw [tst_s hg0.1]; first | (rw [tstep_no (by omega)] <;> (try dsimp only) <;> omega) | (rw [tstep_ya (by omega)] <;> (try dsimp only) <;> omega))) (am_up_at.trans (by rw [tst_s hg0.1]; first | (rw [tstep_no (by omega)] <;> (try dsimp only) <;> omega) | (rw [tstep_ya (by omega)] <;> (try dsimp only) <;> omega))) (((am_up_nk (by omega)).trans ((am_up_nk (by omega)).trans am_up_at)).trans (by rw [tst_s hg0.1]; first | (rw [tstep_no (by omega)] <;> (try dsimp only) <;> omega) | (rw [tstep_ya (by omega)] <;> (try dsimp only) <;> omega))) (by rw [tst_s hg0.1]; first | (rw [tstep_no (by omega)] <;> (try dsimp only) <;> omega) | (rw [tstep_ya (by omega)] <;> (try dsimp only) <;> omega)) (fun k h1 => ((am_up_nk (by omega)).trans ((am_up_nk (by omega)).trans ((am_up_nk (by omega)).trans ((hf_B k (by omega)).trans (hfA k (by omega)))))))
            · skip
              refine w_iload_n dX8_laysTotal_97 rfl rfl ?_
              refine w_iload_n dX8_laysTotal_98 rfl rfl ?_
              refine w_icmp_gt (tgt := 105) dX8_laysTotal_99 rfl (R32.in (by omega)) (R32.in (by omega)) (fun c99 => ?_) (fun c99 => ?_)
              · skip
                refine w_aload_n dX8_laysTotal_105 rfl rfl (by first | decide | omega) ?_
                refine w_iload_n dX8_laysTotal_106 rfl rfl ?_
                refine w_putI (o := 45) (f := 32) fX8_laysTotal_107 rfl rfl rfl rfl rfl ?_
                refine w_iload_n dX8_laysTotal_110 rfl rfl ?_
                refine w_istore_n (ls' := [(2, 45), (0, xB), (0, g), (0, xB)]) dX8_laysTotal_111 rfl (Nat.le_of_ble_eq_true rfl) rfl rfl ?_
                refine w_iinc (ls' := [(2, 45), (0, xB), (0, g + 1), (0, xB)]) dX8_laysTotal_112 rfl (Nat.le_of_ble_eq_true rfl) rfl rfl ?_
                refine w_goto (tgt := 25) dX8_laysTotal_115 rfl ?_
                refine Wp.fgl (ls' := [(2, 45), (0, xB), (0, g + 1), (9, 0)]) 3 rfl ?_
                exact ih25 _ (by omega) (g + 1) xB (am_up (am_up (am_up μB 45 33 (((tst DD g).2.2.2.2) + 0)) 45 30 (((tst DD g).1) + xB)) 45 32 g) rfl (((((hFB.wd (by omega) (by omega)).tr hF25).up (by omega)).up (by omega)).up (by omega)) (by first | omega | assumption) (RAg.cg2 hA1 (fun o h1 => ((am_up_o (by omega)).trans ((am_up_o (by omega)).trans ((am_up_o (by omega)).trans (hFB.at (by omega) (by omega)))))) (fun k h1 => ((am_up_nk (by omega)).trans ((am_up_nk (by omega)).trans ((am_up_nk (by omega)).trans (hf_B _ (by omega))))))) (((am_up_nk (by omega)).trans am_up_at).trans (by rw [tst_s hg0.1]; first | (rw [tstep_no (by omega)] <;> (try dsimp only) <;> omega) | (rw [tstep_ya (by omega)] <;> (try dsimp only) <;> omega))) (((am_up_nk (by omega)).trans ((am_up_nk (by omega)).trans ((am_up_nk (by omega)).trans ((hf_B _ (by omega)).trans h1)))).trans (by rw [tst_s hg0.1]; first | (rw [tstep_no (by omega)] <;> (try dsimp only) <;> omega) | (rw [tstep_ya (by omega)] <;> (try dsimp only) <;> omega))) (am_up_at.trans (by rw [tst_s hg0.1]; first | (rw [tstep_no (by omega)] <;> (try dsimp only) <;> omega) | (rw [tstep_ya (by omega)] <;> (try dsimp only) <;> omega))) (((am_up_nk (by omega)).trans ((am_up_nk (by omega)).trans am_up_at)).trans (by rw [tst_s hg0.1]; first | (rw [tstep_no (by omega)] <;> (try dsimp only) <;> omega) | (rw [tstep_ya (by omega)] <;> (try dsimp only) <;> omega))) (by rw [tst_s hg0.1]; first | (rw [tstep_no (by omega)] <;> (try dsimp only) <;> omega) | (rw [tstep_ya (by omega)] <;> (try dsimp only) <;> omega)) (fun k h1 => ((am_up_nk (by omega)).trans ((am_up_nk (by omega)).trans ((am_up_nk (by omega)).trans ((hf_B k (by omega)).trans (hfA k (by omega)))))))
              · skip
                refine w_goto (tgt := 112) dX8_laysTotal_102 rfl ?_
                refine w_iinc (ls' := [(2, 45), (0, m), (0, g + 1), (0, xB)]) dX8_laysTotal_112 rfl (Nat.le_of_ble_eq_true rfl) rfl rfl ?_
                refine w_goto (tgt := 25) dX8_laysTotal_115 rfl ?_
                refine Wp.fgl (ls' := [(2, 45), (0, m), (0, g + 1), (9, 0)]) 3 rfl ?_
                exact ih25 _ (by omega) (g + 1) m (am_up (am_up μB 45 33 (((tst DD g).2.2.2.2) + 0)) 45 30 (((tst DD g).1) + xB)) rfl ((((hFB.wd (by omega) (by omega)).tr hF25).up (by omega)).up (by omega)) (by first | omega | assumption) (RAg.cg2 hA1 (fun o h1 => ((am_up_o (by omega)).trans ((am_up_o (by omega)).trans (hFB.at (by omega) (by omega))))) (fun k h1 => ((am_up_nk (by omega)).trans ((am_up_nk (by omega)).trans (hf_B _ (by omega)))))) (am_up_at.trans (by rw [tst_s hg0.1]; first | (rw [tstep_no (by omega)] <;> (try dsimp only) <;> omega) | (rw [tstep_ya (by omega)] <;> (try dsimp only) <;> omega))) (((am_up_nk (by omega)).trans ((am_up_nk (by omega)).trans ((hf_B _ (by omega)).trans h1))).trans (by rw [tst_s hg0.1]; first | (rw [tstep_no (by omega)] <;> (try dsimp only) <;> omega) | (rw [tstep_ya (by omega)] <;> (try dsimp only) <;> omega))) (((am_up_nk (by omega)).trans ((am_up_nk (by omega)).trans ((hf_B _ (by omega)).trans h2))).trans (by rw [tst_s hg0.1]; first | (rw [tstep_no (by omega)] <;> (try dsimp only) <;> omega) | (rw [tstep_ya (by omega)] <;> (try dsimp only) <;> omega))) (((am_up_nk (by omega)).trans am_up_at).trans (by rw [tst_s hg0.1]; first | (rw [tstep_no (by omega)] <;> (try dsimp only) <;> omega) | (rw [tstep_ya (by omega)] <;> (try dsimp only) <;> omega))) (by rw [tst_s hg0.1]; first | (rw [tstep_no (by omega)] <;> (try dsimp only) <;> omega) | (rw [tstep_ya (by omega)] <;> (try dsimp only) <;> omega)) (fun k h1 => ((am_up_nk (by omega)).trans ((am_up_nk (by omega)).trans ((hf_B k (by omega)).trans (hfA k (by omega))))))
          · skip
            refine w_aload_n dX8_laysTotal_67 rfl rfl (by first | decide | omega) ?_
            refine w_dup dX8_laysTotal_68 (by simp) ?_
            refine w_getIx (o := 45) (f := 31) (x := (tst DD g).2.1) fX8_laysTotal_69 rfl rfl (Nat.le_of_ble_eq_true rfl) rfl ((am_up_nk (by omega)).trans ((hf_B _ (by omega)).trans h1)) ?_
            refine w_iconst dX8_laysTotal_72 ?_
            refine w_iadd dX8_laysTotal_73 ?_
            refine w_putI (o := 45) (f := 31) fX8_laysTotal_74 rfl rfl rfl rfl rfl ?_
            refine w_goto (tgt := 112) dX8_laysTotal_77 rfl ?_
            refine w_iinc (ls' := [(2, 45), (0, m), (0, g + 1), (0, xB)]) dX8_laysTotal_112 rfl (Nat.le_of_ble_eq_true rfl) rfl rfl ?_
            refine w_goto (tgt := 25) dX8_laysTotal_115 rfl ?_
            refine Wp.fgl (ls' := [(2, 45), (0, m), (0, g + 1), (9, 0)]) 3 rfl ?_
            exact ih25 _ (by omega) (g + 1) m (am_up (am_up μB 45 33 (((tst DD g).2.2.2.2) + 0)) 45 31 (((tst DD g).2.1) + 1)) rfl ((((hFB.wd (by omega) (by omega)).tr hF25).up (by omega)).up (by omega)) (by first | omega | assumption) (RAg.cg2 hA1 (fun o h1 => ((am_up_o (by omega)).trans ((am_up_o (by omega)).trans (hFB.at (by omega) (by omega))))) (fun k h1 => ((am_up_nk (by omega)).trans ((am_up_nk (by omega)).trans (hf_B _ (by omega)))))) (((am_up_nk (by omega)).trans ((am_up_nk (by omega)).trans ((hf_B _ (by omega)).trans h0))).trans (by rw [tst_s hg0.1]; first | (rw [tstep_no (by omega)] <;> (try dsimp only) <;> omega) | (rw [tstep_ya (by omega)] <;> (try dsimp only) <;> omega))) (am_up_at.trans (by rw [tst_s hg0.1]; first | (rw [tstep_no (by omega)] <;> (try dsimp only) <;> omega) | (rw [tstep_ya (by omega)] <;> (try dsimp only) <;> omega))) (((am_up_nk (by omega)).trans ((am_up_nk (by omega)).trans ((hf_B _ (by omega)).trans h2))).trans (by rw [tst_s hg0.1]; first | (rw [tstep_no (by omega)] <;> (try dsimp only) <;> omega) | (rw [tstep_ya (by omega)] <;> (try dsimp only) <;> omega))) (((am_up_nk (by omega)).trans am_up_at).trans (by rw [tst_s hg0.1]; first | (rw [tstep_no (by omega)] <;> (try dsimp only) <;> omega) | (rw [tstep_ya (by omega)] <;> (try dsimp only) <;> omega))) (by rw [tst_s hg0.1]; first | (rw [tstep_no (by omega)] <;> (try dsimp only) <;> omega) | (rw [tstep_ya (by omega)] <;> (try dsimp only) <;> omega)) (fun k h1 => ((am_up_nk (by omega)).trans ((am_up_nk (by omega)).trans ((hf_B k (by omega)).trans (hfA k (by omega))))))
        · skip
          replace c49 := am_b1 c49
          refine w_iconst dX8_laysTotal_52 ?_
          refine w_goto (tgt := 57) dX8_laysTotal_53 rfl ?_
          refine w_iadd dX8_laysTotal_57 ?_
          refine w_putI (o := 45) (f := 33) fX8_laysTotal_58 rfl rfl rfl rfl rfl ?_
          refine w_iload_n dX8_laysTotal_61 rfl rfl ?_
          refine w_ldc (n := -1000000) dX8_laysTotal_62 k_1620 (by decide) ?_
          refine w_icmp_ne (tgt := 80) dX8_laysTotal_64 rfl (R32.in (by omega)) (R32.in (by decide)) (fun c64 => ?_) (fun c64 => ?_)
          · skip
            refine w_aload_n dX8_laysTotal_80 rfl rfl (by first | decide | omega) ?_
            refine w_dup dX8_laysTotal_81 (by simp) ?_
            refine w_getIx (o := 45) (f := 30) (x := (tst DD g).1) fX8_laysTotal_82 rfl rfl (Nat.le_of_ble_eq_true rfl) rfl ((am_up_nk (by omega)).trans ((hf_B _ (by omega)).trans h0)) ?_
            refine w_iload_n dX8_laysTotal_85 rfl rfl ?_
            refine w_iadd dX8_laysTotal_86 ?_
            refine w_putI (o := 45) (f := 30) fX8_laysTotal_87 rfl rfl rfl rfl rfl ?_
            refine w_aload_n dX8_laysTotal_90 rfl rfl (by first | decide | omega) ?_
            refine w_getIx (o := 45) (f := 32) (x := (tst DD g).2.2.1) fX8_laysTotal_91 rfl rfl (Nat.le_of_ble_eq_true rfl) rfl ((am_up_nk (by omega)).trans ((am_up_nk (by omega)).trans ((hf_B _ (by omega)).trans h2))) ?_
            refine w_if_lt (tgt := 105) dX8_laysTotal_94 rfl (R32.in (by omega)) (fun c94 => ?_) (fun c94 => ?_)
            · skip
              refine w_aload_n dX8_laysTotal_105 rfl rfl (by first | decide | omega) ?_
              refine w_iload_n dX8_laysTotal_106 rfl rfl ?_
              refine w_putI (o := 45) (f := 32) fX8_laysTotal_107 rfl rfl rfl rfl rfl ?_
              refine w_iload_n dX8_laysTotal_110 rfl rfl ?_
              refine w_istore_n (ls' := [(2, 45), (0, xB), (0, g), (0, xB)]) dX8_laysTotal_111 rfl (Nat.le_of_ble_eq_true rfl) rfl rfl ?_
              refine w_iinc (ls' := [(2, 45), (0, xB), (0, g + 1), (0, xB)]) dX8_laysTotal_112 rfl (Nat.le_of_ble_eq_true rfl) rfl rfl ?_
              refine w_goto (tgt := 25) dX8_laysTotal_115 rfl ?_
              refine Wp.fgl (ls' := [(2, 45), (0, xB), (0, g + 1), (9, 0)]) 3 rfl ?_
              exact ih25 _ (by omega) (g + 1) xB (am_up (am_up (am_up μB 45 33 (((tst DD g).2.2.2.2) + 1)) 45 30 (((tst DD g).1) + xB)) 45 32 g) rfl (((((hFB.wd (by omega) (by omega)).tr hF25).up (by omega)).up (by omega)).up (by omega)) (by first | omega | assumption) (RAg.cg2 hA1 (fun o h1 => ((am_up_o (by omega)).trans ((am_up_o (by omega)).trans ((am_up_o (by omega)).trans (hFB.at (by omega) (by omega)))))) (fun k h1 => ((am_up_nk (by omega)).trans ((am_up_nk (by omega)).trans ((am_up_nk (by omega)).trans (hf_B _ (by omega))))))) (((am_up_nk (by omega)).trans am_up_at).trans (by rw [tst_s hg0.1]; first | (rw [tstep_no (by omega)] <;> (try dsimp only) <;> omega) | (rw [tstep_ya (by omega)] <;> (try dsimp only) <;> omega))) (((am_up_nk (by omega)).trans ((am_up_nk (by omega)).trans ((am_up_nk (by omega)).trans ((hf_B _ (by omega)).trans h1)))).trans (by rw [tst_s hg0.1]; first | (rw [tstep_no (by omega)] <;> (try dsimp only) <;> omega) | (rw [tstep_ya (by omega)] <;> (try dsimp only) <;> omega))) (am_up_at.trans (by rw [tst_s hg0.1]; first | (rw [tstep_no (by omega)] <;> (try dsimp only) <;> omega) | (rw [tstep_ya (by omega)] <;> (try dsimp only) <;> omega))) (((am_up_nk (by omega)).trans ((am_up_nk (by omega)).trans am_up_at)).trans (by rw [tst_s hg0.1]; first | (rw [tstep_no (by omega)] <;> (try dsimp only) <;> omega) | (rw [tstep_ya (by omega)] <;> (try dsimp only) <;> omega))) (by rw [tst_s hg0.1]; first | (rw [tstep_no (by omega)] <;> (try dsimp only) <;> omega) | (rw [tstep_ya (by omega)] <;> (try dsimp only) <;> omega)) (fun k h1 => ((am_up_nk (by omega)).trans ((am_up_nk (by omega)).trans ((am_up_nk (by omega)).trans ((hf_B k (by omega)).trans (hfA k (by omega)))))))
            · skip
              refine w_iload_n dX8_laysTotal_97 rfl rfl ?_
              refine w_iload_n dX8_laysTotal_98 rfl rfl ?_
              refine w_icmp_gt (tgt := 105) dX8_laysTotal_99 rfl (R32.in (by omega)) (R32.in (by omega)) (fun c99 => ?_) (fun c99 => ?_)
              · skip
                refine w_aload_n dX8_laysTotal_105 rfl rfl (by first | decide | omega) ?_
                refine w_iload_n dX8_laysTotal_106 rfl rfl ?_
                refine w_putI (o := 45) (f := 32) fX8_laysTotal_107 rfl rfl rfl rfl rfl ?_
                refine w_iload_n dX8_laysTotal_110 rfl rfl ?_
                refine w_istore_n (ls' := [(2, 45), (0, xB), (0, g), (0, xB)]) dX8_laysTotal_111 rfl (Nat.le_of_ble_eq_true rfl) rfl rfl ?_
                refine w_iinc (ls' := [(2, 45), (0, xB), (0, g + 1), (0, xB)]) dX8_laysTotal_112 rfl (Nat.le_of_ble_eq_true rfl) rfl rfl ?_
                refine w_goto (tgt := 25) dX8_laysTotal_115 rfl ?_
                refine Wp.fgl (ls' := [(2, 45), (0, xB), (0, g + 1), (9, 0)]) 3 rfl ?_
                exact ih25 _ (by omega) (g + 1) xB (am_up (am_up (am_up μB 45 33 (((tst DD g).2.2.2.2) + 1)) 45 30 (((tst DD g).1) + xB)) 45 32 g) rfl (((((hFB.wd (by omega) (by omega)).tr hF25).up (by omega)).up (by omega)).up (by omega)) (by first | omega | assumption) (RAg.cg2 hA1 (fun o h1 => ((am_up_o (by omega)).trans ((am_up_o (by omega)).trans ((am_up_o (by omega)).trans (hFB.at (by omega) (by omega)))))) (fun k h1 => ((am_up_nk (by omega)).trans ((am_up_nk (by omega)).trans ((am_up_nk (by omega)).trans (hf_B _ (by omega))))))) (((am_up_nk (by omega)).trans am_up_at).trans (by rw [tst_s hg0.1]; first | (rw [tstep_no (by omega)] <;> (try dsimp only) <;> omega) | (rw [tstep_ya (by omega)] <;> (try dsimp only) <;> omega))) (((am_up_nk (by omega)).trans ((am_up_nk (by omega)).trans ((am_up_nk (by omega)).trans ((hf_B _ (by omega)).trans h1)))).trans (by rw [tst_s hg0.1]; first | (rw [tstep_no (by omega)] <;> (try dsimp only) <;> omega) | (rw [tstep_ya (by omega)] <;> (try dsimp only) <;> omega))) (am_up_at.trans (by rw [tst_s hg0.1]; first | (rw [tstep_no (by omega)] <;> (try dsimp only) <;> omega) | (rw [tstep_ya (by omega)] <;> (try dsimp only) <;> omega))) (((am_up_nk (by omega)).trans ((am_up_nk (by omega)).trans am_up_at)).trans (by rw [tst_s hg0.1]; first | (rw [tstep_no (by omega)] <;> (try dsimp only) <;> omega) | (rw [tstep_ya (by omega)] <;> (try dsimp only) <;> omega))) (by rw [tst_s hg0.1]; first | (rw [tstep_no (by omega)] <;> (try dsimp only) <;> omega) | (rw [tstep_ya (by omega)] <;> (try dsimp only) <;> omega)) (fun k h1 => ((am_up_nk (by omega)).trans ((am_up_nk (by omega)).trans ((am_up_nk (by omega)).trans ((hf_B k (by omega)).trans (hfA k (by omega)))))))
              · skip
                refine w_goto (tgt := 112) dX8_laysTotal_102 rfl ?_
                refine w_iinc (ls' := [(2, 45), (0, m), (0, g + 1), (0, xB)]) dX8_laysTotal_112 rfl (Nat.le_of_ble_eq_true rfl) rfl rfl ?_
                refine w_goto (tgt := 25) dX8_laysTotal_115 rfl ?_
                refine Wp.fgl (ls' := [(2, 45), (0, m), (0, g + 1), (9, 0)]) 3 rfl ?_
                exact ih25 _ (by omega) (g + 1) m (am_up (am_up μB 45 33 (((tst DD g).2.2.2.2) + 1)) 45 30 (((tst DD g).1) + xB)) rfl ((((hFB.wd (by omega) (by omega)).tr hF25).up (by omega)).up (by omega)) (by first | omega | assumption) (RAg.cg2 hA1 (fun o h1 => ((am_up_o (by omega)).trans ((am_up_o (by omega)).trans (hFB.at (by omega) (by omega))))) (fun k h1 => ((am_up_nk (by omega)).trans ((am_up_nk (by omega)).trans (hf_B _ (by omega)))))) (am_up_at.trans (by rw [tst_s hg0.1]; first | (rw [tstep_no (by omega)] <;> (try dsimp only) <;> omega) | (rw [tstep_ya (by omega)] <;> (try dsimp only) <;> omega))) (((am_up_nk (by omega)).trans ((am_up_nk (by omega)).trans ((hf_B _ (by omega)).trans h1))).trans (by rw [tst_s hg0.1]; first | (rw [tstep_no (by omega)] <;> (try dsimp only) <;> omega) | (rw [tstep_ya (by omega)] <;> (try dsimp only) <;> omega))) (((am_up_nk (by omega)).trans ((am_up_nk (by omega)).trans ((hf_B _ (by omega)).trans h2))).trans (by rw [tst_s hg0.1]; first | (rw [tstep_no (by omega)] <;> (try dsimp only) <;> omega) | (rw [tstep_ya (by omega)] <;> (try dsimp only) <;> omega))) (((am_up_nk (by omega)).trans am_up_at).trans (by rw [tst_s hg0.1]; first | (rw [tstep_no (by omega)] <;> (try dsimp only) <;> omega) | (rw [tstep_ya (by omega)] <;> (try dsimp only) <;> omega))) (by rw [tst_s hg0.1]; first | (rw [tstep_no (by omega)] <;> (try dsimp only) <;> omega) | (rw [tstep_ya (by omega)] <;> (try dsimp only) <;> omega)) (fun k h1 => ((am_up_nk (by omega)).trans ((am_up_nk (by omega)).trans ((hf_B k (by omega)).trans (hfA k (by omega))))))
          · skip
            refine w_aload_n dX8_laysTotal_67 rfl rfl (by first | decide | omega) ?_
            refine w_dup dX8_laysTotal_68 (by simp) ?_
            refine w_getIx (o := 45) (f := 31) (x := (tst DD g).2.1) fX8_laysTotal_69 rfl rfl (Nat.le_of_ble_eq_true rfl) rfl ((am_up_nk (by omega)).trans ((hf_B _ (by omega)).trans h1)) ?_
            refine w_iconst dX8_laysTotal_72 ?_
            refine w_iadd dX8_laysTotal_73 ?_
            refine w_putI (o := 45) (f := 31) fX8_laysTotal_74 rfl rfl rfl rfl rfl ?_
            refine w_goto (tgt := 112) dX8_laysTotal_77 rfl ?_
            refine w_iinc (ls' := [(2, 45), (0, m), (0, g + 1), (0, xB)]) dX8_laysTotal_112 rfl (Nat.le_of_ble_eq_true rfl) rfl rfl ?_
            refine w_goto (tgt := 25) dX8_laysTotal_115 rfl ?_
            refine Wp.fgl (ls' := [(2, 45), (0, m), (0, g + 1), (9, 0)]) 3 rfl ?_
            exact ih25 _ (by omega) (g + 1) m (am_up (am_up μB 45 33 (((tst DD g).2.2.2.2) + 1)) 45 31 (((tst DD g).2.1) + 1)) rfl ((((hFB.wd (by omega) (by omega)).tr hF25).up (by omega)).up (by omega)) (by first | omega | assumption) (RAg.cg2 hA1 (fun o h1 => ((am_up_o (by omega)).trans ((am_up_o (by omega)).trans (hFB.at (by omega) (by omega))))) (fun k h1 => ((am_up_nk (by omega)).trans ((am_up_nk (by omega)).trans (hf_B _ (by omega)))))) (((am_up_nk (by omega)).trans ((am_up_nk (by omega)).trans ((hf_B _ (by omega)).trans h0))).trans (by rw [tst_s hg0.1]; first | (rw [tstep_no (by omega)] <;> (try dsimp only) <;> omega) | (rw [tstep_ya (by omega)] <;> (try dsimp only) <;> omega))) (am_up_at.trans (by rw [tst_s hg0.1]; first | (rw [tstep_no (by omega)] <;> (try dsimp only) <;> omega) | (rw [tstep_ya (by omega)] <;> (try dsimp only) <;> omega))) (((am_up_nk (by omega)).trans ((am_up_nk (by omega)).trans ((hf_B _ (by omega)).trans h2))).trans (by rw [tst_s hg0.1]; first | (rw [tstep_no (by omega)] <;> (try dsimp only) <;> omega) | (rw [tstep_ya (by omega)] <;> (try dsimp only) <;> omega))) (((am_up_nk (by omega)).trans am_up_at).trans (by rw [tst_s hg0.1]; first | (rw [tstep_no (by omega)] <;> (try dsimp only) <;> omega) | (rw [tstep_ya (by omega)] <;> (try dsimp only) <;> omega))) (by rw [tst_s hg0.1]; first | (rw [tstep_no (by omega)] <;> (try dsimp only) <;> omega) | (rw [tstep_ya (by omega)] <;> (try dsimp only) <;> omega)) (fun k h1 => ((am_up_nk (by omega)).trans ((am_up_nk (by omega)).trans ((hf_B k (by omega)).trans (hfA k (by omega))))))
  exact hL25 _ 0 0 (am_up (am_up (am_up (am_up μ 45 30 0) 45 31 0) 45 32 (-2)) 45 33 0) rfl ((((Fr.rf.up (by omega)).up (by omega)).up (by omega)).up (by omega)) (by first | omega | assumption) (RAg.cg2 hA (fun o h1 => ((am_up_o (by omega)).trans ((am_up_o (by omega)).trans ((am_up_o (by omega)).trans (am_up_o (by omega)))))) (fun k h1 => ((am_up_nk (by omega)).trans ((am_up_nk (by omega)).trans ((am_up_nk (by omega)).trans (am_up_nk (by omega))))))) (((am_up_nk (by omega)).trans ((am_up_nk (by omega)).trans ((am_up_nk (by omega)).trans am_up_at))).trans (by rfl)) (((am_up_nk (by omega)).trans ((am_up_nk (by omega)).trans am_up_at)).trans (by rfl)) (((am_up_nk (by omega)).trans am_up_at).trans (by rfl)) (am_up_at.trans (by rfl)) rfl (fun k h1 => ((am_up_nk (by omega)).trans ((am_up_nk (by omega)).trans ((am_up_nk (by omega)).trans (am_up_nk (by omega))))))
