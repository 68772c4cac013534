set_option maxRecDepth 100000 in
set_option maxHeartbeats 4000000 in
theorem s_X6_take (X : AX) (p : Int) (kn : Int) (μ ν : Mu) (hA9 : ∀ o : Int, (p ≤ o ∧ o ≤ p + 10) → ν o = μ o) (hI : PI μ p) (hG : PG μ p) (hLA : LDA μ p (p + 5) kn) : Wp (GG X) M_X6_take 0 [(2, 15), (2, p), (2, p + 5), (0, kn), (2, 6), (9, 0), (9, 0), (9, 0), (9, 0), (9, 0)] [] ν (qV fun μ' => (Fr 6 15 1 0 μ' ν) ∧ (μ' 15 0 = (tst (ddt μ p (p + 5) kn) (μ p 14)).1) ∧ (μ' 15 1 = (tst (ddt μ p (p + 5) kn) (μ p 14)).2.1) ∧ (μ' 15 2 = (tst (ddt μ p (p + 5) kn) (μ p 14)).2.2.1) ∧ (μ' 15 3 = (tst (ddt μ p (p + 5) kn) (μ p 14)).2.2.2.2)) := by
  have hp := hI.at
  have hgr := hG.gr
  have hdd := hLA.dd hI hG
  refine w_aload_n dX6_take_0 rfl rfl (by first | decide | omega) ?_
  refine w_iconst dX6_take_1 ?_
  refine w_putI (o := 15) (f := 0) fX6_take_2 rfl rfl rfl rfl rfl ?_
  refine w_aload_n dX6_take_5 rfl rfl (by first | decide | omega) ?_
  refine w_iconst dX6_take_6 ?_
  refine w_putI (o := 15) (f := 1) fX6_take_7 rfl rfl rfl rfl rfl ?_
  refine w_aload_n dX6_take_10 rfl rfl (by first | decide | omega) ?_
  refine w_bipush dX6_take_11 (by decide) ?_
  refine w_putI (o := 15) (f := 2) fX6_take_13 rfl rfl rfl rfl rfl ?_
  refine w_aload_n dX6_take_16 rfl rfl (by first | decide | omega) ?_
  refine w_iconst dX6_take_17 ?_
  refine w_putI (o := 15) (f := 3) fX6_take_18 rfl rfl rfl rfl rfl ?_
  refine w_iconst dX6_take_21 ?_
  refine w_istore (ls' := [(2, 15), (2, p), (2, p + 5), (0, kn), (2, 6), (0, -1), (9, 0), (9, 0), (9, 0), (9, 0)]) dX6_take_22 (Nat.le_of_ble_eq_true rfl) rfl rfl ?_
  refine w_iconst dX6_take_24 ?_
  refine w_istore (ls' := [(2, 15), (2, p), (2, p + 5), (0, kn), (2, 6), (0, -1), (0, 0), (9, 0), (9, 0), (9, 0)]) dX6_take_25 (Nat.le_of_ble_eq_true rfl) rfl rfl ?_
  have hL27 : ∀ (n27 : Nat) (g : Int) (m : Int) (μ1 : Mu), (μ p 14 - g).toNat = n27 → Fr 6 15 1 0 μ1 ν → (0 ≤ g ∧ g ≤ μ p 14) → (μ1 15 0 = (tst (ddt μ p (p + 5) kn) g).1) → (μ1 15 1 = (tst (ddt μ p (p + 5) kn) g).2.1) → (μ1 15 2 = (tst (ddt μ p (p + 5) kn) g).2.2.1) → (μ1 15 3 = (tst (ddt μ p (p + 5) kn) g).2.2.2.2) → (m = (tst (ddt μ p (p + 5) kn) g).2.2.2.1) → Wp (GG X) M_X6_take 27 [(2, 15), (2, p), (2, p + 5), (0, kn), (2, 6), (0, m), (0, g), (9, 0), (9, 0), (9, 0)] [] μ1 (qV fun μ' => (Fr 6 15 1 0 μ' ν) ∧ (μ' 15 0 = (tst (ddt μ p (p + 5) kn) (μ p 14)).1) ∧ (μ' 15 1 = (tst (ddt μ p (p + 5) kn) (μ p 14)).2.1) ∧ (μ' 15 2 = (tst (ddt μ p (p + 5) kn) (μ p 14)).2.2.1) ∧ (μ' 15 3 = (tst (ddt μ p (p + 5) kn) (μ p 14)).2.2.2.2)) := by
    intro n27
    induction n27 using Nat.strongRecOn with
    | ind n27 ih27 =>
      intro g m μ1 hn27 hF27 hg0 h0 h1 h2 h3 hm
      have htr := tst_r hdd g hg0.1 hg0.2
      refine w_iload dX6_take_27 rfl ?_
      refine w_aload_n dX6_take_29 rfl rfl (by first | decide | omega) ?_
      refine w_getIx (o := (p).toNat) (f := 14) (x := μ p 14) fX6_take_30 (by omega) (pSh0 rfl rfl (by assumption)) (Nat.le_of_ble_eq_true rfl) rfl ((congrFun (hF27.at (by omega) (by omega)) _).trans (congrFun (hA9 _ (by omega)) _)) ?_
      have hr1 := PG.gr hG
      refine w_icmp_ge (tgt := 162) dX6_take_33 rfl (R32.in (by omega)) (R32.in (by omega)) (fun c33 => ?_) (fun c33 => ?_)
      · skip
        exact w_retV dX6_take_162 rfl ⟨hF27, (by have he : g = μ p 14 := (by omega); rw [← he]; exact h0), (by have he : g = μ p 14 := (by omega); rw [← he]; exact h1), (by have he : g = μ p 14 := (by omega); rw [← he]; exact h2), (by have he : g = μ p 14 := (by omega); rw [← he]; exact h3)⟩
      · skip
        refine w_aload dX6_take_36 rfl (by first | decide | omega) ?_
        refine w_aload_n dX6_take_38 rfl rfl (by first | decide | omega) ?_
        refine w_aload_n dX6_take_39 rfl rfl (by first | decide | omega) ?_
        refine w_aload_n dX6_take_40 rfl rfl (by first | decide | omega) ?_
        refine w_getR (o := (p).toNat) (x := p + 9) fX6_take_41 (by omega) (pSh0 rfl rfl (by assumption)) rfl (pRf 15 9 rfl rfl (by assumption)) ?_
        refine w_iload dX6_take_44 rfl ?_
        refine w_ialdx (o := (p + 9).toNat) (n := 32) (x := μ (p + 9) g) dX6_take_46 (by omega) (pSh 9 rfl rfl (by assumption)) (Nat.le_of_ble_eq_true rfl) (by omega) ((congrFun (hF27.at (by omega) (by omega)) _).trans (congrFun (hA9 _ (by omega)) _)) ?_
        have hr2 := PG.fl hG (g := g) (by omega)
        refine w_aload_n dX6_take_47 rfl rfl (by first | decide | omega) ?_
        refine w_getR (o := (p).toNat) (x := p + 10) fX6_take_48 (by omega) (pSh0 rfl rfl (by assumption)) rfl (pRf 16 10 rfl rfl (by assumption)) ?_
        refine w_iload dX6_take_51 rfl ?_
        refine w_ialdx (o := (p + 10).toNat) (n := 32) (x := μ (p + 10) g) dX6_take_53 (by omega) (pSh 10 rfl rfl (by assumption)) (Nat.le_of_ble_eq_true rfl) (by omega) ((congrFun (hF27.at (by omega) (by omega)) _).trans (congrFun (hA9 _ (by omega)) _)) ?_
        refine w_iload_n dX6_take_54 rfl rfl ?_
        refine w_callVV (o := 6) (ci := 0) (as := [(2, p), (2, p + 5), (0, μ (p + 9) g), (0, μ (p + 10) g), (0, kn)]) (rest := []) (k := 1) fX6_take_55 rfl rfl rfl rfl rfl rfl rfl rfl (Nat.le_of_ble_eq_true rfl) (s_X0_load X p (μ (p + 9) g) (μ (p + 10) g) kn μ μ1 (fun o h1 => ((hF27.at (by omega) (by omega)).trans (hA9 _ (by omega)))) hI hG (hLA g hg0.1 (by omega))) (fun μL hμL => ?_)
        obtain ⟨hFL, hD_L⟩ := hμL
        have hD2 : GLd (ddt μ p (p + 5) kn g) μL := hD_L
        refine w_aload_n dX6_take_58 rfl rfl (by first | decide | omega) ?_
        refine w_dup dX6_take_59 (by simp) ?_
        refine w_getIx (o := 15) (f := 3) (x := (tst (ddt μ p (p + 5) kn) g).2.2.2.2) fX6_take_60 rfl rfl (Nat.le_of_ble_eq_true rfl) rfl ((congrFun (hFL.at (by omega) (by omega)) _).trans h3) ?_
        refine w_aload dX6_take_63 rfl (by first | decide | omega) ?_
        refine w_getIx (o := 6) (f := 4) (x := am_b (¬ klow (ddt μ p (p + 5) kn g) = 99)) fX6_take_65 rfl rfl (Nat.le_of_ble_eq_true rfl) rfl hD2.kn ?_
        have hbk := am_b_r (¬ klow (ddt μ p (p + 5) kn g) = 99)
        have hJ68_1 : ∀ z1_0 : Int, z1_0 = (if ¬ (¬ klow (ddt μ p (p + 5) kn g) = 99) then 0 else 1) → Wp (GG X) M_X6_take 76 [(2, 15), (2, p), (2, p + 5), (0, kn), (2, 6), (0, m), (0, g), (9, 0), (9, 0), (9, 0)] [(0, z1_0), (0, (tst (ddt μ p (p + 5) kn) g).2.2.2.2), (2, 15)] μL (qV fun μ' => (Fr 6 15 1 0 μ' ν) ∧ (μ' 15 0 = (tst (ddt μ p (p + 5) kn) (μ p 14)).1) ∧ (μ' 15 1 = (tst (ddt μ p (p + 5) kn) (μ p 14)).2.1) ∧ (μ' 15 2 = (tst (ddt μ p (p + 5) kn) (μ p 14)).2.2.1) ∧ (μ' 15 3 = (tst (ddt μ p (p + 5) kn) (μ p 14)).2.2.2.2)) := by
          intro z1_0 hz1_0
          refine Wp.topE (b := am_b (¬ klow (ddt μ p (p + 5) kn g) = 99)) (by unfold am_b; omega) ?_
          refine w_iadd dX6_take_76 ?_
          refine w_putI (o := 15) (f := 3) fX6_take_77 rfl rfl rfl rfl rfl ?_
          refine w_aload dX6_take_80 rfl (by first | decide | omega) ?_
          refine w_callVI (o := 6) (ci := 0) (as := []) (rest := []) (k := 3) fX6_take_82 rfl rfl rfl rfl rfl rfl rfl rfl (Nat.le_of_ble_eq_true rfl) (s_X0_findBest X (ddt μ p (p + 5) kn g) (am_up μL 15 3 (((tst (ddt μ p (p + 5) kn) g).2.2.2.2) + (am_b (¬ klow (ddt μ p (p + 5) kn g) = 99)))) (GLd.cg2 hD2 (fun o h1 => (am_up_o (by omega))) (fun k h1 => (congrFun (am_up_o (by omega)) _)))) (fun xB μB hμB => ?_)
          obtain ⟨hFB, hz_B, hD_B, hf_B⟩ := hμB
          refine w_lstore (ls' := [(2, 15), (2, p), (2, p + 5), (0, kn), (2, 6), (0, m), (0, g), (1, xB), (9, 0), (9, 0)]) dX6_take_85 (Nat.le_of_ble_eq_true rfl) rfl rfl ?_
          refine w_lload dX6_take_87 rfl ?_
          have hmr := mnK_r (hdd g hg0.1 (by omega))
          have hur := bU_r (hdd g hg0.1 (by omega))
          refine w_ldc2 (n := 9223372036854775807) dX6_take_89 k_1193 (by decide) ?_
          refine w_lc_ne (tgt := 109) dX6_take_92 dX6_take_93 rfl (R64.in (by omega)) (R64.in (by omega)) (fun c93 => ?_) (fun c93 => ?_)
          · skip
            refine w_lload dX6_take_109 rfl ?_
            refine w_callSP (as := [(1, xB)]) (rest := []) (k := 0) fX6_take_111 rfl rfl rfl rfl rfl (Nat.le_of_ble_eq_true rfl) (s_X0_uglinessOf X xB μB (by omega)) ?_
            refine w_istore (ls' := [(2, 15), (2, p), (2, p + 5), (0, kn), (2, 6), (0, m), (0, g), (1, xB), (9, 0), (0, xB / 4398046511104)]) dX6_take_114 (Nat.le_of_ble_eq_true rfl) rfl rfl ?_
            refine w_aload_n dX6_take_116 rfl rfl (by first | decide | omega) ?_
            refine w_dup dX6_take_117 (by simp) ?_
            refine w_getIx (o := 15) (f := 0) (x := (tst (ddt μ p (p + 5) kn) g).1) fX6_take_118 rfl rfl (Nat.le_of_ble_eq_true rfl) rfl ((congrFun (hFB.at (by omega) (by omega)) _).trans ((am_up_nk (by omega)).trans ((congrFun (hFL.at (by omega) (by omega)) _).trans h0))) ?_
            refine w_iload dX6_take_121 rfl ?_
            refine w_iadd dX6_take_123 ?_
            refine w_putI (o := 15) (f := 0) fX6_take_124 rfl rfl rfl rfl rfl ?_
            refine w_aload_n dX6_take_127 rfl rfl (by first | decide | omega) ?_
            refine w_iload dX6_take_128 rfl ?_
            refine w_iload dX6_take_130 rfl ?_
            have hJ132_2 : ∀ z2_0 : Int, z2_0 = (if (xB / 4398046511104) ≤ m then (tst (ddt μ p (p + 5) kn) g).2.2.1 else g) → Wp (GG X) M_X6_take 144 [(2, 15), (2, p), (2, p + 5), (0, kn), (2, 6), (0, m), (0, g), (1, xB), (9, 0), (0, xB / 4398046511104)] [(0, z2_0), (2, 15)] (am_up μB 15 0 (((tst (ddt μ p (p + 5) kn) g).1) + (xB / 4398046511104))) (qV fun μ' => (Fr 6 15 1 0 μ' ν) ∧ (μ' 15 0 = (tst (ddt μ p (p + 5) kn) (μ p 14)).1) ∧ (μ' 15 1 = (tst (ddt μ p (p + 5) kn) (μ p 14)).2.1) ∧ (μ' 15 2 = (tst (ddt μ p (p + 5) kn) (μ p 14)).2.2.1) ∧ (μ' 15 3 = (tst (ddt μ p (p + 5) kn) (μ p 14)).2.2.2.2)) := by
              intro z2_0 hz2_0
              refine w_putI (o := 15) (f := 2) fX6_take_144 rfl rfl rfl rfl rfl ?_
              refine w_iload dX6_take_147 rfl ?_
              refine w_iload dX6_take_149 rfl ?_
              refine w_max fX6_take_151 (R32.in (by omega)) (R32.in (by omega)) (Nat.le_of_ble_eq_true rfl) ?_
              refine w_istore (ls' := [(2, 15), (2, p), (2, p + 5), (0, kn), (2, 6), (0, max m (xB / 4398046511104)), (0, g), (1, xB), (9, 0), (0, xB / 4398046511104)]) dX6_take_154 (Nat.le_of_ble_eq_true rfl) rfl rfl ?_
              refine w_iinc (ls' := [(2, 15), (2, p), (2, p + 5), (0, kn), (2, 6), (0, max m (xB / 4398046511104)), (0, g + 1), (1, xB), (9, 0), (0, xB / 4398046511104)]) dX6_take_156 rfl (Nat.le_of_ble_eq_true rfl) rfl rfl ?_
              refine w_goto (tgt := 27) dX6_take_159 rfl ?_
              refine Wp.fgl (ls' := [(2, 15), (2, p), (2, p + 5), (0, kn), (2, 6), (0, max m (xB / 4398046511104)), (0, g + 1), (9, 0), (9, 0), (0, xB / 4398046511104)]) 7 rfl ?_
              refine Wp.fgl (ls' := [(2, 15), (2, p), (2, p + 5), (0, kn), (2, 6), (0, max m (xB / 4398046511104)), (0, g + 1), (9, 0), (9, 0), (9, 0)]) 9 rfl ?_
              exact ih27 _ (by omega) (g + 1) (max m (xB / 4398046511104)) (am_up (am_up μB 15 0 (((tst (ddt μ p (p + 5) kn) g).1) + (xB / 4398046511104))) 15 2 z2_0) rfl ((((hFB.wd (by omega) (by omega)).tr (((hFL.wd (by omega) (by omega)).tr hF27).up (by omega))).up (by omega)).up (by omega)) (by first | omega | assumption) (((am_up_nk (by omega)).trans am_up_at).trans (by rw [tst_s hg0.1]; first | (rw [tstep_no (hz_B.symm.trans c93)] <;> first | done | exact hm) | rw [tstep_ya (fun q => c93 (hz_B.trans q))] <;> (try dsimp only) <;> (try unfold bU) <;> (try omega))) (((am_up_nk (by omega)).trans ((am_up_nk (by omega)).trans ((congrFun (hFB.at (by omega) (by omega)) _).trans ((am_up_nk (by omega)).trans ((congrFun (hFL.at (by omega) (by omega)) _).trans h1))))).trans (by rw [tst_s hg0.1]; first | (rw [tstep_no (hz_B.symm.trans c93)] <;> first | done | exact hm) | rw [tstep_ya (fun q => c93 (hz_B.trans q))] <;> (try dsimp only) <;> (try unfold bU) <;> (try omega))) (am_up_at.trans (by rw [tst_s hg0.1]; first | (rw [tstep_no (hz_B.symm.trans c93)] <;> first | done | exact hm) | rw [tstep_ya (fun q => c93 (hz_B.trans q))] <;> (try dsimp only) <;> (try unfold bU) <;> (try omega))) (((am_up_nk (by omega)).trans ((am_up_nk (by omega)).trans ((congrFun (hFB.at (by omega) (by omega)) _).trans am_up_at))).trans (by rw [tst_s hg0.1]; first | (rw [tstep_no (hz_B.symm.trans c93)] <;> first | done | exact hm) | rw [tstep_ya (fun q => c93 (hz_B.trans q))] <;> (try dsimp only) <;> (try unfold bU) <;> (try omega))) (by rw [tst_s hg0.1]; first | (rw [tstep_no (hz_B.symm.trans c93)] <;> first | done | exact hm) | rw [tstep_ya (fun q => c93 (hz_B.trans q))] <;> (try dsimp only) <;> (try unfold bU) <;> (try omega))
            refine w_icmp_le (tgt := 140) dX6_take_132 rfl (R32.in (by omega)) (R32.in (by omega)) (fun c132 => ?_) (fun c132 => ?_)
            · skip
              refine w_aload_n dX6_take_140 rfl rfl (by first | decide | omega) ?_
              refine w_getIx (o := 15) (f := 2) (x := (tst (ddt μ p (p + 5) kn) g).2.2.1) fX6_take_141 rfl rfl (Nat.le_of_ble_eq_true rfl) rfl ((am_up_nk (by omega)).trans ((congrFun (hFB.at (by omega) (by omega)) _).trans ((am_up_nk (by omega)).trans ((congrFun (hFL.at (by omega) (by omega)) _).trans h2)))) ?_
              exact hJ132_2 _ (by first | omega | simp [*])
            · skip
              refine w_iload dX6_take_135 rfl ?_
              refine w_goto (tgt := 144) dX6_take_137 rfl ?_
              exact hJ132_2 _ (by first | omega | simp [*])
          · skip
            refine w_aload_n dX6_take_96 rfl rfl (by first | decide | omega) ?_
            refine w_dup dX6_take_97 (by simp) ?_
            refine w_getIx (o := 15) (f := 1) (x := (tst (ddt μ p (p + 5) kn) g).2.1) fX6_take_98 rfl rfl (Nat.le_of_ble_eq_true rfl) rfl ((congrFun (hFB.at (by omega) (by omega)) _).trans ((am_up_nk (by omega)).trans ((congrFun (hFL.at (by omega) (by omega)) _).trans h1))) ?_
            refine w_iconst dX6_take_101 ?_
            refine w_iadd dX6_take_102 ?_
            refine w_putI (o := 15) (f := 1) fX6_take_103 rfl rfl rfl rfl rfl ?_
            refine w_goto (tgt := 156) dX6_take_106 rfl ?_
            refine w_iinc (ls' := [(2, 15), (2, p), (2, p + 5), (0, kn), (2, 6), (0, m), (0, g + 1), (1, xB), (9, 0), (9, 0)]) dX6_take_156 rfl (Nat.le_of_ble_eq_true rfl) rfl rfl ?_
            refine w_goto (tgt := 27) dX6_take_159 rfl ?_
            refine Wp.fgl (ls' := [(2, 15), (2, p), (2, p + 5), (0, kn), (2, 6), (0, m), (0, g + 1), (9, 0), (9, 0), (9, 0)]) 7 rfl ?_
            exact ih27 _ (by omega) (g + 1) m (am_up μB 15 1 (((tst (ddt μ p (p + 5) kn) g).2.1) + 1)) rfl (((hFB.wd (by omega) (by omega)).tr (((hFL.wd (by omega) (by omega)).tr hF27).up (by omega))).up (by omega)) (by first | omega | assumption) (((am_up_nk (by omega)).trans ((congrFun (hFB.at (by omega) (by omega)) _).trans ((am_up_nk (by omega)).trans ((congrFun (hFL.at (by omega) (by omega)) _).trans h0)))).trans (by rw [tst_s hg0.1]; first | (rw [tstep_no (hz_B.symm.trans c93)] <;> first | done | exact hm) | rw [tstep_ya (fun q => c93 (hz_B.trans q))] <;> (try dsimp only) <;> (try unfold bU) <;> (try omega))) (am_up_at.trans (by rw [tst_s hg0.1]; first | (rw [tstep_no (hz_B.symm.trans c93)] <;> first | done | exact hm) | rw [tstep_ya (fun q => c93 (hz_B.trans q))] <;> (try dsimp only) <;> (try unfold bU) <;> (try omega))) (((am_up_nk (by omega)).trans ((congrFun (hFB.at (by omega) (by omega)) _).trans ((am_up_nk (by omega)).trans ((congrFun (hFL.at (by omega) (by omega)) _).trans h2)))).trans (by rw [tst_s hg0.1]; first | (rw [tstep_no (hz_B.symm.trans c93)] <;> first | done | exact hm) | rw [tstep_ya (fun q => c93 (hz_B.trans q))] <;> (try dsimp only) <;> (try unfold bU) <;> (try omega))) (((am_up_nk (by omega)).trans ((congrFun (hFB.at (by omega) (by omega)) _).trans am_up_at)).trans (by rw [tst_s hg0.1]; first | (rw [tstep_no (hz_B.symm.trans c93)] <;> first | done | exact hm) | rw [tstep_ya (fun q => c93 (hz_B.trans q))] <;> (try dsimp only) <;> (try unfold bU) <;> (try omega))) (by rw [tst_s hg0.1]; first | (rw [tstep_no (hz_B.symm.trans c93)] <;> first | done | exact hm) | rw [tstep_ya (fun q => c93 (hz_B.trans q))] <;> (try dsimp only) <;> (try unfold bU) <;> (try omega))
        have hbk := am_b_r (¬ klow (ddt μ p (p + 5) kn g) = 99)
        refine w_if_eq (tgt := 75) dX6_take_68 rfl (R32.in (by have := am_b_r ((¬ klow (ddt μ p (p + 5) kn g) = 99)); omega)) (fun c68 => ?_) (fun c68 => ?_)
        · skip
          replace c68 := am_b0 c68
          refine w_iconst dX6_take_75 ?_
          exact hJ68_1 _ (by first | omega | simp [*])
        · skip
          replace c68 := am_b1 c68
          refine w_iconst dX6_take_71 ?_
          refine w_goto (tgt := 76) dX6_take_72 rfl ?_
          exact hJ68_1 _ (by first | omega | simp [*])
  exact hL27 _ 0 (-1) (am_up (am_up (am_up (am_up ν 15 0 0) 15 1 0) 15 2 (-2)) 15 3 0) rfl ((((Fr.rf.up (by omega)).up (by omega)).up (by omega)).up (by omega)) (by first | omega | assumption) (((am_up_nk (by omega)).trans ((am_up_nk (by omega)).trans ((am_up_nk (by omega)).trans am_up_at))).trans (by rfl)) (((am_up_nk (by omega)).trans ((am_up_nk (by omega)).trans am_up_at)).trans (by rfl)) (((am_up_nk (by omega)).trans am_up_at).trans (by rfl)) (am_up_at.trans (by rfl)) rfl

set_option maxRecDepth 100000 in
set_option maxHeartbeats 4000000 in
theorem s_X6_take_t (X : AX) (p : Int) (kn : Int) (μ ν : Mu) (hA9 : ∀ o : Int, (p ≤ o ∧ o ≤ p + 10) ∨ (19 ≤ o ∧ o ≤ 19) → ν o = μ o) (hI : PI μ p) (hG : PG μ p) (hLA : LDA μ p 19 kn) : Wp (GG X) M_X6_take 0 [(2, 15), (2, p), (2, 19), (0, kn), (2, 6), (9, 0), (9, 0), (9, 0), (9, 0), (9, 0)] [] ν (qV fun μ' => (Fr 6 15 1 0 μ' ν) ∧ (μ' 15 0 = (tst (ddt μ p 19 kn) (μ p 14)).1) ∧ (μ' 15 1 = (tst (ddt μ p 19 kn) (μ p 14)).2.1) ∧ (μ' 15 2 = (tst (ddt μ p 19 kn) (μ p 14)).2.2.1) ∧ (μ' 15 3 = (tst (ddt μ p 19 kn) (μ p 14)).2.2.2.2)) := by
  have hp := hI.at
  have hgr := hG.gr
  have hdd := hLA.dd hI hG
  refine w_aload_n dX6_take_0 rfl rfl (by first | decide | omega) ?_
  refine w_iconst dX6_take_1 ?_
  refine w_putI (o := 15) (f := 0) fX6_take_2 rfl rfl rfl rfl rfl ?_
  refine w_aload_n dX6_take_5 rfl rfl (by first | decide | omega) ?_
  refine w_iconst dX6_take_6 ?_
  refine w_putI (o := 15) (f := 1) fX6_take_7 rfl rfl rfl rfl rfl ?_
  refine w_aload_n dX6_take_10 rfl rfl (by first | decide | omega) ?_
  refine w_bipush dX6_take_11 (by decide) ?_
  refine w_putI (o := 15) (f := 2) fX6_take_13 rfl rfl rfl rfl rfl ?_
  refine w_aload_n dX6_take_16 rfl rfl (by first | decide | omega) ?_
  refine w_iconst dX6_take_17 ?_
  refine w_putI (o := 15) (f := 3) fX6_take_18 rfl rfl rfl rfl rfl ?_
  refine w_iconst dX6_take_21 ?_
  refine w_istore (ls' := [(2, 15), (2, p), (2, 19), (0, kn), (2, 6), (0, -1), (9, 0), (9, 0), (9, 0), (9, 0)]) dX6_take_22 (Nat.le_of_ble_eq_true rfl) rfl rfl ?_
  refine w_iconst dX6_take_24 ?_
  refine w_istore (ls' := [(2, 15), (2, p), (2, 19), (0, kn), (2, 6), (0, -1), (0, 0), (9, 0), (9, 0), (9, 0)]) dX6_take_25 (Nat.le_of_ble_eq_true rfl) rfl rfl ?_
  have hL27 : ∀ (n27 : Nat) (g : Int) (m : Int) (μ1 : Mu), (μ p 14 - g).toNat = n27 → Fr 6 15 1 0 μ1 ν → (0 ≤ g ∧ g ≤ μ p 14) → (μ1 15 0 = (tst (ddt μ p 19 kn) g).1) → (μ1 15 1 = (tst (ddt μ p 19 kn) g).2.1) → (μ1 15 2 = (tst (ddt μ p 19 kn) g).2.2.1) → (μ1 15 3 = (tst (ddt μ p 19 kn) g).2.2.2.2) → (m = (tst (ddt μ p 19 kn) g).2.2.2.1) → Wp (GG X) M_X6_take 27 [(2, 15), (2, p), (2, 19), (0, kn), (2, 6), (0, m), (0, g), (9, 0), (9, 0), (9, 0)] [] μ1 (qV fun μ' => (Fr 6 15 1 0 μ' ν) ∧ (μ' 15 0 = (tst (ddt μ p 19 kn) (μ p 14)).1) ∧ (μ' 15 1 = (tst (ddt μ p 19 kn) (μ p 14)).2.1) ∧ (μ' 15 2 = (tst (ddt μ p 19 kn) (μ p 14)).2.2.1) ∧ (μ' 15 3 = (tst (ddt μ p 19 kn) (μ p 14)).2.2.2.2)) := by
    intro n27
    induction n27 using Nat.strongRecOn with
    | ind n27 ih27 =>
      intro g m μ1 hn27 hF27 hg0 h0 h1 h2 h3 hm
      have htr := tst_r hdd g hg0.1 hg0.2
      refine w_iload dX6_take_27 rfl ?_
      refine w_aload_n dX6_take_29 rfl rfl (by first | decide | omega) ?_
      refine w_getIx (o := (p).toNat) (f := 14) (x := μ p 14) fX6_take_30 (by omega) (pSh0 rfl rfl (by assumption)) (Nat.le_of_ble_eq_true rfl) rfl ((congrFun (hF27.at (by omega) (by omega)) _).trans (congrFun (hA9 _ (by omega)) _)) ?_
      have hr1 := PG.gr hG
      refine w_icmp_ge (tgt := 162) dX6_take_33 rfl (R32.in (by omega)) (R32.in (by omega)) (fun c33 => ?_) (fun c33 => ?_)
      · skip
        exact w_retV dX6_take_162 rfl ⟨hF27, (by have he : g = μ p 14 := (by omega); rw [← he]; exact h0), (by have he : g = μ p 14 := (by omega); rw [← he]; exact h1), (by have he : g = μ p 14 := (by omega); rw [← he]; exact h2), (by have he : g = μ p 14 := (by omega); rw [← he]; exact h3)⟩
      · skip
        refine w_aload dX6_take_36 rfl (by first | decide | omega) ?_
        refine w_aload_n dX6_take_38 rfl rfl (by first | decide | omega) ?_
        refine w_aload_n dX6_take_39 rfl rfl (by first | decide | omega) ?_
        refine w_aload_n dX6_take_40 rfl rfl (by first | decide | omega) ?_
        refine w_getR (o := (p).toNat) (x := p + 9) fX6_take_41 (by omega) (pSh0 rfl rfl (by assumption)) rfl (pRf 15 9 rfl rfl (by assumption)) ?_
        refine w_iload dX6_take_44 rfl ?_
        refine w_ialdx (o := (p + 9).toNat) (n := 32) (x := μ (p + 9) g) dX6_take_46 (by omega) (pSh 9 rfl rfl (by assumption)) (Nat.le_of_ble_eq_true rfl) (by omega) ((congrFun (hF27.at (by omega) (by omega)) _).trans (congrFun (hA9 _ (by omega)) _)) ?_
        have hr2 := PG.fl hG (g := g) (by omega)
        refine w_aload_n dX6_take_47 rfl rfl (by first | decide | omega) ?_
        refine w_getR (o := (p).toNat) (x := p + 10) fX6_take_48 (by omega) (pSh0 rfl rfl (by assumption)) rfl (pRf 16 10 rfl rfl (by assumption)) ?_
        refine w_iload dX6_take_51 rfl ?_
        refine w_ialdx (o := (p + 10).toNat) (n := 32) (x := μ (p + 10) g) dX6_take_53 (by omega) (pSh 10 rfl rfl (by assumption)) (Nat.le_of_ble_eq_true rfl) (by omega) ((congrFun (hF27.at (by omega) (by omega)) _).trans (congrFun (hA9 _ (by omega)) _)) ?_
        refine w_iload_n dX6_take_54 rfl rfl ?_
        refine w_callVV (o := 6) (ci := 0) (as := [(2, p), (2, 19), (0, μ (p + 9) g), (0, μ (p + 10) g), (0, kn)]) (rest := []) (k := 1) fX6_take_55 rfl rfl rfl rfl rfl rfl rfl rfl (Nat.le_of_ble_eq_true rfl) (s_X0_load_t X p (μ (p + 9) g) (μ (p + 10) g) kn μ μ1 (fun o h1 => ((hF27.at (by omega) (by omega)).trans (hA9 _ (by omega)))) hI hG (hLA g hg0.1 (by omega))) (fun μL hμL => ?_)
        obtain ⟨hFL, hD_L⟩ := hμL
        have hD2 : GLd (ddt μ p 19 kn g) μL := hD_L
        refine w_aload_n dX6_take_58 rfl rfl (by first | decide | omega) ?_
        refine w_dup dX6_take_59 (by simp) ?_
        refine w_getIx (o := 15) (f := 3) (x := (tst (ddt μ p 19 kn) g).2.2.2.2) fX6_take_60 rfl rfl (Nat.le_of_ble_eq_true rfl) rfl ((congrFun (hFL.at (by omega) (by omega)) _).trans h3) ?_
        refine w_aload dX6_take_63 rfl (by first | decide | omega) ?_
        refine w_getIx (o := 6) (f := 4) (x := am_b (¬ klow (ddt μ p 19 kn g) = 99)) fX6_take_65 rfl rfl (Nat.le_of_ble_eq_true rfl) rfl hD2.kn ?_
        have hbk := am_b_r (¬ klow (ddt μ p 19 kn g) = 99)
        have hJ68_1 : ∀ z1_0 : Int, z1_0 = (if ¬ (¬ klow (ddt μ p 19 kn g) = 99) then 0 else 1) → Wp (GG X) M_X6_take 76 [(2, 15), (2, p), (2, 19), (0, kn), (2, 6), (0, m), (0, g), (9, 0), (9, 0), (9, 0)] [(0, z1_0), (0, (tst (ddt μ p 19 kn) g).2.2.2.2), (2, 15)] μL (qV fun μ' => (Fr 6 15 1 0 μ' ν) ∧ (μ' 15 0 = (tst (ddt μ p 19 kn) (μ p 14)).1) ∧ (μ' 15 1 = (tst (ddt μ p 19 kn) (μ p 14)).2.1) ∧ (μ' 15 2 = (tst (ddt μ p 19 kn) (μ p 14)).2.2.1) ∧ (μ' 15 3 = (tst (ddt μ p 19 kn) (μ p 14)).2.2.2.2)) := by
          intro z1_0 hz1_0
          refine Wp.topE (b := am_b (¬ klow (ddt μ p 19 kn g) = 99)) (by unfold am_b; omega) ?_
          refine w_iadd dX6_take_76 ?_
          refine w_putI (o := 15) (f := 3) fX6_take_77 rfl rfl rfl rfl rfl ?_
          refine w_aload dX6_take_80 rfl (by first | decide | omega) ?_
          refine w_callVI (o := 6) (ci := 0) (as := []) (rest := []) (k := 3) fX6_take_82 rfl rfl rfl rfl rfl rfl rfl rfl (Nat.le_of_ble_eq_true rfl) (s_X0_findBest X (ddt μ p 19 kn g) (am_up μL 15 3 (((tst (ddt μ p 19 kn) g).2.2.2.2) + (am_b (¬ klow (ddt μ p 19 kn g) = 99)))) (GLd.cg2 hD2 (fun o h1 => (am_up_o (by omega))) (fun k h1 => (congrFun (am_up_o (by omega)) _)))) (fun xB μB hμB => ?_)
          obtain ⟨hFB, hz_B, hD_B, hf_B⟩ := hμB
          refine w_lstore (ls' := [(2, 15), (2, p), (2, 19), (0, kn), (2, 6), (0, m), (0, g), (1, xB), (9, 0), (9, 0)]) dX6_take_85 (Nat.le_of_ble_eq_true rfl) rfl rfl ?_
          refine w_lload dX6_take_87 rfl ?_
          have hmr := mnK_r (hdd g hg0.1 (by omega))
          have hur := bU_r (hdd g hg0.1 (by omega))
          refine w_ldc2 (n := 9223372036854775807) dX6_take_89 k_1193 (by decide) ?_
          refine w_lc_ne (tgt := 109) dX6_take_92 dX6_take_93 rfl (R64.in (by omega)) (R64.in (by omega)) (fun c93 => ?_) (fun c93 => ?_)
          · skip
            refine w_lload dX6_take_109 rfl ?_
            refine w_callSP (as := [(1, xB)]) (rest := []) (k := 0) fX6_take_111 rfl rfl rfl rfl rfl (Nat.le_of_ble_eq_true rfl) (s_X0_uglinessOf X xB μB (by omega)) ?_
            refine w_istore (ls' := [(2, 15), (2, p), (2, 19), (0, kn), (2, 6), (0, m), (0, g), (1, xB), (9, 0), (0, xB / 4398046511104)]) dX6_take_114 (Nat.le_of_ble_eq_true rfl) rfl rfl ?_
            refine w_aload_n dX6_take_116 rfl rfl (by first | decide | omega) ?_
            refine w_dup dX6_take_117 (by simp) ?_
            refine w_getIx (o := 15) (f := 0) (x := (tst (ddt μ p 19 kn) g).1) fX6_take_118 rfl rfl (Nat.le_of_ble_eq_true rfl) rfl ((congrFun (hFB.at (by omega) (by omega)) _).trans ((am_up_nk (by omega)).trans ((congrFun (hFL.at (by omega) (by omega)) _).trans h0))) ?_
            refine w_iload dX6_take_121 rfl ?_
            refine w_iadd dX6_take_123 ?_
            refine w_putI (o := 15) (f := 0) fX6_take_124 rfl rfl rfl rfl rfl ?_
            refine w_aload_n dX6_take_127 rfl rfl (by first | decide | omega) ?_
            refine w_iload dX6_take_128 rfl ?_
            refine w_iload dX6_take_130 rfl ?_
            have hJ132_2 : ∀ z2_0 : Int, z2_0 = (if (xB / 4398046511104) ≤ m then (tst (ddt μ p 19 kn) g).2.2.1 else g) → Wp (GG X) M_X6_take 144 [(2, 15), (2, p), (2, 19), (0, kn), (2, 6), (0, m), (0, g), (1, xB), (9, 0), (0, xB / 4398046511104)] [(0, z2_0), (2, 15)] (am_up μB 15 0 (((tst (ddt μ p 19 kn) g).1) + (xB / 4398046511104))) (qV fun μ' => (Fr 6 15 1 0 μ' ν) ∧ (μ' 15 0 = (tst (ddt μ p 19 kn) (μ p 14)).1) ∧ (μ' 15 1 = (tst (ddt μ p 19 kn) (μ p 14)).2.1) ∧ (μ' 15 2 = (tst (ddt μ p 19 kn) (μ p 14)).2.2.1) ∧ (μ' 15 3 = (tst (ddt μ p 19 kn) (μ p 14)).2.2.2.2)) := by
              intro z2_0 hz2_0
              refine w_putI (o := 15) (f := 2) fX6_take_144 rfl rfl rfl rfl rfl ?_
              refine w_iload dX6_take_147 rfl ?_
              refine w_iload dX6_take_149 rfl ?_
              refine w_max fX6_take_151 (R32.in (by omega)) (R32.in (by omega)) (Nat.le_of_ble_eq_true rfl) ?_
              refine w_istore (ls' := [(2, 15), (2, p), (2, 19), (0, kn), (2, 6), (0, max m (xB / 4398046511104)), (0, g), (1, xB), (9, 0), (0, xB / 4398046511104)]) dX6_take_154 (Nat.le_of_ble_eq_true rfl) rfl rfl ?_
              refine w_iinc (ls' := [(2, 15), (2, p), (2, 19), (0, kn), (2, 6), (0, max m (xB / 4398046511104)), (0, g + 1), (1, xB), (9, 0), (0, xB / 4398046511104)]) dX6_take_156 rfl (Nat.le_of_ble_eq_true rfl) rfl rfl ?_
              refine w_goto (tgt := 27) dX6_take_159 rfl ?_
              refine Wp.fgl (ls' := [(2, 15), (2, p), (2, 19), (0, kn), (2, 6), (0, max m (xB / 4398046511104)), (0, g + 1), (9, 0), (9, 0), (0, xB / 4398046511104)]) 7 rfl ?_
              refine Wp.fgl (ls' := [(2, 15), (2, p), (2, 19), (0, kn), (2, 6), (0, max m (xB / 4398046511104)), (0, g + 1), (9, 0), (9, 0), (9, 0)]) 9 rfl ?_
              exact ih27 _ (by omega) (g + 1) (max m (xB / 4398046511104)) (am_up (am_up μB 15 0 (((tst (ddt μ p 19 kn) g).1) + (xB / 4398046511104))) 15 2 z2_0) rfl ((((hFB.wd (by omega) (by omega)).tr (((hFL.wd (by omega) (by omega)).tr hF27).up (by omega))).up (by omega)).up (by omega)) (by first | omega | assumption) (((am_up_nk (by omega)).trans am_up_at).trans (by rw [tst_s hg0.1]; first | (rw [tstep_no (hz_B.symm.trans c93)] <;> first | done | exact hm) | rw [tstep_ya (fun q => c93 (hz_B.trans q))] <;> (try dsimp only) <;> (try unfold bU) <;> (try omega))) (((am_up_nk (by omega)).trans ((am_up_nk (by omega)).trans ((congrFun (hFB.at (by omega) (by omega)) _).trans ((am_up_nk (by omega)).trans ((congrFun (hFL.at (by omega) (by omega)) _).trans h1))))).trans (by rw [tst_s hg0.1]; first | (rw [tstep_no (hz_B.symm.trans c93)] <;> first | done | exact hm) | rw [tstep_ya (fun q => c93 (hz_B.trans q))] <;> (try dsimp only) <;> (try unfold bU) <;> (try omega))) (am_up_at.trans (by rw [tst_s hg0.1]; first | (rw [tstep_no (hz_B.symm.trans c93)] <;> first | done | exact hm) | rw [tstep_ya (fun q => c93 (hz_B.trans q))] <;> (try dsimp only) <;> (try unfold bU) <;> (try omega))) (((am_up_nk (by omega)).trans ((am_up_nk (by omega)).trans ((congrFun (hFB.at (by omega) (by omega)) _).trans am_up_at))).trans (by rw [tst_s hg0.1]; first | (rw [tstep_no (hz_B.symm.trans c93)] <;> first | done | exact hm) | rw [tstep_ya (fun q => c93 (hz_B.trans q))] <;> (try dsimp only) <;> (try unfold bU) <;> (try omega))) (by rw [tst_s hg0.1]; first | (rw [tstep_no (hz_B.symm.trans c93)] <;> first | done | exact hm) | rw [tstep_ya (fun q => c93 (hz_B.trans q))] <;> (try dsimp only) <;> (try unfold bU) <;> (try omega))
            refine w_icmp_le (tgt := 140) dX6_take_132 rfl (R32.in (by omega)) (R32.in (by omega)) (fun c132 => ?_) (fun c132 => ?_)
            · skip
              refine w_aload_n dX6_take_140 rfl rfl (by first | decide | omega) ?_
              refine w_getIx (o := 15) (f := 2) (x := (tst (ddt μ p 19 kn) g).2.2.1) fX6_take_141 rfl rfl (Nat.le_of_ble_eq_true rfl) rfl ((am_up_nk (by omega)).trans ((congrFun (hFB.at (by omega) (by omega)) _).trans ((am_up_nk (by omega)).trans ((congrFun (hFL.at (by omega) (by omega)) _).trans h2)))) ?_
              exact hJ132_2 _ (by first | omega | simp [*])
            · skip
              refine w_iload dX6_take_135 rfl ?_
              refine w_goto (tgt := 144) dX6_take_137 rfl ?_
              exact hJ132_2 _ (by first | omega | simp [*])
          · skip
            refine w_aload_n dX6_take_96 rfl rfl (by first | decide | omega) ?_
            refine w_dup dX6_take_97 (by simp) ?_
            refine w_getIx (o := 15) (f := 1) (x := (tst (ddt μ p 19 kn) g).2.1) fX6_take_98 rfl rfl (Nat.le_of_ble_eq_true rfl) rfl ((congrFun (hFB.at (by omega) (by omega)) _).trans ((am_up_nk (by omega)).trans ((congrFun (hFL.at (by omega) (by omega)) _).trans h1))) ?_
            refine w_iconst dX6_take_101 ?_
            refine w_iadd dX6_take_102 ?_
            refine w_putI (o := 15) (f := 1) fX6_take_103 rfl rfl rfl rfl rfl ?_
            refine w_goto (tgt := 156) dX6_take_106 rfl ?_
            refine w_iinc (ls' := [(2, 15), (2, p), (2, 19), (0, kn), (2, 6), (0, m), (0, g + 1), (1, xB), (9, 0), (9, 0)]) dX6_take_156 rfl (Nat.le_of_ble_eq_true rfl) rfl rfl ?_
            refine w_goto (tgt := 27) dX6_take_159 rfl ?_
            refine Wp.fgl (ls' := [(2, 15), (2, p), (2, 19), (0, kn), (2, 6), (0, m), (0, g + 1), (9, 0), (9, 0), (9, 0)]) 7 rfl ?_
            exact ih27 _ (by omega) (g + 1) m (am_up μB 15 1 (((tst (ddt μ p 19 kn) g).2.1) + 1)) rfl (((hFB.wd (by omega) (by omega)).tr (((hFL.wd (by omega) (by omega)).tr hF27).up (by omega))).up (by omega)) (by first | omega | assumption) (((am_up_nk (by omega)).trans ((congrFun (hFB.at (by omega) (by omega)) _).trans ((am_up_nk (by omega)).trans ((congrFun (hFL.at (by omega) (by omega)) _).trans h0)))).trans (by rw [tst_s hg0.1]; first | (rw [tstep_no (hz_B.symm.trans c93)] <;> first | done | exact hm) | rw [tstep_ya (fun q => c93 (hz_B.trans q))] <;> (try dsimp only) <;> (try unfold bU) <;> (try omega))) (am_up_at.trans (by rw [tst_s hg0.1]; first | (rw [tstep_no (hz_B.symm.trans c93)] <;> first | done | exact hm) | rw [tstep_ya (fun q => c93 (hz_B.trans q))] <;> (try dsimp only) <;> (try unfold bU) <;> (try omega))) (((am_up_nk (by omega)).trans ((congrFun (hFB.at (by omega) (by omega)) _).trans ((am_up_nk (by omega)).trans ((congrFun (hFL.at (by omega) (by omega)) _).trans h2)))).trans (by rw [tst_s hg0.1]; first | (rw [tstep_no (hz_B.symm.trans c93)] <;> first | done | exact hm) | rw [tstep_ya (fun q => c93 (hz_B.trans q))] <;> (try dsimp only) <;> (try unfold bU) <;> (try omega))) (((am_up_nk (by omega)).trans ((congrFun (hFB.at (by omega) (by omega)) _).trans am_up_at)).trans (by rw [tst_s hg0.1]; first | (rw [tstep_no (hz_B.symm.trans c93)] <;> first | done | exact hm) | rw [tstep_ya (fun q => c93 (hz_B.trans q))] <;> (try dsimp only) <;> (try unfold bU) <;> (try omega))) (by rw [tst_s hg0.1]; first | (rw [tstep_no (hz_B.symm.trans c93)] <;> first | done | exact hm) | rw [tstep_ya (fun q => c93 (hz_B.trans q))] <;> (try dsimp only) <;> (try unfold bU) <;> (try omega))
        have hbk := am_b_r (¬ klow (ddt μ p 19 kn g) = 99)
        refine w_if_eq (tgt := 75) dX6_take_68 rfl (R32.in (by have := am_b_r ((¬ klow (ddt μ p 19 kn g) = 99)); omega)) (fun c68 => ?_) (fun c68 => ?_)
        · skip
          replace c68 := am_b0 c68
          refine w_iconst dX6_take_75 ?_
          exact hJ68_1 _ (by first | omega | simp [*])
        · skip
          replace c68 := am_b1 c68
          refine w_iconst dX6_take_71 ?_
          refine w_goto (tgt := 76) dX6_take_72 rfl ?_
          exact hJ68_1 _ (by first | omega | simp [*])
  exact hL27 _ 0 (-1) (am_up (am_up (am_up (am_up ν 15 0 0) 15 1 0) 15 2 (-2)) 15 3 0) rfl ((((Fr.rf.up (by omega)).up (by omega)).up (by omega)).up (by omega)) (by first | omega | assumption) (((am_up_nk (by omega)).trans ((am_up_nk (by omega)).trans ((am_up_nk (by omega)).trans am_up_at))).trans (by rfl)) (((am_up_nk (by omega)).trans ((am_up_nk (by omega)).trans am_up_at)).trans (by rfl)) (((am_up_nk (by omega)).trans am_up_at).trans (by rfl)) (am_up_at.trans (by rfl)) rfl

set_option maxRecDepth 100000 in
set_option maxHeartbeats 4000000 in
theorem s_X6_tell (X : AX) (w : Int) (μ : Mu) (hw : -2147483648 ≤ w ∧ w ≤ 2147483647) : Wp (GG X) M_X6_tell 0 [(2, 15), (0, w)] [] μ (pP 0 (if w = 0 then μ 15 0 else if w = 1 then μ 15 1 else if w = 2 then μ 15 2 else μ 15 3) μ) := by
  refine w_iload_n dX6_tell_0 rfl rfl ?_
  rcases (show (w < 0 ∨ 2 < w) ∨ w = 0 ∨ w = 1 ∨ w = 2 by omega) with q1 | q1 | q1 | q1
  · refine w_tableOut (tgt := 43) dX6_tell_1 (R32.in (by omega)) q1 rfl ?_
    refine w_aload_n dX6_tell_43 rfl rfl (by first | decide | omega) ?_
    refine w_getIx (o := 15) (f := 3) (x := μ 15 3) fX6_tell_44 rfl rfl (Nat.le_of_ble_eq_true rfl) rfl rfl ?_
    exact w_iretP dX6_tell_47 rfl (by omega)
  · refine w_tableIn (off := 27) (tgt := 28) dX6_tell_1 (R32.in (by omega)) (by omega) (by omega) (by rw [q1]; rfl) rfl ?_
    refine w_aload_n dX6_tell_28 rfl rfl (by first | decide | omega) ?_
    refine w_getIx (o := 15) (f := 0) (x := μ 15 0) fX6_tell_29 rfl rfl (Nat.le_of_ble_eq_true rfl) rfl rfl ?_
    exact w_iretP dX6_tell_32 rfl (by omega)
  · refine w_tableIn (off := 32) (tgt := 33) dX6_tell_1 (R32.in (by omega)) (by omega) (by omega) (by rw [q1]; rfl) rfl ?_
    refine w_aload_n dX6_tell_33 rfl rfl (by first | decide | omega) ?_
    refine w_getIx (o := 15) (f := 1) (x := μ 15 1) fX6_tell_34 rfl rfl (Nat.le_of_ble_eq_true rfl) rfl rfl ?_
    exact w_iretP dX6_tell_37 rfl (by omega)
  · refine w_tableIn (off := 37) (tgt := 38) dX6_tell_1 (R32.in (by omega)) (by omega) (by omega) (by rw [q1]; rfl) rfl ?_
    refine w_aload_n dX6_tell_38 rfl rfl (by first | decide | omega) ?_
    refine w_getIx (o := 15) (f := 2) (x := μ 15 2) fX6_tell_39 rfl rfl (Nat.le_of_ble_eq_true rfl) rfl rfl ?_
    exact w_iretP dX6_tell_42 rfl (by omega)


set_option maxRecDepth 100000 in
set_option maxHeartbeats 4000000 in
theorem s_X6_isWhat (X : AX) (w : Int) (μ : Mu) (hw : -2147483648 ≤ w ∧ w ≤ 2147483647) : Wp (GG X) M_X6_isWhat 0 [(0, w)] [] μ (pP 0 (am_b (0 ≤ w ∧ w ≤ 3)) μ) := by
  refine w_iload_n dX6_isWhat_0 rfl rfl ?_
  refine w_if_lt (tgt := 13) dX6_isWhat_1 rfl (R32.in (by omega)) (fun c1 => ?_) (fun c1 => ?_)
  · skip
    refine w_iconst dX6_isWhat_13 ?_
    exact w_zretP dX6_isWhat_14 rfl (Or.inl rfl) (by first | exact am_b_t (by omega) | exact am_b_f (by omega))
  · skip
    refine w_iload_n dX6_isWhat_4 rfl rfl ?_
    refine w_iconst dX6_isWhat_5 ?_
    refine w_icmp_gt (tgt := 13) dX6_isWhat_6 rfl (R32.in (by omega)) (R32.in (by decide)) (fun c6 => ?_) (fun c6 => ?_)
    · skip
      refine w_iconst dX6_isWhat_13 ?_
      exact w_zretP dX6_isWhat_14 rfl (Or.inl rfl) (by first | exact am_b_t (by omega) | exact am_b_f (by omega))
    · skip
      refine w_iconst dX6_isWhat_9 ?_
      refine w_goto (tgt := 14) dX6_isWhat_10 rfl ?_
      exact w_zretP dX6_isWhat_14 rfl (Or.inr rfl) (by first | exact am_b_t (by omega) | exact am_b_f (by omega))
