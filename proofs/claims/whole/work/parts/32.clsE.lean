set_option maxRecDepth 100000 in
set_option maxHeartbeats 4000000 in
theorem s_X7_mirrored (X : AX) (p : Int) (g : Int) (μ : Mu) (hC : CJ μ p) (hg : -2147483648 ≤ g ∧ g ≤ 2147483647) : Wp (GG X) M_X7_mirrored 0 [(2, 0), (0, g), (9, 0), (9, 0), (9, 0), (9, 0), (9, 0)] [] μ (qI 0 fun z μ' => (Fr 6 19 1 0 μ' μ) ∧ (z = if (0 ≤ g ∧ g < μ p 14) then mirA (ddt μ p (p + 5) (μ p 3) g) (ddM μ p g) else -1)) := by
  have hI := hC.i
  have hG := hC.pg
  have hp := hI.at
  have hz := hI.sz
  have hgr := hG.gr
  have hkn := hC.kn
  refine w_aload_n dX7_mirrored_0 rfl rfl (by first | decide | omega) ?_
  refine w_iload_n dX7_mirrored_1 rfl rfl ?_
  refine w_callVP (o := 0) (ci := 7) (as := [(0, g)]) (rest := []) (k := 0) fX7_mirrored_2 rfl rfl rfl rfl rfl rfl rfl rfl (Nat.le_of_ble_eq_true rfl) (s_X7_isGroup X p g μ μ (fun o h1 => rfl) hC (by first | omega | assumption)) ?_
  have hf1 := am_b_r (0 ≤ g ∧ g < μ p 14)
  refine w_if_ne (tgt := 10) dX7_mirrored_5 rfl (R32.in (by have := am_b_r ((0 ≤ g ∧ g < μ p 14)); omega)) (fun c5 => ?_) (fun c5 => ?_)
  · skip
    replace c5 := am_b1 c5
    refine w_aload_n dX7_mirrored_10 rfl rfl (by first | decide | omega) ?_
    refine w_iload_n dX7_mirrored_11 rfl rfl ?_
    refine w_callVV (o := 0) (ci := 7) (as := [(0, g)]) (rest := []) (k := 0) fX7_mirrored_12 rfl rfl rfl rfl rfl rfl rfl rfl (Nat.le_of_ble_eq_true rfl) (s_X7_load X p g μ μ (fun o h1 => rfl) hC (by first | omega | assumption)) (fun μL hμL => ?_)
    obtain ⟨hFL, hD_L⟩ := hμL
    have hok := (hD_L).ok
    have hmr := mnK_r hok
    have hfl := hG.fl (g := g) (by omega)
    refine w_aload_n dX7_mirrored_15 rfl rfl (by first | decide | omega) ?_
    refine w_getR (o := 0) (x := 6) fX7_mirrored_16 rfl rfl rfl rfl ?_
    refine w_callVI (o := 6) (ci := 0) (as := []) (rest := []) (k := 3) fX7_mirrored_19 rfl rfl rfl rfl rfl rfl rfl rfl (Nat.le_of_ble_eq_true rfl) (s_X0_findBest X (ddt μ p (p + 5) (μ p 3) g) μL hD_L) (fun xB μB hμB => ?_)
    obtain ⟨hFB, hz_B, hD_B, hf_B⟩ := hμB
    refine w_lstore_n (ls' := [(2, 0), (0, g), (1, xB), (9, 0), (9, 0), (9, 0), (9, 0)]) dX7_mirrored_22 rfl (Nat.le_of_ble_eq_true rfl) rfl rfl ?_
    refine w_lload_n dX7_mirrored_23 rfl rfl ?_
    refine w_ldc2 (n := 9223372036854775807) dX7_mirrored_24 k_871 (by decide) ?_
    refine w_lc_ne (tgt := 34) dX7_mirrored_27 dX7_mirrored_28 rfl (R64.in (by omega)) (R64.in (by omega)) (fun c28 => ?_) (fun c28 => ?_)
    · skip
      refine w_aload_n dX7_mirrored_34 rfl rfl (by first | decide | omega) ?_
      refine w_getR (o := 0) (x := 6) fX7_mirrored_35 rfl rfl rfl rfl ?_
      refine w_lload_n dX7_mirrored_38 rfl rfl ?_
      refine w_callVP (o := 6) (ci := 0) (as := [(1, xB)]) (rest := []) (k := 0) fX7_mirrored_39 rfl rfl rfl rfl rfl rfl rfl rfl (Nat.le_of_ble_eq_true rfl) (s_X0_leftOf_k X (ddt μ p (p + 5) (μ p 3) g) (bR (ddt μ p (p + 5) (μ p 3) g) - bL (ddt μ p (p + 5) (μ p 3) g)) (bL (ddt μ p (p + 5) (μ p 3) g)) xB μB hD_B (mnK_w hok (fun q => c28 (hz_B.trans q))).1 (mnK_w hok (fun q => c28 (hz_B.trans q))).2.1 (hz_B.trans (mnK_w hok (fun q => c28 (hz_B.trans q))).2.2.1)) ?_
      refine w_istore (ls' := [(2, 0), (0, g), (1, xB), (9, 0), (0, (bL (ddt μ p (p + 5) (μ p 3) g))), (9, 0), (9, 0)]) dX7_mirrored_42 (Nat.le_of_ble_eq_true rfl) rfl rfl ?_
      have hr2 := mnK_r2 hok (fun q => c28 (hz_B.trans q))
      refine w_aload_n dX7_mirrored_44 rfl rfl (by first | decide | omega) ?_
      refine w_getR (o := 0) (x := 6) fX7_mirrored_45 rfl rfl rfl rfl ?_
      refine w_lload_n dX7_mirrored_48 rfl rfl ?_
      refine w_callVP (o := 6) (ci := 0) (as := [(1, xB)]) (rest := []) (k := 0) fX7_mirrored_49 rfl rfl rfl rfl rfl rfl rfl rfl (Nat.le_of_ble_eq_true rfl) (s_X0_rightOf_k X (ddt μ p (p + 5) (μ p 3) g) (bR (ddt μ p (p + 5) (μ p 3) g) - bL (ddt μ p (p + 5) (μ p 3) g)) (bL (ddt μ p (p + 5) (μ p 3) g)) xB μB hD_B (mnK_w hok (fun q => c28 (hz_B.trans q))).1 (mnK_w hok (fun q => c28 (hz_B.trans q))).2.1 (hz_B.trans (mnK_w hok (fun q => c28 (hz_B.trans q))).2.2.1)) ?_
      refine Wp.topE (b := bR (ddt μ p (p + 5) (μ p 3) g)) (by omega) ?_
      refine w_istore (ls' := [(2, 0), (0, g), (1, xB), (9, 0), (0, (bL (ddt μ p (p + 5) (μ p 3) g))), (0, bR (ddt μ p (p + 5) (μ p 3) g)), (9, 0)]) dX7_mirrored_52 (Nat.le_of_ble_eq_true rfl) rfl rfl ?_
      refine w_iconst dX7_mirrored_54 ?_
      refine w_istore (ls' := [(2, 0), (0, g), (1, xB), (9, 0), (0, (bL (ddt μ p (p + 5) (μ p 3) g))), (0, bR (ddt μ p (p + 5) (μ p 3) g)), (0, 0)]) dX7_mirrored_55 (Nat.le_of_ble_eq_true rfl) rfl rfl ?_
      have hL57 : ∀ (n57 : Nat) (i : Int) (μ1 : Mu), (μ p 7 - i).toNat = n57 → Fr 6 19 1 0 μ1 μ → (0 ≤ i ∧ i ≤ μ p 7) → (∀ j : Int, 0 ≤ j → j < i → μ1 19 j = -μ (p + 5) j) → Wp (GG X) M_X7_mirrored 57 [(2, 0), (0, g), (9, 0), (9, 0), (0, bL (ddt μ p (p + 5) (μ p 3) g)), (0, bR (ddt μ p (p + 5) (μ p 3) g)), (0, i)] [] μ1 (qI 0 fun z μ' => (Fr 6 19 1 0 μ' μ) ∧ (z = if (0 ≤ g ∧ g < μ p 14) then mirA (ddt μ p (p + 5) (μ p 3) g) (ddM μ p g) else -1)) := by
        intro n57
        induction n57 using Nat.strongRecOn with
        | ind n57 ih57 =>
          intro i μ1 hn57 hF57 hi0 hT1
          refine w_iload dX7_mirrored_57 rfl ?_
          refine w_aload_n dX7_mirrored_59 rfl rfl (by first | decide | omega) ?_
          refine w_getDx (o := 0) (f := 7) (x := p) fX7_mirrored_60 rfl rfl rfl rfl ((congrFun (hF57.at (by omega) (by omega)) _).trans hC.p7) ?_
          refine w_getIx (o := (p).toNat) (f := 7) (x := μ p 7) fX7_mirrored_63 (by omega) (pSh0 rfl rfl (by assumption)) (Nat.le_of_ble_eq_true rfl) rfl (congrFun (hF57.at (by omega) (by omega)) _) ?_
          have hr4 := PI.sz hC.i
          have hr5 := PI.sz hI
          refine w_icmp_ge (tgt := 93) dX7_mirrored_66 rfl (R32.in (by omega)) (R32.in (by omega)) (fun c66 => ?_) (fun c66 => ?_)
          · skip
            refine w_aload_n dX7_mirrored_93 rfl rfl (by first | decide | omega) ?_
            refine w_iload_n dX7_mirrored_94 rfl rfl ?_
            have e9 : μ1 (p + 9) = μ (p + 9) := hF57.at (by omega) (by omega)
            have e10 : μ1 (p + 10) = μ (p + 10) := hF57.at (by omega) (by omega)
            have e0 : μ1 p = μ p := hF57.at (by omega) (by omega)
            have hdm : ddt μ1 p 19 (μ1 p 3) g = ddM μ p g := by rw [e0]; exact dd_try hC (fun o h1 => hF57.at (by omega) (by omega)) (by omega) (fun j h3 h4 h5 => hT1 j h3 (by omega))
            refine w_callVV (o := 0) (ci := 7) (as := [(0, g)]) (rest := []) (k := 0) fX7_mirrored_95 rfl rfl rfl rfl rfl rfl rfl rfl (Nat.le_of_ble_eq_true rfl) (s_X7_loadTried X p g μ1 μ1 (fun o h1 => rfl) (CJ.cg hC (fun o h1 => (hF57.at (by omega) (by omega)))) (by rw [e0]; omega) (fun j h1 h2 => by rw [e9] at h1 h2; rw [e10] at h2; have h3 := hT1 j (by omega) (by omega); have h4 := hI.hd (q := p + 5) (i := j) rfl (by omega); omega)) (fun μM hμM => ?_)
            obtain ⟨hFM, hD_M⟩ := hμM
            have hDM : GLd (ddM μ p g) μM := (by rw [← hdm]; exact hD_M)
            have hokM := hDM.ok
            have hmrM := mnK_r hokM
            refine w_aload_n dX7_mirrored_98 rfl rfl (by first | decide | omega) ?_
            refine w_getR (o := 0) (x := 6) fX7_mirrored_99 rfl rfl rfl rfl ?_
            refine w_callVI (o := 6) (ci := 0) (as := []) (rest := []) (k := 3) fX7_mirrored_102 rfl rfl rfl rfl rfl rfl rfl rfl (Nat.le_of_ble_eq_true rfl) (s_X0_findBest X (ddM μ p g) μM hDM) (fun xE μE hμE => ?_)
            obtain ⟨hFE, hz_E, hD_E, hf_E⟩ := hμE
            refine w_lstore_n (ls' := [(2, 0), (0, g), (1, xE), (9, 0), (0, bL (ddt μ p (p + 5) (μ p 3) g)), (0, bR (ddt μ p (p + 5) (μ p 3) g)), (0, i)]) dX7_mirrored_105 rfl (Nat.le_of_ble_eq_true rfl) rfl rfl ?_
            refine w_lload_n dX7_mirrored_106 rfl rfl ?_
            refine w_ldc2 (n := 9223372036854775807) dX7_mirrored_107 k_871 (by decide) ?_
            refine w_lc_ne (tgt := 117) dX7_mirrored_110 dX7_mirrored_111 rfl (R64.in (by omega)) (R64.in (by omega)) (fun c111 => ?_) (fun c111 => ?_)
            · skip
              have hr3 := mnK_r2 hokM (fun q => c111 (hz_E.trans q))
              refine w_aload_n dX7_mirrored_117 rfl rfl (by first | decide | omega) ?_
              refine w_getR (o := 0) (x := 6) fX7_mirrored_118 rfl rfl rfl rfl ?_
              refine w_lload_n dX7_mirrored_121 rfl rfl ?_
              refine w_callVP (o := 6) (ci := 0) (as := [(1, xE)]) (rest := []) (k := 0) fX7_mirrored_122 rfl rfl rfl rfl rfl rfl rfl rfl (Nat.le_of_ble_eq_true rfl) (s_X0_leftOf_k X (ddM μ p g) (bR (ddM μ p g) - bL (ddM μ p g)) (bL (ddM μ p g)) xE μE hD_E (mnK_w hokM (fun q => c111 (hz_E.trans q))).1 (mnK_w hokM (fun q => c111 (hz_E.trans q))).2.1 (hz_E.trans (mnK_w hokM (fun q => c111 (hz_E.trans q))).2.2.1)) ?_
              refine w_iload dX7_mirrored_125 rfl ?_
              refine w_ineg dX7_mirrored_127 ?_
              refine w_icmp_ne (tgt := 149) dX7_mirrored_128 rfl (R32.in (by omega)) (R32.in (by omega)) (fun c128 => ?_) (fun c128 => ?_)
              · skip
                refine w_iconst dX7_mirrored_149 ?_
                exact w_iretI dX7_mirrored_150 rfl ⟨((hFE.wd (by omega) (by omega)).tr ((hFM.wd (by omega) (by omega)).tr hF57)), (by exact ifT (by omega) (by unfold mirA; rw [if_neg (fun q => c28 (hz_B.trans q)), if_neg (fun q => c111 (hz_E.trans q))]; first | exact ifT (by omega) rfl | exact ifF (by omega) rfl))⟩
              · skip
                refine w_aload_n dX7_mirrored_131 rfl rfl (by first | decide | omega) ?_
                refine w_getR (o := 0) (x := 6) fX7_mirrored_132 rfl rfl rfl rfl ?_
                refine w_lload_n dX7_mirrored_135 rfl rfl ?_
                refine w_callVP (o := 6) (ci := 0) (as := [(1, xE)]) (rest := []) (k := 0) fX7_mirrored_136 rfl rfl rfl rfl rfl rfl rfl rfl (Nat.le_of_ble_eq_true rfl) (s_X0_rightOf_k X (ddM μ p g) (bR (ddM μ p g) - bL (ddM μ p g)) (bL (ddM μ p g)) xE μE hD_E (mnK_w hokM (fun q => c111 (hz_E.trans q))).1 (mnK_w hokM (fun q => c111 (hz_E.trans q))).2.1 (hz_E.trans (mnK_w hokM (fun q => c111 (hz_E.trans q))).2.2.1)) ?_
                refine w_iload dX7_mirrored_139 rfl ?_
                refine w_ineg dX7_mirrored_141 ?_
                refine w_icmp_ne (tgt := 149) dX7_mirrored_142 rfl (R32.in (by omega)) (R32.in (by omega)) (fun c142 => ?_) (fun c142 => ?_)
                · skip
                  refine w_iconst dX7_mirrored_149 ?_
                  exact w_iretI dX7_mirrored_150 rfl ⟨((hFE.wd (by omega) (by omega)).tr ((hFM.wd (by omega) (by omega)).tr hF57)), (by exact ifT (by omega) (by unfold mirA; rw [if_neg (fun q => c28 (hz_B.trans q)), if_neg (fun q => c111 (hz_E.trans q))]; first | exact ifT (by omega) rfl | exact ifF (by omega) rfl))⟩
                · skip
                  refine w_iconst dX7_mirrored_145 ?_
                  refine w_goto (tgt := 150) dX7_mirrored_146 rfl ?_
                  exact w_iretI dX7_mirrored_150 rfl ⟨((hFE.wd (by omega) (by omega)).tr ((hFM.wd (by omega) (by omega)).tr hF57)), (by exact ifT (by omega) (by unfold mirA; rw [if_neg (fun q => c28 (hz_B.trans q)), if_neg (fun q => c111 (hz_E.trans q))]; first | exact ifT (by omega) rfl | exact ifF (by omega) rfl))⟩
            · skip
              refine w_bipush dX7_mirrored_114 (by decide) ?_
              exact w_iretI dX7_mirrored_116 rfl ⟨((hFE.wd (by omega) (by omega)).tr ((hFM.wd (by omega) (by omega)).tr hF57)), (by exact ifT (by omega) (by unfold mirA; rw [if_neg (fun q => c28 (hz_B.trans q)), if_pos (hz_E.symm.trans c111)]))⟩
          · skip
            refine w_aload_n dX7_mirrored_69 rfl rfl (by first | decide | omega) ?_
            refine w_getR (o := 0) (x := 19) fX7_mirrored_70 rfl rfl rfl rfl ?_
            refine w_iload dX7_mirrored_73 rfl ?_
            refine w_aload_n dX7_mirrored_75 rfl rfl (by first | decide | omega) ?_
            refine w_getDx (o := 0) (f := 7) (x := p) fX7_mirrored_76 rfl rfl rfl rfl ((congrFun (hF57.at (by omega) (by omega)) _).trans hC.p7) ?_
            refine w_getR (o := (p).toNat) (x := p + 5) fX7_mirrored_79 (by omega) (pSh0 rfl rfl (by assumption)) rfl (pRf 10 5 rfl rfl (by assumption)) ?_
            refine w_iload dX7_mirrored_82 rfl ?_
            refine w_ialdx (o := (p + 5).toNat) (n := 64) (x := μ (p + 5) i) dX7_mirrored_84 (by omega) (pSh 5 rfl rfl (by assumption)) (Nat.le_of_ble_eq_true rfl) (by omega) (congrFun (hF57.at (by omega) (by omega)) _) ?_
            have hr8 := PI.hd hC.i (q := p + 5) (i := i) rfl (by omega)
            have hr9 := PI.hd hI (q := p + 5) (i := i) rfl (by omega)
            refine w_ineg dX7_mirrored_85 ?_
            refine w_iast (o := 19) (n := 64) dX7_mirrored_86 rfl rfl (Nat.le_of_ble_eq_true rfl) (by omega) (by omega) ?_
            refine w_iinc (ls' := [(2, 0), (0, g), (9, 0), (9, 0), (0, bL (ddt μ p (p + 5) (μ p 3) g)), (0, bR (ddt μ p (p + 5) (μ p 3) g)), (0, i + 1)]) dX7_mirrored_87 rfl (Nat.le_of_ble_eq_true rfl) rfl rfl ?_
            refine w_goto (tgt := 57) dX7_mirrored_90 rfl ?_
            exact ih57 _ (by omega) (i + 1) (am_up μ1 19 i (-(μ (p + 5) i))) rfl (hF57.up (by omega)) (by first | omega | assumption) (fillr (f := fun j => -μ (p + 5) j) hT1 rfl)
      refine Wp.fgl (ls' := [(2, 0), (0, g), (9, 0), (9, 0), (0, (bL (ddt μ p (p + 5) (μ p 3) g))), (0, bR (ddt μ p (p + 5) (μ p 3) g)), (0, 0)]) 2 rfl ?_
      exact hL57 _ 0 μB rfl ((hFB.wd (by omega) (by omega)).tr (hFL.wd (by omega) (by omega))) (by first | omega | assumption) (fun j h1 h2 => by omega)
    · skip
      refine w_bipush dX7_mirrored_31 (by decide) ?_
      exact w_iretI dX7_mirrored_33 rfl ⟨((hFB.wd (by omega) (by omega)).tr (hFL.wd (by omega) (by omega))), (by exact ifT (by omega) (by unfold mirA; rw [if_pos (hz_B.symm.trans c28)]))⟩
  · skip
    replace c5 := am_b0 c5
    refine w_iconst dX7_mirrored_8 ?_
    exact w_iretI dX7_mirrored_9 rfl ⟨Fr.rf, (by exact ifF (by omega) (rfl))⟩

set_option maxRecDepth 100000 in
set_option maxHeartbeats 4000000 in
theorem s_X7_level (X : AX) (p : Int) (g : Int) (w : Int) (μ : Mu) (hC : CJ μ p) (hg : -2147483648 ≤ g ∧ g ≤ 2147483647) (hw : -2147483648 ≤ w ∧ w ≤ 2147483647) : Wp (GG X) M_X7_level 0 [(2, 0), (0, g), (0, w), (9, 0), (9, 0)] [] μ (qI 0 fun z μ' => (Fr 6 14 1 0 μ' μ) ∧ (z = if (0 ≤ g ∧ g < μ p 14) ∧ 0 ≤ w ∧ w ≤ 2 then lvA (ddt μ p (p + 5) (μ p 3) g) w else -1000000)) := by
  have hI := hC.i
  have hG := hC.pg
  have hp := hI.at
  have hz := hI.sz
  have hgr := hG.gr
  have hkn := hC.kn
  refine w_aload_n dX7_level_0 rfl rfl (by first | decide | omega) ?_
  refine w_iload_n dX7_level_1 rfl rfl ?_
  refine w_callVP (o := 0) (ci := 7) (as := [(0, g)]) (rest := []) (k := 0) fX7_level_2 rfl rfl rfl rfl rfl rfl rfl rfl (Nat.le_of_ble_eq_true rfl) (s_X7_isGroup X p g μ μ (fun o h1 => rfl) hC (by first | omega | assumption)) ?_
  have hf1 := am_b_r (0 ≤ g ∧ g < μ p 14)
  refine w_if_eq (tgt := 17) dX7_level_5 rfl (R32.in (by have := am_b_r ((0 ≤ g ∧ g < μ p 14)); omega)) (fun c5 => ?_) (fun c5 => ?_)
  · skip
    replace c5 := am_b0 c5
    refine w_ldc (n := -1000000) dX7_level_17 k_704 (by decide) ?_
    exact w_iretI dX7_level_19 rfl ⟨Fr.rf, (by exact ifF (by omega) (rfl))⟩
  · skip
    replace c5 := am_b1 c5
    refine w_iload_n dX7_level_8 rfl rfl ?_
    refine w_if_lt (tgt := 17) dX7_level_9 rfl (R32.in (by omega)) (fun c9 => ?_) (fun c9 => ?_)
    · skip
      refine w_ldc (n := -1000000) dX7_level_17 k_704 (by decide) ?_
      exact w_iretI dX7_level_19 rfl ⟨Fr.rf, (by exact ifF (by omega) (rfl))⟩
    · skip
      refine w_iload_n dX7_level_12 rfl rfl ?_
      refine w_iconst dX7_level_13 ?_
      refine w_icmp_le (tgt := 20) dX7_level_14 rfl (R32.in (by omega)) (R32.in (by decide)) (fun c14 => ?_) (fun c14 => ?_)
      · skip
        refine w_aload_n dX7_level_20 rfl rfl (by first | decide | omega) ?_
        refine w_iload_n dX7_level_21 rfl rfl ?_
        refine w_callVV (o := 0) (ci := 7) (as := [(0, g)]) (rest := []) (k := 0) fX7_level_22 rfl rfl rfl rfl rfl rfl rfl rfl (Nat.le_of_ble_eq_true rfl) (s_X7_load X p g μ μ (fun o h1 => rfl) hC (by first | omega | assumption)) (fun μL hμL => ?_)
        obtain ⟨hFL, hD_L⟩ := hμL
        have hok := (hD_L).ok
        have hmr := mnK_r hok
        refine w_aload_n dX7_level_25 rfl rfl (by first | decide | omega) ?_
        refine w_getR (o := 0) (x := 6) fX7_level_26 rfl rfl rfl rfl ?_
        refine w_callVI (o := 6) (ci := 0) (as := []) (rest := []) (k := 0) fX7_level_29 rfl rfl rfl rfl rfl rfl rfl rfl (Nat.le_of_ble_eq_true rfl) (s_X0_findLevel X (ddt μ p (p + 5) (μ p 3) g) μL hD_L) (fun xV μV hμV => ?_)
        obtain ⟨hFV, hk_V, hb_V, hz_V, hD_V, hf_V⟩ := hμV
        have hkr := isK_r hok hk_V
        refine w_lstore_n (ls' := [(2, 0), (0, g), (0, w), (1, xV), (9, 0)]) dX7_level_32 rfl (Nat.le_of_ble_eq_true rfl) rfl rfl ?_
        refine w_lload_n dX7_level_33 rfl rfl ?_
        refine w_ldc2 (n := 9223372036854775807) dX7_level_34 k_871 (by decide) ?_
        refine w_lc_ne (tgt := 44) dX7_level_37 dX7_level_38 rfl (R64.in (by omega)) (R64.in (by omega)) (fun c38 => ?_) (fun c38 => ?_)
        · skip
          refine w_iload_n dX7_level_44 rfl rfl ?_
          rcases (show w = 0 ∨ w = 1 ∨ (¬ w = 0 ∧ ¬ w = 1) by omega) with q45 | q45 | q45
          · refine w_lookup (off := 27) (tgt := 72) dX7_level_45 (by decide) (R32.in (by omega)) (by rw [q45]; rfl) rfl ?_
            refine w_aload_n dX7_level_72 rfl rfl (by first | decide | omega) ?_
            refine w_getR (o := 0) (x := 6) fX7_level_73 rfl rfl rfl rfl ?_
            refine w_lload_n dX7_level_76 rfl rfl ?_
            refine w_callVP (o := 6) (ci := 0) (as := [(1, xV)]) (rest := []) (k := 0) fX7_level_77 rfl rfl rfl rfl rfl rfl rfl rfl (Nat.le_of_ble_eq_true rfl) (s_X0_leftOf_k X (ddt μ p (p + 5) (μ p 3) g) 0 (lvL (ddt μ p (p + 5) (μ p 3) g)) xV μV hD_V (lvK_w hok (fun q => c38 ((lvK_eq hok hk_V hb_V hz_V).trans q))).1 (lvK_w hok (fun q => c38 ((lvK_eq hok hk_V hb_V hz_V).trans q))).2.1 ((lvK_eq hok hk_V hb_V hz_V).trans (lvK_w hok (fun q => c38 ((lvK_eq hok hk_V hb_V hz_V).trans q))).2.2.1)) ?_
            exact w_iretI dX7_level_80 rfl ⟨((hFV.wd (by omega) (by omega)).tr hFL), (by exact ifT (by omega) (by unfold lvA; rw [if_neg (fun q => c38 ((lvK_eq hok hk_V hb_V hz_V).trans q)), if_pos (by omega)]))⟩
          · refine w_lookup (off := 36) (tgt := 81) dX7_level_45 (by decide) (R32.in (by omega)) (by rw [q45]; rfl) rfl ?_
            refine w_lload_n dX7_level_81 rfl rfl ?_
            refine w_callSP (as := [(1, xV)]) (rest := []) (k := 0) fX7_level_82 rfl rfl rfl rfl rfl (Nat.le_of_ble_eq_true rfl) (s_X0_uglinessOf_k X (ddt μ p (p + 5) (μ p 3) g) 0 (lvL (ddt μ p (p + 5) (μ p 3) g)) xV μV (lvK_w hok (fun q => c38 ((lvK_eq hok hk_V hb_V hz_V).trans q))).1 (lvK_w hok (fun q => c38 ((lvK_eq hok hk_V hb_V hz_V).trans q))).2.1 ((lvK_eq hok hk_V hb_V hz_V).trans (lvK_w hok (fun q => c38 ((lvK_eq hok hk_V hb_V hz_V).trans q))).2.2.1) hok) ?_
            exact w_iretI dX7_level_85 rfl ⟨((hFV.wd (by omega) (by omega)).tr hFL), (by exact ifT (by omega) (by unfold lvA; rw [if_neg (fun q => c38 ((lvK_eq hok hk_V hb_V hz_V).trans q)), if_neg (by omega), if_pos (by omega)]; exact (lvK_w hok (fun q => c38 ((lvK_eq hok hk_V hb_V hz_V).trans q))).2.2.2.1.symm))⟩
          · refine w_lookup (off := 41) (tgt := 86) dX7_level_45 (by decide) (R32.in (by omega)) (by simp [Op.lookupswitch.offset]; omega) rfl ?_
            refine w_lload_n dX7_level_86 rfl rfl ?_
            refine w_callSP (as := [(1, xV)]) (rest := []) (k := 0) fX7_level_87 rfl rfl rfl rfl rfl (Nat.le_of_ble_eq_true rfl) (s_X0_uglinessOf_k X (ddt μ p (p + 5) (μ p 3) g) 0 (lvL (ddt μ p (p + 5) (μ p 3) g)) xV μV (lvK_w hok (fun q => c38 ((lvK_eq hok hk_V hb_V hz_V).trans q))).1 (lvK_w hok (fun q => c38 ((lvK_eq hok hk_V hb_V hz_V).trans q))).2.1 ((lvK_eq hok hk_V hb_V hz_V).trans (lvK_w hok (fun q => c38 ((lvK_eq hok hk_V hb_V hz_V).trans q))).2.2.1) hok) ?_
            refine w_aload_n dX7_level_90 rfl rfl (by first | decide | omega) ?_
            refine w_getR (o := 0) (x := 6) fX7_level_91 rfl rfl rfl rfl ?_
            refine w_callVI (o := 6) (ci := 0) (as := []) (rest := [(0, ugl (ddt μ p (p + 5) (μ p 3) g) 0 (lvL (ddt μ p (p + 5) (μ p 3) g)))]) (k := 3) fX7_level_94 rfl rfl rfl rfl rfl rfl rfl rfl (Nat.le_of_ble_eq_true rfl) (s_X0_findBest X (ddt μ p (p + 5) (μ p 3) g) μV hD_V) (fun xB μB hμB => ?_)
            obtain ⟨hFB, hz_B, hD_B, hf_B⟩ := hμB
            refine w_callSP (as := [(1, xB)]) (rest := [(0, ugl (ddt μ p (p + 5) (μ p 3) g) 0 (lvL (ddt μ p (p + 5) (μ p 3) g)))]) (k := 0) fX7_level_97 rfl rfl rfl rfl rfl (Nat.le_of_ble_eq_true rfl) (s_X0_uglinessOf X xB μB (by first | omega | assumption)) ?_
            refine w_isub dX7_level_100 ?_
            exact w_iretI dX7_level_101 rfl ⟨((hFB.wd (by omega) (by omega)).tr ((hFV.wd (by omega) (by omega)).tr hFL)), (by exact ifT (by omega) (by unfold lvA bU; rw [if_neg (fun q => c38 ((lvK_eq hok hk_V hb_V hz_V).trans q)), if_neg (by omega), if_neg (by omega), ← hz_B, (lvK_w hok (fun q => c38 ((lvK_eq hok hk_V hb_V hz_V).trans q))).2.2.2.1]))⟩
        · skip
          refine w_ldc (n := -1000000) dX7_level_41 k_704 (by decide) ?_
          exact w_iretI dX7_level_43 rfl ⟨((hFV.wd (by omega) (by omega)).tr hFL), (by exact ifT (by omega) (by unfold lvA; rw [if_pos ((lvK_eq hok hk_V hb_V hz_V).symm.trans c38)]))⟩
      · skip
        refine w_ldc (n := -1000000) dX7_level_17 k_704 (by decide) ?_
        exact w_iretI dX7_level_19 rfl ⟨Fr.rf, (by exact ifF (by omega) (rfl))⟩

set_option maxRecDepth 100000 in
set_option maxHeartbeats 4000000 in
theorem s_X7_smooth (X : AX) (p : Int) (n : Int) (w : Int) (μ : Mu) (hC : CJ μ p) (hn : -2147483648 ≤ n ∧ n ≤ 2147483647) (hw : -2147483648 ≤ w ∧ w ≤ 2147483647) : Wp (GG X) M_X7_smooth 0 [(2, 0), (0, n), (0, w)] [] μ (qI 0 fun z μ' => (Fr 6 18 1 0 μ' μ) ∧ (z = if (0 ≤ n ∧ n ≤ 120) ∧ 0 ≤ w ∧ w ≤ 1 then (if (smT 1000000000 (ddt μ p (p + 5) (μ p 3)) n (μ p 14)) < 1000000000 then (if w = 0 then (smT 1000000000 (ddt μ p (p + 5) (μ p 3)) n (μ p 14)) else (smT 1000000000 (ddt μ p (p + 5) (μ p 3)) n (μ p 14)) - (tst (ddt μ p (p + 5) (μ p 3)) (μ p 14)).1) else -2) else -1)) := by
  have hI := hC.i
  have hG := hC.pg
  have hp := hI.at
  have hz := hI.sz
  have hgr := hG.gr
  have hkn := hC.kn
  refine w_iload_n dX7_smooth_0 rfl rfl ?_
  refine w_if_lt (tgt := 19) dX7_smooth_1 rfl (R32.in (by omega)) (fun c1 => ?_) (fun c1 => ?_)
  · skip
    refine w_iconst dX7_smooth_19 ?_
    exact w_iretI dX7_smooth_20 rfl ⟨Fr.rf, (by exact ifF (by omega) (rfl))⟩
  · skip
    refine w_iload_n dX7_smooth_4 rfl rfl ?_
    refine w_bipush dX7_smooth_5 (by decide) ?_
    refine w_icmp_gt (tgt := 19) dX7_smooth_7 rfl (R32.in (by omega)) (R32.in (by decide)) (fun c7 => ?_) (fun c7 => ?_)
    · skip
      refine w_iconst dX7_smooth_19 ?_
      exact w_iretI dX7_smooth_20 rfl ⟨Fr.rf, (by exact ifF (by omega) (rfl))⟩
    · skip
      refine w_iload_n dX7_smooth_10 rfl rfl ?_
      refine w_if_lt (tgt := 19) dX7_smooth_11 rfl (R32.in (by omega)) (fun c11 => ?_) (fun c11 => ?_)
      · skip
        refine w_iconst dX7_smooth_19 ?_
        exact w_iretI dX7_smooth_20 rfl ⟨Fr.rf, (by exact ifF (by omega) (rfl))⟩
      · skip
        refine w_iload_n dX7_smooth_14 rfl rfl ?_
        refine w_iconst dX7_smooth_15 ?_
        refine w_icmp_le (tgt := 21) dX7_smooth_16 rfl (R32.in (by omega)) (R32.in (by decide)) (fun c16 => ?_) (fun c16 => ?_)
        · skip
          refine w_aload_n dX7_smooth_21 rfl rfl (by first | decide | omega) ?_
          refine w_getR (o := 0) (x := 16) fX7_smooth_22 rfl rfl rfl rfl ?_
          refine w_aload_n dX7_smooth_25 rfl rfl (by first | decide | omega) ?_
          refine w_getDx (o := 0) (f := 7) (x := p) fX7_smooth_26 rfl rfl rfl rfl hC.p7 ?_
          refine w_aload_n dX7_smooth_29 rfl rfl (by first | decide | omega) ?_
          refine w_getR (o := 0) (x := 6) fX7_smooth_30 rfl rfl rfl rfl ?_
          refine w_iload_n dX7_smooth_33 rfl rfl ?_
          refine w_callVI (o := 16) (ci := 4) (as := [(2, p), (2, 6), (0, n)]) (rest := []) (k := 3) fX7_smooth_34 rfl rfl rfl rfl rfl rfl rfl rfl (Nat.le_of_ble_eq_true rfl) (s_X4_weigh X p n μ μ (fun o h1 => rfl) hI hG (hC.lda hkn) (by first | omega | assumption)) (fun xW μW hμW => ?_)
          obtain ⟨hFW, hz_W, ht_W, hB_W⟩ := hμW
          refine w_if_ne (tgt := 43) dX7_smooth_37 rfl (R32.in (by omega)) (fun c37 => ?_) (fun c37 => ?_)
          · skip
            refine w_iload_n dX7_smooth_43 rfl rfl ?_
            refine w_if_ne (tgt := 55) dX7_smooth_44 rfl (R32.in (by omega)) (fun c44 => ?_) (fun c44 => ?_)
            · skip
              refine w_aload_n dX7_smooth_55 rfl rfl (by first | decide | omega) ?_
              refine w_getR (o := 0) (x := 15) fX7_smooth_56 rfl rfl rfl rfl ?_
              refine w_aload_n dX7_smooth_59 rfl rfl (by first | decide | omega) ?_
              refine w_getDx (o := 0) (f := 7) (x := p) fX7_smooth_60 rfl rfl rfl rfl ((congrFun (hFW.at (by omega) (by omega)) _).trans hC.p7) ?_
              refine w_aload_n dX7_smooth_63 rfl rfl (by first | decide | omega) ?_
              refine w_getDx (o := 0) (f := 7) (x := p) fX7_smooth_64 rfl rfl rfl rfl ((congrFun (hFW.at (by omega) (by omega)) _).trans hC.p7) ?_
              refine w_getR (o := (p).toNat) (x := p + 5) fX7_smooth_67 (by omega) (pSh0 rfl rfl (by assumption)) rfl (pRf 10 5 rfl rfl (by assumption)) ?_
              refine w_aload_n dX7_smooth_70 rfl rfl (by first | decide | omega) ?_
              refine w_getDx (o := 0) (f := 7) (x := p) fX7_smooth_71 rfl rfl rfl rfl ((congrFun (hFW.at (by omega) (by omega)) _).trans hC.p7) ?_
              refine w_getIx (o := (p).toNat) (f := 3) (x := μ p 3) fX7_smooth_74 (by omega) (pSh0 rfl rfl (by assumption)) (Nat.le_of_ble_eq_true rfl) rfl (congrFun (hFW.at (by omega) (by omega)) _) ?_
              have hr2 := hC.kn
              refine w_aload_n dX7_smooth_77 rfl rfl (by first | decide | omega) ?_
              refine w_getR (o := 0) (x := 6) fX7_smooth_78 rfl rfl rfl rfl ?_
              refine w_callVV (o := 15) (ci := 6) (as := [(2, p), (2, p + 5), (0, μ p 3), (2, 6)]) (rest := []) (k := 5) fX7_smooth_81 rfl rfl rfl rfl rfl rfl rfl rfl (Nat.le_of_ble_eq_true rfl) (s_X6_take X p (μ p 3) μ μW (fun o h1 => (hFW.at (by omega) (by omega))) hI hG (hC.lda hkn)) (fun μT hμT => ?_)
              obtain ⟨hFT, h0_T, h1_T, h2_T, h3_T⟩ := hμT
              refine w_aload_n dX7_smooth_84 rfl rfl (by first | decide | omega) ?_
              refine w_getR (o := 0) (x := 16) fX7_smooth_85 rfl rfl rfl rfl ?_
              refine w_getIx (o := 16) (f := 0) (x := μW 16 0) fX7_smooth_88 rfl rfl (Nat.le_of_ble_eq_true rfl) rfl (congrFun (hFT.at (by omega) (by omega)) _) ?_
              refine w_aload_n dX7_smooth_91 rfl rfl (by first | decide | omega) ?_
              refine w_getR (o := 0) (x := 15) fX7_smooth_92 rfl rfl rfl rfl ?_
              refine w_getIx (o := 15) (f := 0) (x := μT 15 0) fX7_smooth_95 rfl rfl (Nat.le_of_ble_eq_true rfl) rfl rfl ?_
              refine w_isub dX7_smooth_98 ?_
              exact w_iretI dX7_smooth_99 rfl ⟨((hFT.wd (by omega) (by omega)).tr hFW), (by exact ifT (by omega) (ifT (by omega) (ifF (by omega) (by rw [ht_W (by omega), h0_T]))))⟩
            · skip
              refine w_aload_n dX7_smooth_47 rfl rfl (by first | decide | omega) ?_
              refine w_getR (o := 0) (x := 16) fX7_smooth_48 rfl rfl rfl rfl ?_
              refine w_getIx (o := 16) (f := 0) (x := μW 16 0) fX7_smooth_51 rfl rfl (Nat.le_of_ble_eq_true rfl) rfl rfl ?_
              exact w_iretI dX7_smooth_54 rfl ⟨hFW, (by exact ifT (by omega) (ifT (by omega) (ifT (by omega) (ht_W (by omega)))))⟩
          · skip
            refine w_bipush dX7_smooth_40 (by decide) ?_
            exact w_iretI dX7_smooth_42 rfl ⟨hFW, (by exact ifT (by omega) (ifF (by omega) rfl))⟩
        · skip
          refine w_iconst dX7_smooth_19 ?_
          exact w_iretI dX7_smooth_20 rfl ⟨Fr.rf, (by exact ifF (by omega) (rfl))⟩

set_option maxRecDepth 100000 in
set_option maxHeartbeats 4000000 in
theorem s_X7_smoothed (X : AX) (p : Int) (n : Int) (g : Int) (w : Int) (μ : Mu) (hC : CJ μ p) (hn : -2147483648 ≤ n ∧ n ≤ 2147483647) (hg : -2147483648 ≤ g ∧ g ≤ 2147483647) (hw : -2147483648 ≤ w ∧ w ≤ 2147483647) : Wp (GG X) M_X7_smoothed 0 [(2, 0), (0, n), (0, g), (0, w), (9, 0), (9, 0)] [] μ (qI 0 fun z μ' => (Fr 6 18 1 0 μ' μ) ∧ (z = if ((0 ≤ n ∧ n ≤ 120) ∧ (0 ≤ g ∧ g < μ p 14) ∧ 0 ≤ w ∧ w ≤ 3) ∧ (smT 1000000000 (ddt μ p (p + 5) (μ p 3)) n (μ p 14)) < 1000000000 then smA (ddt μ p (p + 5) (μ p 3)) n (μ p 14) g w else -1000000)) := by
  have hI := hC.i
  have hG := hC.pg
  have hp := hI.at
  have hz := hI.sz
  have hgr := hG.gr
  have hkn := hC.kn
  refine w_iload_n dX7_smoothed_0 rfl rfl ?_
  refine w_if_lt (tgt := 27) dX7_smoothed_1 rfl (R32.in (by omega)) (fun c1 => ?_) (fun c1 => ?_)
  · skip
    refine w_ldc (n := -1000000) dX7_smoothed_27 k_704 (by decide) ?_
    exact w_iretI dX7_smoothed_29 rfl ⟨Fr.rf, (by exact ifF (by omega) (rfl))⟩
  · skip
    refine w_iload_n dX7_smoothed_4 rfl rfl ?_
    refine w_bipush dX7_smoothed_5 (by decide) ?_
    refine w_icmp_gt (tgt := 27) dX7_smoothed_7 rfl (R32.in (by omega)) (R32.in (by decide)) (fun c7 => ?_) (fun c7 => ?_)
    · skip
      refine w_ldc (n := -1000000) dX7_smoothed_27 k_704 (by decide) ?_
      exact w_iretI dX7_smoothed_29 rfl ⟨Fr.rf, (by exact ifF (by omega) (rfl))⟩
    · skip
      refine w_aload_n dX7_smoothed_10 rfl rfl (by first | decide | omega) ?_
      refine w_iload_n dX7_smoothed_11 rfl rfl ?_
      refine w_callVP (o := 0) (ci := 7) (as := [(0, g)]) (rest := []) (k := 0) fX7_smoothed_12 rfl rfl rfl rfl rfl rfl rfl rfl (Nat.le_of_ble_eq_true rfl) (s_X7_isGroup X p g μ μ (fun o h1 => rfl) hC (by first | omega | assumption)) ?_
      have hf1 := am_b_r (0 ≤ g ∧ g < μ p 14)
      refine w_if_eq (tgt := 27) dX7_smoothed_15 rfl (R32.in (by have := am_b_r ((0 ≤ g ∧ g < μ p 14)); omega)) (fun c15 => ?_) (fun c15 => ?_)
      · skip
        replace c15 := am_b0 c15
        refine w_ldc (n := -1000000) dX7_smoothed_27 k_704 (by decide) ?_
        exact w_iretI dX7_smoothed_29 rfl ⟨Fr.rf, (by exact ifF (by omega) (rfl))⟩
      · skip
        replace c15 := am_b1 c15
        refine w_iload_n dX7_smoothed_18 rfl rfl ?_
        refine w_if_lt (tgt := 27) dX7_smoothed_19 rfl (R32.in (by omega)) (fun c19 => ?_) (fun c19 => ?_)
        · skip
          refine w_ldc (n := -1000000) dX7_smoothed_27 k_704 (by decide) ?_
          exact w_iretI dX7_smoothed_29 rfl ⟨Fr.rf, (by exact ifF (by omega) (rfl))⟩
        · skip
          refine w_iload_n dX7_smoothed_22 rfl rfl ?_
          refine w_iconst dX7_smoothed_23 ?_
          refine w_icmp_le (tgt := 30) dX7_smoothed_24 rfl (R32.in (by omega)) (R32.in (by decide)) (fun c24 => ?_) (fun c24 => ?_)
          · skip
            refine w_aload_n dX7_smoothed_30 rfl rfl (by first | decide | omega) ?_
            refine w_getR (o := 0) (x := 16) fX7_smoothed_31 rfl rfl rfl rfl ?_
            refine w_aload_n dX7_smoothed_34 rfl rfl (by first | decide | omega) ?_
            refine w_getDx (o := 0) (f := 7) (x := p) fX7_smoothed_35 rfl rfl rfl rfl hC.p7 ?_
            refine w_aload_n dX7_smoothed_38 rfl rfl (by first | decide | omega) ?_
            refine w_getR (o := 0) (x := 6) fX7_smoothed_39 rfl rfl rfl rfl ?_
            refine w_iload_n dX7_smoothed_42 rfl rfl ?_
            refine w_callVI (o := 16) (ci := 4) (as := [(2, p), (2, 6), (0, n)]) (rest := []) (k := 3) fX7_smoothed_43 rfl rfl rfl rfl rfl rfl rfl rfl (Nat.le_of_ble_eq_true rfl) (s_X4_weigh X p n μ μ (fun o h1 => rfl) hI hG (hC.lda hkn) (by first | omega | assumption)) (fun xW μW hμW => ?_)
            obtain ⟨hFW, hz_W, ht_W, hB_W⟩ := hμW
            refine w_if_ne (tgt := 52) dX7_smoothed_46 rfl (R32.in (by omega)) (fun c46 => ?_) (fun c46 => ?_)
            · skip
              refine w_aload_n dX7_smoothed_52 rfl rfl (by first | decide | omega) ?_
              refine w_getR (o := 0) (x := 16) fX7_smoothed_53 rfl rfl rfl rfl ?_
              refine w_aload_n dX7_smoothed_56 rfl rfl (by first | decide | omega) ?_
              refine w_getDx (o := 0) (f := 7) (x := p) fX7_smoothed_57 rfl rfl rfl rfl ((congrFun (hFW.at (by omega) (by omega)) _).trans hC.p7) ?_
              refine w_aload_n dX7_smoothed_60 rfl rfl (by first | decide | omega) ?_
              refine w_getR (o := 0) (x := 6) fX7_smoothed_61 rfl rfl rfl rfl ?_
              refine w_iload_n dX7_smoothed_64 rfl rfl ?_
              refine w_iload_n dX7_smoothed_65 rfl rfl ?_
              refine w_callVI (o := 16) (ci := 4) (as := [(2, p), (2, 6), (0, n), (0, g)]) (rest := []) (k := 4) fX7_smoothed_66 rfl rfl rfl rfl rfl rfl rfl rfl (Nat.le_of_ble_eq_true rfl) (s_X4_choose X p n g μ μW (fun o h1 => (hFW.at (by omega) (by omega))) hI hG (hC.lda hkn) (by first | omega | assumption) (by first | omega | assumption) (hB_W (by omega)) (by first | omega | assumption)) (fun xC μC hμC => ?_)
              obtain ⟨hFC, hz_C, hD_C, hK_C⟩ := hμC
              have hok := hD_C.ok
              obtain ⟨s, l, hS_1, hS_2, hS_0⟩ := chI_w (g := g) ((hC.lda hkn).dd hI hG) (show (smT 1000000000 (ddt μ p (p + 5) (μ p 3)) n (μ p 14)) < 1000000000 by omega) (by omega)
              have hS_3 : xC = key (ddt μ p (p + 5) (μ p 3) g) s l := hz_C.trans hS_0
              have hkr := key_r hok hS_2 hS_1
              refine w_lstore (ls' := [(2, 0), (0, n), (0, g), (0, w), (1, xC), (9, 0)]) dX7_smoothed_69 (Nat.le_of_ble_eq_true rfl) rfl rfl ?_
              refine w_lload dX7_smoothed_71 rfl ?_
              refine w_ldc2 (n := 9223372036854775807) dX7_smoothed_73 k_871 (by decide) ?_
              refine w_lc_ne (tgt := 83) dX7_smoothed_76 dX7_smoothed_77 rfl (R64.in (by omega)) (R64.in (by omega)) (fun c77 => ?_) (fun c77 => ?_)
              · skip
                refine w_iload_n dX7_smoothed_83 rfl rfl ?_
                refine w_iconst dX7_smoothed_84 ?_
                refine w_icmp_ne (tgt := 100) dX7_smoothed_85 rfl (R32.in (by omega)) (R32.in (by decide)) (fun c85 => ?_) (fun c85 => ?_)
                · skip
                  refine w_aload_n dX7_smoothed_100 rfl rfl (by first | decide | omega) ?_
                  refine w_getR (o := 0) (x := 6) fX7_smoothed_101 rfl rfl rfl rfl ?_
                  refine w_lload dX7_smoothed_104 rfl ?_
                  refine w_iload_n dX7_smoothed_106 rfl rfl ?_
                  refine w_callVI (o := 6) (ci := 0) (as := [(1, xC), (0, w)]) (rest := []) (k := 0) fX7_smoothed_107 rfl rfl rfl rfl rfl rfl rfl rfl (Nat.le_of_ble_eq_true rfl) (s_X0_tell X (ddt μ p (p + 5) (μ p 3) g) s l xC w μC hD_C hS_1 hS_2 hS_3 (by first | omega | assumption)) (fun xT μT hμT => ?_)
                  obtain ⟨hFT, hz_T, hD_T, hf_T⟩ := hμT
                  exact w_iretI dX7_smoothed_110 rfl ⟨((hFT.wd (by omega) (by omega)).tr ((hFC.wd (by omega) (by omega)).tr hFW)), (by first | exact ifT (by omega) (by unfold smA; rw [if_neg (by omega), if_neg (by omega), if_neg (by omega), ← hz_C]; exact hz_R) | exact ifT (by omega) (smA_t hok hS_1 hS_2 (hz_C.symm.trans hS_3) ⟨by omega, by omega⟩ hz_T))⟩
                · skip
                  refine w_aload_n dX7_smoothed_88 rfl rfl (by first | decide | omega) ?_
                  refine w_getR (o := 0) (x := 6) fX7_smoothed_89 rfl rfl rfl rfl ?_
                  refine w_lload dX7_smoothed_92 rfl ?_
                  refine w_callVI (o := 6) (ci := 0) (as := [(1, xC)]) (rest := []) (k := 3) fX7_smoothed_94 rfl rfl rfl rfl rfl rfl rfl rfl (Nat.le_of_ble_eq_true rfl) (s_X0_rankOf X (ddt μ p (p + 5) (μ p 3) g) xC μC hD_C (by first | omega | assumption)) (fun xR μR hμR => ?_)
                  obtain ⟨hFR, hz_R, hD_R⟩ := hμR
                  refine w_goto (tgt := 110) dX7_smoothed_97 rfl ?_
                  exact w_iretI dX7_smoothed_110 rfl ⟨((hFR.wd (by omega) (by omega)).tr ((hFC.wd (by omega) (by omega)).tr hFW)), (by first | exact ifT (by omega) (by unfold smA; rw [if_neg (by omega), if_neg (by omega), if_neg (by omega), ← hz_C]; exact hz_R) | exact ifT (by omega) (smA_t hok hS_1 hS_2 (hz_C.symm.trans hS_3) ⟨by omega, by omega⟩ hz_T))⟩
              · skip
                omega
            · skip
              refine w_ldc (n := -1000000) dX7_smoothed_49 k_704 (by decide) ?_
              exact w_iretI dX7_smoothed_51 rfl ⟨hFW, (by exact ifF (by omega) (rfl))⟩
          · skip
            refine w_ldc (n := -1000000) dX7_smoothed_27 k_704 (by decide) ?_
            exact w_iretI dX7_smoothed_29 rfl ⟨Fr.rf, (by exact ifF (by omega) (rfl))⟩

set_option maxRecDepth 100000 in
set_option maxHeartbeats 4000000 in
theorem s_X7_single (X : AX) (p : Int) (i : Int) (w : Int) (μ : Mu) (hC : CJ μ p) (hi : -2147483648 ≤ i ∧ i ≤ 2147483647) (hw : -2147483648 ≤ w ∧ w ≤ 2147483647) : Wp (GG X) M_X7_single 0 [(2, 0), (0, i), (0, w), (9, 0), (9, 0), (9, 0)] [] μ (pP 0 (if (0 ≤ i ∧ i < μ p 7 ∧ μ (p + 4) i = 1) ∧ μ (p + 8) i < 0 ∧ 0 ≤ w ∧ w ≤ 2 then sglA μ p i w else -1000000) μ) := by
  have hI := hC.i
  have hG := hC.pg
  have hp := hI.at
  have hz := hI.sz
  have hgr := hG.gr
  have hkn := hC.kn
  refine w_aload_n dX7_single_0 rfl rfl (by first | decide | omega) ?_
  refine w_iload_n dX7_single_1 rfl rfl ?_
  refine w_callVP (o := 0) (ci := 7) (as := [(0, i)]) (rest := []) (k := 0) fX7_single_2 rfl rfl rfl rfl rfl rfl rfl rfl (Nat.le_of_ble_eq_true rfl) (s_X7_isNote X p i μ μ (fun o h1 => rfl) hC (by first | omega | assumption)) ?_
  have hf1 := am_b_r (0 ≤ i ∧ i < μ p 7 ∧ μ (p + 4) i = 1)
  refine w_if_eq (tgt := 25) dX7_single_5 rfl (R32.in (by have := am_b_r ((0 ≤ i ∧ i < μ p 7 ∧ μ (p + 4) i = 1)); omega)) (fun c5 => ?_) (fun c5 => ?_)
  · skip
    replace c5 := am_b0 c5
    refine w_ldc (n := -1000000) dX7_single_25 k_704 (by decide) ?_
    exact w_iretP dX7_single_27 rfl (by exact ifF (by omega) (rfl))
  · skip
    replace c5 := am_b1 c5
    refine w_aload_n dX7_single_8 rfl rfl (by first | decide | omega) ?_
    refine w_iload_n dX7_single_9 rfl rfl ?_
    refine w_callVP (o := 0) (ci := 7) (as := [(0, i)]) (rest := []) (k := 0) fX7_single_10 rfl rfl rfl rfl rfl rfl rfl rfl (Nat.le_of_ble_eq_true rfl) (s_X7_isGrouped X p i μ μ (fun o h1 => rfl) hC (by first | omega | assumption)) ?_
    have hf2 := am_b_r (0 ≤ i ∧ i < μ p 7 ∧ 0 ≤ μ (p + 8) i)
    refine w_if_ne (tgt := 25) dX7_single_13 rfl (R32.in (by have := am_b_r ((0 ≤ i ∧ i < μ p 7 ∧ 0 ≤ μ (p + 8) i)); omega)) (fun c13 => ?_) (fun c13 => ?_)
    · skip
      replace c13 := am_b1 c13
      refine w_ldc (n := -1000000) dX7_single_25 k_704 (by decide) ?_
      exact w_iretP dX7_single_27 rfl (by exact ifF (by omega) (rfl))
    · skip
      replace c13 := am_b0 c13
      refine w_iload_n dX7_single_16 rfl rfl ?_
      refine w_if_lt (tgt := 25) dX7_single_17 rfl (R32.in (by omega)) (fun c17 => ?_) (fun c17 => ?_)
      · skip
        refine w_ldc (n := -1000000) dX7_single_25 k_704 (by decide) ?_
        exact w_iretP dX7_single_27 rfl (by exact ifF (by omega) (rfl))
      · skip
        refine w_iload_n dX7_single_20 rfl rfl ?_
        refine w_iconst dX7_single_21 ?_
        refine w_icmp_le (tgt := 28) dX7_single_22 rfl (R32.in (by omega)) (R32.in (by decide)) (fun c22 => ?_) (fun c22 => ?_)
        · skip
          refine w_aload_n dX7_single_28 rfl rfl (by first | decide | omega) ?_
          refine w_getDx (o := 0) (f := 7) (x := p) fX7_single_29 rfl rfl rfl rfl hC.p7 ?_
          refine w_getR (o := (p).toNat) (x := p + 5) fX7_single_32 (by omega) (pSh0 rfl rfl (by assumption)) rfl (pRf 10 5 rfl rfl (by assumption)) ?_
          refine w_iload_n dX7_single_35 rfl rfl ?_
          refine w_ialdx (o := (p + 5).toNat) (n := 64) (x := μ (p + 5) i) dX7_single_36 (by omega) (pSh 5 rfl rfl (by assumption)) (Nat.le_of_ble_eq_true rfl) (by omega) rfl ?_
          have hr3 := PI.hd hC.i (q := p + 5) (i := i) rfl (by omega)
          have hr4 := PI.hd hI (q := p + 5) (i := i) rfl (by omega)
          refine w_istore_n (ls' := [(2, 0), (0, i), (0, w), (0, μ (p + 5) i), (9, 0), (9, 0)]) dX7_single_37 rfl (Nat.le_of_ble_eq_true rfl) rfl rfl ?_
          refine w_iload_n dX7_single_38 rfl rfl ?_
          have hJ39_1 : ∀ z1_0 : Int, z1_0 = (if (μ (p + 5) i) < 0 then 1 else -1) → Wp (GG X) M_X7_single 47 [(2, 0), (0, i), (0, w), (0, μ (p + 5) i), (9, 0), (9, 0)] [(0, z1_0)] μ (pP 0 (if (0 ≤ i ∧ i < μ p 7 ∧ μ (p + 4) i = 1) ∧ μ (p + 8) i < 0 ∧ 0 ≤ w ∧ w ≤ 2 then sglA μ p i w else -1000000) μ) := by
            intro z1_0 hz1_0
            refine Wp.topE (b := if 0 ≤ μ (p + 5) i then -1 else 1) (by omega) ?_
            refine w_istore (ls' := [(2, 0), (0, i), (0, w), (0, μ (p + 5) i), (0, if 0 ≤ μ (p + 5) i then -1 else 1), (9, 0)]) dX7_single_47 (Nat.le_of_ble_eq_true rfl) rfl rfl ?_
            refine w_aload_n dX7_single_49 rfl rfl (by first | decide | omega) ?_
            refine w_getDx (o := 0) (f := 7) (x := p) fX7_single_50 rfl rfl rfl rfl hC.p7 ?_
            refine w_iload_n dX7_single_53 rfl rfl ?_
            refine w_callVP (o := (p).toNat) (ci := 2) (as := [(0, i)]) (rest := []) (k := 0) fX7_single_54 rfl (by omega) (pSh0 rfl rfl (by assumption)) rfl rfl rfl rfl rfl (Nat.le_of_ble_eq_true rfl) (s_X2_beamsOf X p i μ μ (fun o h1 => rfl) hI (by first | omega | assumption)) ?_
            have hf5 := bmz_r μ p i
            refine w_iload dX7_single_57 rfl ?_
            refine w_iload_n dX7_single_59 rfl rfl ?_
            refine w_callSP (as := [(0, bmz μ p i), (0, if 0 ≤ μ (p + 5) i then -1 else 1), (0, μ (p + 5) i)]) (rest := []) (k := 2) fX7_single_60 rfl rfl rfl rfl rfl (Nat.le_of_ble_eq_true rfl) (s_X0_idealLength X (bmz μ p i) (if 0 ≤ μ (p + 5) i then -1 else 1) (μ (p + 5) i) μ (by first | omega | assumption) (by first | omega | assumption) (by first | omega | assumption)) ?_
            have hf6 := idl_f (bmz μ p i) (if 0 ≤ μ (p + 5) i then -1 else 1) (μ (p + 5) i) (by first | assumption | omega)
            refine w_istore (ls' := [(2, 0), (0, i), (0, w), (0, μ (p + 5) i), (0, if 0 ≤ μ (p + 5) i then -1 else 1), (0, idl (bmz μ p i) (if 0 ≤ μ (p + 5) i then -1 else 1) (μ (p + 5) i))]) dX7_single_63 (Nat.le_of_ble_eq_true rfl) rfl rfl ?_
            refine w_iload_n dX7_single_65 rfl rfl ?_
            rcases (show w = 0 ∨ w = 1 ∨ (¬ w = 0 ∧ ¬ w = 1) by omega) with q66 | q66 | q66
            · refine w_lookup (off := 26) (tgt := 92) dX7_single_66 (by decide) (R32.in (by omega)) (by rw [q66]; rfl) rfl ?_
              refine w_iload dX7_single_92 rfl ?_
              exact w_iretP dX7_single_94 rfl (by exact ifT (by omega) (by unfold sglA; exact ifT (by omega) rfl))
            · refine w_lookup (off := 29) (tgt := 95) dX7_single_66 (by decide) (R32.in (by omega)) (by rw [q66]; rfl) rfl ?_
              refine w_iload dX7_single_95 rfl ?_
              exact w_iretP dX7_single_97 rfl (by exact ifT (by omega) (by unfold sglA; exact ifF (by omega) (ifT (by omega) rfl)))
            · refine w_lookup (off := 32) (tgt := 98) dX7_single_66 (by decide) (R32.in (by omega)) (by simp [Op.lookupswitch.offset]; omega) rfl ?_
              refine w_iconst dX7_single_98 ?_
              refine w_iload_n dX7_single_99 rfl rfl ?_
              refine w_imul dX7_single_100 ?_
              refine w_iload dX7_single_101 rfl ?_
              refine w_iload dX7_single_103 rfl ?_
              refine w_imul dX7_single_105 ?_
              refine w_iadd dX7_single_106 ?_
              exact w_iretP dX7_single_107 rfl (by exact ifT (by omega) (by unfold sglA; exact ifF (by omega) (ifF (by omega) rfl)))
          refine w_if_lt (tgt := 46) dX7_single_39 rfl (R32.in (by omega)) (fun c39 => ?_) (fun c39 => ?_)
          · skip
            refine w_iconst dX7_single_46 ?_
            exact hJ39_1 _ (by first | omega | simp [*])
          · skip
            refine w_iconst dX7_single_42 ?_
            refine w_goto (tgt := 47) dX7_single_43 rfl ?_
            exact hJ39_1 _ (by first | omega | simp [*])
        · skip
          refine w_ldc (n := -1000000) dX7_single_25 k_704 (by decide) ?_
          exact w_iretP dX7_single_27 rfl (by exact ifF (by omega) (rfl))

set_option maxRecDepth 100000 in
set_option maxHeartbeats 4000000 in
theorem s_X7_extreme (X : AX) (p : Int) (g : Int) (w : Int) (μ : Mu) (hC : CJ μ p) (hg : -2147483648 ≤ g ∧ g ≤ 2147483647) (hw : -2147483648 ≤ w ∧ w ≤ 2147483647) : Wp (GG X) M_X7_extreme 0 [(2, 0), (0, g), (0, w), (9, 0), (9, 0), (9, 0), (9, 0), (9, 0)] [] μ (qI 0 fun z μ' => (Fr 6 14 1 0 μ' μ) ∧ (z = if (0 ≤ g ∧ g < μ p 14) ∧ 0 ≤ w ∧ w ≤ 1 then (if mnK (ddt μ p (p + 5) (μ p 3) g) = 9223372036854775807 then -2 else μ (p + 9) g + extI (ddt μ p (p + 5) (μ p 3) g) w (dN (ddt μ p (p + 5) (μ p 3) g) - 1)) else -1)) := by
  have hI := hC.i
  have hG := hC.pg
  have hp := hI.at
  have hz := hI.sz
  have hgr := hG.gr
  have hkn := hC.kn
  refine w_aload_n dX7_extreme_0 rfl rfl (by first | decide | omega) ?_
  refine w_iload_n dX7_extreme_1 rfl rfl ?_
  refine w_callVP (o := 0) (ci := 7) (as := [(0, g)]) (rest := []) (k := 0) fX7_extreme_2 rfl rfl rfl rfl rfl rfl rfl rfl (Nat.le_of_ble_eq_true rfl) (s_X7_isGroup X p g μ μ (fun o h1 => rfl) hC (by first | omega | assumption)) ?_
  have hf1 := am_b_r (0 ≤ g ∧ g < μ p 14)
  refine w_if_eq (tgt := 17) dX7_extreme_5 rfl (R32.in (by have := am_b_r ((0 ≤ g ∧ g < μ p 14)); omega)) (fun c5 => ?_) (fun c5 => ?_)
  · skip
    replace c5 := am_b0 c5
    refine w_iconst dX7_extreme_17 ?_
    exact w_iretI dX7_extreme_18 rfl ⟨Fr.rf, (by exact ifF (by omega) (rfl))⟩
  · skip
    replace c5 := am_b1 c5
    refine w_iload_n dX7_extreme_8 rfl rfl ?_
    refine w_if_lt (tgt := 17) dX7_extreme_9 rfl (R32.in (by omega)) (fun c9 => ?_) (fun c9 => ?_)
    · skip
      refine w_iconst dX7_extreme_17 ?_
      exact w_iretI dX7_extreme_18 rfl ⟨Fr.rf, (by exact ifF (by omega) (rfl))⟩
    · skip
      refine w_iload_n dX7_extreme_12 rfl rfl ?_
      refine w_iconst dX7_extreme_13 ?_
      refine w_icmp_le (tgt := 19) dX7_extreme_14 rfl (R32.in (by omega)) (R32.in (by decide)) (fun c14 => ?_) (fun c14 => ?_)
      · skip
        refine w_aload_n dX7_extreme_19 rfl rfl (by first | decide | omega) ?_
        refine w_iload_n dX7_extreme_20 rfl rfl ?_
        refine w_callVV (o := 0) (ci := 7) (as := [(0, g)]) (rest := []) (k := 0) fX7_extreme_21 rfl rfl rfl rfl rfl rfl rfl rfl (Nat.le_of_ble_eq_true rfl) (s_X7_load X p g μ μ (fun o h1 => rfl) hC (by first | omega | assumption)) (fun μL hμL => ?_)
        obtain ⟨hFL, hD_L⟩ := hμL
        have hok := (hD_L).ok
        have hmr := mnK_r hok
        have hnn := hok.n
        refine w_aload_n dX7_extreme_24 rfl rfl (by first | decide | omega) ?_
        refine w_getR (o := 0) (x := 6) fX7_extreme_25 rfl rfl rfl rfl ?_
        refine w_callVI (o := 6) (ci := 0) (as := []) (rest := []) (k := 3) fX7_extreme_28 rfl rfl rfl rfl rfl rfl rfl rfl (Nat.le_of_ble_eq_true rfl) (s_X0_findBest X (ddt μ p (p + 5) (μ p 3) g) μL hD_L) (fun xB μB hμB => ?_)
        obtain ⟨hFB, hz_B, hD_B, hf_B⟩ := hμB
        refine w_lstore_n (ls' := [(2, 0), (0, g), (0, w), (1, xB), (9, 0), (9, 0), (9, 0), (9, 0)]) dX7_extreme_31 rfl (Nat.le_of_ble_eq_true rfl) rfl rfl ?_
        refine w_lload_n dX7_extreme_32 rfl rfl ?_
        refine w_ldc2 (n := 9223372036854775807) dX7_extreme_33 k_871 (by decide) ?_
        refine w_lc_ne (tgt := 43) dX7_extreme_36 dX7_extreme_37 rfl (R64.in (by omega)) (R64.in (by omega)) (fun c37 => ?_) (fun c37 => ?_)
        · skip
          refine w_iconst dX7_extreme_43 ?_
          refine w_istore (ls' := [(2, 0), (0, g), (0, w), (1, xB), (9, 0), (0, 0), (9, 0), (9, 0)]) dX7_extreme_44 (Nat.le_of_ble_eq_true rfl) rfl rfl ?_
          refine w_iconst dX7_extreme_46 ?_
          refine w_istore (ls' := [(2, 0), (0, g), (0, w), (1, xB), (9, 0), (0, 0), (0, 1), (9, 0)]) dX7_extreme_47 (Nat.le_of_ble_eq_true rfl) rfl rfl ?_
          have hL49 : ∀ (n49 : Nat) (m : Int) (i : Int), (dN (ddt μ p (p + 5) (μ p 3) g) - i).toNat = n49 → (1 ≤ i ∧ i ≤ dN (ddt μ p (p + 5) (μ p 3) g)) → (m = extI (ddt μ p (p + 5) (μ p 3) g) w (i - 1)) → Wp (GG X) M_X7_extreme 49 [(2, 0), (0, g), (0, w), (1, xB), (9, 0), (0, m), (0, i), (9, 0)] [] μB (qI 0 fun z μ' => (Fr 6 14 1 0 μ' μ) ∧ (z = if (0 ≤ g ∧ g < μ p 14) ∧ 0 ≤ w ∧ w ≤ 1 then (if mnK (ddt μ p (p + 5) (μ p 3) g) = 9223372036854775807 then -2 else μ (p + 9) g + extI (ddt μ p (p + 5) (μ p 3) g) w (dN (ddt μ p (p + 5) (μ p 3) g) - 1)) else -1)) := by
            intro n49
            induction n49 using Nat.strongRecOn with
            | ind n49 ih49 =>
              intro m i hn49 hi0 hm
              have hmr := extI_r (D := (ddt μ p (p + 5) (μ p 3) g)) (w := w) (i := i - 1) (by omega)
              have hwS := (mnK_w hok (fun q => c37 (hz_B.trans q))).1
              refine w_iload dX7_extreme_49 rfl ?_
              refine w_aload_n dX7_extreme_51 rfl rfl (by first | decide | omega) ?_
              refine w_getR (o := 0) (x := 6) fX7_extreme_52 rfl rfl rfl rfl ?_
              refine w_getIx (o := 6) (f := 0) (x := dN (ddt μ p (p + 5) (μ p 3) g)) fX7_extreme_55 rfl rfl (Nat.le_of_ble_eq_true rfl) rfl hD_B.n ?_
              have hr4 := (hD_B.ok).n
              have hr5 := (hD_L.ok).n
              refine w_icmp_ge (tgt := 111) dX7_extreme_58 rfl (R32.in (by omega)) (R32.in (by omega)) (fun c58 => ?_) (fun c58 => ?_)
              · skip
                refine w_aload_n dX7_extreme_111 rfl rfl (by first | decide | omega) ?_
                refine w_getDx (o := 0) (f := 7) (x := p) fX7_extreme_112 rfl rfl rfl rfl ((congrFun (hFB.at (by omega) (by omega)) _).trans ((congrFun (hFL.at (by omega) (by omega)) _).trans hC.p7)) ?_
                refine w_getR (o := (p).toNat) (x := p + 9) fX7_extreme_115 (by omega) (pSh0 rfl rfl (by assumption)) rfl (pRf 15 9 rfl rfl (by assumption)) ?_
                refine w_iload_n dX7_extreme_118 rfl rfl ?_
                refine w_ialdx (o := (p + 9).toNat) (n := 32) (x := μ (p + 9) g) dX7_extreme_119 (by omega) (pSh 9 rfl rfl (by assumption)) (Nat.le_of_ble_eq_true rfl) (by omega) ((congrFun (hFB.at (by omega) (by omega)) _).trans (congrFun (hFL.at (by omega) (by omega)) _)) ?_
                have hr6 := PG.fl hC.pg (g := g) (by omega)
                have hr7 := PG.fl hG (g := g) (by omega)
                refine w_iload dX7_extreme_120 rfl ?_
                refine w_iadd dX7_extreme_122 ?_
                exact w_iretI dX7_extreme_123 rfl ⟨((hFB.wd (by omega) (by omega)).tr hFL), (by exact ifT (by omega) (ifF (fun q => c37 (hz_B.trans q)) (by rw [hm, show i - 1 = dN (ddt μ p (p + 5) (μ p 3) g) - 1 by omega])))⟩
              · skip
                refine w_aload_n dX7_extreme_61 rfl rfl (by first | decide | omega) ?_
                refine w_getR (o := 0) (x := 6) fX7_extreme_62 rfl rfl rfl rfl ?_
                refine w_lload_n dX7_extreme_65 rfl rfl ?_
                refine w_iload dX7_extreme_66 rfl ?_
                refine w_callVP (o := 6) (ci := 0) (as := [(1, xB), (0, i)]) (rest := []) (k := 0) fX7_extreme_68 rfl rfl rfl rfl rfl rfl rfl rfl (Nat.le_of_ble_eq_true rfl) (s_X0_lengthOf_k X (ddt μ p (p + 5) (μ p 3) g) (bR (ddt μ p (p + 5) (μ p 3) g) - bL (ddt μ p (p + 5) (μ p 3) g)) (bL (ddt μ p (p + 5) (μ p 3) g)) xB i μB hD_B (mnK_w hok (fun q => c37 (hz_B.trans q))).1 (mnK_w hok (fun q => c37 (hz_B.trans q))).2.1 (hz_B.trans (mnK_w hok (fun q => c37 (hz_B.trans q))).2.2.1) (by first | omega | assumption)) ?_
                have hf8 := len_f (ddt μ p (p + 5) (μ p 3) g) (bR (ddt μ p (p + 5) (μ p 3) g) - bL (ddt μ p (p + 5) (μ p 3) g)) (bL (ddt μ p (p + 5) (μ p 3) g)) i (by assumption) (by omega) (by assumption)
                refine w_aload_n dX7_extreme_71 rfl rfl (by first | decide | omega) ?_
                refine w_getR (o := 0) (x := 6) fX7_extreme_72 rfl rfl rfl rfl ?_
                refine w_lload_n dX7_extreme_75 rfl rfl ?_
                refine w_iload dX7_extreme_76 rfl ?_
                refine w_callVP (o := 6) (ci := 0) (as := [(1, xB), (0, m)]) (rest := [(0, len (ddt μ p (p + 5) (μ p 3) g) (bR (ddt μ p (p + 5) (μ p 3) g) - bL (ddt μ p (p + 5) (μ p 3) g)) (bL (ddt μ p (p + 5) (μ p 3) g)) i)]) (k := 0) fX7_extreme_78 rfl rfl rfl rfl rfl rfl rfl rfl (Nat.le_of_ble_eq_true rfl) (s_X0_lengthOf_k X (ddt μ p (p + 5) (μ p 3) g) (bR (ddt μ p (p + 5) (μ p 3) g) - bL (ddt μ p (p + 5) (μ p 3) g)) (bL (ddt μ p (p + 5) (μ p 3) g)) xB m μB hD_B (mnK_w hok (fun q => c37 (hz_B.trans q))).1 (mnK_w hok (fun q => c37 (hz_B.trans q))).2.1 (hz_B.trans (mnK_w hok (fun q => c37 (hz_B.trans q))).2.2.1) (by first | omega | assumption)) ?_
                have hf9 := len_f (ddt μ p (p + 5) (μ p 3) g) (bR (ddt μ p (p + 5) (μ p 3) g) - bL (ddt μ p (p + 5) (μ p 3) g)) (bL (ddt μ p (p + 5) (μ p 3) g)) m (by assumption) (by omega) (by assumption)
                refine w_isub dX7_extreme_81 ?_
                refine w_istore (ls' := [(2, 0), (0, g), (0, w), (1, xB), (9, 0), (0, m), (0, i), (0, (len (ddt μ p (p + 5) (μ p 3) g) (bR (ddt μ p (p + 5) (μ p 3) g) - bL (ddt μ p (p + 5) (μ p 3) g)) (bL (ddt μ p (p + 5) (μ p 3) g)) i) - (len (ddt μ p (p + 5) (μ p 3) g) (bR (ddt μ p (p + 5) (μ p 3) g) - bL (ddt μ p (p + 5) (μ p 3) g)) (bL (ddt μ p (p + 5) (μ p 3) g)) m))]) dX7_extreme_82 (Nat.le_of_ble_eq_true rfl) rfl rfl ?_
                refine w_iload_n dX7_extreme_84 rfl rfl ?_
                refine w_if_ne (tgt := 96) dX7_extreme_85 rfl (R32.in (by omega)) (fun c85 => ?_) (fun c85 => ?_)
                · skip
                  refine w_iload dX7_extreme_96 rfl ?_
                  refine w_if_le (tgt := 105) dX7_extreme_98 rfl (R32.in (by omega)) (fun c98 => ?_) (fun c98 => ?_)
                  · skip
                    refine w_iinc (ls' := [(2, 0), (0, g), (0, w), (1, xB), (9, 0), (0, m), (0, i + 1), (0, (len (ddt μ p (p + 5) (μ p 3) g) (bR (ddt μ p (p + 5) (μ p 3) g) - bL (ddt μ p (p + 5) (μ p 3) g)) (bL (ddt μ p (p + 5) (μ p 3) g)) i) - (len (ddt μ p (p + 5) (μ p 3) g) (bR (ddt μ p (p + 5) (μ p 3) g) - bL (ddt μ p (p + 5) (μ p 3) g)) (bL (ddt μ p (p + 5) (μ p 3) g)) m))]) dX7_extreme_105 rfl (Nat.le_of_ble_eq_true rfl) rfl rfl ?_
                    refine w_goto (tgt := 49) dX7_extreme_108 rfl ?_
                    refine Wp.fgl (ls' := [(2, 0), (0, g), (0, w), (1, xB), (9, 0), (0, m), (0, i + 1), (9, 0)]) 7 rfl ?_
                    exact ih49 _ (by omega) m (i + 1) rfl (by first | omega | assumption) (by rw [show i + 1 - 1 = i - 1 + 1 by omega]; (first | rw [extI_s0 (by omega) c85] | rw [extI_s1 (by omega) c85]); rw [show i - 1 + 1 = i by omega, ← hm]; omega)
                  · skip
                    refine w_iload dX7_extreme_101 rfl ?_
                    refine w_istore (ls' := [(2, 0), (0, g), (0, w), (1, xB), (9, 0), (0, i), (0, i), (0, (len (ddt μ p (p + 5) (μ p 3) g) (bR (ddt μ p (p + 5) (μ p 3) g) - bL (ddt μ p (p + 5) (μ p 3) g)) (bL (ddt μ p (p + 5) (μ p 3) g)) i) - (len (ddt μ p (p + 5) (μ p 3) g) (bR (ddt μ p (p + 5) (μ p 3) g) - bL (ddt μ p (p + 5) (μ p 3) g)) (bL (ddt μ p (p + 5) (μ p 3) g)) m))]) dX7_extreme_103 (Nat.le_of_ble_eq_true rfl) rfl rfl ?_
                    refine w_iinc (ls' := [(2, 0), (0, g), (0, w), (1, xB), (9, 0), (0, i), (0, i + 1), (0, (len (ddt μ p (p + 5) (μ p 3) g) (bR (ddt μ p (p + 5) (μ p 3) g) - bL (ddt μ p (p + 5) (μ p 3) g)) (bL (ddt μ p (p + 5) (μ p 3) g)) i) - (len (ddt μ p (p + 5) (μ p 3) g) (bR (ddt μ p (p + 5) (μ p 3) g) - bL (ddt μ p (p + 5) (μ p 3) g)) (bL (ddt μ p (p + 5) (μ p 3) g)) m))]) dX7_extreme_105 rfl (Nat.le_of_ble_eq_true rfl) rfl rfl ?_
                    refine w_goto (tgt := 49) dX7_extreme_108 rfl ?_
                    refine Wp.fgl (ls' := [(2, 0), (0, g), (0, w), (1, xB), (9, 0), (0, i), (0, i + 1), (9, 0)]) 7 rfl ?_
                    exact ih49 _ (by omega) i (i + 1) rfl (by first | omega | assumption) (by rw [show i + 1 - 1 = i - 1 + 1 by omega]; (first | rw [extI_s0 (by omega) c85] | rw [extI_s1 (by omega) c85]); rw [show i - 1 + 1 = i by omega, ← hm]; omega)
                · skip
                  refine w_iload dX7_extreme_88 rfl ?_
                  refine w_if_ge (tgt := 105) dX7_extreme_90 rfl (R32.in (by omega)) (fun c90 => ?_) (fun c90 => ?_)
                  · skip
                    refine w_iinc (ls' := [(2, 0), (0, g), (0, w), (1, xB), (9, 0), (0, m), (0, i + 1), (0, (len (ddt μ p (p + 5) (μ p 3) g) (bR (ddt μ p (p + 5) (μ p 3) g) - bL (ddt μ p (p + 5) (μ p 3) g)) (bL (ddt μ p (p + 5) (μ p 3) g)) i) - (len (ddt μ p (p + 5) (μ p 3) g) (bR (ddt μ p (p + 5) (μ p 3) g) - bL (ddt μ p (p + 5) (μ p 3) g)) (bL (ddt μ p (p + 5) (μ p 3) g)) m))]) dX7_extreme_105 rfl (Nat.le_of_ble_eq_true rfl) rfl rfl ?_
                    refine w_goto (tgt := 49) dX7_extreme_108 rfl ?_
                    refine Wp.fgl (ls' := [(2, 0), (0, g), (0, w), (1, xB), (9, 0), (0, m), (0, i + 1), (9, 0)]) 7 rfl ?_
                    exact ih49 _ (by omega) m (i + 1) rfl (by first | omega | assumption) (by rw [show i + 1 - 1 = i - 1 + 1 by omega]; (first | rw [extI_s0 (by omega) c85] | rw [extI_s1 (by omega) c85]); rw [show i - 1 + 1 = i by omega, ← hm]; omega)
                  · skip
                    refine w_goto (tgt := 101) dX7_extreme_93 rfl ?_
                    refine w_iload dX7_extreme_101 rfl ?_
                    refine w_istore (ls' := [(2, 0), (0, g), (0, w), (1, xB), (9, 0), (0, i), (0, i), (0, (len (ddt μ p (p + 5) (μ p 3) g) (bR (ddt μ p (p + 5) (μ p 3) g) - bL (ddt μ p (p + 5) (μ p 3) g)) (bL (ddt μ p (p + 5) (μ p 3) g)) i) - (len (ddt μ p (p + 5) (μ p 3) g) (bR (ddt μ p (p + 5) (μ p 3) g) - bL (ddt μ p (p + 5) (μ p 3) g)) (bL (ddt μ p (p + 5) (μ p 3) g)) m))]) dX7_extreme_103 (Nat.le_of_ble_eq_true rfl) rfl rfl ?_
                    refine w_iinc (ls' := [(2, 0), (0, g), (0, w), (1, xB), (9, 0), (0, i), (0, i + 1), (0, (len (ddt μ p (p + 5) (μ p 3) g) (bR (ddt μ p (p + 5) (μ p 3) g) - bL (ddt μ p (p + 5) (μ p 3) g)) (bL (ddt μ p (p + 5) (μ p 3) g)) i) - (len (ddt μ p (p + 5) (μ p 3) g) (bR (ddt μ p (p + 5) (μ p 3) g) - bL (ddt μ p (p + 5) (μ p 3) g)) (bL (ddt μ p (p + 5) (μ p 3) g)) m))]) dX7_extreme_105 rfl (Nat.le_of_ble_eq_true rfl) rfl rfl ?_
                    refine w_goto (tgt := 49) dX7_extreme_108 rfl ?_
                    refine Wp.fgl (ls' := [(2, 0), (0, g), (0, w), (1, xB), (9, 0), (0, i), (0, i + 1), (9, 0)]) 7 rfl ?_
                    exact ih49 _ (by omega) i (i + 1) rfl (by first | omega | assumption) (by rw [show i + 1 - 1 = i - 1 + 1 by omega]; (first | rw [extI_s0 (by omega) c85] | rw [extI_s1 (by omega) c85]); rw [show i - 1 + 1 = i by omega, ← hm]; omega)
          exact hL49 _ 0 1 rfl (by first | omega | assumption) rfl
        · skip
          refine w_bipush dX7_extreme_40 (by decide) ?_
          exact w_iretI dX7_extreme_42 rfl ⟨((hFB.wd (by omega) (by omega)).tr hFL), (by exact ifT (by omega) (ifT (hz_B.symm.trans c37) rfl))⟩
      · skip
        refine w_iconst dX7_extreme_17 ?_
        exact w_iretI dX7_extreme_18 rfl ⟨Fr.rf, (by exact ifF (by omega) (rfl))⟩

set_option maxRecDepth 100000 in
set_option maxHeartbeats 4000000 in
theorem s_X7_alone (X : AX) (p : Int) (w : Int) (μ : Mu) (hC : CJ μ p) (hw : -2147483648 ≤ w ∧ w ≤ 2147483647) : Wp (GG X) M_X7_alone 0 [(2, 0), (0, w), (9, 0), (9, 0), (9, 0)] [] μ (pP 0 (if 0 ≤ w ∧ w ≤ 1 then (if w = 0 then (alnI (bmz μ p) (μ (p + 8)) (μ p 7)).1 else (alnI (bmz μ p) (μ (p + 8)) (μ p 7)).2) else -1) μ) := by
  have hI := hC.i
  have hG := hC.pg
  have hp := hI.at
  have hz := hI.sz
  have hgr := hG.gr
  have hkn := hC.kn
  refine w_iload_n dX7_alone_0 rfl rfl ?_
  refine w_if_lt (tgt := 9) dX7_alone_1 rfl (R32.in (by omega)) (fun c1 => ?_) (fun c1 => ?_)
  · skip
    refine w_iconst dX7_alone_9 ?_
    exact w_iretP dX7_alone_10 rfl (by exact ifF (by omega) (rfl))
  · skip
    refine w_iload_n dX7_alone_4 rfl rfl ?_
    refine w_iconst dX7_alone_5 ?_
    refine w_icmp_le (tgt := 11) dX7_alone_6 rfl (R32.in (by omega)) (R32.in (by decide)) (fun c6 => ?_) (fun c6 => ?_)
    · skip
      refine w_iconst dX7_alone_11 ?_
      refine w_istore_n (ls' := [(2, 0), (0, w), (0, 0), (9, 0), (9, 0)]) dX7_alone_12 rfl (Nat.le_of_ble_eq_true rfl) rfl rfl ?_
      refine w_bipush dX7_alone_13 (by decide) ?_
      refine w_istore_n (ls' := [(2, 0), (0, w), (0, 0), (0, -2), (9, 0)]) dX7_alone_15 rfl (Nat.le_of_ble_eq_true rfl) rfl rfl ?_
      refine w_iconst dX7_alone_16 ?_
      refine w_istore (ls' := [(2, 0), (0, w), (0, 0), (0, -2), (0, 0)]) dX7_alone_17 (Nat.le_of_ble_eq_true rfl) rfl rfl ?_
      have hL19 : ∀ (n19 : Nat) (m : Int) (f : Int) (i : Int), (μ p 7 - i).toNat = n19 → (0 ≤ i ∧ i ≤ μ p 7) → (0 ≤ m ∧ m ≤ i) → (m = (alnI (bmz μ p) (μ (p + 8)) i).1) → (f = (alnI (bmz μ p) (μ (p + 8)) i).2) → Wp (GG X) M_X7_alone 19 [(2, 0), (0, w), (0, m), (0, f), (0, i)] [] μ (pP 0 (if 0 ≤ w ∧ w ≤ 1 then (if w = 0 then (alnI (bmz μ p) (μ (p + 8)) (μ p 7)).1 else (alnI (bmz μ p) (μ (p + 8)) (μ p 7)).2) else -1) μ) := by
        intro n19
        induction n19 using Nat.strongRecOn with
        | ind n19 ih19 =>
          intro m f i hn19 hi0 hmr hm hf
          refine w_iload dX7_alone_19 rfl ?_
          refine w_aload_n dX7_alone_21 rfl rfl (by first | decide | omega) ?_
          refine w_getDx (o := 0) (f := 7) (x := p) fX7_alone_22 rfl rfl rfl rfl hC.p7 ?_
          refine w_getIx (o := (p).toNat) (f := 7) (x := μ p 7) fX7_alone_25 (by omega) (pSh0 rfl rfl (by assumption)) (Nat.le_of_ble_eq_true rfl) rfl rfl ?_
          have hr1 := PI.sz hC.i
          have hr2 := PI.sz hI
          refine w_icmp_ge (tgt := 73) dX7_alone_28 rfl (R32.in (by omega)) (R32.in (by omega)) (fun c28 => ?_) (fun c28 => ?_)
          · skip
            refine w_iload_n dX7_alone_73 rfl rfl ?_
            refine w_if_ne (tgt := 81) dX7_alone_74 rfl (R32.in (by omega)) (fun c74 => ?_) (fun c74 => ?_)
            · skip
              refine w_iload_n dX7_alone_81 rfl rfl ?_
              exact w_iretP dX7_alone_82 rfl (by exact ifT (by omega) (by have he : i = μ p 7 := (by omega); subst he; omega))
            · skip
              refine w_iload_n dX7_alone_77 rfl rfl ?_
              refine w_goto (tgt := 82) dX7_alone_78 rfl ?_
              exact w_iretP dX7_alone_82 rfl (by exact ifT (by omega) (by have he : i = μ p 7 := (by omega); subst he; omega))
          · skip
            refine w_aload_n dX7_alone_31 rfl rfl (by first | decide | omega) ?_
            refine w_getDx (o := 0) (f := 7) (x := p) fX7_alone_32 rfl rfl rfl rfl hC.p7 ?_
            refine w_iload dX7_alone_35 rfl ?_
            refine w_callVP (o := (p).toNat) (ci := 2) (as := [(0, i)]) (rest := []) (k := 0) fX7_alone_37 rfl (by omega) (pSh0 rfl rfl (by assumption)) rfl rfl rfl rfl rfl (Nat.le_of_ble_eq_true rfl) (s_X2_beamsOf X p i μ μ (fun o h1 => rfl) hI (by first | omega | assumption)) ?_
            have hf3 := bmz_r μ p i
            refine w_if_le (tgt := 67) dX7_alone_40 rfl (R32.in (by omega)) (fun c40 => ?_) (fun c40 => ?_)
            · skip
              refine w_iinc (ls' := [(2, 0), (0, w), (0, m), (0, f), (0, i + 1)]) dX7_alone_67 rfl (Nat.le_of_ble_eq_true rfl) rfl rfl ?_
              refine w_goto (tgt := 19) dX7_alone_70 rfl ?_
              exact ih19 _ (by omega) m f (i + 1) rfl (by first | omega | assumption) (by first | omega | assumption) (by rw [alnI_s hi0.1]; first | (rw [if_pos (by omega), ← hm]) | (rw [if_neg (by omega)]; exact hm)) (by rw [alnI_s hi0.1]; first | (rw [if_pos (by omega), ← hm, ← hf]; omega) | (rw [if_neg (by omega)]; exact hf))
            · skip
              refine w_aload_n dX7_alone_43 rfl rfl (by first | decide | omega) ?_
              refine w_iload dX7_alone_44 rfl ?_
              refine w_callVP (o := 0) (ci := 7) (as := [(0, i)]) (rest := []) (k := 0) fX7_alone_46 rfl rfl rfl rfl rfl rfl rfl rfl (Nat.le_of_ble_eq_true rfl) (s_X7_isGrouped X p i μ μ (fun o h1 => rfl) hC (by first | omega | assumption)) ?_
              have hf4 := am_b_r (0 ≤ i ∧ i < μ p 7 ∧ 0 ≤ μ (p + 8) i)
              refine w_if_ne (tgt := 67) dX7_alone_49 rfl (R32.in (by have := am_b_r ((0 ≤ i ∧ i < μ p 7 ∧ 0 ≤ μ (p + 8) i)); omega)) (fun c49 => ?_) (fun c49 => ?_)
              · skip
                replace c49 := am_b1 c49
                refine w_iinc (ls' := [(2, 0), (0, w), (0, m), (0, f), (0, i + 1)]) dX7_alone_67 rfl (Nat.le_of_ble_eq_true rfl) rfl rfl ?_
                refine w_goto (tgt := 19) dX7_alone_70 rfl ?_
                exact ih19 _ (by omega) m f (i + 1) rfl (by first | omega | assumption) (by first | omega | assumption) (by rw [alnI_s hi0.1]; first | (rw [if_pos (by omega), ← hm]) | (rw [if_neg (by omega)]; exact hm)) (by rw [alnI_s hi0.1]; first | (rw [if_pos (by omega), ← hm, ← hf]; omega) | (rw [if_neg (by omega)]; exact hf))
              · skip
                replace c49 := am_b0 c49
                refine w_iinc (ls' := [(2, 0), (0, w), (0, m + 1), (0, f), (0, i)]) dX7_alone_52 rfl (Nat.le_of_ble_eq_true rfl) rfl rfl ?_
                refine w_iload_n dX7_alone_55 rfl rfl ?_
                refine w_iconst dX7_alone_56 ?_
                refine w_icmp_ne (tgt := 65) dX7_alone_57 rfl (R32.in (by omega)) (R32.in (by decide)) (fun c57 => ?_) (fun c57 => ?_)
                · skip
                  refine w_iload_n dX7_alone_65 rfl rfl ?_
                  refine w_istore_n (ls' := [(2, 0), (0, w), (0, m + 1), (0, f), (0, i)]) dX7_alone_66 rfl (Nat.le_of_ble_eq_true rfl) rfl rfl ?_
                  refine w_iinc (ls' := [(2, 0), (0, w), (0, m + 1), (0, f), (0, i + 1)]) dX7_alone_67 rfl (Nat.le_of_ble_eq_true rfl) rfl rfl ?_
                  refine w_goto (tgt := 19) dX7_alone_70 rfl ?_
                  exact ih19 _ (by omega) (m + 1) f (i + 1) rfl (by first | omega | assumption) (by first | omega | assumption) (by rw [alnI_s hi0.1]; first | (rw [if_pos (by omega), ← hm]) | (rw [if_neg (by omega)]; exact hm)) (by rw [alnI_s hi0.1]; first | (rw [if_pos (by omega), ← hm, ← hf]; omega) | (rw [if_neg (by omega)]; exact hf))
                · skip
                  refine w_iload dX7_alone_60 rfl ?_
                  refine w_goto (tgt := 66) dX7_alone_62 rfl ?_
                  refine w_istore_n (ls' := [(2, 0), (0, w), (0, m + 1), (0, i), (0, i)]) dX7_alone_66 rfl (Nat.le_of_ble_eq_true rfl) rfl rfl ?_
                  refine w_iinc (ls' := [(2, 0), (0, w), (0, m + 1), (0, i), (0, i + 1)]) dX7_alone_67 rfl (Nat.le_of_ble_eq_true rfl) rfl rfl ?_
                  refine w_goto (tgt := 19) dX7_alone_70 rfl ?_
                  exact ih19 _ (by omega) (m + 1) i (i + 1) rfl (by first | omega | assumption) (by first | omega | assumption) (by rw [alnI_s hi0.1]; first | (rw [if_pos (by omega), ← hm]) | (rw [if_neg (by omega)]; exact hm)) (by rw [alnI_s hi0.1]; first | (rw [if_pos (by omega), ← hm, ← hf]; omega) | (rw [if_neg (by omega)]; exact hf))
      exact hL19 _ 0 (-2) 0 rfl (by first | omega | assumption) (by first | omega | assumption) rfl rfl
    · skip
      refine w_iconst dX7_alone_9 ?_
      exact w_iretP dX7_alone_10 rfl (by exact ifF (by omega) (rfl))

set_option maxRecDepth 100000 in
set_option maxHeartbeats 4000000 in
theorem s_X7_stretches (X : AX) (p : Int) (g : Int) (k : Int) (μ : Mu) (hC : CJ μ p) (hg : -2147483648 ≤ g ∧ g ≤ 2147483647) (hk : -2147483648 ≤ k ∧ k ≤ 2147483647) : Wp (GG X) M_X7_stretches 0 [(2, 0), (0, g), (0, k), (9, 0), (9, 0)] [] μ (pP 0 (if (0 ≤ g ∧ g < μ p 14) ∧ 1 ≤ k ∧ k ≤ 3 then stN μ p k (μ (p + 9) g) (μ (p + 10) g) else -1) μ) := by
  have hI := hC.i
  have hG := hC.pg
  have hp := hI.at
  have hz := hI.sz
  have hgr := hG.gr
  have hkn := hC.kn
  refine w_aload_n dX7_stretches_0 rfl rfl (by first | decide | omega) ?_
  refine w_iload_n dX7_stretches_1 rfl rfl ?_
  refine w_callVP (o := 0) (ci := 7) (as := [(0, g)]) (rest := []) (k := 0) fX7_stretches_2 rfl rfl rfl rfl rfl rfl rfl rfl (Nat.le_of_ble_eq_true rfl) (s_X7_isGroup X p g μ μ (fun o h1 => rfl) hC (by first | omega | assumption)) ?_
  have hf1 := am_b_r (0 ≤ g ∧ g < μ p 14)
  refine w_if_eq (tgt := 18) dX7_stretches_5 rfl (R32.in (by have := am_b_r ((0 ≤ g ∧ g < μ p 14)); omega)) (fun c5 => ?_) (fun c5 => ?_)
  · skip
    replace c5 := am_b0 c5
    refine w_iconst dX7_stretches_18 ?_
    exact w_iretP dX7_stretches_19 rfl (by exact ifF (by omega) (rfl))
  · skip
    replace c5 := am_b1 c5
    refine w_iload_n dX7_stretches_8 rfl rfl ?_
    refine w_iconst dX7_stretches_9 ?_
    refine w_icmp_lt (tgt := 18) dX7_stretches_10 rfl (R32.in (by omega)) (R32.in (by decide)) (fun c10 => ?_) (fun c10 => ?_)
    · skip
      refine w_iconst dX7_stretches_18 ?_
      exact w_iretP dX7_stretches_19 rfl (by exact ifF (by omega) (rfl))
    · skip
      refine w_iload_n dX7_stretches_13 rfl rfl ?_
      refine w_iconst dX7_stretches_14 ?_
      refine w_icmp_le (tgt := 20) dX7_stretches_15 rfl (R32.in (by omega)) (R32.in (by decide)) (fun c15 => ?_) (fun c15 => ?_)
      · skip
        refine w_iconst dX7_stretches_20 ?_
        refine w_istore_n (ls' := [(2, 0), (0, g), (0, k), (0, 0), (9, 0)]) dX7_stretches_21 rfl (Nat.le_of_ble_eq_true rfl) rfl rfl ?_
        refine w_aload_n dX7_stretches_22 rfl rfl (by first | decide | omega) ?_
        refine w_getDx (o := 0) (f := 7) (x := p) fX7_stretches_23 rfl rfl rfl rfl hC.p7 ?_
        refine w_getR (o := (p).toNat) (x := p + 9) fX7_stretches_26 (by omega) (pSh0 rfl rfl (by assumption)) rfl (pRf 15 9 rfl rfl (by assumption)) ?_
        refine w_iload_n dX7_stretches_29 rfl rfl ?_
        refine w_ialdx (o := (p + 9).toNat) (n := 32) (x := μ (p + 9) g) dX7_stretches_30 (by omega) (pSh 9 rfl rfl (by assumption)) (Nat.le_of_ble_eq_true rfl) (by omega) rfl ?_
        have hr2 := PG.fl hC.pg (g := g) (by omega)
        have hr3 := PG.fl hG (g := g) (by omega)
        refine w_istore (ls' := [(2, 0), (0, g), (0, k), (0, 0), (0, μ (p + 9) g)]) dX7_stretches_31 (Nat.le_of_ble_eq_true rfl) rfl rfl ?_
        have hL33 : ∀ (n33 : Nat) (m : Int) (i : Int), (μ (p + 9) g + μ (p + 10) g - i).toNat = n33 → (μ (p + 9) g ≤ i ∧ i ≤ μ (p + 9) g + μ (p + 10) g) → (m = stN μ p k (μ (p + 9) g) (i - μ (p + 9) g)) → Wp (GG X) M_X7_stretches 33 [(2, 0), (0, g), (0, k), (0, m), (0, i)] [] μ (pP 0 (if (0 ≤ g ∧ g < μ p 14) ∧ 1 ≤ k ∧ k ≤ 3 then stN μ p k (μ (p + 9) g) (μ (p + 10) g) else -1) μ) := by
          intro n33
          induction n33 using Nat.strongRecOn with
          | ind n33 ih33 =>
            intro m i hn33 hi0 hm
            have hfl := hG.fl (g := g) (by omega)
            refine w_iload dX7_stretches_33 rfl ?_
            refine w_aload_n dX7_stretches_35 rfl rfl (by first | decide | omega) ?_
            refine w_getDx (o := 0) (f := 7) (x := p) fX7_stretches_36 rfl rfl rfl rfl hC.p7 ?_
            refine w_iload_n dX7_stretches_39 rfl rfl ?_
            refine w_callVP (o := (p).toNat) (ci := 2) (as := [(0, g)]) (rest := [(0, i)]) (k := 0) fX7_stretches_40 rfl (by omega) (pSh0 rfl rfl (by assumption)) rfl rfl rfl rfl rfl (Nat.le_of_ble_eq_true rfl) (s_X2_lastOf X p g μ μ (fun o h1 => rfl) hI hG (by first | omega | assumption)) ?_
            refine w_icmp_gt (tgt := 73) dX7_stretches_43 rfl (R32.in (by omega)) (R32.in (by omega)) (fun c43 => ?_) (fun c43 => ?_)
            · skip
              refine w_iload_n dX7_stretches_73 rfl rfl ?_
              exact w_iretP dX7_stretches_74 rfl (by exact ifT (by omega) (by rw [hm, show i - μ (p + 9) g = μ (p + 10) g by omega]))
            · skip
              refine w_iload_n dX7_stretches_46 rfl rfl ?_
              refine w_aload_n dX7_stretches_47 rfl rfl (by first | decide | omega) ?_
              refine w_getDx (o := 0) (f := 7) (x := p) fX7_stretches_48 rfl rfl rfl rfl hC.p7 ?_
              refine w_iload dX7_stretches_51 rfl ?_
              refine w_iload_n dX7_stretches_53 rfl rfl ?_
              refine w_callVP (o := (p).toNat) (ci := 2) (as := [(0, i), (0, k)]) (rest := [(0, m)]) (k := 0) fX7_stretches_54 rfl (by omega) (pSh0 rfl rfl (by assumption)) rfl rfl rfl rfl rfl (Nat.le_of_ble_eq_true rfl) (s_X2_startsStretch X p i k μ μ (fun o h1 => rfl) hI hG (by first | omega | assumption) (by first | omega | assumption)) ?_
              refine w_if_eq (tgt := 64) dX7_stretches_57 rfl (R32.in (by have := am_b_r ((k ≤ bmr μ p i ∧ bml μ p i < k)); omega)) (fun c57 => ?_) (fun c57 => ?_)
              · skip
                replace c57 := am_b0 c57
                refine w_iconst dX7_stretches_64 ?_
                refine w_iadd dX7_stretches_65 ?_
                refine w_istore_n (ls' := [(2, 0), (0, g), (0, k), (0, m + 0), (0, i)]) dX7_stretches_66 rfl (Nat.le_of_ble_eq_true rfl) rfl rfl ?_
                refine w_iinc (ls' := [(2, 0), (0, g), (0, k), (0, m + 0), (0, i + 1)]) dX7_stretches_67 rfl (Nat.le_of_ble_eq_true rfl) rfl rfl ?_
                refine w_goto (tgt := 33) dX7_stretches_70 rfl ?_
                exact ih33 _ (by omega) (m + 0) (i + 1) rfl (by first | omega | assumption) (by rw [show i + 1 - μ (p + 9) g = i - μ (p + 9) g + 1 by omega, stN_s (by omega), show μ (p + 9) g + (i - μ (p + 9) g) = i by omega, ← hm]; omega)
              · skip
                replace c57 := am_b1 c57
                refine w_iconst dX7_stretches_60 ?_
                refine w_goto (tgt := 65) dX7_stretches_61 rfl ?_
                refine w_iadd dX7_stretches_65 ?_
                refine w_istore_n (ls' := [(2, 0), (0, g), (0, k), (0, m + 1), (0, i)]) dX7_stretches_66 rfl (Nat.le_of_ble_eq_true rfl) rfl rfl ?_
                refine w_iinc (ls' := [(2, 0), (0, g), (0, k), (0, m + 1), (0, i + 1)]) dX7_stretches_67 rfl (Nat.le_of_ble_eq_true rfl) rfl rfl ?_
                refine w_goto (tgt := 33) dX7_stretches_70 rfl ?_
                exact ih33 _ (by omega) (m + 1) (i + 1) rfl (by first | omega | assumption) (by rw [show i + 1 - μ (p + 9) g = i - μ (p + 9) g + 1 by omega, stN_s (by omega), show μ (p + 9) g + (i - μ (p + 9) g) = i by omega, ← hm]; omega)
        exact hL33 _ 0 (μ (p + 9) g) rfl (by have := hG.fl (g := g) (by omega); omega) (by rw [show μ (p + 9) g - μ (p + 9) g = 0 by omega]; rfl)
      · skip
        refine w_iconst dX7_stretches_18 ?_
        exact w_iretP dX7_stretches_19 rfl (by exact ifF (by omega) (rfl))

set_option maxRecDepth 100000 in
set_option maxHeartbeats 4000000 in
theorem s_X7_stretch (X : AX) (p : Int) (g : Int) (k : Int) (n : Int) (w : Int) (μ : Mu) (hC : CJ μ p) (hg : -2147483648 ≤ g ∧ g ≤ 2147483647) (hk : -2147483648 ≤ k ∧ k ≤ 2147483647) (hn : -2147483648 ≤ n ∧ n ≤ 2147483647) (hw : -2147483648 ≤ w ∧ w ≤ 2147483647) : Wp (GG X) M_X7_stretch 0 [(2, 0), (0, g), (0, k), (0, n), (0, w), (9, 0), (9, 0)] [] μ (qI 0 fun z μ' => (Fr 1 0 1 0 μ' μ) ∧ ((((0 ≤ g ∧ g < μ p 14) ∧ (1 ≤ k ∧ k ≤ 3) ∧ 0 ≤ n ∧ 0 ≤ w ∧ w ≤ 2) ∧ stP μ p k (μ (p + 9) g) (μ (p + 10) g) n w z) ∨ (¬ ((0 ≤ g ∧ g < μ p 14) ∧ (1 ≤ k ∧ k ≤ 3) ∧ 0 ≤ n ∧ 0 ≤ w ∧ w ≤ 2) ∧ z = -1))) := by
  have hI := hC.i
  have hG := hC.pg
  have hp := hI.at
  have hz := hI.sz
  have hgr := hG.gr
  have hkn := hC.kn
  refine w_aload_n dX7_stretch_0 rfl rfl (by first | decide | omega) ?_
  refine w_iload_n dX7_stretch_1 rfl rfl ?_
  refine w_callVP (o := 0) (ci := 7) (as := [(0, g)]) (rest := []) (k := 0) fX7_stretch_2 rfl rfl rfl rfl rfl rfl rfl rfl (Nat.le_of_ble_eq_true rfl) (s_X7_isGroup X p g μ μ (fun o h1 => rfl) hC (by first | omega | assumption)) ?_
  have hf1 := am_b_r (0 ≤ g ∧ g < μ p 14)
  refine w_if_eq (tgt := 33) dX7_stretch_5 rfl (R32.in (by have := am_b_r ((0 ≤ g ∧ g < μ p 14)); omega)) (fun c5 => ?_) (fun c5 => ?_)
  · skip
    replace c5 := am_b0 c5
    refine w_iconst dX7_stretch_33 ?_
    exact w_iretI dX7_stretch_34 rfl ⟨Fr.rf, (by exact Or.inr ⟨by omega, rfl⟩)⟩
  · skip
    replace c5 := am_b1 c5
    refine w_iload_n dX7_stretch_8 rfl rfl ?_
    refine w_iconst dX7_stretch_9 ?_
    refine w_icmp_lt (tgt := 33) dX7_stretch_10 rfl (R32.in (by omega)) (R32.in (by decide)) (fun c10 => ?_) (fun c10 => ?_)
    · skip
      refine w_iconst dX7_stretch_33 ?_
      exact w_iretI dX7_stretch_34 rfl ⟨Fr.rf, (by exact Or.inr ⟨by omega, rfl⟩)⟩
    · skip
      refine w_iload_n dX7_stretch_13 rfl rfl ?_
      refine w_iconst dX7_stretch_14 ?_
      refine w_icmp_gt (tgt := 33) dX7_stretch_15 rfl (R32.in (by omega)) (R32.in (by decide)) (fun c15 => ?_) (fun c15 => ?_)
      · skip
        refine w_iconst dX7_stretch_33 ?_
        exact w_iretI dX7_stretch_34 rfl ⟨Fr.rf, (by exact Or.inr ⟨by omega, rfl⟩)⟩
      · skip
        refine w_iload_n dX7_stretch_18 rfl rfl ?_
        refine w_if_lt (tgt := 33) dX7_stretch_19 rfl (R32.in (by omega)) (fun c19 => ?_) (fun c19 => ?_)
        · skip
          refine w_iconst dX7_stretch_33 ?_
          exact w_iretI dX7_stretch_34 rfl ⟨Fr.rf, (by exact Or.inr ⟨by omega, rfl⟩)⟩
        · skip
          refine w_iload dX7_stretch_22 rfl ?_
          refine w_if_lt (tgt := 33) dX7_stretch_24 rfl (R32.in (by omega)) (fun c24 => ?_) (fun c24 => ?_)
          · skip
            refine w_iconst dX7_stretch_33 ?_
            exact w_iretI dX7_stretch_34 rfl ⟨Fr.rf, (by exact Or.inr ⟨by omega, rfl⟩)⟩
          · skip
            refine w_iload dX7_stretch_27 rfl ?_
            refine w_iconst dX7_stretch_29 ?_
            refine w_icmp_le (tgt := 35) dX7_stretch_30 rfl (R32.in (by omega)) (R32.in (by decide)) (fun c30 => ?_) (fun c30 => ?_)
            · skip
              refine w_iconst dX7_stretch_35 ?_
              refine w_istore (ls' := [(2, 0), (0, g), (0, k), (0, n), (0, w), (0, 0), (9, 0)]) dX7_stretch_36 (Nat.le_of_ble_eq_true rfl) rfl rfl ?_
              refine w_aload_n dX7_stretch_38 rfl rfl (by first | decide | omega) ?_
              refine w_getDx (o := 0) (f := 7) (x := p) fX7_stretch_39 rfl rfl rfl rfl hC.p7 ?_
              refine w_getR (o := (p).toNat) (x := p + 9) fX7_stretch_42 (by omega) (pSh0 rfl rfl (by assumption)) rfl (pRf 15 9 rfl rfl (by assumption)) ?_
              refine w_iload_n dX7_stretch_45 rfl rfl ?_
              refine w_ialdx (o := (p + 9).toNat) (n := 32) (x := μ (p + 9) g) dX7_stretch_46 (by omega) (pSh 9 rfl rfl (by assumption)) (Nat.le_of_ble_eq_true rfl) (by omega) rfl ?_
              have hr2 := PG.fl hC.pg (g := g) (by omega)
              have hr3 := PG.fl hG (g := g) (by omega)
              refine w_istore (ls' := [(2, 0), (0, g), (0, k), (0, n), (0, w), (0, 0), (0, μ (p + 9) g)]) dX7_stretch_47 (Nat.le_of_ble_eq_true rfl) rfl rfl ?_
              have hL49 : ∀ (n49 : Nat) (m : Int) (i : Int), (μ (p + 9) g + μ (p + 10) g - i).toNat = n49 → (μ (p + 9) g ≤ i ∧ i ≤ μ (p + 9) g + μ (p + 10) g) → (m ≤ n) → (m = stN μ p k (μ (p + 9) g) (i - μ (p + 9) g)) → Wp (GG X) M_X7_stretch 49 [(2, 0), (0, g), (0, k), (0, n), (0, w), (0, m), (0, i)] [] μ (qI 0 fun z μ' => (Fr 1 0 1 0 μ' μ) ∧ ((((0 ≤ g ∧ g < μ p 14) ∧ (1 ≤ k ∧ k ≤ 3) ∧ 0 ≤ n ∧ 0 ≤ w ∧ w ≤ 2) ∧ stP μ p k (μ (p + 9) g) (μ (p + 10) g) n w z) ∨ (¬ ((0 ≤ g ∧ g < μ p 14) ∧ (1 ≤ k ∧ k ≤ 3) ∧ 0 ≤ n ∧ 0 ≤ w ∧ w ≤ 2) ∧ z = -1))) := by
                intro n49
                induction n49 using Nat.strongRecOn with
                | ind n49 ih49 =>
                  intro m i hn49 hi0 hle hm
                  have hfl := hG.fl (g := g) (by omega)
                  have hmr := stN_r (μ := μ) (p := p) (k := k) (f := μ (p + 9) g) (i := i - μ (p + 9) g) (by omega)
                  refine w_iload dX7_stretch_49 rfl ?_
                  refine w_aload_n dX7_stretch_51 rfl rfl (by first | decide | omega) ?_
                  refine w_getDx (o := 0) (f := 7) (x := p) fX7_stretch_52 rfl rfl rfl rfl hC.p7 ?_
                  refine w_iload_n dX7_stretch_55 rfl rfl ?_
                  refine w_callVP (o := (p).toNat) (ci := 2) (as := [(0, g)]) (rest := [(0, i)]) (k := 0) fX7_stretch_56 rfl (by omega) (pSh0 rfl rfl (by assumption)) rfl rfl rfl rfl rfl (Nat.le_of_ble_eq_true rfl) (s_X2_lastOf X p g μ μ (fun o h1 => rfl) hI hG (by first | omega | assumption)) ?_
                  refine w_icmp_gt (tgt := 109) dX7_stretch_59 rfl (R32.in (by omega)) (R32.in (by omega)) (fun c59 => ?_) (fun c59 => ?_)
                  · skip
                    refine w_bipush dX7_stretch_109 (by decide) ?_
                    exact w_iretI dX7_stretch_111 rfl ⟨Fr.rf, (by exact Or.inl ⟨by omega, Or.inr ⟨by rw [show μ (p + 10) g = i - μ (p + 9) g by omega, ← hm]; exact hle, rfl⟩⟩)⟩
                  · skip
                    refine w_aload_n dX7_stretch_62 rfl rfl (by first | decide | omega) ?_
                    refine w_getDx (o := 0) (f := 7) (x := p) fX7_stretch_63 rfl rfl rfl rfl hC.p7 ?_
                    refine w_iload dX7_stretch_66 rfl ?_
                    refine w_iload_n dX7_stretch_68 rfl rfl ?_
                    refine w_callVP (o := (p).toNat) (ci := 2) (as := [(0, i), (0, k)]) (rest := []) (k := 0) fX7_stretch_69 rfl (by omega) (pSh0 rfl rfl (by assumption)) rfl rfl rfl rfl rfl (Nat.le_of_ble_eq_true rfl) (s_X2_startsStretch X p i k μ μ (fun o h1 => rfl) hI hG (by first | omega | assumption) (by first | omega | assumption)) ?_
                    refine w_if_eq (tgt := 103) dX7_stretch_72 rfl (R32.in (by have := am_b_r ((k ≤ bmr μ p i ∧ bml μ p i < k)); omega)) (fun c72 => ?_) (fun c72 => ?_)
                    · skip
                      replace c72 := am_b0 c72
                      refine w_iinc (ls' := [(2, 0), (0, g), (0, k), (0, n), (0, w), (0, m), (0, i + 1)]) dX7_stretch_103 rfl (Nat.le_of_ble_eq_true rfl) rfl rfl ?_
                      refine w_goto (tgt := 49) dX7_stretch_106 rfl ?_
                      exact ih49 _ (by omega) m (i + 1) rfl (by first | omega | assumption) (by first | omega | assumption) (by rw [show i + 1 - μ (p + 9) g = i - μ (p + 9) g + 1 by omega, stN_s (by omega), show μ (p + 9) g + (i - μ (p + 9) g) = i by omega, ← hm]; omega)
                    · skip
                      replace c72 := am_b1 c72
                      refine w_iload dX7_stretch_75 rfl ?_
                      refine w_iload_n dX7_stretch_77 rfl rfl ?_
                      refine w_icmp_ne (tgt := 100) dX7_stretch_78 rfl (R32.in (by omega)) (R32.in (by omega)) (fun c78 => ?_) (fun c78 => ?_)
                      · skip
                        refine w_iinc (ls' := [(2, 0), (0, g), (0, k), (0, n), (0, w), (0, m + 1), (0, i)]) dX7_stretch_100 rfl (Nat.le_of_ble_eq_true rfl) rfl rfl ?_
                        refine w_iinc (ls' := [(2, 0), (0, g), (0, k), (0, n), (0, w), (0, m + 1), (0, i + 1)]) dX7_stretch_103 rfl (Nat.le_of_ble_eq_true rfl) rfl rfl ?_
                        refine w_goto (tgt := 49) dX7_stretch_106 rfl ?_
                        exact ih49 _ (by omega) (m + 1) (i + 1) rfl (by first | omega | assumption) (by first | omega | assumption) (by rw [show i + 1 - μ (p + 9) g = i - μ (p + 9) g + 1 by omega, stN_s (by omega), show μ (p + 9) g + (i - μ (p + 9) g) = i by omega, ← hm]; omega)
                      · skip
                        refine w_aload_n dX7_stretch_81 rfl rfl (by first | decide | omega) ?_
                        refine w_iload dX7_stretch_82 rfl ?_
                        refine w_aload_n dX7_stretch_84 rfl rfl (by first | decide | omega) ?_
                        refine w_getDx (o := 0) (f := 7) (x := p) fX7_stretch_85 rfl rfl rfl rfl hC.p7 ?_
                        refine w_iload dX7_stretch_88 rfl ?_
                        refine w_iload_n dX7_stretch_90 rfl rfl ?_
                        refine w_callVP (o := (p).toNat) (ci := 2) (as := [(0, i), (0, k)]) (rest := [(0, i), (2, 0)]) (k := 1) fX7_stretch_91 rfl (by omega) (pSh0 rfl rfl (by assumption)) rfl rfl rfl rfl rfl (Nat.le_of_ble_eq_true rfl) (s_X2_stretchEnd X p i k μ μ (fun o h1 => rfl) hI hG (by first | omega | assumption) (by first | omega | assumption)) ?_
                        have hf4 := ste_r μ p k i (by omega)
                        refine w_iload dX7_stretch_94 rfl ?_
                        refine w_callVP (o := 0) (ci := 7) (as := [(0, i), (0, ste μ p k i), (0, w)]) (rest := []) (k := 0) fX7_stretch_96 rfl rfl rfl rfl rfl rfl rfl rfl (Nat.le_of_ble_eq_true rfl) (s_X7_tellStretch X p i (ste μ p k i) w μ μ (fun o h1 => rfl) hC (by first | omega | assumption) (by first | omega | assumption) (by first | omega | assumption)) ?_
                        exact w_iretI dX7_stretch_99 rfl ⟨Fr.rf, (by exact Or.inl ⟨by omega, Or.inl ⟨i - μ (p + 9) g, by omega, by rw [show μ (p + 9) g + (i - μ (p + 9) g) = i by omega]; omega, by rw [← hm]; omega, by rw [show μ (p + 9) g + (i - μ (p + 9) g) = i by omega]⟩⟩)⟩
              exact hL49 _ 0 (μ (p + 9) g) rfl (by have := hG.fl (g := g) (by omega); omega) (by first | omega | assumption) (by rw [show μ (p + 9) g - μ (p + 9) g = 0 by omega]; rfl)
            · skip
              refine w_iconst dX7_stretch_33 ?_
              exact w_iretI dX7_stretch_34 rfl ⟨Fr.rf, (by exact Or.inr ⟨by omega, rfl⟩)⟩

set_option maxRecDepth 100000 in
set_option maxHeartbeats 4000000 in
theorem s_X7_position (X : AX) (p : Int) (i : Int) (μ : Mu) (hC : CJ μ p) (hi : -2147483648 ≤ i ∧ i ≤ 2147483647) : Wp (GG X) M_X7_position 0 [(2, 0), (0, i)] [] μ (pP 0 (if 0 ≤ i ∧ i < μ p 7 ∧ μ (p + 4) i = 1 then μ (p + 5) i else -1000000) μ) := by
  have hI := hC.i
  have hG := hC.pg
  have hp := hI.at
  have hz := hI.sz
  have hgr := hG.gr
  have hkn := hC.kn
  refine w_aload_n dX7_position_0 rfl rfl (by first | decide | omega) ?_
  refine w_iload_n dX7_position_1 rfl rfl ?_
  refine w_callVP (o := 0) (ci := 7) (as := [(0, i)]) (rest := []) (k := 0) fX7_position_2 rfl rfl rfl rfl rfl rfl rfl rfl (Nat.le_of_ble_eq_true rfl) (s_X7_isNote X p i μ μ (fun o h1 => rfl) hC (by first | omega | assumption)) ?_
  have hf1 := am_b_r (0 ≤ i ∧ i < μ p 7 ∧ μ (p + 4) i = 1)
  refine w_if_eq (tgt := 20) dX7_position_5 rfl (R32.in (by have := am_b_r ((0 ≤ i ∧ i < μ p 7 ∧ μ (p + 4) i = 1)); omega)) (fun c5 => ?_) (fun c5 => ?_)
  · skip
    replace c5 := am_b0 c5
    refine w_ldc (n := -1000000) dX7_position_20 k_704 (by decide) ?_
    exact w_iretP dX7_position_22 rfl (by first | exact ifT (by omega) rfl | exact ifF (by omega) rfl)
  · skip
    replace c5 := am_b1 c5
    refine w_aload_n dX7_position_8 rfl rfl (by first | decide | omega) ?_
    refine w_getDx (o := 0) (f := 7) (x := p) fX7_position_9 rfl rfl rfl rfl hC.p7 ?_
    refine w_getR (o := (p).toNat) (x := p + 5) fX7_position_12 (by omega) (pSh0 rfl rfl (by assumption)) rfl (pRf 10 5 rfl rfl (by assumption)) ?_
    refine w_iload_n dX7_position_15 rfl rfl ?_
    refine w_ialdx (o := (p + 5).toNat) (n := 64) (x := μ (p + 5) i) dX7_position_16 (by omega) (pSh 5 rfl rfl (by assumption)) (Nat.le_of_ble_eq_true rfl) (by omega) rfl ?_
    have hr2 := PI.hd hC.i (q := p + 5) (i := i) rfl (by omega)
    have hr3 := PI.hd hI (q := p + 5) (i := i) rfl (by omega)
    refine w_goto (tgt := 22) dX7_position_17 rfl ?_
    exact w_iretP dX7_position_22 rfl (by first | exact ifT (by omega) rfl | exact ifF (by omega) rfl)
