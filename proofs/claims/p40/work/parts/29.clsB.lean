


set_option maxRecDepth 100000 in
set_option maxHeartbeats 4000000 in
theorem s_X7_direction (X : AX) (p : Int) (i : Int) (μ : Mu) (hC : CJ μ p) (hi : -2147483648 ≤ i ∧ i ≤ 2147483647) : Wp (GG X) M_X7_direction 0 [(2, 0), (0, i)] [] μ (qI 0 fun z μ' => (Fr 6 14 1 0 μ' μ) ∧ (z = if (0 ≤ i ∧ i < μ p 7) then (if 0 ≤ μ (p + 8) i then way (ddt μ p (p + 5) (μ p 3) (μ (p + 8) i)) (i - μ (p + 9) (μ (p + 8) i)) else 0) else -1000000)) := by
  have hI := hC.i
  have hG := hC.pg
  have hp := hI.at
  have hz := hI.sz
  have hgr := hG.gr
  have hkn := hC.kn
  refine w_aload_n dX7_direction_0 rfl rfl (by first | decide | omega) ?_
  refine w_iload_n dX7_direction_1 rfl rfl ?_
  refine w_callVP (o := 0) (ci := 7) (as := [(0, i)]) (rest := []) (k := 0) fX7_direction_2 rfl rfl rfl rfl rfl rfl rfl rfl (Nat.le_of_ble_eq_true rfl) (s_X7_isElement X p i μ μ (fun o h1 => rfl) hC (by first | omega | assumption)) ?_
  have hf1 := am_b_r (0 ≤ i ∧ i < μ p 7)
  refine w_if_ne (tgt := 11) dX7_direction_5 rfl (R32.in (by have := am_b_r ((0 ≤ i ∧ i < μ p 7)); omega)) (fun c5 => ?_) (fun c5 => ?_)
  · skip
    replace c5 := am_b1 c5
    refine w_aload_n dX7_direction_11 rfl rfl (by first | decide | omega) ?_
    refine w_iload_n dX7_direction_12 rfl rfl ?_
    refine w_callVP (o := 0) (ci := 7) (as := [(0, i)]) (rest := []) (k := 0) fX7_direction_13 rfl rfl rfl rfl rfl rfl rfl rfl (Nat.le_of_ble_eq_true rfl) (s_X7_isGrouped X p i μ μ (fun o h1 => rfl) hC (by first | omega | assumption)) ?_
    have hf2 := am_b_r (0 ≤ i ∧ i < μ p 7 ∧ 0 ≤ μ (p + 8) i)
    refine w_if_ne (tgt := 21) dX7_direction_16 rfl (R32.in (by have := am_b_r ((0 ≤ i ∧ i < μ p 7 ∧ 0 ≤ μ (p + 8) i)); omega)) (fun c16 => ?_) (fun c16 => ?_)
    · skip
      replace c16 := am_b1 c16
      refine w_aload_n dX7_direction_21 rfl rfl (by first | decide | omega) ?_
      refine w_getR (o := 0) (x := 6) fX7_direction_22 rfl rfl rfl rfl ?_
      refine w_getR (o := 6) (x := 10) fX7_direction_25 rfl rfl rfl rfl ?_
      refine w_aload_n dX7_direction_28 rfl rfl (by first | decide | omega) ?_
      refine w_iload_n dX7_direction_29 rfl rfl ?_
      refine w_callVI (o := 0) (ci := 7) (as := [(0, i)]) (rest := [(2, 10)]) (k := 1) fX7_direction_30 rfl rfl rfl rfl rfl rfl rfl rfl (Nat.le_of_ble_eq_true rfl) (s_X7_loadAround X p i μ μ (fun o h1 => rfl) hC (by first | omega | assumption)) (fun xA μA hμA => ?_)
      obtain ⟨hFA, hz_A, hD_A⟩ := hμA
      have hgi := hG.go2 (i := i) (by omega) (by omega)
      have hdn : dN (ddt μ p (p + 5) (μ p 3) (μ (p + 8) i)) = μ (p + 10) (μ (p + 8) i) := rfl
      have hnn := hD_A.ok.n
      refine w_ialdx (o := 10) (n := 64) (x := way (ddt μ p (p + 5) (μ p 3) (μ (p + 8) i)) xA) dX7_direction_33 rfl rfl (Nat.le_of_ble_eq_true rfl) (by omega) (hD_A.w (by omega)) ?_
      have hr4 := way_b (ddt μ p (p + 5) (μ p 3) (μ (p + 8) i)) xA
      exact w_iretI dX7_direction_34 rfl ⟨hFA, (by exact ifT (by omega) (ifT (by omega) (congrArg (way (ddt μ p (p + 5) (μ p 3) (μ (p + 8) i))) hz_A)))⟩
    · skip
      replace c16 := am_b0 c16
      refine w_iconst dX7_direction_19 ?_
      exact w_iretI dX7_direction_20 rfl ⟨Fr.rf, (by exact ifT (by omega) (ifF (by omega) rfl))⟩
  · skip
    replace c5 := am_b0 c5
    refine w_ldc (n := -1000000) dX7_direction_8 k_597 (by decide) ?_
    exact w_iretI dX7_direction_10 rfl ⟨Fr.rf, (by exact ifF (by omega) rfl)⟩


set_option maxRecDepth 100000 in
set_option maxHeartbeats 4000000 in
theorem s_X7_ugliness (X : AX) (p : Int) (g : Int) (l : Int) (r : Int) (w : Int) (μ : Mu) (hC : CJ μ p) (hg : -2147483648 ≤ g ∧ g ≤ 2147483647) (hl : -2147483648 ≤ l ∧ l ≤ 2147483647) (hr : -2147483648 ≤ r ∧ r ≤ 2147483647) (hw : -2147483648 ≤ w ∧ w ≤ 2147483647) : Wp (GG X) M_X7_ugliness 0 [(2, 0), (0, g), (0, l), (0, r), (0, w)] [] μ (qI 0 fun z μ' => (Fr 6 14 1 0 μ' μ) ∧ (z = if (0 ≤ g ∧ g < μ p 14) ∧ ((-60 ≤ l ∧ l ≤ 60) ∧ (-60 ≤ r ∧ r ≤ 60) ∧ (-8 ≤ r - l ∧ r - l ≤ 8)) ∧ 0 ≤ w ∧ w ≤ 3 then (if alwB (ddt μ p (p + 5) (μ p 3) g) (r - l) l = true then tls (ddt μ p (p + 5) (μ p 3) g) (r - l) l (w + 2) else -2) else -1)) := by
  have hI := hC.i
  have hG := hC.pg
  have hp := hI.at
  have hz := hI.sz
  have hgr := hG.gr
  have hkn := hC.kn
  refine w_aload_n dX7_ugliness_0 rfl rfl (by first | decide | omega) ?_
  refine w_iload_n dX7_ugliness_1 rfl rfl ?_
  refine w_callVP (o := 0) (ci := 7) (as := [(0, g)]) (rest := []) (k := 0) fX7_ugliness_2 rfl rfl rfl rfl rfl rfl rfl rfl (Nat.le_of_ble_eq_true rfl) (s_X7_isGroup X p g μ μ (fun o h1 => rfl) hC (by first | omega | assumption)) ?_
  have hf1 := am_b_r (0 ≤ g ∧ g < μ p 14)
  refine w_if_eq (tgt := 27) dX7_ugliness_5 rfl (R32.in (by have := am_b_r ((0 ≤ g ∧ g < μ p 14)); omega)) (fun c5 => ?_) (fun c5 => ?_)
  · skip
    replace c5 := am_b0 c5
    refine w_iconst dX7_ugliness_27 ?_
    exact w_iretI dX7_ugliness_28 rfl ⟨Fr.rf, (by exact ifF (by omega) rfl)⟩
  · skip
    replace c5 := am_b1 c5
    refine w_iload_n dX7_ugliness_8 rfl rfl ?_
    refine w_iload_n dX7_ugliness_9 rfl rfl ?_
    refine w_callSP (as := [(0, l), (0, r)]) (rest := []) (k := 0) fX7_ugliness_10 rfl rfl rfl rfl rfl (Nat.le_of_ble_eq_true rfl) (s_X0_isSetting X l r μ (by first | omega | assumption) (by first | omega | assumption)) ?_
    refine w_if_eq (tgt := 27) dX7_ugliness_13 rfl (R32.in (by have := am_b_r (((-60 ≤ l ∧ l ≤ 60) ∧ (-60 ≤ r ∧ r ≤ 60) ∧ (-8 ≤ r - l ∧ r - l ≤ 8))); omega)) (fun c13 => ?_) (fun c13 => ?_)
    · skip
      replace c13 := am_b0 c13
      refine w_iconst dX7_ugliness_27 ?_
      exact w_iretI dX7_ugliness_28 rfl ⟨Fr.rf, (by exact ifF (by omega) rfl)⟩
    · skip
      replace c13 := am_b1 c13
      refine w_iload dX7_ugliness_16 rfl ?_
      refine w_if_lt (tgt := 27) dX7_ugliness_18 rfl (R32.in (by omega)) (fun c18 => ?_) (fun c18 => ?_)
      · skip
        refine w_iconst dX7_ugliness_27 ?_
        exact w_iretI dX7_ugliness_28 rfl ⟨Fr.rf, (by exact ifF (by omega) rfl)⟩
      · skip
        refine w_iload dX7_ugliness_21 rfl ?_
        refine w_iconst dX7_ugliness_23 ?_
        refine w_icmp_le (tgt := 29) dX7_ugliness_24 rfl (R32.in (by omega)) (R32.in (by decide)) (fun c24 => ?_) (fun c24 => ?_)
        · skip
          refine w_aload_n dX7_ugliness_29 rfl rfl (by first | decide | omega) ?_
          refine w_iload_n dX7_ugliness_30 rfl rfl ?_
          refine w_callVV (o := 0) (ci := 7) (as := [(0, g)]) (rest := []) (k := 0) fX7_ugliness_31 rfl rfl rfl rfl rfl rfl rfl rfl (Nat.le_of_ble_eq_true rfl) (s_X7_load X p g μ μ (fun o h1 => rfl) hC (by first | omega | assumption)) (fun μL hμL => ?_)
          obtain ⟨hFL, hD_L⟩ := hμL
          have hok := (hD_L).ok
          have hmr := mnK_r hok
          have hnn : 0 ≤ dN (ddt μ p (p + 5) (μ p 3) g) := by have := hok.n; omega
          refine w_aload_n dX7_ugliness_34 rfl rfl (by first | decide | omega) ?_
          refine w_getR (o := 0) (x := 6) fX7_ugliness_35 rfl rfl rfl rfl ?_
          refine w_iload_n dX7_ugliness_38 rfl rfl ?_
          refine w_iload_n dX7_ugliness_39 rfl rfl ?_
          refine w_callVI (o := 6) (ci := 0) (as := [(0, l), (0, r)]) (rest := []) (k := 0) fX7_ugliness_40 rfl rfl rfl rfl rfl rfl rfl rfl (Nat.le_of_ble_eq_true rfl) (s_X0_allows X (ddt μ p (p + 5) (μ p 3) g) l r μL hD_L (by first | omega | assumption)) (fun xA μA hμA => ?_)
          obtain ⟨hFA, hz_A, hD_A, hT_A, hf_A⟩ := hμA
          refine w_if_eq (tgt := 62) dX7_ugliness_43 rfl (R32.in (by omega)) (fun c43 => ?_) (fun c43 => ?_)
          · skip
            refine w_bipush dX7_ugliness_62 (by decide) ?_
            exact w_iretI dX7_ugliness_64 rfl ⟨((hFA.wd (by omega) (by omega)).tr hFL), (by first | exact ifT (by omega) (ifT ((alwB_iff hnn).mpr (hz_A.2.mp (by omega))) hz_T) | exact ifT (by omega) (ifF (fun q => by have := hz_A.2.mpr ((alwB_iff hnn).mp q); omega) rfl))⟩
          · skip
            refine w_aload_n dX7_ugliness_46 rfl rfl (by first | decide | omega) ?_
            refine w_getR (o := 0) (x := 6) fX7_ugliness_47 rfl rfl rfl rfl ?_
            refine w_iload_n dX7_ugliness_50 rfl rfl ?_
            refine w_iload_n dX7_ugliness_51 rfl rfl ?_
            refine w_iload dX7_ugliness_52 rfl ?_
            refine w_iconst dX7_ugliness_54 ?_
            refine w_iadd dX7_ugliness_55 ?_
            refine w_callVI (o := 6) (ci := 0) (as := [(0, l), (0, r), (0, w + 2)]) (rest := []) (k := 1) fX7_ugliness_56 rfl rfl rfl rfl rfl rfl rfl rfl (Nat.le_of_ble_eq_true rfl) (s_X0_tellSetting X (ddt μ p (p + 5) (μ p 3) g) l r (w + 2) μA hD_A (by first | omega | assumption) (by first | omega | assumption)) (fun xT μT hμT => ?_)
            obtain ⟨hFT, hz_T, hD_T, hf_T⟩ := hμT
            refine w_goto (tgt := 64) dX7_ugliness_59 rfl ?_
            exact w_iretI dX7_ugliness_64 rfl ⟨((hFT.wd (by omega) (by omega)).tr ((hFA.wd (by omega) (by omega)).tr hFL)), (by first | exact ifT (by omega) (ifT ((alwB_iff hnn).mpr (hz_A.2.mp (by omega))) hz_T) | exact ifT (by omega) (ifF (fun q => by have := hz_A.2.mpr ((alwB_iff hnn).mp q); omega) rfl))⟩
        · skip
          refine w_iconst dX7_ugliness_27 ?_
          exact w_iretI dX7_ugliness_28 rfl ⟨Fr.rf, (by exact ifF (by omega) rfl)⟩

set_option maxRecDepth 100000 in
set_option maxHeartbeats 4000000 in
theorem s_X7_best (X : AX) (p : Int) (g : Int) (w : Int) (μ : Mu) (hC : CJ μ p) (hg : -2147483648 ≤ g ∧ g ≤ 2147483647) (hw : -2147483648 ≤ w ∧ w ≤ 2147483647) : Wp (GG X) M_X7_best 0 [(2, 0), (0, g), (0, w)] [] μ (qI 0 fun z μ' => (Fr 6 14 1 0 μ' μ) ∧ (z = if (0 ≤ g ∧ g < μ p 14) ∧ 0 ≤ w ∧ w ≤ 5 then ansB (ddt μ p (p + 5) (μ p 3) g) w else -1000000)) := by
  have hI := hC.i
  have hG := hC.pg
  have hp := hI.at
  have hz := hI.sz
  have hgr := hG.gr
  have hkn := hC.kn
  refine w_aload_n dX7_best_0 rfl rfl (by first | decide | omega) ?_
  refine w_iload_n dX7_best_1 rfl rfl ?_
  refine w_callVP (o := 0) (ci := 7) (as := [(0, g)]) (rest := []) (k := 0) fX7_best_2 rfl rfl rfl rfl rfl rfl rfl rfl (Nat.le_of_ble_eq_true rfl) (s_X7_isGroup X p g μ μ (fun o h1 => rfl) hC (by first | omega | assumption)) ?_
  have hf1 := am_b_r (0 ≤ g ∧ g < μ p 14)
  refine w_if_ne (tgt := 11) dX7_best_5 rfl (R32.in (by have := am_b_r ((0 ≤ g ∧ g < μ p 14)); omega)) (fun c5 => ?_) (fun c5 => ?_)
  · skip
    replace c5 := am_b1 c5
    refine w_aload_n dX7_best_11 rfl rfl (by first | decide | omega) ?_
    refine w_iload_n dX7_best_12 rfl rfl ?_
    refine w_callVV (o := 0) (ci := 7) (as := [(0, g)]) (rest := []) (k := 0) fX7_best_13 rfl rfl rfl rfl rfl rfl rfl rfl (Nat.le_of_ble_eq_true rfl) (s_X7_load X p g μ μ (fun o h1 => rfl) hC (by first | omega | assumption)) (fun μL hμL => ?_)
    obtain ⟨hFL, hD_L⟩ := hμL
    refine w_aload_n dX7_best_16 rfl rfl (by first | decide | omega) ?_
    refine w_iload_n dX7_best_17 rfl rfl ?_
    refine w_callVI (o := 0) (ci := 7) (as := [(0, w)]) (rest := []) (k := 2) fX7_best_18 rfl rfl rfl rfl rfl rfl rfl rfl (Nat.le_of_ble_eq_true rfl) (s_X7_tellBest X (ddt μ p (p + 5) (μ p 3) g) w μL hD_L (by first | omega | assumption)) (fun xT μT hμT => ?_)
    obtain ⟨hFT, hz_T, hD_T, hf_T⟩ := hμT
    exact w_iretI dX7_best_21 rfl ⟨((hFT.wd (by omega) (by omega)).tr hFL), (by exact hz_T.trans (ifA (by omega)))⟩
  · skip
    replace c5 := am_b0 c5
    refine w_ldc (n := -1000000) dX7_best_8 k_597 (by decide) ?_
    exact w_iretI dX7_best_10 rfl ⟨Fr.rf, (by exact ifF (by omega) rfl)⟩

set_option maxRecDepth 100000 in
set_option maxHeartbeats 4000000 in
theorem s_X7_ranked (X : AX) (p : Int) (g : Int) (k : Int) (w : Int) (μ : Mu) (hC : CJ μ p) (hg : -2147483648 ≤ g ∧ g ≤ 2147483647) (hk : -2147483648 ≤ k ∧ k ≤ 2147483647) (hw : -2147483648 ≤ w ∧ w ≤ 2147483647) : Wp (GG X) M_X7_ranked 0 [(2, 0), (0, g), (0, k), (0, w)] [] μ (qI 0 fun z μ' => (Fr 6 14 1 0 μ' μ) ∧ (rnkP (ddt μ p (p + 5) (μ p 3) g) (0 ≤ g ∧ g < μ p 14) k w z)) := by
  have hI := hC.i
  have hG := hC.pg
  have hp := hI.at
  have hz := hI.sz
  have hgr := hG.gr
  have hkn := hC.kn
  refine w_aload_n dX7_ranked_0 rfl rfl (by first | decide | omega) ?_
  refine w_iload_n dX7_ranked_1 rfl rfl ?_
  refine w_callVP (o := 0) (ci := 7) (as := [(0, g)]) (rest := []) (k := 0) fX7_ranked_2 rfl rfl rfl rfl rfl rfl rfl rfl (Nat.le_of_ble_eq_true rfl) (s_X7_isGroup X p g μ μ (fun o h1 => rfl) hC (by first | omega | assumption)) ?_
  have hf1 := am_b_r (0 ≤ g ∧ g < μ p 14)
  refine w_if_eq (tgt := 21) dX7_ranked_5 rfl (R32.in (by have := am_b_r ((0 ≤ g ∧ g < μ p 14)); omega)) (fun c5 => ?_) (fun c5 => ?_)
  · skip
    replace c5 := am_b0 c5
    refine w_ldc (n := -1000000) dX7_ranked_21 k_597 (by decide) ?_
    exact w_iretI dX7_ranked_23 rfl ⟨Fr.rf, (by exact rnkP_no (by omega))⟩
  · skip
    replace c5 := am_b1 c5
    refine w_iload_n dX7_ranked_8 rfl rfl ?_
    refine w_if_lt (tgt := 21) dX7_ranked_9 rfl (R32.in (by omega)) (fun c9 => ?_) (fun c9 => ?_)
    · skip
      refine w_ldc (n := -1000000) dX7_ranked_21 k_597 (by decide) ?_
      exact w_iretI dX7_ranked_23 rfl ⟨Fr.rf, (by exact rnkP_no (by omega))⟩
    · skip
      refine w_iload_n dX7_ranked_12 rfl rfl ?_
      refine w_if_lt (tgt := 21) dX7_ranked_13 rfl (R32.in (by omega)) (fun c13 => ?_) (fun c13 => ?_)
      · skip
        refine w_ldc (n := -1000000) dX7_ranked_21 k_597 (by decide) ?_
        exact w_iretI dX7_ranked_23 rfl ⟨Fr.rf, (by exact rnkP_no (by omega))⟩
      · skip
        refine w_iload_n dX7_ranked_16 rfl rfl ?_
        refine w_iconst dX7_ranked_17 ?_
        refine w_icmp_le (tgt := 24) dX7_ranked_18 rfl (R32.in (by omega)) (R32.in (by decide)) (fun c18 => ?_) (fun c18 => ?_)
        · skip
          refine w_aload_n dX7_ranked_24 rfl rfl (by first | decide | omega) ?_
          refine w_iload_n dX7_ranked_25 rfl rfl ?_
          refine w_callVV (o := 0) (ci := 7) (as := [(0, g)]) (rest := []) (k := 0) fX7_ranked_26 rfl rfl rfl rfl rfl rfl rfl rfl (Nat.le_of_ble_eq_true rfl) (s_X7_load X p g μ μ (fun o h1 => rfl) hC (by first | omega | assumption)) (fun μL hμL => ?_)
          obtain ⟨hFL, hD_L⟩ := hμL
          have hok := (hD_L).ok
          have hmr := mnK_r hok
          refine w_iload_n dX7_ranked_29 rfl rfl ?_
          refine w_aload_n dX7_ranked_30 rfl rfl (by first | decide | omega) ?_
          refine w_getR (o := 0) (x := 6) fX7_ranked_31 rfl rfl rfl rfl ?_
          refine w_callVI (o := 6) (ci := 0) (as := []) (rest := [(0, k)]) (k := 3) fX7_ranked_34 rfl rfl rfl rfl rfl rfl rfl rfl (Nat.le_of_ble_eq_true rfl) (s_X0_gather X (ddt μ p (p + 5) (μ p 3) g) μL hD_L) (fun xG μG hμG => ?_)
          obtain ⟨hFG, hz_G, hK_G, hD_G⟩ := hμG
          have hcr0 := hK_G.c
          have hcn0 := hK_G.cn
          refine w_icmp_lt (tgt := 43) dX7_ranked_37 rfl (R32.in (by omega)) (R32.in (by omega)) (fun c37 => ?_) (fun c37 => ?_)
          · skip
            refine w_aload_n dX7_ranked_43 rfl rfl (by first | decide | omega) ?_
            refine w_getR (o := 0) (x := 6) fX7_ranked_44 rfl rfl rfl rfl ?_
            refine w_callVV (o := 6) (ci := 0) (as := []) (rest := []) (k := 5) fX7_ranked_47 rfl rfl rfl rfl rfl rfl rfl rfl (Nat.le_of_ble_eq_true rfl) (s_X0_sortKeys X (ddt μ p (p + 5) (μ p 3) g) μG hK_G) (fun μS hμS => ?_)
            obtain ⟨hFS, hp_S, hs_S⟩ := hμS
            obtain ⟨s, l, hS_1, hS_2, hS_3, hS_4⟩ := srt_rk hK_G hp_S hs_S (k := k) (by have := hK_G.cn; omega)
            have hcr := hK_G.c
            have hcn := hK_G.cn
            refine w_aload_n dX7_ranked_50 rfl rfl (by first | decide | omega) ?_
            refine w_getR (o := 0) (x := 6) fX7_ranked_51 rfl rfl rfl rfl ?_
            refine w_aload_n dX7_ranked_54 rfl rfl (by first | decide | omega) ?_
            refine w_getR (o := 0) (x := 6) fX7_ranked_55 rfl rfl rfl rfl ?_
            refine w_getR (o := 6) (x := 12) fX7_ranked_58 rfl rfl rfl rfl ?_
            refine w_iload_n dX7_ranked_61 rfl rfl ?_
            refine w_laldx (o := 12) (n := 595) (x := μS 12 k) dX7_ranked_62 rfl rfl (Nat.le_of_ble_eq_true rfl) (by omega) rfl ?_
            refine w_iload_n dX7_ranked_63 rfl rfl ?_
            refine w_callVI (o := 6) (ci := 0) (as := [(1, μS 12 k), (0, w)]) (rest := []) (k := 0) fX7_ranked_64 rfl rfl rfl rfl rfl rfl rfl rfl (Nat.le_of_ble_eq_true rfl) (s_X0_tell X (ddt μ p (p + 5) (μ p 3) g) s l (μS 12 k) w μS (GLd.cg2 hD_G (fun o h1 => (hFS.at (by omega) (by omega))) (fun k h1 => (congrFun (hFS.at (by omega) (by omega)) _))) hS_1 hS_2 hS_3 (by first | omega | assumption)) (fun xT μT hμT => ?_)
            obtain ⟨hFT, hz_T, hD_T, hf_T⟩ := hμT
            exact w_iretI dX7_ranked_67 rfl ⟨((hFT.wd (by omega) (by omega)).tr ((hFS.wd (by omega) (by omega)).tr ((hFG.wd (by omega) (by omega)).tr hFL))), (by exact rnkP_in (by omega) hS_1 hS_2 hS_4 hz_T)⟩
          · skip
            refine w_ldc (n := -1000000) dX7_ranked_40 k_597 (by decide) ?_
            exact w_iretI dX7_ranked_42 rfl ⟨((hFG.wd (by omega) (by omega)).tr hFL), (by exact rnkP_out hz_G (by omega))⟩
        · skip
          refine w_ldc (n := -1000000) dX7_ranked_21 k_597 (by decide) ?_
          exact w_iretI dX7_ranked_23 rfl ⟨Fr.rf, (by exact rnkP_no (by omega))⟩

set_option maxRecDepth 100000 in
set_option maxHeartbeats 4000000 in
theorem s_X7_rank (X : AX) (p : Int) (g : Int) (l : Int) (r : Int) (μ : Mu) (hC : CJ μ p) (hg : -2147483648 ≤ g ∧ g ≤ 2147483647) (hl : -2147483648 ≤ l ∧ l ≤ 2147483647) (hr : -2147483648 ≤ r ∧ r ≤ 2147483647) : Wp (GG X) M_X7_rank 0 [(2, 0), (0, g), (0, l), (0, r)] [] μ (qI 0 fun z μ' => (Fr 6 14 1 0 μ' μ) ∧ (z = if (0 ≤ g ∧ g < μ p 14) ∧ ((-60 ≤ l ∧ l ≤ 60) ∧ (-60 ≤ r ∧ r ≤ 60) ∧ (-8 ≤ r - l ∧ r - l ≤ 8)) then (if alwB (ddt μ p (p + 5) (μ p 3) g) (r - l) l = true then rkD (ddt μ p (p + 5) (μ p 3) g) (key (ddt μ p (p + 5) (μ p 3) g) (r - l) l) else -2) else -1)) := by
  have hI := hC.i
  have hG := hC.pg
  have hp := hI.at
  have hz := hI.sz
  have hgr := hG.gr
  have hkn := hC.kn
  refine w_aload_n dX7_rank_0 rfl rfl (by first | decide | omega) ?_
  refine w_iload_n dX7_rank_1 rfl rfl ?_
  refine w_callVP (o := 0) (ci := 7) (as := [(0, g)]) (rest := []) (k := 0) fX7_rank_2 rfl rfl rfl rfl rfl rfl rfl rfl (Nat.le_of_ble_eq_true rfl) (s_X7_isGroup X p g μ μ (fun o h1 => rfl) hC (by first | omega | assumption)) ?_
  have hf1 := am_b_r (0 ≤ g ∧ g < μ p 14)
  refine w_if_eq (tgt := 16) dX7_rank_5 rfl (R32.in (by have := am_b_r ((0 ≤ g ∧ g < μ p 14)); omega)) (fun c5 => ?_) (fun c5 => ?_)
  · skip
    replace c5 := am_b0 c5
    refine w_iconst dX7_rank_16 ?_
    exact w_iretI dX7_rank_17 rfl ⟨Fr.rf, (by exact ifF (by omega) rfl)⟩
  · skip
    replace c5 := am_b1 c5
    refine w_iload_n dX7_rank_8 rfl rfl ?_
    refine w_iload_n dX7_rank_9 rfl rfl ?_
    refine w_callSP (as := [(0, l), (0, r)]) (rest := []) (k := 0) fX7_rank_10 rfl rfl rfl rfl rfl (Nat.le_of_ble_eq_true rfl) (s_X0_isSetting X l r μ (by first | omega | assumption) (by first | omega | assumption)) ?_
    refine w_if_ne (tgt := 18) dX7_rank_13 rfl (R32.in (by have := am_b_r (((-60 ≤ l ∧ l ≤ 60) ∧ (-60 ≤ r ∧ r ≤ 60) ∧ (-8 ≤ r - l ∧ r - l ≤ 8))); omega)) (fun c13 => ?_) (fun c13 => ?_)
    · skip
      replace c13 := am_b1 c13
      refine w_aload_n dX7_rank_18 rfl rfl (by first | decide | omega) ?_
      refine w_iload_n dX7_rank_19 rfl rfl ?_
      refine w_callVV (o := 0) (ci := 7) (as := [(0, g)]) (rest := []) (k := 0) fX7_rank_20 rfl rfl rfl rfl rfl rfl rfl rfl (Nat.le_of_ble_eq_true rfl) (s_X7_load X p g μ μ (fun o h1 => rfl) hC (by first | omega | assumption)) (fun μL hμL => ?_)
      obtain ⟨hFL, hD_L⟩ := hμL
      have hok := (hD_L).ok
      have hmr := mnK_r hok
      have hnn : 0 ≤ dN (ddt μ p (p + 5) (μ p 3) g) := by have := hok.n; omega
      refine w_aload_n dX7_rank_23 rfl rfl (by first | decide | omega) ?_
      refine w_getR (o := 0) (x := 6) fX7_rank_24 rfl rfl rfl rfl ?_
      refine w_iload_n dX7_rank_27 rfl rfl ?_
      refine w_iload_n dX7_rank_28 rfl rfl ?_
      refine w_callVI (o := 6) (ci := 0) (as := [(0, l), (0, r)]) (rest := []) (k := 0) fX7_rank_29 rfl rfl rfl rfl rfl rfl rfl rfl (Nat.le_of_ble_eq_true rfl) (s_X0_allows X (ddt μ p (p + 5) (μ p 3) g) l r μL hD_L (by first | omega | assumption)) (fun xA μA hμA => ?_)
      obtain ⟨hFA, hz_A, hD_A, hT_A, hf_A⟩ := hμA
      refine w_if_eq (tgt := 54) dX7_rank_32 rfl (R32.in (by omega)) (fun c32 => ?_) (fun c32 => ?_)
      · skip
        refine w_bipush dX7_rank_54 (by decide) ?_
        exact w_iretI dX7_rank_56 rfl ⟨((hFA.wd (by omega) (by omega)).tr hFL), (by first | exact ifT (by omega) (ifT ((alwB_iff hnn).mpr (hz_A.2.mp (by omega))) (by rw [← hz_K]; exact hz_R)) | exact ifT (by omega) (ifF (fun q => by have := hz_A.2.mpr ((alwB_iff hnn).mp q); omega) rfl))⟩
      · skip
        refine w_aload_n dX7_rank_35 rfl rfl (by first | decide | omega) ?_
        refine w_getR (o := 0) (x := 6) fX7_rank_36 rfl rfl rfl rfl ?_
        refine w_aload_n dX7_rank_39 rfl rfl (by first | decide | omega) ?_
        refine w_getR (o := 0) (x := 6) fX7_rank_40 rfl rfl rfl rfl ?_
        refine w_iload_n dX7_rank_43 rfl rfl ?_
        refine w_iload_n dX7_rank_44 rfl rfl ?_
        refine w_callVI (o := 6) (ci := 0) (as := [(0, l), (0, r)]) (rest := [(2, 6)]) (k := 0) fX7_rank_45 rfl rfl rfl rfl rfl rfl rfl rfl (Nat.le_of_ble_eq_true rfl) (s_X0_keyOfSetting X (ddt μ p (p + 5) (μ p 3) g) l r μA hD_A (by first | omega | assumption)) (fun xK μK hμK => ?_)
        obtain ⟨hFK, hz_K, hD_K, hT_K, hf_K⟩ := hμK
        have hkr := key_r hok (hz_A.2.mp (by omega)) ⟨⟨by omega, by omega⟩, by omega⟩
        refine w_callVI (o := 6) (ci := 0) (as := [(1, xK)]) (rest := []) (k := 3) fX7_rank_48 rfl rfl rfl rfl rfl rfl rfl rfl (Nat.le_of_ble_eq_true rfl) (s_X0_rankOf X (ddt μ p (p + 5) (μ p 3) g) xK μK hD_K (by first | omega | assumption)) (fun xR μR hμR => ?_)
        obtain ⟨hFR, hz_R, hD_R⟩ := hμR
        refine w_goto (tgt := 56) dX7_rank_51 rfl ?_
        exact w_iretI dX7_rank_56 rfl ⟨((hFR.wd (by omega) (by omega)).tr ((hFK.wd (by omega) (by omega)).tr ((hFA.wd (by omega) (by omega)).tr hFL))), (by first | exact ifT (by omega) (ifT ((alwB_iff hnn).mpr (hz_A.2.mp (by omega))) (by rw [← hz_K]; exact hz_R)) | exact ifT (by omega) (ifF (fun q => by have := hz_A.2.mpr ((alwB_iff hnn).mp q); omega) rfl))⟩
    · skip
      replace c13 := am_b0 c13
      refine w_iconst dX7_rank_16 ?_
      exact w_iretI dX7_rank_17 rfl ⟨Fr.rf, (by exact ifF (by omega) rfl)⟩


