set_option maxRecDepth 100000 in
set_option maxHeartbeats 4000000 in
theorem s_X0_shortestLength (X : AX) (b : Int) (μ : Mu) (hb : 0 ≤ b ∧ b ≤ 3) : Wp (GG X) M_X0_shortestLength 0 [(0, b)] [] μ (pP 0 (lst b) μ) := by
  refine w_iload_n dX0_shortestLength_0 rfl rfl ?_
  refine w_iconst dX0_shortestLength_1 ?_
  refine w_icmp_ne (tgt := 10) dX0_shortestLength_2 rfl (R32.in (by omega)) (R32.in (by decide)) (fun c2 => ?_) (fun c2 => ?_)
  · skip
    refine w_iload_n dX0_shortestLength_10 rfl rfl ?_
    refine w_iconst dX0_shortestLength_11 ?_
    refine w_icmp_ne (tgt := 20) dX0_shortestLength_12 rfl (R32.in (by omega)) (R32.in (by decide)) (fun c12 => ?_) (fun c12 => ?_)
    · skip
      refine w_bipush dX0_shortestLength_20 (by decide) ?_
      exact w_iretP dX0_shortestLength_22 rfl (by unfold lst; omega)
    · skip
      refine w_bipush dX0_shortestLength_15 (by decide) ?_
      refine w_goto (tgt := 22) dX0_shortestLength_17 rfl ?_
      exact w_iretP dX0_shortestLength_22 rfl (by unfold lst; omega)
  · skip
    refine w_bipush dX0_shortestLength_5 (by decide) ?_
    refine w_goto (tgt := 22) dX0_shortestLength_7 rfl ?_
    exact w_iretP dX0_shortestLength_22 rfl (by unfold lst; omega)

set_option maxRecDepth 100000 in
set_option maxHeartbeats 4000000 in
theorem s_X0_isSetting (X : AX) (l : Int) (r : Int) (μ : Mu) (hl : -2147483648 ≤ l ∧ l ≤ 2147483647) (hr : -2147483648 ≤ r ∧ r ≤ 2147483647) : Wp (GG X) M_X0_isSetting 0 [(0, l), (0, r)] [] μ (pP 0 (am_b ((-60 ≤ l ∧ l ≤ 60) ∧ (-60 ≤ r ∧ r ≤ 60) ∧ (-8 ≤ r - l ∧ r - l ≤ 8))) μ) := by
  refine w_iload_n dX0_isSetting_0 rfl rfl ?_
  refine w_bipush dX0_isSetting_1 (by decide) ?_
  refine w_icmp_lt (tgt := 39) dX0_isSetting_3 rfl (R32.in (by omega)) (R32.in (by decide)) (fun c3 => ?_) (fun c3 => ?_)
  · skip
    refine w_iconst dX0_isSetting_39 ?_
    exact w_zretP dX0_isSetting_40 rfl (Or.inl rfl) (by first | exact am_b_t (by omega) | exact am_b_f (by omega))
  · skip
    refine w_iload_n dX0_isSetting_6 rfl rfl ?_
    refine w_bipush dX0_isSetting_7 (by decide) ?_
    refine w_icmp_gt (tgt := 39) dX0_isSetting_9 rfl (R32.in (by omega)) (R32.in (by decide)) (fun c9 => ?_) (fun c9 => ?_)
    · skip
      refine w_iconst dX0_isSetting_39 ?_
      exact w_zretP dX0_isSetting_40 rfl (Or.inl rfl) (by first | exact am_b_t (by omega) | exact am_b_f (by omega))
    · skip
      refine w_iload_n dX0_isSetting_12 rfl rfl ?_
      refine w_bipush dX0_isSetting_13 (by decide) ?_
      refine w_icmp_lt (tgt := 39) dX0_isSetting_15 rfl (R32.in (by omega)) (R32.in (by decide)) (fun c15 => ?_) (fun c15 => ?_)
      · skip
        refine w_iconst dX0_isSetting_39 ?_
        exact w_zretP dX0_isSetting_40 rfl (Or.inl rfl) (by first | exact am_b_t (by omega) | exact am_b_f (by omega))
      · skip
        refine w_iload_n dX0_isSetting_18 rfl rfl ?_
        refine w_bipush dX0_isSetting_19 (by decide) ?_
        refine w_icmp_gt (tgt := 39) dX0_isSetting_21 rfl (R32.in (by omega)) (R32.in (by decide)) (fun c21 => ?_) (fun c21 => ?_)
        · skip
          refine w_iconst dX0_isSetting_39 ?_
          exact w_zretP dX0_isSetting_40 rfl (Or.inl rfl) (by first | exact am_b_t (by omega) | exact am_b_f (by omega))
        · skip
          refine w_iload_n dX0_isSetting_24 rfl rfl ?_
          refine w_iload_n dX0_isSetting_25 rfl rfl ?_
          refine w_isub dX0_isSetting_26 ?_
          refine w_abs fX0_isSetting_27 (R32.in (by omega)) (Nat.le_of_ble_eq_true rfl) ?_
          refine w_bipush dX0_isSetting_30 (by decide) ?_
          refine w_icmp_gt (tgt := 39) dX0_isSetting_32 rfl (R32.in (by omega)) (R32.in (by decide)) (fun c32 => ?_) (fun c32 => ?_)
          · skip
            refine w_iconst dX0_isSetting_39 ?_
            exact w_zretP dX0_isSetting_40 rfl (Or.inl rfl) (by first | exact am_b_t (by omega) | exact am_b_f (by omega))
          · skip
            refine w_iconst dX0_isSetting_35 ?_
            refine w_goto (tgt := 40) dX0_isSetting_36 rfl ?_
            exact w_zretP dX0_isSetting_40 rfl (Or.inr rfl) (by first | exact am_b_t (by omega) | exact am_b_f (by omega))


set_option maxRecDepth 100000 in
set_option maxHeartbeats 4000000 in
theorem s_X0_touchCost (X : AX) (h : Int) (r : Int) (μ : Mu) (hh : -10000 ≤ h ∧ h ≤ 10000) (hr : -10000 ≤ r ∧ r ≤ 10000) : Wp (GG X) M_X0_touchCost 0 [(0, h), (0, r)] [] μ (pP 0 (tco h r) μ) := by
  refine w_iload_n dX0_touchCost_0 rfl rfl ?_
  refine w_bipush dX0_touchCost_1 (by decide) ?_
  refine w_icmp_lt (tgt := 12) dX0_touchCost_3 rfl (R32.in (by omega)) (R32.in (by decide)) (fun c3 => ?_) (fun c3 => ?_)
  · skip
    refine w_iconst dX0_touchCost_12 ?_
    exact w_iretP dX0_touchCost_13 rfl (by unfold tco; omega)
  · skip
    refine w_iload_n dX0_touchCost_6 rfl rfl ?_
    refine w_bipush dX0_touchCost_7 (by decide) ?_
    refine w_icmp_le (tgt := 14) dX0_touchCost_9 rfl (R32.in (by omega)) (R32.in (by decide)) (fun c9 => ?_) (fun c9 => ?_)
    · skip
      refine w_iload_n dX0_touchCost_14 rfl rfl ?_
      refine w_iconst dX0_touchCost_15 ?_
      refine w_iand3 dX0_touchCost_16 ?_
      rcases (show ((h % 4) < 0 ∨ 2 < (h % 4)) ∨ (h % 4) = 0 ∨ (h % 4) = 1 ∨ (h % 4) = 2 by omega) with q17 | q17 | q17 | q17
      · refine w_tableOut (tgt := 68) dX0_touchCost_17 (R32.in (by omega)) q17 rfl ?_
        refine w_iload_n dX0_touchCost_68 rfl rfl ?_
        refine w_if_le (tgt := 77) dX0_touchCost_69 rfl (R32.in (by omega)) (fun c69 => ?_) (fun c69 => ?_)
        · skip
          refine w_iconst dX0_touchCost_77 ?_
          exact w_iretP dX0_touchCost_78 rfl (by unfold tco; omega)
        · skip
          refine w_bipush dX0_touchCost_72 (by decide) ?_
          refine w_goto (tgt := 78) dX0_touchCost_74 rfl ?_
          exact w_iretP dX0_touchCost_78 rfl (by unfold tco; omega)
      · refine w_tableIn (off := 27) (tgt := 44) dX0_touchCost_17 (R32.in (by omega)) (by omega) (by omega) (by rw [q17]; rfl) rfl ?_
        refine w_iload_n dX0_touchCost_44 rfl rfl ?_
        refine w_if_ne (tgt := 52) dX0_touchCost_45 rfl (R32.in (by omega)) (fun c45 => ?_) (fun c45 => ?_)
        · skip
          refine w_iconst dX0_touchCost_52 ?_
          exact w_iretP dX0_touchCost_53 rfl (by unfold tco; omega)
        · skip
          refine w_iconst dX0_touchCost_48 ?_
          refine w_goto (tgt := 53) dX0_touchCost_49 rfl ?_
          exact w_iretP dX0_touchCost_53 rfl (by unfold tco; omega)
      · refine w_tableIn (off := 37) (tgt := 54) dX0_touchCost_17 (R32.in (by omega)) (by omega) (by omega) (by rw [q17]; rfl) rfl ?_
        refine w_iload_n dX0_touchCost_54 rfl rfl ?_
        refine w_if_ge (tgt := 63) dX0_touchCost_55 rfl (R32.in (by omega)) (fun c55 => ?_) (fun c55 => ?_)
        · skip
          refine w_iconst dX0_touchCost_63 ?_
          exact w_iretP dX0_touchCost_64 rfl (by unfold tco; omega)
        · skip
          refine w_bipush dX0_touchCost_58 (by decide) ?_
          refine w_goto (tgt := 64) dX0_touchCost_60 rfl ?_
          exact w_iretP dX0_touchCost_64 rfl (by unfold tco; omega)
      · refine w_tableIn (off := 48) (tgt := 65) dX0_touchCost_17 (R32.in (by omega)) (by omega) (by omega) (by rw [q17]; rfl) rfl ?_
        refine w_bipush dX0_touchCost_65 (by decide) ?_
        exact w_iretP dX0_touchCost_67 rfl (by unfold tco; omega)
    · skip
      refine w_iconst dX0_touchCost_12 ?_
      exact w_iretP dX0_touchCost_13 rfl (by unfold tco; omega)

set_option maxRecDepth 100000 in
set_option maxHeartbeats 4000000 in
theorem s_X0_tilt (X : AX) (D : GDt) (s : Int) (μ : Mu) (hG : GLd D μ) (hs : -8 ≤ s ∧ s ≤ 8) : Wp (GG X) M_X0_tilt 0 [(2, 6), (0, s), (9, 0), (9, 0), (9, 0), (9, 0)] [] μ (qV fun μ' => (Fr 6 6 14 14 μ' μ) ∧ (GLd D μ') ∧ (TL D s μ') ∧ (∀ k : Int, k ≤ 13 ∨ k = 15 → μ' 6 k = μ 6 k)) := by
  have hok := hG.ok
  have hn := hok.n
  have hsp := hok.sp
  refine w_aload_n dX0_tilt_0 rfl rfl (by first | decide | omega) ?_
  refine w_bipush dX0_tilt_1 (by decide) ?_
  refine w_bipush dX0_tilt_3 (by decide) ?_
  refine w_iload_n dX0_tilt_5 rfl rfl ?_
  refine w_isub dX0_tilt_6 ?_
  refine w_max fX0_tilt_7 (R32.in (by decide)) (R32.in (by omega)) (Nat.le_of_ble_eq_true rfl) ?_
  refine w_putI (o := 6) (f := 16) fX0_tilt_10 rfl rfl rfl rfl rfl ?_
  refine w_aload_n dX0_tilt_13 rfl rfl (by first | decide | omega) ?_
  refine w_bipush dX0_tilt_14 (by decide) ?_
  refine w_bipush dX0_tilt_16 (by decide) ?_
  refine w_iload_n dX0_tilt_18 rfl rfl ?_
  refine w_isub dX0_tilt_19 ?_
  refine w_min fX0_tilt_20 (R32.in (by decide)) (R32.in (by omega)) (Nat.le_of_ble_eq_true rfl) ?_
  refine w_putI (o := 6) (f := 17) fX0_tilt_23 rfl rfl rfl rfl rfl ?_
  refine w_aload_n dX0_tilt_26 rfl rfl (by first | decide | omega) ?_
  refine w_iconst dX0_tilt_27 ?_
  refine w_putI (o := 6) (f := 14) fX0_tilt_28 rfl rfl rfl rfl rfl ?_
  refine w_aload_n dX0_tilt_31 rfl rfl (by first | decide | omega) ?_
  refine w_getIx (o := 6) (f := 2) (x := spn D) fX0_tilt_32 rfl rfl (Nat.le_of_ble_eq_true rfl) rfl ((am_up_nk (by omega)).trans ((am_up_nk (by omega)).trans ((am_up_nk (by omega)).trans hG.sp))) ?_
  have hr1 := (hG.ok).sp
  refine w_iconst dX0_tilt_35 ?_
  refine w_icmp_ge (tgt := 50) dX0_tilt_36 rfl (R32.in (by omega)) (R32.in (by decide)) (fun c36 => ?_) (fun c36 => ?_)
  · skip
    refine w_iconst dX0_tilt_50 ?_
    refine w_istore_n (ls' := [(2, 6), (0, s), (0, 0), (9, 0), (9, 0), (9, 0)]) dX0_tilt_51 rfl (Nat.le_of_ble_eq_true rfl) rfl rfl ?_
    have hL52 : ∀ (n52 : Nat) (i : Int) (μ1 : Mu), (dN D - i).toNat = n52 → Fr 6 6 14 14 μ1 μ → (0 ≤ i ∧ i ≤ dN D) → (μ1 6 14 = bsu D s i) → (∀ j : Int, 0 ≤ j → j < i → μ1 14 j = bas D s j) → (-60 ≤ μ1 6 16 ∧ μ1 6 16 ≤ 300000) → (-300000 ≤ μ1 6 17 ∧ μ1 6 17 ≤ 60) → (∀ l, (μ1 6 16 ≤ l ∧ l ≤ μ1 6 17) ↔ (inL s l ∧ alN D s l i)) → (∀ k : Int, k ≤ 13 ∨ k = 15 → μ1 6 k = μ 6 k) → Wp (GG X) M_X0_tilt 52 [(2, 6), (0, s), (0, i), (9, 0), (9, 0), (9, 0)] [] μ1 (qV fun μ' => (Fr 6 6 14 14 μ' μ) ∧ (GLd D μ') ∧ (TL D s μ') ∧ (∀ k : Int, k ≤ 13 ∨ k = 15 → μ' 6 k = μ 6 k)) := by
      intro n52
      induction n52 using Nat.strongRecOn with
      | ind n52 ih52 =>
        intro i μ1 hn52 hF52 hi0 hbs hb hlo hhi hal hf
        have hsp1 : 0 < spn D := by omega
        refine w_iload_n dX0_tilt_52 rfl rfl ?_
        refine w_aload_n dX0_tilt_53 rfl rfl (by first | decide | omega) ?_
        refine w_getIx (o := 6) (f := 0) (x := dN D) fX0_tilt_54 rfl rfl (Nat.le_of_ble_eq_true rfl) rfl ((hf _ (by omega)).trans hG.n) ?_
        have hr2 := (hG.ok).n
        refine w_icmp_ge (tgt := 217) dX0_tilt_57 rfl (R32.in (by omega)) (R32.in (by omega)) (fun c57 => ?_) (fun c57 => ?_)
        · skip
          exact w_retV dX0_tilt_217 rfl ⟨hF52, (by exact hG.cg2 (fun o h1 => hF52.at (by omega) (by omega)) (fun k h1 => hf k (by omega))), (by have he : i = dN D := (by omega); subst he; exact ⟨hbs, hb, ⟨hlo, hhi⟩, hal, hok, hs⟩), (fun k h1 => (hf k (by omega)))⟩
        · skip
          refine w_aload_n dX0_tilt_60 rfl rfl (by first | decide | omega) ?_
          refine w_getR (o := 6) (x := 10) fX0_tilt_61 rfl rfl rfl rfl ?_
          refine w_iload_n dX0_tilt_64 rfl rfl ?_
          refine w_ialdx (o := 10) (n := 64) (x := way D i) dX0_tilt_65 rfl rfl (Nat.le_of_ble_eq_true rfl) (by omega) ((congrFun (hF52.at (by omega) (by omega)) _).trans (hG.w (by omega))) ?_
          have hr3 := way_b D i
          refine w_iload_n dX0_tilt_66 rfl rfl ?_
          refine w_aload_n dX0_tilt_67 rfl rfl (by first | decide | omega) ?_
          refine w_getR (o := 6) (x := 7) fX0_tilt_68 rfl rfl rfl rfl ?_
          refine w_iload_n dX0_tilt_71 rfl rfl ?_
          refine w_ialdx (o := 7) (n := 64) (x := dX D i) dX0_tilt_72 rfl rfl (Nat.le_of_ble_eq_true rfl) (by omega) ((congrFun (hF52.at (by omega) (by omega)) _).trans (hG.x (by omega))) ?_
          have hr4 := (hG.ok).xs (i := i) (by omega)
          refine w_imul dX0_tilt_73 ?_
          refine w_iconst dX0_tilt_74 ?_
          refine w_aload_n dX0_tilt_75 rfl rfl (by first | decide | omega) ?_
          refine w_getR (o := 6) (x := 8) fX0_tilt_76 rfl rfl rfl rfl ?_
          refine w_iload_n dX0_tilt_79 rfl rfl ?_
          refine w_ialdx (o := 8) (n := 64) (x := dH D i) dX0_tilt_80 rfl rfl (Nat.le_of_ble_eq_true rfl) (by omega) ((congrFun (hF52.at (by omega) (by omega)) _).trans (hG.h (by omega))) ?_
          have hr5 := (hG.ok).hr (i := i) (by omega)
          refine w_imul dX0_tilt_81 ?_
          refine w_aload_n dX0_tilt_82 rfl rfl (by first | decide | omega) ?_
          refine w_getIx (o := 6) (f := 2) (x := spn D) fX0_tilt_83 rfl rfl (Nat.le_of_ble_eq_true rfl) rfl ((hf _ (by omega)).trans hG.sp) ?_
          have hr6 := (hG.ok).sp
          refine w_imul dX0_tilt_86 ?_
          refine w_isub dX0_tilt_87 ?_
          refine w_imul dX0_tilt_88 ?_
          refine Wp.topE (b := bas D s i) (by rfl) ?_
          refine w_istore_n (ls' := [(2, 6), (0, s), (0, i), (0, bas D s i), (9, 0), (9, 0)]) dX0_tilt_89 rfl (Nat.le_of_ble_eq_true rfl) rfl rfl ?_
          have hbr := bas_r (s := s) (i := i) hok (by omega) hs
          refine w_iload_n dX0_tilt_90 rfl rfl ?_
          refine w_aload_n dX0_tilt_91 rfl rfl (by first | decide | omega) ?_
          refine w_getIx (o := 6) (f := 2) (x := spn D) fX0_tilt_92 rfl rfl (Nat.le_of_ble_eq_true rfl) rfl ((hf _ (by omega)).trans hG.sp) ?_
          refine w_callSP (as := [(0, bas D s i), (0, spn D)]) (rest := []) (k := 1) fX0_tilt_95 rfl rfl rfl rfl rfl (Nat.le_of_ble_eq_true rfl) (s_J9_floorDiv_7cf53 (GG X) (bas D s i) (spn D) μ1 (by first | omega | assumption) (by first | omega | assumption)) ?_
          have hf7 := edv_r (bas D s i) (spn D) (by omega)
          refine w_aload_n dX0_tilt_98 rfl rfl (by first | decide | omega) ?_
          refine w_getR (o := 6) (x := 9) fX0_tilt_99 rfl rfl rfl rfl ?_
          refine w_iload_n dX0_tilt_102 rfl rfl ?_
          refine w_ialdx (o := 9) (n := 64) (x := dB D i) dX0_tilt_103 rfl rfl (Nat.le_of_ble_eq_true rfl) (by omega) ((congrFun (hF52.at (by omega) (by omega)) _).trans (hG.b (by omega))) ?_
          have hr8 := (hG.ok).br (i := i) (by omega)
          refine w_callSP (as := [(0, dB D i)]) (rest := [(0, (bas D s i) / (spn D))]) (k := 0) fX0_tilt_104 rfl rfl rfl rfl rfl (Nat.le_of_ble_eq_true rfl) (s_X0_shortestLength X (dB D i) μ1 (by first | omega | assumption)) ?_
          have hf9 := lst_r (dB D i)
          refine w_isub dX0_tilt_107 ?_
          refine w_istore (ls' := [(2, 6), (0, s), (0, i), (0, bas D s i), (0, ((bas D s i) / (spn D)) - (lst (dB D i))), (9, 0)]) dX0_tilt_108 (Nat.le_of_ble_eq_true rfl) rfl rfl ?_
          refine w_bipush dX0_tilt_110 (by decide) ?_
          refine w_aload_n dX0_tilt_112 rfl rfl (by first | decide | omega) ?_
          refine w_getIx (o := 6) (f := 2) (x := spn D) fX0_tilt_113 rfl rfl (Nat.le_of_ble_eq_true rfl) rfl ((hf _ (by omega)).trans hG.sp) ?_
          refine w_imul dX0_tilt_116 ?_
          refine w_iload_n dX0_tilt_117 rfl rfl ?_
          refine w_isub dX0_tilt_118 ?_
          refine w_aload_n dX0_tilt_119 rfl rfl (by first | decide | omega) ?_
          refine w_getIx (o := 6) (f := 2) (x := spn D) fX0_tilt_120 rfl rfl (Nat.le_of_ble_eq_true rfl) rfl ((hf _ (by omega)).trans hG.sp) ?_
          refine w_callSP (as := [(0, (44 * (spn D)) - (bas D s i)), (0, spn D)]) (rest := []) (k := 1) fX0_tilt_123 rfl rfl rfl rfl rfl (Nat.le_of_ble_eq_true rfl) (s_J9_floorDiv_7cf53 (GG X) ((44 * (spn D)) - (bas D s i)) (spn D) μ1 (by first | omega | assumption) (by first | omega | assumption)) ?_
          have hf10 := edv_r ((44 * (spn D)) - (bas D s i)) (spn D) (by omega)
          refine w_istore (ls' := [(2, 6), (0, s), (0, i), (0, bas D s i), (0, ((bas D s i) / (spn D)) - (lst (dB D i))), (0, ((44 * (spn D)) - (bas D s i)) / (spn D))]) dX0_tilt_126 (Nat.le_of_ble_eq_true rfl) rfl rfl ?_
          refine w_aload_n dX0_tilt_128 rfl rfl (by first | decide | omega) ?_
          refine w_getR (o := 6) (x := 10) fX0_tilt_129 rfl rfl rfl rfl ?_
          refine w_iload_n dX0_tilt_132 rfl rfl ?_
          refine w_ialdx (o := 10) (n := 64) (x := way D i) dX0_tilt_133 rfl rfl (Nat.le_of_ble_eq_true rfl) (by omega) ((congrFun (hF52.at (by omega) (by omega)) _).trans (hG.w (by omega))) ?_
          refine w_if_le (tgt := 167) dX0_tilt_134 rfl (R32.in (by omega)) (fun c134 => ?_) (fun c134 => ?_)
          · skip
            refine w_aload_n dX0_tilt_167 rfl rfl (by first | decide | omega) ?_
            refine w_aload_n dX0_tilt_168 rfl rfl (by first | decide | omega) ?_
            refine w_getIx (o := 6) (f := 16) (x := μ1 6 16) fX0_tilt_169 rfl rfl (Nat.le_of_ble_eq_true rfl) rfl rfl ?_
            have hr11 := hlo
            refine w_iload dX0_tilt_172 rfl ?_
            refine w_ineg dX0_tilt_174 ?_
            refine w_max fX0_tilt_175 (R32.in (by omega)) (R32.in (by omega)) (Nat.le_of_ble_eq_true rfl) ?_
            refine w_putI (o := 6) (f := 16) fX0_tilt_178 rfl rfl rfl rfl rfl ?_
            refine w_aload_n dX0_tilt_181 rfl rfl (by first | decide | omega) ?_
            refine w_aload_n dX0_tilt_182 rfl rfl (by first | decide | omega) ?_
            refine w_getIx (o := 6) (f := 17) (x := μ1 6 17) fX0_tilt_183 rfl rfl (Nat.le_of_ble_eq_true rfl) rfl (am_up_nk (by omega)) ?_
            have hr12 := hhi
            refine w_iload dX0_tilt_186 rfl ?_
            refine w_min fX0_tilt_188 (R32.in (by omega)) (R32.in (by omega)) (Nat.le_of_ble_eq_true rfl) ?_
            refine w_putI (o := 6) (f := 17) fX0_tilt_191 rfl rfl rfl rfl rfl ?_
            refine w_aload_n dX0_tilt_194 rfl rfl (by first | decide | omega) ?_
            refine w_getR (o := 6) (x := 14) fX0_tilt_195 rfl rfl rfl rfl ?_
            refine w_iload_n dX0_tilt_198 rfl rfl ?_
            refine w_iload_n dX0_tilt_199 rfl rfl ?_
            refine w_iast (o := 14) (n := 64) dX0_tilt_200 rfl rfl (Nat.le_of_ble_eq_true rfl) (by omega) (by omega) ?_
            refine w_aload_n dX0_tilt_201 rfl rfl (by first | decide | omega) ?_
            refine w_dup dX0_tilt_202 (by simp) ?_
            refine w_getIx (o := 6) (f := 14) (x := bsu D s i) fX0_tilt_203 rfl rfl (Nat.le_of_ble_eq_true rfl) rfl ((congrFun (am_up_o (by first | decide | omega)) _).trans ((am_up_nk (by omega)).trans ((am_up_nk (by omega)).trans hbs))) ?_
            have hr13 := bsu_r hok hs hi0
            refine w_iload_n dX0_tilt_206 rfl rfl ?_
            refine w_iadd dX0_tilt_207 ?_
            refine w_putI (o := 6) (f := 14) fX0_tilt_208 rfl rfl rfl rfl rfl ?_
            refine w_iinc (ls' := [(2, 6), (0, s), (0, i + 1), (0, bas D s i), (0, ((bas D s i) / (spn D)) - (lst (dB D i))), (0, ((44 * (spn D)) - (bas D s i)) / (spn D))]) dX0_tilt_211 rfl (Nat.le_of_ble_eq_true rfl) rfl rfl ?_
            refine w_goto (tgt := 52) dX0_tilt_214 rfl ?_
            refine Wp.fgl (ls' := [(2, 6), (0, s), (0, i + 1), (9, 0), (0, ((bas D s i) / (spn D)) - (lst (dB D i))), (0, ((44 * (spn D)) - (bas D s i)) / (spn D))]) 3 rfl ?_
            refine Wp.fgl (ls' := [(2, 6), (0, s), (0, i + 1), (9, 0), (9, 0), (0, ((44 * (spn D)) - (bas D s i)) / (spn D))]) 4 rfl ?_
            refine Wp.fgl (ls' := [(2, 6), (0, s), (0, i + 1), (9, 0), (9, 0), (9, 0)]) 5 rfl ?_
            exact ih52 _ (by omega) (i + 1) (am_up (am_up (am_up (am_up μ1 6 16 (max (μ1 6 16) (-(((44 * (spn D)) - (bas D s i)) / (spn D))))) 6 17 (min (μ1 6 17) (((bas D s i) / (spn D)) - (lst (dB D i))))) 14 i (bas D s i)) 6 14 ((bsu D s i) + (bas D s i))) rfl ((((hF52.up (by omega)).up (by omega)).up (by omega)).up (by omega)) (by first | omega | assumption) (am_up_at.trans (by rw [bsu_s hi0.1])) (fun j h1 h2 => ((congrFun (am_up_o (by omega)) _).trans ((fillr (f := bas D s) hb rfl) j h1 h2))) (by rw [(show (am_up (am_up (am_up (am_up μ1 6 16 (max (μ1 6 16) (-(((44 * (spn D)) - (bas D s i)) / (spn D))))) 6 17 (min (μ1 6 17) (((bas D s i) / (spn D)) - (lst (dB D i))))) 14 i (bas D s i)) 6 14 ((bsu D s i) + (bas D s i))) 6 16 = max (μ1 6 16) (-(((44 * (spn D)) - (bas D s i)) / (spn D))) from ((am_up_nk (by omega)).trans ((congrFun (am_up_o (by first | decide | omega)) _).trans ((am_up_nk (by omega)).trans am_up_at))))]; omega) (by rw [(show (am_up (am_up (am_up (am_up μ1 6 16 (max (μ1 6 16) (-(((44 * (spn D)) - (bas D s i)) / (spn D))))) 6 17 (min (μ1 6 17) (((bas D s i) / (spn D)) - (lst (dB D i))))) 14 i (bas D s i)) 6 14 ((bsu D s i) + (bas D s i))) 6 17 = min (μ1 6 17) (((bas D s i) / (spn D)) - (lst (dB D i))) from ((am_up_nk (by omega)).trans ((congrFun (am_up_o (by first | decide | omega)) _).trans am_up_at)))]; omega) (by rw [(show (am_up (am_up (am_up (am_up μ1 6 16 (max (μ1 6 16) (-(((44 * (spn D)) - (bas D s i)) / (spn D))))) 6 17 (min (μ1 6 17) (((bas D s i) / (spn D)) - (lst (dB D i))))) 14 i (bas D s i)) 6 14 ((bsu D s i) + (bas D s i))) 6 16 = max (μ1 6 16) (-(((44 * (spn D)) - (bas D s i)) / (spn D))) from ((am_up_nk (by omega)).trans ((congrFun (am_up_o (by first | decide | omega)) _).trans ((am_up_nk (by omega)).trans am_up_at)))), (show (am_up (am_up (am_up (am_up μ1 6 16 (max (μ1 6 16) (-(((44 * (spn D)) - (bas D s i)) / (spn D))))) 6 17 (min (μ1 6 17) (((bas D s i) / (spn D)) - (lst (dB D i))))) 14 i (bas D s i)) 6 14 ((bsu D s i) + (bas D s i))) 6 17 = min (μ1 6 17) (((bas D s i) / (spn D)) - (lst (dB D i))) from ((am_up_nk (by omega)).trans ((congrFun (am_up_o (by first | decide | omega)) _).trans am_up_at)))]; first | exact tl_up hi0.1 hsp1 (by have := way_r D i; omega) hal | exact tl_dn hi0.1 hsp1 (by have := way_r D i; omega) hal) (fun k h1 => ((am_up_nk (by omega)).trans ((congrFun (am_up_o (by omega)) _).trans ((am_up_nk (by omega)).trans ((am_up_nk (by omega)).trans (hf k (by omega)))))))
          · skip
            refine w_aload_n dX0_tilt_137 rfl rfl (by first | decide | omega) ?_
            refine w_aload_n dX0_tilt_138 rfl rfl (by first | decide | omega) ?_
            refine w_getIx (o := 6) (f := 16) (x := μ1 6 16) fX0_tilt_139 rfl rfl (Nat.le_of_ble_eq_true rfl) rfl rfl ?_
            have hr14 := hlo
            refine w_iload dX0_tilt_142 rfl ?_
            refine w_ineg dX0_tilt_144 ?_
            refine w_max fX0_tilt_145 (R32.in (by omega)) (R32.in (by omega)) (Nat.le_of_ble_eq_true rfl) ?_
            refine w_putI (o := 6) (f := 16) fX0_tilt_148 rfl rfl rfl rfl rfl ?_
            refine w_aload_n dX0_tilt_151 rfl rfl (by first | decide | omega) ?_
            refine w_aload_n dX0_tilt_152 rfl rfl (by first | decide | omega) ?_
            refine w_getIx (o := 6) (f := 17) (x := μ1 6 17) fX0_tilt_153 rfl rfl (Nat.le_of_ble_eq_true rfl) rfl (am_up_nk (by omega)) ?_
            have hr15 := hhi
            refine w_iload dX0_tilt_156 rfl ?_
            refine w_min fX0_tilt_158 (R32.in (by omega)) (R32.in (by omega)) (Nat.le_of_ble_eq_true rfl) ?_
            refine w_putI (o := 6) (f := 17) fX0_tilt_161 rfl rfl rfl rfl rfl ?_
            refine w_goto (tgt := 194) dX0_tilt_164 rfl ?_
            refine w_aload_n dX0_tilt_194 rfl rfl (by first | decide | omega) ?_
            refine w_getR (o := 6) (x := 14) fX0_tilt_195 rfl rfl rfl rfl ?_
            refine w_iload_n dX0_tilt_198 rfl rfl ?_
            refine w_iload_n dX0_tilt_199 rfl rfl ?_
            refine w_iast (o := 14) (n := 64) dX0_tilt_200 rfl rfl (Nat.le_of_ble_eq_true rfl) (by omega) (by omega) ?_
            refine w_aload_n dX0_tilt_201 rfl rfl (by first | decide | omega) ?_
            refine w_dup dX0_tilt_202 (by simp) ?_
            refine w_getIx (o := 6) (f := 14) (x := bsu D s i) fX0_tilt_203 rfl rfl (Nat.le_of_ble_eq_true rfl) rfl ((congrFun (am_up_o (by first | decide | omega)) _).trans ((am_up_nk (by omega)).trans ((am_up_nk (by omega)).trans hbs))) ?_
            have hr16 := bsu_r hok hs hi0
            refine w_iload_n dX0_tilt_206 rfl rfl ?_
            refine w_iadd dX0_tilt_207 ?_
            refine w_putI (o := 6) (f := 14) fX0_tilt_208 rfl rfl rfl rfl rfl ?_
            refine w_iinc (ls' := [(2, 6), (0, s), (0, i + 1), (0, bas D s i), (0, ((bas D s i) / (spn D)) - (lst (dB D i))), (0, ((44 * (spn D)) - (bas D s i)) / (spn D))]) dX0_tilt_211 rfl (Nat.le_of_ble_eq_true rfl) rfl rfl ?_
            refine w_goto (tgt := 52) dX0_tilt_214 rfl ?_
            refine Wp.fgl (ls' := [(2, 6), (0, s), (0, i + 1), (9, 0), (0, ((bas D s i) / (spn D)) - (lst (dB D i))), (0, ((44 * (spn D)) - (bas D s i)) / (spn D))]) 3 rfl ?_
            refine Wp.fgl (ls' := [(2, 6), (0, s), (0, i + 1), (9, 0), (9, 0), (0, ((44 * (spn D)) - (bas D s i)) / (spn D))]) 4 rfl ?_
            refine Wp.fgl (ls' := [(2, 6), (0, s), (0, i + 1), (9, 0), (9, 0), (9, 0)]) 5 rfl ?_
            exact ih52 _ (by omega) (i + 1) (am_up (am_up (am_up (am_up μ1 6 16 (max (μ1 6 16) (-(((bas D s i) / (spn D)) - (lst (dB D i)))))) 6 17 (min (μ1 6 17) (((44 * (spn D)) - (bas D s i)) / (spn D)))) 14 i (bas D s i)) 6 14 ((bsu D s i) + (bas D s i))) rfl ((((hF52.up (by omega)).up (by omega)).up (by omega)).up (by omega)) (by first | omega | assumption) (am_up_at.trans (by rw [bsu_s hi0.1])) (fun j h1 h2 => ((congrFun (am_up_o (by omega)) _).trans ((fillr (f := bas D s) hb rfl) j h1 h2))) (by rw [(show (am_up (am_up (am_up (am_up μ1 6 16 (max (μ1 6 16) (-(((bas D s i) / (spn D)) - (lst (dB D i)))))) 6 17 (min (μ1 6 17) (((44 * (spn D)) - (bas D s i)) / (spn D)))) 14 i (bas D s i)) 6 14 ((bsu D s i) + (bas D s i))) 6 16 = max (μ1 6 16) (-(((bas D s i) / (spn D)) - (lst (dB D i)))) from ((am_up_nk (by omega)).trans ((congrFun (am_up_o (by first | decide | omega)) _).trans ((am_up_nk (by omega)).trans am_up_at))))]; omega) (by rw [(show (am_up (am_up (am_up (am_up μ1 6 16 (max (μ1 6 16) (-(((bas D s i) / (spn D)) - (lst (dB D i)))))) 6 17 (min (μ1 6 17) (((44 * (spn D)) - (bas D s i)) / (spn D)))) 14 i (bas D s i)) 6 14 ((bsu D s i) + (bas D s i))) 6 17 = min (μ1 6 17) (((44 * (spn D)) - (bas D s i)) / (spn D)) from ((am_up_nk (by omega)).trans ((congrFun (am_up_o (by first | decide | omega)) _).trans am_up_at)))]; omega) (by rw [(show (am_up (am_up (am_up (am_up μ1 6 16 (max (μ1 6 16) (-(((bas D s i) / (spn D)) - (lst (dB D i)))))) 6 17 (min (μ1 6 17) (((44 * (spn D)) - (bas D s i)) / (spn D)))) 14 i (bas D s i)) 6 14 ((bsu D s i) + (bas D s i))) 6 16 = max (μ1 6 16) (-(((bas D s i) / (spn D)) - (lst (dB D i)))) from ((am_up_nk (by omega)).trans ((congrFun (am_up_o (by first | decide | omega)) _).trans ((am_up_nk (by omega)).trans am_up_at)))), (show (am_up (am_up (am_up (am_up μ1 6 16 (max (μ1 6 16) (-(((bas D s i) / (spn D)) - (lst (dB D i)))))) 6 17 (min (μ1 6 17) (((44 * (spn D)) - (bas D s i)) / (spn D)))) 14 i (bas D s i)) 6 14 ((bsu D s i) + (bas D s i))) 6 17 = min (μ1 6 17) (((44 * (spn D)) - (bas D s i)) / (spn D)) from ((am_up_nk (by omega)).trans ((congrFun (am_up_o (by first | decide | omega)) _).trans am_up_at)))]; first | exact tl_up hi0.1 hsp1 (by have := way_r D i; omega) hal | exact tl_dn hi0.1 hsp1 (by have := way_r D i; omega) hal) (fun k h1 => ((am_up_nk (by omega)).trans ((congrFun (am_up_o (by omega)) _).trans ((am_up_nk (by omega)).trans ((am_up_nk (by omega)).trans (hf k (by omega)))))))
    exact hL52 _ 0 (am_up (am_up (am_up μ 6 16 (max (-60) ((-60) - s))) 6 17 (min 60 (60 - s))) 6 14 0) rfl (((Fr.rf.up (by omega)).up (by omega)).up (by omega)) (by first | omega | assumption) (am_up_at.trans (by rfl)) (fun j h1 h2 => by omega) (by rw [(show (am_up (am_up (am_up μ 6 16 (max (-60) ((-60) - s))) 6 17 (min 60 (60 - s))) 6 14 0) 6 16 = max (-60) ((-60) - s) from ((am_up_nk (by omega)).trans ((am_up_nk (by omega)).trans am_up_at)))]; omega) (by rw [(show (am_up (am_up (am_up μ 6 16 (max (-60) ((-60) - s))) 6 17 (min 60 (60 - s))) 6 14 0) 6 17 = min 60 (60 - s) from ((am_up_nk (by omega)).trans am_up_at))]; omega) (by rw [(show (am_up (am_up (am_up μ 6 16 (max (-60) ((-60) - s))) 6 17 (min 60 (60 - s))) 6 14 0) 6 16 = max (-60) ((-60) - s) from ((am_up_nk (by omega)).trans ((am_up_nk (by omega)).trans am_up_at))), (show (am_up (am_up (am_up μ 6 16 (max (-60) ((-60) - s))) 6 17 (min 60 (60 - s))) 6 14 0) 6 17 = min 60 (60 - s) from ((am_up_nk (by omega)).trans am_up_at))]; exact tl_0 s) (fun k h1 => ((am_up_nk (by omega)).trans ((am_up_nk (by omega)).trans (am_up_nk (by omega)))))
  · skip
    omega

theorem key_u2 (D : GDt) (s l u : Int) : keyu D s l u = (((u * 16 + ab s) * 16777216 + bsu D s (dN D) + wsu D (dN D) * l * spn D) * 128 + 60 + way D 0 * l) * 128 + 60 + way D 0 * (l + s) := rfl

set_option maxRecDepth 100000 in
set_option maxHeartbeats 4000000 in
theorem s_X0_stemsAt (X : AX) (D : GDt) (s : Int) (l : Int) (μ : Mu) (hG : GLd D μ) (hT : TL D s μ) (hl : -68 ≤ l ∧ l ≤ 68) : Wp (GG X) M_X0_stemsAt 0 [(2, 6), (0, l), (9, 0), (9, 0), (9, 0)] [] μ (pP 0 (stm D s l) μ) := by
  have hok := hG.ok
  have hn := hok.n
  have hsp := hok.sp
  have hs := hT.sb
  refine w_aload_n dX0_stemsAt_0 rfl rfl (by first | decide | omega) ?_
  refine w_getIx (o := 6) (f := 2) (x := spn D) fX0_stemsAt_1 rfl rfl (Nat.le_of_ble_eq_true rfl) rfl hG.sp ?_
  have hr1 := (hG.ok).sp
  refine w_iconst dX0_stemsAt_4 ?_
  refine w_icmp_ge (tgt := 10) dX0_stemsAt_5 rfl (R32.in (by omega)) (R32.in (by decide)) (fun c5 => ?_) (fun c5 => ?_)
  · skip
    refine w_iconst dX0_stemsAt_10 ?_
    refine w_istore_n (ls' := [(2, 6), (0, l), (0, 0), (9, 0), (9, 0)]) dX0_stemsAt_11 rfl (Nat.le_of_ble_eq_true rfl) rfl rfl ?_
    refine w_iconst dX0_stemsAt_12 ?_
    refine w_istore_n (ls' := [(2, 6), (0, l), (0, 0), (0, 0), (9, 0)]) dX0_stemsAt_13 rfl (Nat.le_of_ble_eq_true rfl) rfl rfl ?_
    have hL14 : ∀ (n14 : Nat) (m : Int) (i : Int), (dN D - i).toNat = n14 → (0 ≤ i ∧ i ≤ dN D) → (m = ssu D s l i) → Wp (GG X) M_X0_stemsAt 14 [(2, 6), (0, l), (0, m), (0, i), (9, 0)] [] μ (pP 0 (stm D s l) μ) := by
      intro n14
      induction n14 using Nat.strongRecOn with
      | ind n14 ih14 =>
        intro m i hn14 hi0 hm
        have hmr := ssu_r hok hs hl hi0
        refine w_iload_n dX0_stemsAt_14 rfl rfl ?_
        refine w_aload_n dX0_stemsAt_15 rfl rfl (by first | decide | omega) ?_
        refine w_getIx (o := 6) (f := 0) (x := dN D) fX0_stemsAt_16 rfl rfl (Nat.le_of_ble_eq_true rfl) rfl hG.n ?_
        have hr2 := (hG.ok).n
        refine w_icmp_ge (tgt := 75) dX0_stemsAt_19 rfl (R32.in (by omega)) (R32.in (by omega)) (fun c19 => ?_) (fun c19 => ?_)
        · skip
          refine w_iload_n dX0_stemsAt_75 rfl rfl ?_
          refine w_aload_n dX0_stemsAt_76 rfl rfl (by first | decide | omega) ?_
          refine w_getIx (o := 6) (f := 2) (x := spn D) fX0_stemsAt_77 rfl rfl (Nat.le_of_ble_eq_true rfl) rfl hG.sp ?_
          refine w_idivP dX0_stemsAt_80 (by omega) ?_
          exact w_iretP dX0_stemsAt_81 rfl (by have he : i = dN D := (by omega); subst he; rw [hm]; rfl)
        · skip
          refine w_aload_n dX0_stemsAt_22 rfl rfl (by first | decide | omega) ?_
          refine w_getR (o := 6) (x := 14) fX0_stemsAt_23 rfl rfl rfl rfl ?_
          refine w_iload_n dX0_stemsAt_26 rfl rfl ?_
          refine w_ialdx (o := 14) (n := 64) (x := bas D s i) dX0_stemsAt_27 rfl rfl (Nat.le_of_ble_eq_true rfl) (by omega) (hT.b (by omega)) ?_
          have hr3 := hT.br (i := i) (by omega)
          refine w_aload_n dX0_stemsAt_28 rfl rfl (by first | decide | omega) ?_
          refine w_getR (o := 6) (x := 10) fX0_stemsAt_29 rfl rfl rfl rfl ?_
          refine w_iload_n dX0_stemsAt_32 rfl rfl ?_
          refine w_ialdx (o := 10) (n := 64) (x := way D i) dX0_stemsAt_33 rfl rfl (Nat.le_of_ble_eq_true rfl) (by omega) (hG.w (by omega)) ?_
          have hr4 := way_b D i
          refine w_iload_n dX0_stemsAt_34 rfl rfl ?_
          refine w_imul dX0_stemsAt_35 ?_
          refine w_aload_n dX0_stemsAt_36 rfl rfl (by first | decide | omega) ?_
          refine w_getR (o := 6) (x := 11) fX0_stemsAt_37 rfl rfl rfl rfl ?_
          refine w_iload_n dX0_stemsAt_40 rfl rfl ?_
          refine w_ialdx (o := 11) (n := 64) (x := ideal D i) dX0_stemsAt_41 rfl rfl (Nat.le_of_ble_eq_true rfl) (by omega) (hG.id (by omega)) ?_
          have hr5 := ideal_r (hG.ok) (i := i) (by omega)
          refine w_isub dX0_stemsAt_42 ?_
          refine w_aload_n dX0_stemsAt_43 rfl rfl (by first | decide | omega) ?_
          refine w_getIx (o := 6) (f := 2) (x := spn D) fX0_stemsAt_44 rfl rfl (Nat.le_of_ble_eq_true rfl) rfl hG.sp ?_
          refine w_imul dX0_stemsAt_47 ?_
          refine w_iadd dX0_stemsAt_48 ?_
          refine Wp.topE (b := len D s l i - ideal D i * spn D) (by unfold len; rw [Int.sub_mul]; omega) ?_
          refine w_istore (ls' := [(2, 6), (0, l), (0, m), (0, i), (0, len D s l i - ideal D i * spn D)]) dX0_stemsAt_49 (Nat.le_of_ble_eq_true rfl) rfl rfl ?_
          have hlr := len_r (i := i) hok (by omega) hs hl
          have hir := ids_r (i := i) hok (by omega)
          refine w_iload_n dX0_stemsAt_51 rfl rfl ?_
          refine w_iload dX0_stemsAt_52 rfl ?_
          have hJ54_1 : ∀ z1_0 : Int, z1_0 = (if 0 ≤ (len D s l i - ideal D i * spn D) then len D s l i - ideal D i * spn D else (-2) * (len D s l i - ideal D i * spn D)) → Wp (GG X) M_X0_stemsAt 67 [(2, 6), (0, l), (0, m), (0, i), (0, len D s l i - ideal D i * spn D)] [(0, z1_0), (0, m)] μ (pP 0 (stm D s l) μ) := by
            intro z1_0 hz1_0
            refine w_iadd dX0_stemsAt_67 ?_
            refine w_istore_n (ls' := [(2, 6), (0, l), (0, m + z1_0), (0, i), (0, len D s l i - ideal D i * spn D)]) dX0_stemsAt_68 rfl (Nat.le_of_ble_eq_true rfl) rfl rfl ?_
            refine w_iinc (ls' := [(2, 6), (0, l), (0, m + z1_0), (0, i + 1), (0, len D s l i - ideal D i * spn D)]) dX0_stemsAt_69 rfl (Nat.le_of_ble_eq_true rfl) rfl rfl ?_
            refine w_goto (tgt := 14) dX0_stemsAt_72 rfl ?_
            refine Wp.fgl (ls' := [(2, 6), (0, l), (0, m + z1_0), (0, i + 1), (9, 0)]) 4 rfl ?_
            exact ih14 _ (by omega) (m + z1_0) (i + 1) rfl (by first | omega | assumption) (by rw [ssu_s hi0.1]; unfold offc; omega)
          refine w_if_ge (tgt := 65) dX0_stemsAt_54 rfl (R32.in (by omega)) (fun c54 => ?_) (fun c54 => ?_)
          · skip
            refine w_iload dX0_stemsAt_65 rfl ?_
            exact hJ54_1 _ (by first | omega | simp [*])
          · skip
            refine w_bipush dX0_stemsAt_57 (by decide) ?_
            refine w_iload dX0_stemsAt_59 rfl ?_
            refine w_imul dX0_stemsAt_61 ?_
            refine w_goto (tgt := 67) dX0_stemsAt_62 rfl ?_
            exact hJ54_1 _ (by first | omega | simp [*])
    exact hL14 _ 0 0 rfl (by first | omega | assumption) rfl
  · skip
    omega

set_option maxRecDepth 100000 in
set_option maxHeartbeats 4000000 in
theorem s_X0_slopeOf (X : AX) (D : GDt) (s : Int) (μ : Mu) (hG : GLd D μ) (hs : -8 ≤ s ∧ s ≤ 8) : Wp (GG X) M_X0_slopeOf 0 [(2, 6), (0, s), (9, 0)] [] μ (pP 0 (slp D s) μ) := by
  have hok := hG.ok
  have hn := hok.n
  have hsp := hok.sp
  have hm := am_mul_b (A := 8) (B := 5) hs (want_r D)
  refine w_iload_n dX0_slopeOf_0 rfl rfl ?_
  refine w_aload_n dX0_slopeOf_1 rfl rfl (by first | decide | omega) ?_
  refine w_getIx (o := 6) (f := 3) (x := want D) fX0_slopeOf_2 rfl rfl (Nat.le_of_ble_eq_true rfl) rfl hG.wa ?_
  have hr1 := want_r D
  refine w_imul dX0_slopeOf_5 ?_
  have hJ6_1 : ∀ z1_0 : Int, z1_0 = (if 0 ≤ (s * (want D)) then 0 else 20) → Wp (GG X) M_X0_slopeOf 15 [(2, 6), (0, s), (9, 0)] [(0, z1_0)] μ (pP 0 (slp D s) μ) := by
    intro z1_0 hz1_0
    refine w_istore_n (ls' := [(2, 6), (0, s), (0, z1_0)]) dX0_slopeOf_15 rfl (Nat.le_of_ble_eq_true rfl) rfl rfl ?_
    refine w_bipush dX0_slopeOf_16 (by decide) ?_
    refine w_iload_n dX0_slopeOf_18 rfl rfl ?_
    refine w_aload_n dX0_slopeOf_19 rfl rfl (by first | decide | omega) ?_
    refine w_getIx (o := 6) (f := 3) (x := want D) fX0_slopeOf_20 rfl rfl (Nat.le_of_ble_eq_true rfl) rfl hG.wa ?_
    refine w_isub dX0_slopeOf_23 ?_
    refine w_abs fX0_slopeOf_24 (R32.in (by omega)) (Nat.le_of_ble_eq_true rfl) ?_
    refine w_imul dX0_slopeOf_27 ?_
    refine w_iload_n dX0_slopeOf_28 rfl rfl ?_
    refine w_iadd dX0_slopeOf_29 ?_
    exact w_iretP dX0_slopeOf_30 rfl (by unfold slp ab; omega)
  refine w_if_ge (tgt := 14) dX0_slopeOf_6 rfl (R32.in (by omega)) (fun c6 => ?_) (fun c6 => ?_)
  · skip
    refine w_iconst dX0_slopeOf_14 ?_
    exact hJ6_1 _ (by first | omega | simp [*])
  · skip
    refine w_bipush dX0_slopeOf_9 (by decide) ?_
    refine w_goto (tgt := 15) dX0_slopeOf_11 rfl ?_
    exact hJ6_1 _ (by first | omega | simp [*])

set_option maxRecDepth 100000 in
set_option maxHeartbeats 4000000 in
theorem s_X0_staffAtEnd (X : AX) (D : GDt) (e : Int) (h : Int) (r : Int) (μ : Mu) (hG : GLd D μ) (he : e = 0 ∨ e = 1) (hh : -100 ≤ h ∧ h ≤ 100) (hr : -10 ≤ r ∧ r ≤ 10) : Wp (GG X) M_X0_staffAtEnd 0 [(2, 6), (0, e), (0, h), (0, r), (9, 0), (9, 0), (9, 0)] [] μ (pP 0 (eco D (if e = 0 then 0 else dN D - 1) h r) μ) := by
  have hok := hG.ok
  have hn := hok.n
  have hsp := hok.sp
  refine w_iload_n dX0_staffAtEnd_0 rfl rfl ?_
  have hJ1_1 : ∀ z1_0 : Int, z1_0 = (if ¬ e = 0 then dN D - 1 else 0) → Wp (GG X) M_X0_staffAtEnd 12 [(2, 6), (0, e), (0, h), (0, r), (9, 0), (9, 0), (9, 0)] [(0, z1_0)] μ (pP 0 (eco D (if e = 0 then 0 else dN D - 1) h r) μ) := by
    intro z1_0 hz1_0
    refine Wp.topE (b := if e = 0 then 0 else dN D - 1) (by omega) ?_
    refine w_istore (ls' := [(2, 6), (0, e), (0, h), (0, r), (0, if e = 0 then 0 else dN D - 1), (9, 0), (9, 0)]) dX0_staffAtEnd_12 (Nat.le_of_ble_eq_true rfl) rfl rfl ?_
    refine w_iconst dX0_staffAtEnd_14 ?_
    refine w_istore (ls' := [(2, 6), (0, e), (0, h), (0, r), (0, if e = 0 then 0 else dN D - 1), (0, 0), (9, 0)]) dX0_staffAtEnd_15 (Nat.le_of_ble_eq_true rfl) rfl rfl ?_
    refine w_iconst dX0_staffAtEnd_17 ?_
    refine w_istore (ls' := [(2, 6), (0, e), (0, h), (0, r), (0, if e = 0 then 0 else dN D - 1), (0, 0), (0, 0)]) dX0_staffAtEnd_18 (Nat.le_of_ble_eq_true rfl) rfl rfl ?_
    have hL20 : ∀ (n20 : Nat) (m : Int) (k : Int), (4 - k).toNat = n20 → (0 ≤ k ∧ k ≤ 3) → (k ≤ dB D (if e = 0 then 0 else dN D - 1)) → (m = ecs D (if e = 0 then 0 else dN D - 1) h r k) → Wp (GG X) M_X0_staffAtEnd 20 [(2, 6), (9, 0), (0, h), (0, r), (0, if e = 0 then 0 else dN D - 1), (0, m), (0, k)] [] μ (pP 0 (eco D (if e = 0 then 0 else dN D - 1) h r) μ) := by
      intro n20
      induction n20 using Nat.strongRecOn with
      | ind n20 ih20 =>
        intro m k hn20 hk0 hkb hm
        have hmr := ecs_r D (if e = 0 then 0 else dN D - 1) h r hk0.1
        have hwr := way_r D (if e = 0 then 0 else dN D - 1)
        have hbr := hok.br (i := if e = 0 then 0 else dN D - 1) (by omega)
        refine w_iload dX0_staffAtEnd_20 rfl ?_
        refine w_aload_n dX0_staffAtEnd_22 rfl rfl (by first | decide | omega) ?_
        refine w_getR (o := 6) (x := 9) fX0_staffAtEnd_23 rfl rfl rfl rfl ?_
        refine w_iload dX0_staffAtEnd_26 rfl ?_
        refine w_ialdx (o := 9) (n := 64) (x := dB D (if e = 0 then 0 else dN D - 1)) dX0_staffAtEnd_28 rfl rfl (Nat.le_of_ble_eq_true rfl) (by omega) (hG.b (by omega)) ?_
        have hr1 := (hG.ok).br (i := (if e = 0 then 0 else dN D - 1)) (by omega)
        refine w_icmp_ge (tgt := 61) dX0_staffAtEnd_29 rfl (R32.in (by omega)) (R32.in (by omega)) (fun c29 => ?_) (fun c29 => ?_)
        · skip
          refine w_iload dX0_staffAtEnd_61 rfl ?_
          exact w_iretP dX0_staffAtEnd_63 rfl (by rw [hm]; unfold eco; rw [show k = dB D (if e = 0 then 0 else dN D - 1) by omega])
        · skip
          refine w_iload dX0_staffAtEnd_32 rfl ?_
          refine w_iload_n dX0_staffAtEnd_34 rfl rfl ?_
          refine w_aload_n dX0_staffAtEnd_35 rfl rfl (by first | decide | omega) ?_
          refine w_getR (o := 6) (x := 10) fX0_staffAtEnd_36 rfl rfl rfl rfl ?_
          refine w_iload dX0_staffAtEnd_39 rfl ?_
          refine w_ialdx (o := 10) (n := 64) (x := way D (if e = 0 then 0 else dN D - 1)) dX0_staffAtEnd_41 rfl rfl (Nat.le_of_ble_eq_true rfl) (by omega) (hG.w (by omega)) ?_
          have hr2 := way_b D (if e = 0 then 0 else dN D - 1)
          refine w_iconst dX0_staffAtEnd_42 ?_
          refine w_imul dX0_staffAtEnd_43 ?_
          refine w_iload dX0_staffAtEnd_44 rfl ?_
          refine w_imul dX0_staffAtEnd_46 ?_
          refine w_isub dX0_staffAtEnd_47 ?_
          refine w_iload_n dX0_staffAtEnd_48 rfl rfl ?_
          have hpr : -100 ≤ way D (if e = 0 then 0 else dN D - 1) * 3 * k ∧ way D (if e = 0 then 0 else dN D - 1) * 3 * k ≤ 100 := (by rcases hwr with q | q <;> rw [q] <;> omega)
          refine w_callSP (as := [(0, h - (((way D (if e = 0 then 0 else dN D - 1)) * 3) * k)), (0, r)]) (rest := [(0, m)]) (k := 0) fX0_staffAtEnd_49 rfl rfl rfl rfl rfl (Nat.le_of_ble_eq_true rfl) (s_X0_touchCost X (h - (((way D (if e = 0 then 0 else dN D - 1)) * 3) * k)) r μ (by first | omega | assumption) (by first | omega | assumption)) ?_
          have hf3 := tco_r (h - (((way D (if e = 0 then 0 else dN D - 1)) * 3) * k)) r
          refine w_iadd dX0_staffAtEnd_52 ?_
          refine w_istore (ls' := [(2, 6), (9, 0), (0, h), (0, r), (0, if e = 0 then 0 else dN D - 1), (0, m + (tco (h - (((way D (if e = 0 then 0 else dN D - 1)) * 3) * k)) r)), (0, k)]) dX0_staffAtEnd_53 (Nat.le_of_ble_eq_true rfl) rfl rfl ?_
          refine w_iinc (ls' := [(2, 6), (9, 0), (0, h), (0, r), (0, if e = 0 then 0 else dN D - 1), (0, m + (tco (h - (((way D (if e = 0 then 0 else dN D - 1)) * 3) * k)) r)), (0, k + 1)]) dX0_staffAtEnd_55 rfl (Nat.le_of_ble_eq_true rfl) rfl rfl ?_
          refine w_goto (tgt := 20) dX0_staffAtEnd_58 rfl ?_
          exact ih20 _ (by omega) (m + (tco (h - (((way D (if e = 0 then 0 else dN D - 1)) * 3) * k)) r)) (k + 1) rfl (by first | omega | assumption) (by first | omega | assumption) (by rw [ecs_s hk0.1, hm])
    refine Wp.fgl (ls' := [(2, 6), (9, 0), (0, h), (0, r), (0, if e = 0 then 0 else dN D - 1), (0, 0), (0, 0)]) 1 rfl ?_
    exact hL20 _ 0 0 rfl (by first | omega | assumption) (by have hbr := hok.br (i := if e = 0 then 0 else dN D - 1) (by omega); omega) rfl
  refine w_if_ne (tgt := 8) dX0_staffAtEnd_1 rfl (R32.in (by omega)) (fun c1 => ?_) (fun c1 => ?_)
  · skip
    refine w_aload_n dX0_staffAtEnd_8 rfl rfl (by first | decide | omega) ?_
    refine w_getIx (o := 6) (f := 1) (x := dN D - 1) fX0_staffAtEnd_9 rfl rfl (Nat.le_of_ble_eq_true rfl) rfl hG.la ?_
    have hr4 := (hG.ok).n
    exact hJ1_1 _ (by first | omega | simp [*])
  · skip
    refine w_iconst dX0_staffAtEnd_4 ?_
    refine w_goto (tgt := 12) dX0_staffAtEnd_5 rfl ?_
    exact hJ1_1 _ (by first | omega | simp [*])

set_option maxRecDepth 100000 in
set_option maxHeartbeats 4000000 in
theorem s_X0_staffAt (X : AX) (D : GDt) (s : Int) (l : Int) (μ : Mu) (hG : GLd D μ) (hl : -68 ≤ l ∧ l ≤ 68) (hs : -8 ≤ s ∧ s ≤ 8) : Wp (GG X) M_X0_staffAt 0 [(2, 6), (0, l), (0, s)] [] μ (pP 0 (stf D s l) μ) := by
  have hok := hG.ok
  have hn := hok.n
  have hsp := hok.sp
  refine w_aload_n dX0_staffAt_0 rfl rfl (by first | decide | omega) ?_
  refine w_iconst dX0_staffAt_1 ?_
  refine w_iload_n dX0_staffAt_2 rfl rfl ?_
  refine w_iload_n dX0_staffAt_3 rfl rfl ?_
  refine w_callVP (o := 6) (ci := 0) (as := [(0, 0), (0, l), (0, s)]) (rest := []) (k := 3) fX0_staffAt_4 rfl rfl rfl rfl rfl rfl rfl rfl (Nat.le_of_ble_eq_true rfl) (s_X0_staffAtEnd X D 0 l s μ hG (by first | omega | assumption) (by first | omega | assumption) (by first | omega | assumption)) ?_
  refine w_aload_n dX0_staffAt_7 rfl rfl (by first | decide | omega) ?_
  refine w_iconst dX0_staffAt_8 ?_
  refine w_iload_n dX0_staffAt_9 rfl rfl ?_
  refine w_iload_n dX0_staffAt_10 rfl rfl ?_
  refine w_iadd dX0_staffAt_11 ?_
  refine w_iload_n dX0_staffAt_12 rfl rfl ?_
  refine w_ineg dX0_staffAt_13 ?_
  refine w_callVP (o := 6) (ci := 0) (as := [(0, 1), (0, l + s), (0, -s)]) (rest := [(0, eco D (if 0 = 0 then 0 else dN D - 1) l s)]) (k := 3) fX0_staffAt_14 rfl rfl rfl rfl rfl rfl rfl rfl (Nat.le_of_ble_eq_true rfl) (s_X0_staffAtEnd X D 1 (l + s) (-s) μ hG (by first | omega | assumption) (by first | omega | assumption) (by first | omega | assumption)) ?_
  refine w_iadd dX0_staffAt_17 ?_
  exact w_iretP dX0_staffAt_18 rfl (by unfold stf; simp)

set_option maxRecDepth 100000 in
set_option maxHeartbeats 4000000 in
theorem s_X0_keyAt (X : AX) (D : GDt) (s : Int) (l : Int) (u : Int) (μ : Mu) (hG : GLd D μ) (hT : TL D s μ) (hl : -68 ≤ l ∧ l ≤ 68) (hu : 0 ≤ u ∧ u ≤ 2147483647) : Wp (GG X) M_X0_keyAt 0 [(2, 6), (0, l), (0, s), (0, u), (9, 0), (9, 0)] [] μ (pP 1 (keyu D s l u) μ) := by
  have hok := hG.ok
  have hn := hok.n
  have hsp := hok.sp
  have hs := hT.sb
  have hbs := hT.sr
  have hws := ws_r hok hl
  have hw1 := wl_r (i := 0) hok hl
  have hw2 := am_mul_b (A := 1) (B := 76) (way_b D 0) (show -76 ≤ l + s ∧ l + s ≤ 76 by omega)
  refine w_iload_n dX0_keyAt_0 rfl rfl ?_
  refine w_i2l dX0_keyAt_1 (R32.in (by omega)) ?_
  refine w_iconst dX0_keyAt_2 ?_
  refine w_lshlK (q := 16) dX0_keyAt_3 (am_lshl4 _) ?_
  refine w_iload_n dX0_keyAt_4 rfl rfl ?_
  refine w_abs fX0_keyAt_5 (R32.in (by omega)) (Nat.le_of_ble_eq_true rfl) ?_
  refine w_i2l dX0_keyAt_8 (R32.in (by omega)) ?_
  refine w_ladd dX0_keyAt_9 ?_
  refine w_lstore (ls' := [(2, 6), (0, l), (0, s), (0, u), (1, (u * 16) + (if 0 ≤ s then s else -s)), (9, 0)]) dX0_keyAt_10 (Nat.le_of_ble_eq_true rfl) rfl rfl ?_
  refine w_lload dX0_keyAt_12 rfl ?_
  refine w_bipush dX0_keyAt_14 (by decide) ?_
  refine w_lshlK (q := 16777216) dX0_keyAt_16 (am_lshl24 _) ?_
  refine w_aload_n dX0_keyAt_17 rfl rfl (by first | decide | omega) ?_
  refine w_getIx (o := 6) (f := 14) (x := bsu D s (dN D)) fX0_keyAt_18 rfl rfl (Nat.le_of_ble_eq_true rfl) rfl hT.bs ?_
  have hr1 := hT.sr
  refine w_i2l dX0_keyAt_21 (R32.in (by omega)) ?_
  refine w_ladd dX0_keyAt_22 ?_
  refine w_aload_n dX0_keyAt_23 rfl rfl (by first | decide | omega) ?_
  refine w_getIx (o := 6) (f := 15) (x := wsu D (dN D)) fX0_keyAt_24 rfl rfl (Nat.le_of_ble_eq_true rfl) rfl hG.ws ?_
  have hr2 := wsu_r (hG.ok) (i := dN D) (by have := (hG.ok).n; omega)
  refine w_iload_n dX0_keyAt_27 rfl rfl ?_
  refine w_imul dX0_keyAt_28 ?_
  refine w_aload_n dX0_keyAt_29 rfl rfl (by first | decide | omega) ?_
  refine w_getIx (o := 6) (f := 2) (x := spn D) fX0_keyAt_30 rfl rfl (Nat.le_of_ble_eq_true rfl) rfl hG.sp ?_
  have hr3 := (hG.ok).sp
  refine w_imul dX0_keyAt_33 ?_
  refine w_i2l dX0_keyAt_34 (R32.in (by omega)) ?_
  refine w_ladd dX0_keyAt_35 ?_
  refine w_lstore (ls' := [(2, 6), (0, l), (0, s), (0, u), (1, ((((u * 16) + (if 0 ≤ s then s else -s)) * 16777216) + (bsu D s (dN D))) + (((wsu D (dN D)) * l) * (spn D))), (9, 0)]) dX0_keyAt_36 (Nat.le_of_ble_eq_true rfl) rfl rfl ?_
  refine w_lload dX0_keyAt_38 rfl ?_
  refine w_bipush dX0_keyAt_40 (by decide) ?_
  refine w_lshlK (q := 128) dX0_keyAt_42 (am_lshl7 _) ?_
  refine w_ldc2 (n := 60) dX0_keyAt_43 k_725 (by decide) ?_
  refine w_ladd dX0_keyAt_46 ?_
  refine w_aload_n dX0_keyAt_47 rfl rfl (by first | decide | omega) ?_
  refine w_getR (o := 6) (x := 10) fX0_keyAt_48 rfl rfl rfl rfl ?_
  refine w_iconst dX0_keyAt_51 ?_
  refine w_ialdx (o := 10) (n := 64) (x := way D 0) dX0_keyAt_52 rfl rfl (Nat.le_of_ble_eq_true rfl) (by omega) (hG.w (by omega)) ?_
  have hr4 := way_b D 0
  refine w_iload_n dX0_keyAt_53 rfl rfl ?_
  refine w_imul dX0_keyAt_54 ?_
  refine w_i2l dX0_keyAt_55 (R32.in (by omega)) ?_
  refine w_ladd dX0_keyAt_56 ?_
  refine w_lstore (ls' := [(2, 6), (0, l), (0, s), (0, u), (1, (((((((u * 16) + (if 0 ≤ s then s else -s)) * 16777216) + (bsu D s (dN D))) + (((wsu D (dN D)) * l) * (spn D))) * 128) + 60) + ((way D 0) * l)), (9, 0)]) dX0_keyAt_57 (Nat.le_of_ble_eq_true rfl) rfl rfl ?_
  refine w_lload dX0_keyAt_59 rfl ?_
  refine w_bipush dX0_keyAt_61 (by decide) ?_
  refine w_lshlK (q := 128) dX0_keyAt_63 (am_lshl7 _) ?_
  refine w_ldc2 (n := 60) dX0_keyAt_64 k_725 (by decide) ?_
  refine w_ladd dX0_keyAt_67 ?_
  refine w_aload_n dX0_keyAt_68 rfl rfl (by first | decide | omega) ?_
  refine w_getR (o := 6) (x := 10) fX0_keyAt_69 rfl rfl rfl rfl ?_
  refine w_iconst dX0_keyAt_72 ?_
  refine w_ialdx (o := 10) (n := 64) (x := way D 0) dX0_keyAt_73 rfl rfl (Nat.le_of_ble_eq_true rfl) (by omega) (hG.w (by omega)) ?_
  refine w_iload_n dX0_keyAt_74 rfl rfl ?_
  refine w_iload_n dX0_keyAt_75 rfl rfl ?_
  refine w_iadd dX0_keyAt_76 ?_
  refine w_imul dX0_keyAt_77 ?_
  refine w_i2l dX0_keyAt_78 (R32.in (by omega)) ?_
  refine w_ladd dX0_keyAt_79 ?_
  exact w_lretP dX0_keyAt_80 rfl (by rfl)



set_option maxRecDepth 100000 in
set_option maxHeartbeats 4000000 in
theorem s_X0_mostBeams (X : AX) (D : GDt) (μ : Mu) (hG : GLd D μ) : Wp (GG X) M_X0_mostBeams 0 [(2, 6), (9, 0), (9, 0)] [] μ (pP 0 (itr (fun j a => max a (dB D j)) 0 (dN D)) μ) := by
  have hok := hG.ok
  have hn := hok.n
  have hsp := hok.sp
  refine w_iconst dX0_mostBeams_0 ?_
  refine w_istore_n (ls' := [(2, 6), (0, 0), (9, 0)]) dX0_mostBeams_1 rfl (Nat.le_of_ble_eq_true rfl) rfl rfl ?_
  refine w_iconst dX0_mostBeams_2 ?_
  refine w_istore_n (ls' := [(2, 6), (0, 0), (0, 0)]) dX0_mostBeams_3 rfl (Nat.le_of_ble_eq_true rfl) rfl rfl ?_
  have hL4 : ∀ (n4 : Nat) (m : Int) (i : Int), (dN D - i).toNat = n4 → (0 ≤ i ∧ i ≤ dN D) → (0 ≤ m ∧ m ≤ 3) → (m = itr (fun j a => max a (dB D j)) 0 i) → Wp (GG X) M_X0_mostBeams 4 [(2, 6), (0, m), (0, i)] [] μ (pP 0 (itr (fun j a => max a (dB D j)) 0 (dN D)) μ) := by
    intro n4
    induction n4 using Nat.strongRecOn with
    | ind n4 ih4 =>
      intro m i hn4 hi0 hmr hm
      refine w_iload_n dX0_mostBeams_4 rfl rfl ?_
      refine w_aload_n dX0_mostBeams_5 rfl rfl (by first | decide | omega) ?_
      refine w_getIx (o := 6) (f := 0) (x := dN D) fX0_mostBeams_6 rfl rfl (Nat.le_of_ble_eq_true rfl) rfl hG.n ?_
      have hr1 := (hG.ok).n
      refine w_icmp_ge (tgt := 29) dX0_mostBeams_9 rfl (R32.in (by omega)) (R32.in (by omega)) (fun c9 => ?_) (fun c9 => ?_)
      · skip
        refine w_iload_n dX0_mostBeams_29 rfl rfl ?_
        exact w_iretP dX0_mostBeams_30 rfl (by rw [show dN D = i by omega]; exact hm)
      · skip
        refine w_iload_n dX0_mostBeams_12 rfl rfl ?_
        refine w_aload_n dX0_mostBeams_13 rfl rfl (by first | decide | omega) ?_
        refine w_getR (o := 6) (x := 9) fX0_mostBeams_14 rfl rfl rfl rfl ?_
        refine w_iload_n dX0_mostBeams_17 rfl rfl ?_
        refine w_ialdx (o := 9) (n := 64) (x := dB D i) dX0_mostBeams_18 rfl rfl (Nat.le_of_ble_eq_true rfl) (by omega) (hG.b (by omega)) ?_
        have hr2 := (hG.ok).br (i := i) (by omega)
        refine w_max fX0_mostBeams_19 (R32.in (by omega)) (R32.in (by omega)) (Nat.le_of_ble_eq_true rfl) ?_
        refine w_istore_n (ls' := [(2, 6), (0, max m (dB D i)), (0, i)]) dX0_mostBeams_22 rfl (Nat.le_of_ble_eq_true rfl) rfl rfl ?_
        refine w_iinc (ls' := [(2, 6), (0, max m (dB D i)), (0, i + 1)]) dX0_mostBeams_23 rfl (Nat.le_of_ble_eq_true rfl) rfl rfl ?_
        refine w_goto (tgt := 4) dX0_mostBeams_26 rfl ?_
        exact ih4 _ (by omega) (max m (dB D i)) (i + 1) rfl (by first | omega | assumption) (by first | omega | assumption) (by rw [itr_succ hi0.1, ← hm])
  exact hL4 _ 0 0 rfl (by first | omega | assumption) (by first | omega | assumption) rfl

set_option maxRecDepth 100000 in
set_option maxHeartbeats 4000000 in
theorem s_X0_howManyUp (X : AX) (D : GDt) (μ : Mu) (hG : GLd D μ) : Wp (GG X) M_X0_howManyUp 0 [(2, 6), (9, 0), (9, 0)] [] μ (pP 0 (itr (fun j a => a + if 0 < way D j then 1 else 0) 0 (dN D)) μ) := by
  have hok := hG.ok
  have hn := hok.n
  have hsp := hok.sp
  refine w_iconst dX0_howManyUp_0 ?_
  refine w_istore_n (ls' := [(2, 6), (0, 0), (9, 0)]) dX0_howManyUp_1 rfl (Nat.le_of_ble_eq_true rfl) rfl rfl ?_
  refine w_iconst dX0_howManyUp_2 ?_
  refine w_istore_n (ls' := [(2, 6), (0, 0), (0, 0)]) dX0_howManyUp_3 rfl (Nat.le_of_ble_eq_true rfl) rfl rfl ?_
  have hL4 : ∀ (n4 : Nat) (m : Int) (i : Int), (dN D - i).toNat = n4 → (0 ≤ i ∧ i ≤ dN D) → (m = itr (fun j a => a + if 0 < way D j then 1 else 0) 0 i) → Wp (GG X) M_X0_howManyUp 4 [(2, 6), (0, m), (0, i)] [] μ (pP 0 (itr (fun j a => a + if 0 < way D j then 1 else 0) 0 (dN D)) μ) := by
    intro n4
    induction n4 using Nat.strongRecOn with
    | ind n4 ih4 =>
      intro m i hn4 hi0 hm
      refine w_iload_n dX0_howManyUp_4 rfl rfl ?_
      refine w_aload_n dX0_howManyUp_5 rfl rfl (by first | decide | omega) ?_
      refine w_getIx (o := 6) (f := 0) (x := dN D) fX0_howManyUp_6 rfl rfl (Nat.le_of_ble_eq_true rfl) rfl hG.n ?_
      have hr1 := (hG.ok).n
      refine w_icmp_ge (tgt := 35) dX0_howManyUp_9 rfl (R32.in (by omega)) (R32.in (by omega)) (fun c9 => ?_) (fun c9 => ?_)
      · skip
        refine w_iload_n dX0_howManyUp_35 rfl rfl ?_
        exact w_iretP dX0_howManyUp_36 rfl (by rw [show dN D = i by omega]; exact hm)
      · skip
        refine w_iload_n dX0_howManyUp_12 rfl rfl ?_
        refine w_aload_n dX0_howManyUp_13 rfl rfl (by first | decide | omega) ?_
        refine w_getR (o := 6) (x := 10) fX0_howManyUp_14 rfl rfl rfl rfl ?_
        refine w_iload_n dX0_howManyUp_17 rfl rfl ?_
        refine w_ialdx (o := 10) (n := 64) (x := way D i) dX0_howManyUp_18 rfl rfl (Nat.le_of_ble_eq_true rfl) (by omega) (hG.w (by omega)) ?_
        have hr2 := way_b D i
        have hJ19_1 : ∀ z1_0 : Int, z1_0 = (if (way D i) ≤ 0 then 0 else 1) → Wp (GG X) M_X0_howManyUp 27 [(2, 6), (0, m), (0, i)] [(0, z1_0), (0, m)] μ (pP 0 (itr (fun j a => a + if 0 < way D j then 1 else 0) 0 (dN D)) μ) := by
          intro z1_0 hz1_0
          refine w_iadd dX0_howManyUp_27 ?_
          refine w_istore_n (ls' := [(2, 6), (0, m + z1_0), (0, i)]) dX0_howManyUp_28 rfl (Nat.le_of_ble_eq_true rfl) rfl rfl ?_
          refine w_iinc (ls' := [(2, 6), (0, m + z1_0), (0, i + 1)]) dX0_howManyUp_29 rfl (Nat.le_of_ble_eq_true rfl) rfl rfl ?_
          refine w_goto (tgt := 4) dX0_howManyUp_32 rfl ?_
          exact ih4 _ (by omega) (m + z1_0) (i + 1) rfl (by first | omega | assumption) (by rw [itr_succ hi0.1, ← hm]; omega)
        refine w_if_le (tgt := 26) dX0_howManyUp_19 rfl (R32.in (by omega)) (fun c19 => ?_) (fun c19 => ?_)
        · skip
          refine w_iconst dX0_howManyUp_26 ?_
          exact hJ19_1 _ (by first | omega | simp [*])
        · skip
          refine w_iconst dX0_howManyUp_22 ?_
          refine w_goto (tgt := 27) dX0_howManyUp_23 rfl ?_
          exact hJ19_1 _ (by first | omega | simp [*])
  exact hL4 _ 0 0 rfl (by first | omega | assumption) rfl

set_option maxRecDepth 100000 in
set_option maxHeartbeats 4000000 in
theorem s_X0_uglinessOf (X : AX) (k : Int) (μ : Mu) (hk : -9223372036854775808 ≤ k ∧ k ≤ 9223372036854775807) : Wp (GG X) M_X0_uglinessOf 0 [(1, k), (9, 0)] [] μ (pP 0 (k / 4398046511104) μ) := by
  refine w_lload_n dX0_uglinessOf_0 rfl rfl ?_
  refine w_bipush dX0_uglinessOf_1 (by decide) ?_
  refine w_lshrK (q := 4398046511104) dX0_uglinessOf_3 (R64.in (by omega)) 42 (by decide) rfl ?_
  refine w_l2i dX0_uglinessOf_4 ?_
  exact w_iretP dX0_uglinessOf_5 rfl (by rfl)

set_option maxRecDepth 100000 in
set_option maxHeartbeats 4000000 in
theorem s_X0_heightIn (X : AX) (D : GDt) (k : Int) (μ : Mu) (hG : GLd D μ) : Wp (GG X) M_X0_heightIn 0 [(2, 6), (1, k), (9, 0)] [] μ (pP 0 (way D 0 * (k % 128 - 60)) μ) := by
  have hok := hG.ok
  have hn := hok.n
  have hsp := hok.sp
  refine w_aload_n dX0_heightIn_0 rfl rfl (by first | decide | omega) ?_
  refine w_getR (o := 6) (x := 10) fX0_heightIn_1 rfl rfl rfl rfl ?_
  refine w_iconst dX0_heightIn_4 ?_
  refine w_ialdx (o := 10) (n := 64) (x := way D 0) dX0_heightIn_5 rfl rfl (Nat.le_of_ble_eq_true rfl) (by omega) (hG.w (by omega)) ?_
  have hr1 := way_b D 0
  refine w_lload_n dX0_heightIn_6 rfl rfl ?_
  refine w_ldc2 (n := 127) dX0_heightIn_7 k_742 (by decide) ?_
  refine w_land127 dX0_heightIn_10 ?_
  refine w_l2i dX0_heightIn_11 ?_
  refine w_bipush dX0_heightIn_12 (by decide) ?_
  refine w_isub dX0_heightIn_14 ?_
  refine w_imul dX0_heightIn_15 ?_
  exact w_iretP dX0_heightIn_16 rfl (by rfl)

set_option maxRecDepth 100000 in
set_option maxHeartbeats 4000000 in
theorem s_X0_leftOf (X : AX) (D : GDt) (k : Int) (μ : Mu) (hG : GLd D μ) (hk : -9223372036854775808 ≤ k ∧ k ≤ 9223372036854775807) : Wp (GG X) M_X0_leftOf 0 [(2, 6), (1, k), (9, 0)] [] μ (pP 0 (way D 0 * (k / 128 % 128 - 60)) μ) := by
  have hok := hG.ok
  have hn := hok.n
  have hsp := hok.sp
  refine w_aload_n dX0_leftOf_0 rfl rfl (by first | decide | omega) ?_
  refine w_lload_n dX0_leftOf_1 rfl rfl ?_
  refine w_bipush dX0_leftOf_2 (by decide) ?_
  refine w_lshrK (q := 128) dX0_leftOf_4 (R64.in (by omega)) 7 (by decide) rfl ?_
  refine w_callVP (o := 6) (ci := 0) (as := [(1, k / 128)]) (rest := []) (k := 0) fX0_leftOf_5 rfl rfl rfl rfl rfl rfl rfl rfl (Nat.le_of_ble_eq_true rfl) (s_X0_heightIn X D (k / 128) μ hG) ?_
  exact w_iretP dX0_leftOf_8 rfl (by rfl)

set_option maxRecDepth 100000 in
set_option maxHeartbeats 4000000 in
theorem s_X0_rightOf (X : AX) (D : GDt) (k : Int) (μ : Mu) (hG : GLd D μ) : Wp (GG X) M_X0_rightOf 0 [(2, 6), (1, k), (9, 0)] [] μ (pP 0 (way D 0 * (k % 128 - 60)) μ) := by
  have hok := hG.ok
  have hn := hok.n
  have hsp := hok.sp
  refine w_aload_n dX0_rightOf_0 rfl rfl (by first | decide | omega) ?_
  refine w_lload_n dX0_rightOf_1 rfl rfl ?_
  refine w_callVP (o := 6) (ci := 0) (as := [(1, k)]) (rest := []) (k := 0) fX0_rightOf_2 rfl rfl rfl rfl rfl rfl rfl rfl (Nat.le_of_ble_eq_true rfl) (s_X0_heightIn X D k μ hG) ?_
  exact w_iretP dX0_rightOf_5 rfl (by rfl)
