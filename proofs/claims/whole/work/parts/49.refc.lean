set_option maxRecDepth 100000 in
set_option maxHeartbeats 4000000 in
theorem s_X8_leastOn (X : AX) (DD : Int → GDt) (F : Int → Int) (n : Int) (ng : Int) (g : Int) (h : Int) (m : Int) (μ : Mu) (hA : RAg DD F ng μ) (ho : ON DD n ng g (μ 71)) (hg : 0 ≤ g ∧ g ≤ ng) (hh : -60 ≤ h ∧ h ≤ 60) (hm : 0 ≤ m ∧ m ≤ 120) : Wp (GG X) M_X8_leastOn 0 [(2, 45), (0, g), (0, h), (0, m), (9, 0), (9, 0)] [] μ (pP 0 (lsO DD n ng g h m) μ) := by
  have hr := hA.r
  have hdd := hA.dd
  refine w_iload_n dX8_leastOn_0 rfl rfl ?_
  refine w_aload_n dX8_leastOn_1 rfl rfl (by first | decide | omega) ?_
  refine w_getIx (o := 45) (f := 17) (x := ng) fX8_leastOn_2 rfl rfl (Nat.le_of_ble_eq_true rfl) rfl hA.n ?_
  have hr1 := hA.r
  refine w_icmp_ne (tgt := 10) dX8_leastOn_5 rfl (R32.in (by omega)) (R32.in (by omega)) (fun c5 => ?_) (fun c5 => ?_)
  · skip
    have hgl : g < ng := (by omega)
    have hok := hdd g hg.1 hgl
    have hbn : ∀ r, -60 ≤ r → r ≤ 60 → 0 ≤ (bhI 536870912 DD n ng (g + 1)) r := fun r _ _ => (bhI_b (by omega) hdd (by omega) r).1
    refine w_ldcw (n := 536870912) dX8_leastOn_10 k_1924 (by decide) ?_
    refine w_istore (ls' := [(2, 45), (0, g), (0, h), (0, m), (0, 536870912), (9, 0)]) dX8_leastOn_13 (Nat.le_of_ble_eq_true rfl) rfl rfl ?_
    refine w_bipush dX8_leastOn_15 (by decide) ?_
    refine w_istore (ls' := [(2, 45), (0, g), (0, h), (0, m), (0, 536870912), (0, -60)]) dX8_leastOn_17 (Nat.le_of_ble_eq_true rfl) rfl rfl ?_
    have hL19 : ∀ (n19 : Nat) (v : Int) (i : Int), (61 - i).toNat = n19 → (-60 ≤ i ∧ i ≤ 61) → (lnE (DD g) (bhI 536870912 DD n ng (g + 1)) h m i v) → Wp (GG X) M_X8_leastOn 19 [(2, 45), (0, g), (0, h), (0, m), (0, v), (0, i)] [] μ (pP 0 (lsO DD n ng g h m) μ) := by
      intro n19
      induction n19 using Nat.strongRecOn with
      | ind n19 ih19 =>
        intro v i hn19 hi0 hv
        have hvr := lnE_r hok hbn hv
        refine w_iload dX8_leastOn_19 rfl ?_
        refine w_bipush dX8_leastOn_21 (by decide) ?_
        refine w_icmp_gt (tgt := 80) dX8_leastOn_23 rfl (R32.in (by omega)) (R32.in (by decide)) (fun c23 => ?_) (fun c23 => ?_)
        · skip
          refine w_iload dX8_leastOn_80 rfl ?_
          exact w_iretP dX8_leastOn_82 rfl (by have he : i = 61 := (by omega); subst he; exact lnE_end hok c5 hv)
        · skip
          refine w_iload dX8_leastOn_26 rfl ?_
          refine w_iload_n dX8_leastOn_28 rfl rfl ?_
          refine w_isub dX8_leastOn_29 ?_
          refine w_callSP (as := [(0, i - h)]) (rest := []) (k := 0) fX8_leastOn_30 rfl rfl rfl rfl rfl (Nat.le_of_ble_eq_true rfl) (s_X8_far X (i - h) μ (by first | omega | assumption)) ?_
          have hf2 := ab_f (i - h)
          refine w_iload_n dX8_leastOn_33 rfl rfl ?_
          refine w_icmp_gt (tgt := 74) dX8_leastOn_34 rfl (R32.in (by omega)) (R32.in (by omega)) (fun c34 => ?_) (fun c34 => ?_)
          · skip
            refine w_iinc (ls' := [(2, 45), (0, g), (0, h), (0, m), (0, v), (0, i + 1)]) dX8_leastOn_74 rfl (Nat.le_of_ble_eq_true rfl) rfl rfl ?_
            refine w_goto (tgt := 19) dX8_leastOn_77 rfl ?_
            exact ih19 _ (by omega) v (i + 1) rfl (by first | omega | assumption) (by first | exact lnE_far hv (by omega) | exact lnE_s hv (by omega) (by omega) (ho g (by omega) (by omega) i (by omega) (by omega)) (by omega))
          · skip
            have hor := ON_r (g' := g) (l := i) hdd ho (by omega) (by omega) (by omega)
            refine w_aload_n dX8_leastOn_37 rfl rfl (by first | decide | omega) ?_
            refine w_getR (o := 45) (x := 71) fX8_leastOn_38 rfl rfl rfl rfl ?_
            refine w_bipush dX8_leastOn_41 (by decide) ?_
            refine w_iload_n dX8_leastOn_43 rfl rfl ?_
            refine w_imul dX8_leastOn_44 ?_
            refine w_iload dX8_leastOn_45 rfl ?_
            refine w_iadd dX8_leastOn_47 ?_
            refine w_bipush dX8_leastOn_48 (by decide) ?_
            refine w_iadd dX8_leastOn_50 ?_
            refine w_ialdx (o := 71) (n := 3993) (x := μ 71 (((121 * g) + i) + 60)) dX8_leastOn_51 rfl rfl (Nat.le_of_ble_eq_true rfl) (by omega) rfl ?_
            refine w_iload dX8_leastOn_52 rfl ?_
            refine w_icmp_ge (tgt := 74) dX8_leastOn_54 rfl (R32.in (by omega)) (R32.in (by omega)) (fun c54 => ?_) (fun c54 => ?_)
            · skip
              refine w_iinc (ls' := [(2, 45), (0, g), (0, h), (0, m), (0, v), (0, i + 1)]) dX8_leastOn_74 rfl (Nat.le_of_ble_eq_true rfl) rfl rfl ?_
              refine w_goto (tgt := 19) dX8_leastOn_77 rfl ?_
              exact ih19 _ (by omega) v (i + 1) rfl (by first | omega | assumption) (by first | exact lnE_far hv (by omega) | exact lnE_s hv (by omega) (by omega) (ho g (by omega) (by omega) i (by omega) (by omega)) (by omega))
            · skip
              refine w_aload_n dX8_leastOn_57 rfl rfl (by first | decide | omega) ?_
              refine w_getR (o := 45) (x := 71) fX8_leastOn_58 rfl rfl rfl rfl ?_
              refine w_bipush dX8_leastOn_61 (by decide) ?_
              refine w_iload_n dX8_leastOn_63 rfl rfl ?_
              refine w_imul dX8_leastOn_64 ?_
              refine w_iload dX8_leastOn_65 rfl ?_
              refine w_iadd dX8_leastOn_67 ?_
              refine w_bipush dX8_leastOn_68 (by decide) ?_
              refine w_iadd dX8_leastOn_70 ?_
              refine w_ialdx (o := 71) (n := 3993) (x := μ 71 (((121 * g) + i) + 60)) dX8_leastOn_71 rfl rfl (Nat.le_of_ble_eq_true rfl) (by omega) rfl ?_
              refine w_istore (ls' := [(2, 45), (0, g), (0, h), (0, m), (0, μ 71 (((121 * g) + i) + 60)), (0, i)]) dX8_leastOn_72 (Nat.le_of_ble_eq_true rfl) rfl rfl ?_
              refine w_iinc (ls' := [(2, 45), (0, g), (0, h), (0, m), (0, μ 71 (((121 * g) + i) + 60)), (0, i + 1)]) dX8_leastOn_74 rfl (Nat.le_of_ble_eq_true rfl) rfl rfl ?_
              refine w_goto (tgt := 19) dX8_leastOn_77 rfl ?_
              exact ih19 _ (by omega) (μ 71 (((121 * g) + i) + 60)) (i + 1) rfl (by first | omega | assumption) (by first | exact lnE_far hv (by omega) | exact lnE_s hv (by omega) (by omega) (ho g (by omega) (by omega) i (by omega) (by omega)) (by omega))
    exact hL19 _ 536870912 (-60) rfl (by first | omega | assumption) lnE_0
  · skip
    refine w_iconst dX8_leastOn_8 ?_
    exact w_iretP dX8_leastOn_9 rfl (by unfold lsO; exact (if_pos c5).symm)

set_option maxRecDepth 100000 in
set_option maxHeartbeats 4000000 in
theorem s_X8_laysOnward (X : AX) (DD : Int → GDt) (F : Int → Int) (n : Int) (ng : Int) (g : Int) (μ : Mu) (hA : RAg DD F ng μ) (ho : ON DD n ng (g + 1) (μ 71)) (hg : 0 ≤ g ∧ g < ng) (hn : 0 ≤ n ∧ n ≤ 120) : Wp (GG X) M_X8_laysOnward 0 [(2, 45), (0, g), (0, n), (9, 0), (9, 0), (9, 0)] [] μ (qV fun μ' => (Fr 45 45 57 71 μ' μ) ∧ (ON DD n ng g (μ' 71)) ∧ (RAg DD F ng μ') ∧ (∀ k : Int, (¬ k = 21 ∧ ¬ k = 22 ∧ ¬ k = 23 ∧ ¬ k = 24 ∧ ¬ k = 29) → μ' 45 k = μ 45 k) ∧ (∀ o : Int, 62 ≤ o ∧ o ≤ 70 → μ' o = μ o)) := by
  have hr := hA.r
  have hdd := hA.dd
  have hok := hdd g hg.1 hg.2
  have hbn : ∀ r, -60 ≤ r → r ≤ 60 → 0 ≤ (bhI 536870912 DD n ng (g + 1)) r := fun r _ _ => (bhI_b (by omega) hdd (by omega) r).1
  refine w_iconst dX8_laysOnward_0 ?_
  refine w_istore_n (ls' := [(2, 45), (0, g), (0, n), (0, 0), (9, 0), (9, 0)]) dX8_laysOnward_1 rfl (Nat.le_of_ble_eq_true rfl) rfl rfl ?_
  have hL2 : ∀ (n2 : Nat) (l : Int) (μ1 : Mu), (121 - l).toNat = n2 → Fr 45 45 57 71 μ1 μ → (0 ≤ l ∧ l ≤ 121) → (∀ j : Int, 0 ≤ j → j < l → μ1 71 (121 * g + j) = 536870912) → (∀ a : Int, 121 * (g + 1) ≤ a → μ1 71 a = μ 71 a) → (RAg DD F ng μ1) → (∀ k : Int, (0 : Int) = 0 → μ1 45 k = μ 45 k) → (∀ o : Int, 62 ≤ o ∧ o ≤ 70 → μ1 o = μ o) → Wp (GG X) M_X8_laysOnward 2 [(2, 45), (0, g), (0, n), (0, l), (9, 0), (9, 0)] [] μ1 (qV fun μ' => (Fr 45 45 57 71 μ' μ) ∧ (ON DD n ng g (μ' 71)) ∧ (RAg DD F ng μ') ∧ (∀ k : Int, (¬ k = 21 ∧ ¬ k = 22 ∧ ¬ k = 23 ∧ ¬ k = 24 ∧ ¬ k = 29) → μ' 45 k = μ 45 k) ∧ (∀ o : Int, 62 ≤ o ∧ o ≤ 70 → μ' o = μ o)) := by
    intro n2
    induction n2 using Nat.strongRecOn with
    | ind n2 ih2 =>
      intro l μ1 hn2 hF2 hl0 hrow hoth hA1 hfA hkA
      refine w_iload_n dX8_laysOnward_2 rfl rfl ?_
      refine w_bipush dX8_laysOnward_3 (by decide) ?_
      refine w_icmp_gt (tgt := 28) dX8_laysOnward_5 rfl (R32.in (by omega)) (R32.in (by decide)) (fun c5 => ?_) (fun c5 => ?_)
      · skip
        refine w_aload_n dX8_laysOnward_28 rfl rfl (by first | decide | omega) ?_
        refine w_iload_n dX8_laysOnward_29 rfl rfl ?_
        refine w_callVV (o := 45) (ci := 8) (as := [(0, g)]) (rest := []) (k := 2) fX8_laysOnward_30 rfl rfl rfl rfl rfl rfl rfl rfl (Nat.le_of_ble_eq_true rfl) (s_X8_laysSets X (DD g) (F g) g μ1 (hA1.gp (by omega))) (fun μS hμS => ?_)
        obtain ⟨hFS, hS_S, hf_S⟩ := hμS
        refine w_iconst dX8_laysOnward_33 ?_
        refine w_istore_n (ls' := [(2, 45), (0, g), (0, n), (0, 0), (9, 0), (9, 0)]) dX8_laysOnward_34 rfl (Nat.le_of_ble_eq_true rfl) rfl rfl ?_
        have hL35 : ∀ (n35 : Nat) (k : Int) (μ2 : Mu), (nS (DD g) - k).toNat = n35 → Fr 45 45 57 71 μ2 μ → (0 ≤ k ∧ k ≤ nS (DD g)) → (RS (DD g) (F g) μ2) → (RAg DD F ng μ2) → (blE (DD g) (bhI 536870912 DD n ng (g + 1)) k g (μ2 71)) → (∀ a : Int, 121 * (g + 1) ≤ a → μ2 71 a = μ 71 a) → (∀ k : Int, (¬ k = 21 ∧ ¬ k = 22 ∧ ¬ k = 23 ∧ ¬ k = 24 ∧ ¬ k = 29) → μ2 45 k = μ 45 k) → (∀ o : Int, 62 ≤ o ∧ o ≤ 70 → μ2 o = μ o) → Wp (GG X) M_X8_laysOnward 35 [(2, 45), (0, g), (0, n), (0, k), (9, 0), (9, 0)] [] μ2 (qV fun μ' => (Fr 45 45 57 71 μ' μ) ∧ (ON DD n ng g (μ' 71)) ∧ (RAg DD F ng μ') ∧ (∀ k : Int, (¬ k = 21 ∧ ¬ k = 22 ∧ ¬ k = 23 ∧ ¬ k = 24 ∧ ¬ k = 29) → μ' 45 k = μ 45 k) ∧ (∀ o : Int, 62 ≤ o ∧ o ≤ 70 → μ' o = μ o)) := by
          intro n35
          induction n35 using Nat.strongRecOn with
          | ind n35 ih35 =>
            intro k μ2 hn35 hF35 hk0 hS2 hA3 hbl hoth2 hfB hkB
            have hcc := hS2.c
            refine w_iload_n dX8_laysOnward_35 rfl rfl ?_
            refine w_aload_n dX8_laysOnward_36 rfl rfl (by first | decide | omega) ?_
            refine w_getIx (o := 45) (f := 29) (x := nS (DD g)) fX8_laysOnward_37 rfl rfl (Nat.le_of_ble_eq_true rfl) rfl hS2.2.1.1 ?_
            have hr2 := hS2.c
            refine w_icmp_ge (tgt := 119) dX8_laysOnward_40 rfl (R32.in (by omega)) (R32.in (by omega)) (fun c40 => ?_) (fun c40 => ?_)
            · skip
              exact w_retV dX8_laysOnward_119 rfl ⟨hF35, (by have he : k = nS (DD g) := (by omega); subst he; exact blE_end hok hbl (ON_cg ho hoth2)), hA3, (fun k h1 => (hfB k (by omega))), (fun o h1 => (hkB _ (by omega)))⟩
            · skip
              have hsr := sq_r hok (j := k) (by omega)
              have hsu := squ_r hok (j := k) (by omega)
              have hbr := blE_r (l := (sq (DD g) k).1) hok hbn (by omega) hbl hsr.1
              have hbb := bhI_b (B := 536870912) (n := n) (g := g + 1) (by omega) hdd (by omega) (sq (DD g) k).2
              refine w_bipush dX8_laysOnward_43 (by decide) ?_
              refine w_iload_n dX8_laysOnward_45 rfl rfl ?_
              refine w_imul dX8_laysOnward_46 ?_
              refine w_aload_n dX8_laysOnward_47 rfl rfl (by first | decide | omega) ?_
              refine w_getR (o := 45) (x := 58) fX8_laysOnward_48 rfl rfl rfl rfl ?_
              refine w_iload_n dX8_laysOnward_51 rfl rfl ?_
              refine w_ialdx (o := 58) (n := 2100) (x := (sq (DD g) k).1) dX8_laysOnward_52 rfl rfl (Nat.le_of_ble_eq_true rfl) (by omega) (hS2.2.2.1 _ (by omega) (by omega)) ?_
              have hr3 := (sq_r (hS2.ok) (j := k) (by omega)).1
              refine w_iadd dX8_laysOnward_53 ?_
              refine w_bipush dX8_laysOnward_54 (by decide) ?_
              refine w_iadd dX8_laysOnward_56 ?_
              refine w_istore (ls' := [(2, 45), (0, g), (0, n), (0, k), (0, ((121 * g) + ((sq (DD g) k).1)) + 60), (9, 0)]) dX8_laysOnward_57 (Nat.le_of_ble_eq_true rfl) rfl rfl ?_
              refine w_aload_n dX8_laysOnward_59 rfl rfl (by first | decide | omega) ?_
              refine w_getR (o := 45) (x := 60) fX8_laysOnward_60 rfl rfl rfl rfl ?_
              refine w_iload_n dX8_laysOnward_63 rfl rfl ?_
              refine w_ialdx (o := 60) (n := 2100) (x := squ (DD g) k) dX8_laysOnward_64 rfl rfl (Nat.le_of_ble_eq_true rfl) (by omega) (hS2.2.2.2.2.1 _ (by omega) (by omega)) ?_
              have hr4 := (squ_r (hS2.ok) (j := k) (by omega))
              refine w_aload_n dX8_laysOnward_65 rfl rfl (by first | decide | omega) ?_
              refine w_iload_n dX8_laysOnward_66 rfl rfl ?_
              refine w_iconst dX8_laysOnward_67 ?_
              refine w_iadd dX8_laysOnward_68 ?_
              refine w_aload_n dX8_laysOnward_69 rfl rfl (by first | decide | omega) ?_
              refine w_getR (o := 45) (x := 59) fX8_laysOnward_70 rfl rfl rfl rfl ?_
              refine w_iload_n dX8_laysOnward_73 rfl rfl ?_
              refine w_ialdx (o := 59) (n := 2100) (x := (sq (DD g) k).2) dX8_laysOnward_74 rfl rfl (Nat.le_of_ble_eq_true rfl) (by omega) (hS2.2.2.2.1 _ (by omega) (by omega)) ?_
              have hr5 := (sq_r (hS2.ok) (j := k) (by omega)).2
              refine w_iload_n dX8_laysOnward_75 rfl rfl ?_
              refine w_callVP (o := 45) (ci := 8) (as := [(0, g + 1), (0, (sq (DD g) k).2), (0, n)]) (rest := [(0, squ (DD g) k)]) (k := 2) fX8_laysOnward_76 rfl rfl rfl rfl rfl rfl rfl rfl (Nat.le_of_ble_eq_true rfl) (s_X8_leastOn X DD F n ng (g + 1) ((sq (DD g) k).2) n μ2 hA3 (ON_cg ho hoth2) (by first | omega | assumption) hsr.2.1 (by first | omega | assumption)) ?_
              have hf6 := lsO_r DD n ng (g + 1) ((sq (DD g) k).2) n (by assumption) (by omega)
              refine Wp.topE (b := bhI 536870912 DD n ng (g + 1) (sq (DD g) k).2) (lsO_bh (by omega)) ?_
              refine w_iadd dX8_laysOnward_79 ?_
              refine w_istore (ls' := [(2, 45), (0, g), (0, n), (0, k), (0, ((121 * g) + ((sq (DD g) k).1)) + 60), (0, (squ (DD g) k) + (bhI 536870912 DD n ng (g + 1) (sq (DD g) k).2))]) dX8_laysOnward_80 (Nat.le_of_ble_eq_true rfl) rfl rfl ?_
              refine w_aload_n dX8_laysOnward_82 rfl rfl (by first | decide | omega) ?_
              refine w_getR (o := 45) (x := 71) fX8_laysOnward_83 rfl rfl rfl rfl ?_
              refine w_iload dX8_laysOnward_86 rfl ?_
              refine w_iload dX8_laysOnward_88 rfl ?_
              refine w_aload_n dX8_laysOnward_90 rfl rfl (by first | decide | omega) ?_
              refine w_getR (o := 45) (x := 71) fX8_laysOnward_91 rfl rfl rfl rfl ?_
              refine w_iload dX8_laysOnward_94 rfl ?_
              refine w_ialdx (o := 71) (n := 3993) (x := μ2 71 (((121 * g) + ((sq (DD g) k).1)) + 60)) dX8_laysOnward_96 rfl rfl (Nat.le_of_ble_eq_true rfl) (by omega) rfl ?_
              refine w_icmp_ge (tgt := 105) dX8_laysOnward_97 rfl (R32.in (by omega)) (R32.in (by omega)) (fun c97 => ?_) (fun c97 => ?_)
              · skip
                refine w_aload_n dX8_laysOnward_105 rfl rfl (by first | decide | omega) ?_
                refine w_getR (o := 45) (x := 71) fX8_laysOnward_106 rfl rfl rfl rfl ?_
                refine w_iload dX8_laysOnward_109 rfl ?_
                refine w_ialdx (o := 71) (n := 3993) (x := μ2 71 (((121 * g) + ((sq (DD g) k).1)) + 60)) dX8_laysOnward_111 rfl rfl (Nat.le_of_ble_eq_true rfl) (by omega) rfl ?_
                refine w_iast (o := 71) (n := 3993) dX8_laysOnward_112 rfl rfl (Nat.le_of_ble_eq_true rfl) (by omega) (by omega) ?_
                refine w_iinc (ls' := [(2, 45), (0, g), (0, n), (0, k + 1), (0, ((121 * g) + ((sq (DD g) k).1)) + 60), (0, (squ (DD g) k) + (bhI 536870912 DD n ng (g + 1) (sq (DD g) k).2))]) dX8_laysOnward_113 rfl (Nat.le_of_ble_eq_true rfl) rfl rfl ?_
                refine w_goto (tgt := 35) dX8_laysOnward_116 rfl ?_
                refine Wp.fgl (ls' := [(2, 45), (0, g), (0, n), (0, k + 1), (9, 0), (0, (squ (DD g) k) + (bhI 536870912 DD n ng (g + 1) (sq (DD g) k).2))]) 4 rfl ?_
                refine Wp.fgl (ls' := [(2, 45), (0, g), (0, n), (0, k + 1), (9, 0), (9, 0)]) 5 rfl ?_
                exact ih35 _ (by omega) (k + 1) (am_up μ2 71 (((121 * g) + ((sq (DD g) k).1)) + 60) (μ2 71 (((121 * g) + ((sq (DD g) k).1)) + 60))) rfl (hF35.up (by omega)) (by omega) (RS.cg2 hS2 (fun o h1 => (am_up_o (by omega))) (fun k h1 => (congrFun (am_up_o (by omega)) _))) (RAg.cg2 hA3 (fun o h1 => (am_up_o (by omega))) (fun k h1 => (congrFun (am_up_o (by omega)) _))) (blE_s hbl (by omega) (by omega)) (fun a h1 => (am_up_nk (by omega)).trans (hoth2 a h1)) (fun k h1 => ((congrFun (am_up_o (by omega)) _).trans (hfB k (by omega)))) (fun o h1 => ((am_up_o (by omega)).trans (hkB _ (by omega))))
              · skip
                refine w_iload dX8_laysOnward_100 rfl ?_
                refine w_goto (tgt := 112) dX8_laysOnward_102 rfl ?_
                refine w_iast (o := 71) (n := 3993) dX8_laysOnward_112 rfl rfl (Nat.le_of_ble_eq_true rfl) (by omega) (by omega) ?_
                refine w_iinc (ls' := [(2, 45), (0, g), (0, n), (0, k + 1), (0, ((121 * g) + ((sq (DD g) k).1)) + 60), (0, (squ (DD g) k) + (bhI 536870912 DD n ng (g + 1) (sq (DD g) k).2))]) dX8_laysOnward_113 rfl (Nat.le_of_ble_eq_true rfl) rfl rfl ?_
                refine w_goto (tgt := 35) dX8_laysOnward_116 rfl ?_
                refine Wp.fgl (ls' := [(2, 45), (0, g), (0, n), (0, k + 1), (9, 0), (0, (squ (DD g) k) + (bhI 536870912 DD n ng (g + 1) (sq (DD g) k).2))]) 4 rfl ?_
                refine Wp.fgl (ls' := [(2, 45), (0, g), (0, n), (0, k + 1), (9, 0), (9, 0)]) 5 rfl ?_
                exact ih35 _ (by omega) (k + 1) (am_up μ2 71 (((121 * g) + ((sq (DD g) k).1)) + 60) ((squ (DD g) k) + (bhI 536870912 DD n ng (g + 1) (sq (DD g) k).2))) rfl (hF35.up (by omega)) (by omega) (RS.cg2 hS2 (fun o h1 => (am_up_o (by omega))) (fun k h1 => (congrFun (am_up_o (by omega)) _))) (RAg.cg2 hA3 (fun o h1 => (am_up_o (by omega))) (fun k h1 => (congrFun (am_up_o (by omega)) _))) (blE_s hbl (by omega) (by omega)) (fun a h1 => (am_up_nk (by omega)).trans (hoth2 a h1)) (fun k h1 => ((congrFun (am_up_o (by omega)) _).trans (hfB k (by omega)))) (fun o h1 => ((am_up_o (by omega)).trans (hkB _ (by omega))))
        exact hL35 _ 0 μS rfl ((hFS.wd (by omega) (by omega)).tr hF2) (by have := hS_S.c; omega) hS_S (RAg.cg2 hA1 (fun o h1 => (hFS.at (by omega) (by omega))) (fun k h1 => (hf_S _ (by omega)))) (blE_0 (fun j h1 h2 => (congrFun (hFS.at (by omega) (by omega)) _).trans (hrow j h1 (by omega)))) (fun a h1 => (congrFun (hFS.at (by omega) (by omega)) _).trans (hoth a h1)) (fun k h1 => ((hf_S k (by omega)).trans (hfA k (by omega)))) (fun o h1 => ((hFS.at (by omega) (by omega)).trans (hkA _ (by omega))))
      · skip
        refine w_aload_n dX8_laysOnward_8 rfl rfl (by first | decide | omega) ?_
        refine w_getR (o := 45) (x := 71) fX8_laysOnward_9 rfl rfl rfl rfl ?_
        refine w_bipush dX8_laysOnward_12 (by decide) ?_
        refine w_iload_n dX8_laysOnward_14 rfl rfl ?_
        refine w_imul dX8_laysOnward_15 ?_
        refine w_iload_n dX8_laysOnward_16 rfl rfl ?_
        refine w_iadd dX8_laysOnward_17 ?_
        refine w_ldcw (n := 536870912) dX8_laysOnward_18 k_1924 (by decide) ?_
        refine w_iast (o := 71) (n := 3993) dX8_laysOnward_21 rfl rfl (Nat.le_of_ble_eq_true rfl) (by omega) (by omega) ?_
        refine w_iinc (ls' := [(2, 45), (0, g), (0, n), (0, l + 1), (9, 0), (9, 0)]) dX8_laysOnward_22 rfl (Nat.le_of_ble_eq_true rfl) rfl rfl ?_
        refine w_goto (tgt := 2) dX8_laysOnward_25 rfl ?_
        exact ih2 _ (by omega) (l + 1) (am_up μ1 71 ((121 * g) + l) 536870912) rfl (hF2.up (by omega)) (by first | omega | assumption) (fillf (w := fun _ => 536870912) hrow rfl) (fun a h1 => (am_up_nk (by omega)).trans (hoth a h1)) (RAg.cg2 hA1 (fun o h1 => (am_up_o (by omega))) (fun k h1 => (congrFun (am_up_o (by omega)) _))) (fun k h1 => ((congrFun (am_up_o (by omega)) _).trans (hfA k (by omega)))) (fun o h1 => ((am_up_o (by omega)).trans (hkA _ (by omega))))
  exact hL2 _ 0 μ rfl Fr.rf (by first | omega | assumption) (fun j h1 h2 => by omega) (fun a h1 => rfl) hA (fun k h1 => rfl) (fun o h1 => rfl)

set_option maxRecDepth 100000 in
set_option maxHeartbeats 4000000 in
theorem s_X8_laysSmooth (X : AX) (DD : Int → GDt) (F : Int → Int) (n : Int) (ng : Int) (μ : Mu) (hA : RAg DD F ng μ) (hn : 0 ≤ n ∧ n ≤ 120) : Wp (GG X) M_X8_laysSmooth 0 [(2, 45), (0, n), (9, 0), (9, 0), (9, 0), (9, 0), (9, 0)] [] μ (qI 0 fun z μ' => (Fr 45 45 57 73 μ' μ) ∧ ((z = 0 ∧ ¬ smT 536870912 DD n ng < 536870912) ∨ (z = 1 ∧ smT 536870912 DD n ng < 536870912 ∧ SMR DD n ng ng (μ' 72) (μ' 73))) ∧ (μ' 45 64 = smT 536870912 DD n ng) ∧ (RAg DD F ng μ') ∧ (∀ k : Int, (¬ k = 21 ∧ ¬ k = 22 ∧ ¬ k = 23 ∧ ¬ k = 24 ∧ ¬ k = 29 ∧ ¬ k = 64) → μ' 45 k = μ 45 k) ∧ (∀ o : Int, 62 ≤ o ∧ o ≤ 70 → μ' o = μ o)) := by
  have hr := hA.r
  have hdd := hA.dd
  have hst := smT_t (n := n) hdd (by omega)
  refine w_aload_n dX8_laysSmooth_0 rfl rfl (by first | decide | omega) ?_
  refine w_getIx (o := 45) (f := 17) (x := ng) fX8_laysSmooth_1 rfl rfl (Nat.le_of_ble_eq_true rfl) rfl hA.n ?_
  have hr1 := hA.r
  refine w_iconst dX8_laysSmooth_4 ?_
  refine w_isub dX8_laysSmooth_5 ?_
  refine w_istore_n (ls' := [(2, 45), (0, n), (0, ng - 1), (9, 0), (9, 0), (9, 0), (9, 0)]) dX8_laysSmooth_6 rfl (Nat.le_of_ble_eq_true rfl) rfl rfl ?_
  have hL7 : ∀ (n7 : Nat) (g : Int) (μ1 : Mu), (g + 1).toNat = n7 → Fr 45 45 57 71 μ1 μ → (-1 ≤ g ∧ g < ng) → (ON DD n ng (g + 1) (μ1 71)) → (RAg DD F ng μ1) → (∀ k : Int, (¬ k = 21 ∧ ¬ k = 22 ∧ ¬ k = 23 ∧ ¬ k = 24 ∧ ¬ k = 29) → μ1 45 k = μ 45 k) → (∀ o : Int, 62 ≤ o ∧ o ≤ 70 → μ1 o = μ o) → Wp (GG X) M_X8_laysSmooth 7 [(2, 45), (0, n), (0, g), (9, 0), (9, 0), (9, 0), (9, 0)] [] μ1 (qI 0 fun z μ' => (Fr 45 45 57 73 μ' μ) ∧ ((z = 0 ∧ ¬ smT 536870912 DD n ng < 536870912) ∨ (z = 1 ∧ smT 536870912 DD n ng < 536870912 ∧ SMR DD n ng ng (μ' 72) (μ' 73))) ∧ (μ' 45 64 = smT 536870912 DD n ng) ∧ (RAg DD F ng μ') ∧ (∀ k : Int, (¬ k = 21 ∧ ¬ k = 22 ∧ ¬ k = 23 ∧ ¬ k = 24 ∧ ¬ k = 29 ∧ ¬ k = 64) → μ' 45 k = μ 45 k) ∧ (∀ o : Int, 62 ≤ o ∧ o ≤ 70 → μ' o = μ o)) := by
    intro n7
    induction n7 using Nat.strongRecOn with
    | ind n7 ih7 =>
      intro g μ1 hn7 hF7 hg0 ho hA1 hfA hkA
      refine w_iload_n dX8_laysSmooth_7 rfl rfl ?_
      refine w_if_lt (tgt := 23) dX8_laysSmooth_8 rfl (R32.in (by omega)) (fun c8 => ?_) (fun c8 => ?_)
      · skip
        have ho9 : ON DD n ng 0 (μ1 71) := by have e : g + 1 = 0 := (by omega); rw [e] at ho; exact ho
        refine w_aload_n dX8_laysSmooth_23 rfl rfl (by first | decide | omega) ?_
        refine w_aload_n dX8_laysSmooth_24 rfl rfl (by first | decide | omega) ?_
        refine w_iconst dX8_laysSmooth_25 ?_
        refine w_iconst dX8_laysSmooth_26 ?_
        refine w_bipush dX8_laysSmooth_27 (by decide) ?_
        refine w_callVP (o := 45) (ci := 8) (as := [(0, 0), (0, 0), (0, 120)]) (rest := [(2, 45)]) (k := 2) fX8_laysSmooth_29 rfl rfl rfl rfl rfl rfl rfl rfl (Nat.le_of_ble_eq_true rfl) (s_X8_leastOn X DD F n ng 0 0 120 μ1 hA1 ho9 (by first | omega | assumption) (by first | omega | assumption) (by first | omega | assumption)) ?_
        have hf2 := lsO_r DD n ng 0 0 120 (by assumption) (by omega)
        refine Wp.topE (b := smT 536870912 DD n ng) (lsO_0 hdd (by omega)) ?_
        refine w_putI (o := 45) (f := 64) fX8_laysSmooth_32 rfl rfl rfl rfl rfl ?_
        refine w_aload_n dX8_laysSmooth_35 rfl rfl (by first | decide | omega) ?_
        refine w_getIx (o := 45) (f := 64) (x := smT 536870912 DD n ng) fX8_laysSmooth_36 rfl rfl (Nat.le_of_ble_eq_true rfl) rfl am_up_at ?_
        refine w_ldcw (n := 536870912) dX8_laysSmooth_39 k_1924 (by decide) ?_
        refine w_icmp_lt (tgt := 47) dX8_laysSmooth_42 rfl (R32.in (by omega)) (R32.in (by decide)) (fun c42 => ?_) (fun c42 => ?_)
        · skip
          refine w_aload_n dX8_laysSmooth_47 rfl rfl (by first | decide | omega) ?_
          refine w_getIx (o := 45) (f := 64) (x := smT 536870912 DD n ng) fX8_laysSmooth_48 rfl rfl (Nat.le_of_ble_eq_true rfl) rfl am_up_at ?_
          refine w_istore_n (ls' := [(2, 45), (0, n), (0, smT 536870912 DD n ng), (9, 0), (9, 0), (9, 0), (9, 0)]) dX8_laysSmooth_51 rfl (Nat.le_of_ble_eq_true rfl) rfl rfl ?_
          refine w_iconst dX8_laysSmooth_52 ?_
          refine w_istore_n (ls' := [(2, 45), (0, n), (0, smT 536870912 DD n ng), (0, 0), (9, 0), (9, 0), (9, 0)]) dX8_laysSmooth_53 rfl (Nat.le_of_ble_eq_true rfl) rfl rfl ?_
          have hL54 : ∀ (n54 : Nat) (left : Int) (g : Int) (μ2 : Mu), (ng - g).toNat = n54 → Fr 45 45 57 73 μ2 μ → (0 ≤ g ∧ g ≤ ng) → (SMI DD n ng g left (μ2 73)) → (SMR DD n ng g (μ2 72) (μ2 73)) → (ON DD n ng 0 (μ2 71)) → (μ2 45 64 = smT 536870912 DD n ng) → (RAg DD F ng μ2) → (∀ k : Int, (¬ k = 21 ∧ ¬ k = 22 ∧ ¬ k = 23 ∧ ¬ k = 24 ∧ ¬ k = 29 ∧ ¬ k = 64) → μ2 45 k = μ 45 k) → (∀ o : Int, 62 ≤ o ∧ o ≤ 70 → μ2 o = μ o) → Wp (GG X) M_X8_laysSmooth 54 [(2, 45), (0, n), (0, left), (0, g), (9, 0), (9, 0), (9, 0)] [] μ2 (qI 0 fun z μ' => (Fr 45 45 57 73 μ' μ) ∧ ((z = 0 ∧ ¬ smT 536870912 DD n ng < 536870912) ∨ (z = 1 ∧ smT 536870912 DD n ng < 536870912 ∧ SMR DD n ng ng (μ' 72) (μ' 73))) ∧ (μ' 45 64 = smT 536870912 DD n ng) ∧ (RAg DD F ng μ') ∧ (∀ k : Int, (¬ k = 21 ∧ ¬ k = 22 ∧ ¬ k = 23 ∧ ¬ k = 24 ∧ ¬ k = 29 ∧ ¬ k = 64) → μ' 45 k = μ 45 k) ∧ (∀ o : Int, 62 ≤ o ∧ o ≤ 70 → μ' o = μ o)) := by
            intro n54
            induction n54 using Nat.strongRecOn with
            | ind n54 ih54 =>
              intro left g μ2 hn54 hF54 hg1 hSM hSR ho2 h642 hA3 hfB hkB
              have hl9 := hSM.1
              refine w_iload_n dX8_laysSmooth_54 rfl rfl ?_
              refine w_aload_n dX8_laysSmooth_55 rfl rfl (by first | decide | omega) ?_
              refine w_getIx (o := 45) (f := 17) (x := ng) fX8_laysSmooth_56 rfl rfl (Nat.le_of_ble_eq_true rfl) rfl hA3.n ?_
              have hr3 := hA3.r
              have hr4 := hA.r
              refine w_icmp_ge (tgt := 225) dX8_laysSmooth_59 rfl (R32.in (by omega)) (R32.in (by omega)) (fun c59 => ?_) (fun c59 => ?_)
              · skip
                refine w_iconst dX8_laysSmooth_225 ?_
                exact w_zretI dX8_laysSmooth_226 rfl (Or.inr rfl) ⟨hF54, (by exact Or.inr ⟨rfl, c42, by have he : g = ng := (by omega); rw [he] at hSR; exact hSR⟩), (h642.trans (by rfl)), hA3, (fun k h1 => (hfB k (by omega))), (fun o h1 => (hkB _ (by omega)))⟩
              · skip
                refine w_aload_n dX8_laysSmooth_62 rfl rfl (by first | decide | omega) ?_
                refine w_iload_n dX8_laysSmooth_63 rfl rfl ?_
                refine w_callVV (o := 45) (ci := 8) (as := [(0, g)]) (rest := []) (k := 2) fX8_laysSmooth_64 rfl rfl rfl rfl rfl rfl rfl rfl (Nat.le_of_ble_eq_true rfl) (s_X8_laysSets X (DD g) (F g) g μ2 (hA3.gp (by omega))) (fun μS hμS => ?_)
                obtain ⟨hFS, hS_S, hf_S⟩ := hμS
                have hcc := hS_S.c
                have hok := hdd g (by omega) (by omega)
                have hoS : ON DD n ng (g + 1) (μS 71) := fun g9 h1 h2 => by rw [hFS.at (by omega) (by omega)]; exact ho2 g9 (by omega) h2
                have hcr := hSM.2.2
                have hc0 : g = 0 → chR DD n ng g = 0 := fun e => by rw [e]; exact chR_0
                have hb73 : 0 < g → -60 ≤ μ2 73 (g - 1) ∧ μ2 73 (g - 1) ≤ 60 := fun q => by obtain ⟨i9, hi9, he9, -⟩ := hSR (g - 1) (by omega) (by omega); have := sq_r (hdd (g - 1) (by omega) (by omega)) hi9; rw [he9] at this; exact this.2.1
                refine w_iconst dX8_laysSmooth_67 ?_
                refine w_istore (ls' := [(2, 45), (0, n), (0, left), (0, g), (0, -1), (9, 0), (9, 0)]) dX8_laysSmooth_68 (Nat.le_of_ble_eq_true rfl) rfl rfl ?_
                refine w_iconst dX8_laysSmooth_70 ?_
                refine w_istore (ls' := [(2, 45), (0, n), (0, left), (0, g), (0, -1), (0, 0), (9, 0)]) dX8_laysSmooth_71 (Nat.le_of_ble_eq_true rfl) rfl rfl ?_
                have hL73 : ∀ (n73 : Nat) (b : Int) (k : Int), (nS (DD g) - k).toNat = n73 → (0 ≤ k ∧ k ≤ nS (DD g)) → (-1 ≤ b ∧ (b < k ∨ b = -1)) → (chQ (DD g) (bhI 536870912 DD n ng (g + 1)) (chR DD n ng g) (if g = 0 then 121 else n) left k b) → Wp (GG X) M_X8_laysSmooth 73 [(2, 45), (0, n), (0, left), (0, g), (0, b), (0, k), (9, 0)] [] μS (qI 0 fun z μ' => (Fr 45 45 57 73 μ' μ) ∧ ((z = 0 ∧ ¬ smT 536870912 DD n ng < 536870912) ∨ (z = 1 ∧ smT 536870912 DD n ng < 536870912 ∧ SMR DD n ng ng (μ' 72) (μ' 73))) ∧ (μ' 45 64 = smT 536870912 DD n ng) ∧ (RAg DD F ng μ') ∧ (∀ k : Int, (¬ k = 21 ∧ ¬ k = 22 ∧ ¬ k = 23 ∧ ¬ k = 24 ∧ ¬ k = 29 ∧ ¬ k = 64) → μ' 45 k = μ 45 k) ∧ (∀ o : Int, 62 ≤ o ∧ o ≤ 70 → μ' o = μ o)) := by
                  intro n73
                  induction n73 using Nat.strongRecOn with
                  | ind n73 ih73 =>
                    intro b k hn73 hk0 hbr hq
                    refine w_iload dX8_laysSmooth_73 rfl ?_
                    refine w_aload_n dX8_laysSmooth_75 rfl rfl (by first | decide | omega) ?_
                    refine w_getIx (o := 45) (f := 29) (x := nS (DD g)) fX8_laysSmooth_76 rfl rfl (Nat.le_of_ble_eq_true rfl) rfl hS_S.2.1.1 ?_
                    have hr6 := hS_S.c
                    refine w_icmp_ge (tgt := 183) dX8_laysSmooth_79 rfl (R32.in (by omega)) (R32.in (by omega)) (fun c79 => ?_) (fun c79 => ?_)
                    · skip
                      have he : nS (DD g) = k := (by omega)
                      have hz9 := chI_g (n := n) hdd (show smT 1000000000 DD n ng < 1000000000 by omega) (show 0 ≤ g ∧ g < ng by omega)
                      have hct := ch_two hok (fun r _ _ => bh_t hdd hr.2 (by omega) r) (hSM.2.1 (by omega)) hSM.1.2 hz9 (by rw [he]; exact hq)
                      have hsb := squ_r hok hct.1
                      refine w_aload_n dX8_laysSmooth_183 rfl rfl (by first | decide | omega) ?_
                      refine w_getR (o := 45) (x := 72) fX8_laysSmooth_184 rfl rfl rfl rfl ?_
                      refine w_iload_n dX8_laysSmooth_187 rfl rfl ?_
                      refine w_aload_n dX8_laysSmooth_188 rfl rfl (by first | decide | omega) ?_
                      refine w_getR (o := 45) (x := 58) fX8_laysSmooth_189 rfl rfl rfl rfl ?_
                      refine w_iload dX8_laysSmooth_192 rfl ?_
                      refine w_ialdx (o := 58) (n := 2100) (x := (sq (DD g) b).1) dX8_laysSmooth_194 rfl rfl (Nat.le_of_ble_eq_true rfl) (by omega) (hS_S.2.2.1 _ (by omega) (by omega)) ?_
                      have hr7 := (sq_r (hS_S.ok) (j := b) (by omega)).1
                      refine w_iast (o := 72) (n := 32) dX8_laysSmooth_195 rfl rfl (Nat.le_of_ble_eq_true rfl) (by omega) (by omega) ?_
                      refine w_aload_n dX8_laysSmooth_196 rfl rfl (by first | decide | omega) ?_
                      refine w_getR (o := 45) (x := 73) fX8_laysSmooth_197 rfl rfl rfl rfl ?_
                      refine w_iload_n dX8_laysSmooth_200 rfl rfl ?_
                      refine w_aload_n dX8_laysSmooth_201 rfl rfl (by first | decide | omega) ?_
                      refine w_getR (o := 45) (x := 59) fX8_laysSmooth_202 rfl rfl rfl rfl ?_
                      refine w_iload dX8_laysSmooth_205 rfl ?_
                      refine w_ialdx (o := 59) (n := 2100) (x := (sq (DD g) b).2) dX8_laysSmooth_207 rfl rfl (Nat.le_of_ble_eq_true rfl) (by omega) ((congrFun (am_up_o (by first | decide | omega)) _).trans (hS_S.2.2.2.1 _ (by omega) (by omega))) ?_
                      have hr8 := (sq_r (hS_S.ok) (j := b) (by omega)).2
                      refine w_iast (o := 73) (n := 32) dX8_laysSmooth_208 rfl rfl (Nat.le_of_ble_eq_true rfl) (by omega) (by omega) ?_
                      refine w_iload_n dX8_laysSmooth_209 rfl rfl ?_
                      refine w_aload_n dX8_laysSmooth_210 rfl rfl (by first | decide | omega) ?_
                      refine w_getR (o := 45) (x := 60) fX8_laysSmooth_211 rfl rfl rfl rfl ?_
                      refine w_iload dX8_laysSmooth_214 rfl ?_
                      refine w_ialdx (o := 60) (n := 2100) (x := squ (DD g) b) dX8_laysSmooth_216 rfl rfl (Nat.le_of_ble_eq_true rfl) (by omega) ((congrFun (am_up_o (by first | decide | omega)) _).trans ((congrFun (am_up_o (by first | decide | omega)) _).trans (hS_S.2.2.2.2.1 _ (by omega) (by omega)))) ?_
                      have hr9 := (squ_r (hS_S.ok) (j := b) (by omega))
                      refine w_isub dX8_laysSmooth_217 ?_
                      refine w_istore_n (ls' := [(2, 45), (0, n), (0, left - (squ (DD g) b)), (0, g), (0, b), (0, k), (9, 0)]) dX8_laysSmooth_218 rfl (Nat.le_of_ble_eq_true rfl) rfl rfl ?_
                      refine w_iinc (ls' := [(2, 45), (0, n), (0, left - (squ (DD g) b)), (0, g + 1), (0, b), (0, k), (9, 0)]) dX8_laysSmooth_219 rfl (Nat.le_of_ble_eq_true rfl) rfl rfl ?_
                      refine w_goto (tgt := 54) dX8_laysSmooth_222 rfl ?_
                      refine Wp.fgl (ls' := [(2, 45), (0, n), (0, left - (squ (DD g) b)), (0, g + 1), (9, 0), (0, k), (9, 0)]) 4 rfl ?_
                      refine Wp.fgl (ls' := [(2, 45), (0, n), (0, left - (squ (DD g) b)), (0, g + 1), (9, 0), (9, 0), (9, 0)]) 5 rfl ?_
                      exact ih54 _ (by omega) (left - (squ (DD g) b)) (g + 1) (am_up (am_up μS 72 g ((sq (DD g) b).1)) 73 g ((sq (DD g) b).2)) rfl ((((hFS.wd (by omega) (by omega)).tr hF54).up (by omega)).up (by omega)) (by first | omega | assumption) (SMI_s hdd (by omega) hSM hct.1 hct.2.1 hct.2.2 rfl am_up_at) (SMR_s hSR hg1.1 hct.1 hct.2.1 (fun j => (congrFun (am_up_o (by omega)) _).trans (up_if.trans (by rw [hFS.at (by omega) (by omega)]))) (fun j => up_if.trans (by rw [am_up_o (by omega), hFS.at (by omega) (by omega)]))) (ON_cg ho2 (fun a h1 => (congrFun (am_up_o (by omega)) _).trans ((congrFun (am_up_o (by omega)) _).trans (congrFun (hFS.at (by omega) (by omega)) _)))) (((congrFun (am_up_o (by first | decide | omega)) _).trans ((congrFun (am_up_o (by first | decide | omega)) _).trans ((hf_S _ (by omega)).trans h642))).trans (by rfl)) (RAg.cg2 hA3 (fun o h1 => ((am_up_o (by omega)).trans ((am_up_o (by omega)).trans (hFS.at (by omega) (by omega))))) (fun k h1 => ((congrFun (am_up_o (by omega)) _).trans ((congrFun (am_up_o (by omega)) _).trans (hf_S _ (by omega)))))) (fun k h1 => ((congrFun (am_up_o (by omega)) _).trans ((congrFun (am_up_o (by omega)) _).trans ((hf_S k (by omega)).trans (hfB k (by omega)))))) (fun o h1 => ((am_up_o (by omega)).trans ((am_up_o (by omega)).trans ((hFS.at (by omega) (by omega)).trans (hkB _ (by omega))))))
                    · skip
                      have hsr := sq_r hok (j := k) (by omega)
                      have hsu := squ_r hok (j := k) (by omega)
                      have hab1 := ab_f ((sq (DD g) k).1 - chR DD n ng g)
                      have hbb := bhI_b (B := 536870912) (n := n) (g := g + 1) (by omega) hdd (by omega) (sq (DD g) k).2
                      refine w_iload_n dX8_laysSmooth_82 rfl rfl ?_
                      refine w_if_eq (tgt := 109) dX8_laysSmooth_83 rfl (R32.in (by omega)) (fun c83 => ?_) (fun c83 => ?_)
                      · skip
                        refine w_iconst dX8_laysSmooth_109 ?_
                        refine w_goto (tgt := 114) dX8_laysSmooth_110 rfl ?_
                        refine w_istore (ls' := [(2, 45), (0, n), (0, left), (0, g), (0, b), (0, k), (0, 1)]) dX8_laysSmooth_114 (Nat.le_of_ble_eq_true rfl) rfl rfl ?_
                        refine w_iload dX8_laysSmooth_116 rfl ?_
                        refine w_if_eq (tgt := 177) dX8_laysSmooth_118 rfl (R32.in (by decide)) (fun c118 => ?_) (fun c118 => ?_)
                        · skip
                          refine w_iinc (ls' := [(2, 45), (0, n), (0, left), (0, g), (0, b), (0, k + 1), (0, 1)]) dX8_laysSmooth_177 rfl (Nat.le_of_ble_eq_true rfl) rfl rfl ?_
                          refine w_goto (tgt := 73) dX8_laysSmooth_180 rfl ?_
                          refine Wp.fgl (ls' := [(2, 45), (0, n), (0, left), (0, g), (0, b), (0, k + 1), (9, 0)]) 6 rfl ?_
                          exact ih73 _ (by omega) b (k + 1) rfl (by first | omega | assumption) (by omega) (by first | exact chQ_no hq (fun q => by have q1 := q.1; have q2 := q.2; omega) | exact chQ_take hq (by omega) (show cdE _ _ _ _ _ _ from ⟨by omega, by omega⟩) (by omega) | exact chQ_keep hq (by omega) (by omega))
                        · skip
                          refine w_aload_n dX8_laysSmooth_121 rfl rfl (by first | decide | omega) ?_
                          refine w_getR (o := 45) (x := 60) fX8_laysSmooth_122 rfl rfl rfl rfl ?_
                          refine w_iload dX8_laysSmooth_125 rfl ?_
                          refine w_ialdx (o := 60) (n := 2100) (x := squ (DD g) k) dX8_laysSmooth_127 rfl rfl (Nat.le_of_ble_eq_true rfl) (by omega) (hS_S.2.2.2.2.1 _ (by omega) (by omega)) ?_
                          have hr10 := (squ_r (hS_S.ok) (j := k) (by omega))
                          refine w_aload_n dX8_laysSmooth_128 rfl rfl (by first | decide | omega) ?_
                          refine w_iload_n dX8_laysSmooth_129 rfl rfl ?_
                          refine w_iconst dX8_laysSmooth_130 ?_
                          refine w_iadd dX8_laysSmooth_131 ?_
                          refine w_aload_n dX8_laysSmooth_132 rfl rfl (by first | decide | omega) ?_
                          refine w_getR (o := 45) (x := 59) fX8_laysSmooth_133 rfl rfl rfl rfl ?_
                          refine w_iload dX8_laysSmooth_136 rfl ?_
                          refine w_ialdx (o := 59) (n := 2100) (x := (sq (DD g) k).2) dX8_laysSmooth_138 rfl rfl (Nat.le_of_ble_eq_true rfl) (by omega) (hS_S.2.2.2.1 _ (by omega) (by omega)) ?_
                          have hr11 := (sq_r (hS_S.ok) (j := k) (by omega)).2
                          refine w_iload_n dX8_laysSmooth_139 rfl rfl ?_
                          refine w_callVP (o := 45) (ci := 8) (as := [(0, g + 1), (0, (sq (DD g) k).2), (0, n)]) (rest := [(0, squ (DD g) k)]) (k := 2) fX8_laysSmooth_140 rfl rfl rfl rfl rfl rfl rfl rfl (Nat.le_of_ble_eq_true rfl) (s_X8_leastOn X DD F n ng (g + 1) ((sq (DD g) k).2) n μS (RAg.cg2 hA3 (fun o h1 => (hFS.at (by omega) (by omega))) (fun k h1 => (hf_S _ (by omega)))) hoS (by first | omega | assumption) hsr.2.1 (by first | omega | assumption)) ?_
                          have hf12 := lsO_r DD n ng (g + 1) ((sq (DD g) k).2) n (by assumption) (by omega)
                          refine Wp.topE (b := bhI 536870912 DD n ng (g + 1) (sq (DD g) k).2) (lsO_bh (by omega)) ?_
                          refine w_iadd dX8_laysSmooth_143 ?_
                          refine w_iload_n dX8_laysSmooth_144 rfl rfl ?_
                          refine w_icmp_eq (tgt := 151) dX8_laysSmooth_145 rfl (R32.in (by omega)) (R32.in (by omega)) (fun c145 => ?_) (fun c145 => ?_)
                          · skip
                            refine w_iload dX8_laysSmooth_151 rfl ?_
                            refine w_iconst dX8_laysSmooth_153 ?_
                            refine w_icmp_eq (tgt := 168) dX8_laysSmooth_154 rfl (R32.in (by omega)) (R32.in (by decide)) (fun c154 => ?_) (fun c154 => ?_)
                            · skip
                              refine w_iload dX8_laysSmooth_168 rfl ?_
                              refine w_goto (tgt := 175) dX8_laysSmooth_170 rfl ?_
                              refine w_istore (ls' := [(2, 45), (0, n), (0, left), (0, g), (0, k), (0, k), (0, 1)]) dX8_laysSmooth_175 (Nat.le_of_ble_eq_true rfl) rfl rfl ?_
                              refine w_iinc (ls' := [(2, 45), (0, n), (0, left), (0, g), (0, k), (0, k + 1), (0, 1)]) dX8_laysSmooth_177 rfl (Nat.le_of_ble_eq_true rfl) rfl rfl ?_
                              refine w_goto (tgt := 73) dX8_laysSmooth_180 rfl ?_
                              refine Wp.fgl (ls' := [(2, 45), (0, n), (0, left), (0, g), (0, k), (0, k + 1), (9, 0)]) 6 rfl ?_
                              exact ih73 _ (by omega) k (k + 1) rfl (by first | omega | assumption) (by omega) (by first | exact chQ_no hq (fun q => by have q1 := q.1; have q2 := q.2; omega) | exact chQ_take hq (by omega) (show cdE _ _ _ _ _ _ from ⟨by omega, by omega⟩) (by omega) | exact chQ_keep hq (by omega) (by omega))
                            · skip
                              refine w_aload_n dX8_laysSmooth_157 rfl rfl (by first | decide | omega) ?_
                              refine w_iload dX8_laysSmooth_158 rfl ?_
                              refine w_iload dX8_laysSmooth_160 rfl ?_
                              refine w_callVP (o := 45) (ci := 8) (as := [(0, k), (0, b)]) (rest := []) (k := 1) fX8_laysSmooth_162 rfl rfl rfl rfl rfl rfl rfl rfl (Nat.le_of_ble_eq_true rfl) (s_X8_isBefore X (DD g) (F g) k b μS hS_S (by first | omega | assumption) (by first | omega | assumption)) ?_
                              have hf13 := am_b_r (keyq (DD g) (sq (DD g) k) < keyq (DD g) (sq (DD g) b))
                              refine w_if_eq (tgt := 173) dX8_laysSmooth_165 rfl (R32.in (by have := am_b_r ((keyq (DD g) (sq (DD g) k) < keyq (DD g) (sq (DD g) b))); omega)) (fun c165 => ?_) (fun c165 => ?_)
                              · skip
                                replace c165 := am_b0 c165
                                refine w_iload dX8_laysSmooth_173 rfl ?_
                                refine w_istore (ls' := [(2, 45), (0, n), (0, left), (0, g), (0, b), (0, k), (0, 1)]) dX8_laysSmooth_175 (Nat.le_of_ble_eq_true rfl) rfl rfl ?_
                                refine w_iinc (ls' := [(2, 45), (0, n), (0, left), (0, g), (0, b), (0, k + 1), (0, 1)]) dX8_laysSmooth_177 rfl (Nat.le_of_ble_eq_true rfl) rfl rfl ?_
                                refine w_goto (tgt := 73) dX8_laysSmooth_180 rfl ?_
                                refine Wp.fgl (ls' := [(2, 45), (0, n), (0, left), (0, g), (0, b), (0, k + 1), (9, 0)]) 6 rfl ?_
                                exact ih73 _ (by omega) b (k + 1) rfl (by first | omega | assumption) (by omega) (by first | exact chQ_no hq (fun q => by have q1 := q.1; have q2 := q.2; omega) | exact chQ_take hq (by omega) (show cdE _ _ _ _ _ _ from ⟨by omega, by omega⟩) (by omega) | exact chQ_keep hq (by omega) (by omega))
                              · skip
                                replace c165 := am_b1 c165
                                refine w_iload dX8_laysSmooth_168 rfl ?_
                                refine w_goto (tgt := 175) dX8_laysSmooth_170 rfl ?_
                                refine w_istore (ls' := [(2, 45), (0, n), (0, left), (0, g), (0, k), (0, k), (0, 1)]) dX8_laysSmooth_175 (Nat.le_of_ble_eq_true rfl) rfl rfl ?_
                                refine w_iinc (ls' := [(2, 45), (0, n), (0, left), (0, g), (0, k), (0, k + 1), (0, 1)]) dX8_laysSmooth_177 rfl (Nat.le_of_ble_eq_true rfl) rfl rfl ?_
                                refine w_goto (tgt := 73) dX8_laysSmooth_180 rfl ?_
                                refine Wp.fgl (ls' := [(2, 45), (0, n), (0, left), (0, g), (0, k), (0, k + 1), (9, 0)]) 6 rfl ?_
                                exact ih73 _ (by omega) k (k + 1) rfl (by first | omega | assumption) (by omega) (by first | exact chQ_no hq (fun q => by have q1 := q.1; have q2 := q.2; omega) | exact chQ_take hq (by omega) (show cdE _ _ _ _ _ _ from ⟨by omega, by omega⟩) (by omega) | exact chQ_keep hq (by omega) (by omega))
                          · skip
                            refine w_goto (tgt := 177) dX8_laysSmooth_148 rfl ?_
                            refine w_iinc (ls' := [(2, 45), (0, n), (0, left), (0, g), (0, b), (0, k + 1), (0, 1)]) dX8_laysSmooth_177 rfl (Nat.le_of_ble_eq_true rfl) rfl rfl ?_
                            refine w_goto (tgt := 73) dX8_laysSmooth_180 rfl ?_
                            refine Wp.fgl (ls' := [(2, 45), (0, n), (0, left), (0, g), (0, b), (0, k + 1), (9, 0)]) 6 rfl ?_
                            exact ih73 _ (by omega) b (k + 1) rfl (by first | omega | assumption) (by omega) (by first | exact chQ_no hq (fun q => by have q1 := q.1; have q2 := q.2; omega) | exact chQ_take hq (by omega) (show cdE _ _ _ _ _ _ from ⟨by omega, by omega⟩) (by omega) | exact chQ_keep hq (by omega) (by omega))
                      · skip
                        refine w_aload_n dX8_laysSmooth_86 rfl rfl (by first | decide | omega) ?_
                        refine w_getR (o := 45) (x := 58) fX8_laysSmooth_87 rfl rfl rfl rfl ?_
                        refine w_iload dX8_laysSmooth_90 rfl ?_
                        refine w_ialdx (o := 58) (n := 2100) (x := (sq (DD g) k).1) dX8_laysSmooth_92 rfl rfl (Nat.le_of_ble_eq_true rfl) (by omega) (hS_S.2.2.1 _ (by omega) (by omega)) ?_
                        have hr14 := (sq_r (hS_S.ok) (j := k) (by omega)).1
                        refine w_aload_n dX8_laysSmooth_93 rfl rfl (by first | decide | omega) ?_
                        refine w_getR (o := 45) (x := 73) fX8_laysSmooth_94 rfl rfl rfl rfl ?_
                        refine w_iload_n dX8_laysSmooth_97 rfl rfl ?_
                        refine w_iconst dX8_laysSmooth_98 ?_
                        refine w_isub dX8_laysSmooth_99 ?_
                        refine w_ialdx (o := 73) (n := 32) (x := μ2 73 (g - 1)) dX8_laysSmooth_100 rfl rfl (Nat.le_of_ble_eq_true rfl) (by omega) (congrFun (hFS.at (by omega) (by omega)) _) ?_
                        refine w_isub dX8_laysSmooth_101 ?_
                        refine w_callSP (as := [(0, ((sq (DD g) k).1) - (μ2 73 (g - 1)))]) (rest := []) (k := 0) fX8_laysSmooth_102 rfl rfl rfl rfl rfl (Nat.le_of_ble_eq_true rfl) (s_X8_far X (((sq (DD g) k).1) - (μ2 73 (g - 1))) μS (by first | omega | assumption)) ?_
                        have hf15 := ab_f (((sq (DD g) k).1) - (μ2 73 (g - 1)))
                        refine w_iload_n dX8_laysSmooth_105 rfl rfl ?_
                        refine w_icmp_gt (tgt := 113) dX8_laysSmooth_106 rfl (R32.in (by omega)) (R32.in (by omega)) (fun c106 => ?_) (fun c106 => ?_)
                        · skip
                          refine w_iconst dX8_laysSmooth_113 ?_
                          refine w_istore (ls' := [(2, 45), (0, n), (0, left), (0, g), (0, b), (0, k), (0, 0)]) dX8_laysSmooth_114 (Nat.le_of_ble_eq_true rfl) rfl rfl ?_
                          refine w_iload dX8_laysSmooth_116 rfl ?_
                          refine w_if_eq (tgt := 177) dX8_laysSmooth_118 rfl (R32.in (by decide)) (fun c118 => ?_) (fun c118 => ?_)
                          · skip
                            refine w_iinc (ls' := [(2, 45), (0, n), (0, left), (0, g), (0, b), (0, k + 1), (0, 0)]) dX8_laysSmooth_177 rfl (Nat.le_of_ble_eq_true rfl) rfl rfl ?_
                            refine w_goto (tgt := 73) dX8_laysSmooth_180 rfl ?_
                            refine Wp.fgl (ls' := [(2, 45), (0, n), (0, left), (0, g), (0, b), (0, k + 1), (9, 0)]) 6 rfl ?_
                            exact ih73 _ (by omega) b (k + 1) rfl (by first | omega | assumption) (by omega) (by first | exact chQ_no hq (fun q => by have q1 := q.1; have q2 := q.2; omega) | exact chQ_take hq (by omega) (show cdE _ _ _ _ _ _ from ⟨by omega, by omega⟩) (by omega) | exact chQ_keep hq (by omega) (by omega))
                          · skip
                            refine w_aload_n dX8_laysSmooth_121 rfl rfl (by first | decide | omega) ?_
                            refine w_getR (o := 45) (x := 60) fX8_laysSmooth_122 rfl rfl rfl rfl ?_
                            refine w_iload dX8_laysSmooth_125 rfl ?_
                            refine w_ialdx (o := 60) (n := 2100) (x := squ (DD g) k) dX8_laysSmooth_127 rfl rfl (Nat.le_of_ble_eq_true rfl) (by omega) (hS_S.2.2.2.2.1 _ (by omega) (by omega)) ?_
                            have hr16 := (squ_r (hS_S.ok) (j := k) (by omega))
                            refine w_aload_n dX8_laysSmooth_128 rfl rfl (by first | decide | omega) ?_
                            refine w_iload_n dX8_laysSmooth_129 rfl rfl ?_
                            refine w_iconst dX8_laysSmooth_130 ?_
                            refine w_iadd dX8_laysSmooth_131 ?_
                            refine w_aload_n dX8_laysSmooth_132 rfl rfl (by first | decide | omega) ?_
                            refine w_getR (o := 45) (x := 59) fX8_laysSmooth_133 rfl rfl rfl rfl ?_
                            refine w_iload dX8_laysSmooth_136 rfl ?_
                            refine w_ialdx (o := 59) (n := 2100) (x := (sq (DD g) k).2) dX8_laysSmooth_138 rfl rfl (Nat.le_of_ble_eq_true rfl) (by omega) (hS_S.2.2.2.1 _ (by omega) (by omega)) ?_
                            have hr17 := (sq_r (hS_S.ok) (j := k) (by omega)).2
                            refine w_iload_n dX8_laysSmooth_139 rfl rfl ?_
                            refine w_callVP (o := 45) (ci := 8) (as := [(0, g + 1), (0, (sq (DD g) k).2), (0, n)]) (rest := [(0, squ (DD g) k)]) (k := 2) fX8_laysSmooth_140 rfl rfl rfl rfl rfl rfl rfl rfl (Nat.le_of_ble_eq_true rfl) (s_X8_leastOn X DD F n ng (g + 1) ((sq (DD g) k).2) n μS (RAg.cg2 hA3 (fun o h1 => (hFS.at (by omega) (by omega))) (fun k h1 => (hf_S _ (by omega)))) hoS (by first | omega | assumption) hsr.2.1 (by first | omega | assumption)) ?_
                            have hf18 := lsO_r DD n ng (g + 1) ((sq (DD g) k).2) n (by assumption) (by omega)
                            refine Wp.topE (b := bhI 536870912 DD n ng (g + 1) (sq (DD g) k).2) (lsO_bh (by omega)) ?_
                            refine w_iadd dX8_laysSmooth_143 ?_
                            refine w_iload_n dX8_laysSmooth_144 rfl rfl ?_
                            refine w_icmp_eq (tgt := 151) dX8_laysSmooth_145 rfl (R32.in (by omega)) (R32.in (by omega)) (fun c145 => ?_) (fun c145 => ?_)
                            · skip
                              refine w_iload dX8_laysSmooth_151 rfl ?_
                              refine w_iconst dX8_laysSmooth_153 ?_
                              refine w_icmp_eq (tgt := 168) dX8_laysSmooth_154 rfl (R32.in (by omega)) (R32.in (by decide)) (fun c154 => ?_) (fun c154 => ?_)
                              · skip
                                refine w_iload dX8_laysSmooth_168 rfl ?_
                                refine w_goto (tgt := 175) dX8_laysSmooth_170 rfl ?_
                                refine w_istore (ls' := [(2, 45), (0, n), (0, left), (0, g), (0, k), (0, k), (0, 0)]) dX8_laysSmooth_175 (Nat.le_of_ble_eq_true rfl) rfl rfl ?_
                                refine w_iinc (ls' := [(2, 45), (0, n), (0, left), (0, g), (0, k), (0, k + 1), (0, 0)]) dX8_laysSmooth_177 rfl (Nat.le_of_ble_eq_true rfl) rfl rfl ?_
                                refine w_goto (tgt := 73) dX8_laysSmooth_180 rfl ?_
                                refine Wp.fgl (ls' := [(2, 45), (0, n), (0, left), (0, g), (0, k), (0, k + 1), (9, 0)]) 6 rfl ?_
                                exact ih73 _ (by omega) k (k + 1) rfl (by first | omega | assumption) (by omega) (by first | exact chQ_no hq (fun q => by have q1 := q.1; have q2 := q.2; omega) | exact chQ_take hq (by omega) (show cdE _ _ _ _ _ _ from ⟨by omega, by omega⟩) (by omega) | exact chQ_keep hq (by omega) (by omega))
                              · skip
                                refine w_aload_n dX8_laysSmooth_157 rfl rfl (by first | decide | omega) ?_
                                refine w_iload dX8_laysSmooth_158 rfl ?_
                                refine w_iload dX8_laysSmooth_160 rfl ?_
                                refine w_callVP (o := 45) (ci := 8) (as := [(0, k), (0, b)]) (rest := []) (k := 1) fX8_laysSmooth_162 rfl rfl rfl rfl rfl rfl rfl rfl (Nat.le_of_ble_eq_true rfl) (s_X8_isBefore X (DD g) (F g) k b μS hS_S (by first | omega | assumption) (by first | omega | assumption)) ?_
                                have hf19 := am_b_r (keyq (DD g) (sq (DD g) k) < keyq (DD g) (sq (DD g) b))
                                refine w_if_eq (tgt := 173) dX8_laysSmooth_165 rfl (R32.in (by have := am_b_r ((keyq (DD g) (sq (DD g) k) < keyq (DD g) (sq (DD g) b))); omega)) (fun c165 => ?_) (fun c165 => ?_)
                                · skip
                                  replace c165 := am_b0 c165
                                  refine w_iload dX8_laysSmooth_173 rfl ?_
                                  refine w_istore (ls' := [(2, 45), (0, n), (0, left), (0, g), (0, b), (0, k), (0, 0)]) dX8_laysSmooth_175 (Nat.le_of_ble_eq_true rfl) rfl rfl ?_
                                  refine w_iinc (ls' := [(2, 45), (0, n), (0, left), (0, g), (0, b), (0, k + 1), (0, 0)]) dX8_laysSmooth_177 rfl (Nat.le_of_ble_eq_true rfl) rfl rfl ?_
                                  refine w_goto (tgt := 73) dX8_laysSmooth_180 rfl ?_
                                  refine Wp.fgl (ls' := [(2, 45), (0, n), (0, left), (0, g), (0, b), (0, k + 1), (9, 0)]) 6 rfl ?_
                                  exact ih73 _ (by omega) b (k + 1) rfl (by first | omega | assumption) (by omega) (by first | exact chQ_no hq (fun q => by have q1 := q.1; have q2 := q.2; omega) | exact chQ_take hq (by omega) (show cdE _ _ _ _ _ _ from ⟨by omega, by omega⟩) (by omega) | exact chQ_keep hq (by omega) (by omega))
                                · skip
                                  replace c165 := am_b1 c165
                                  refine w_iload dX8_laysSmooth_168 rfl ?_
                                  refine w_goto (tgt := 175) dX8_laysSmooth_170 rfl ?_
                                  refine w_istore (ls' := [(2, 45), (0, n), (0, left), (0, g), (0, k), (0, k), (0, 0)]) dX8_laysSmooth_175 (Nat.le_of_ble_eq_true rfl) rfl rfl ?_
                                  refine w_iinc (ls' := [(2, 45), (0, n), (0, left), (0, g), (0, k), (0, k + 1), (0, 0)]) dX8_laysSmooth_177 rfl (Nat.le_of_ble_eq_true rfl) rfl rfl ?_
                                  refine w_goto (tgt := 73) dX8_laysSmooth_180 rfl ?_
                                  refine Wp.fgl (ls' := [(2, 45), (0, n), (0, left), (0, g), (0, k), (0, k + 1), (9, 0)]) 6 rfl ?_
                                  exact ih73 _ (by omega) k (k + 1) rfl (by first | omega | assumption) (by omega) (by first | exact chQ_no hq (fun q => by have q1 := q.1; have q2 := q.2; omega) | exact chQ_take hq (by omega) (show cdE _ _ _ _ _ _ from ⟨by omega, by omega⟩) (by omega) | exact chQ_keep hq (by omega) (by omega))
                            · skip
                              refine w_goto (tgt := 177) dX8_laysSmooth_148 rfl ?_
                              refine w_iinc (ls' := [(2, 45), (0, n), (0, left), (0, g), (0, b), (0, k + 1), (0, 0)]) dX8_laysSmooth_177 rfl (Nat.le_of_ble_eq_true rfl) rfl rfl ?_
                              refine w_goto (tgt := 73) dX8_laysSmooth_180 rfl ?_
                              refine Wp.fgl (ls' := [(2, 45), (0, n), (0, left), (0, g), (0, b), (0, k + 1), (9, 0)]) 6 rfl ?_
                              exact ih73 _ (by omega) b (k + 1) rfl (by first | omega | assumption) (by omega) (by first | exact chQ_no hq (fun q => by have q1 := q.1; have q2 := q.2; omega) | exact chQ_take hq (by omega) (show cdE _ _ _ _ _ _ from ⟨by omega, by omega⟩) (by omega) | exact chQ_keep hq (by omega) (by omega))
                        · skip
                          refine w_iconst dX8_laysSmooth_109 ?_
                          refine w_goto (tgt := 114) dX8_laysSmooth_110 rfl ?_
                          refine w_istore (ls' := [(2, 45), (0, n), (0, left), (0, g), (0, b), (0, k), (0, 1)]) dX8_laysSmooth_114 (Nat.le_of_ble_eq_true rfl) rfl rfl ?_
                          refine w_iload dX8_laysSmooth_116 rfl ?_
                          refine w_if_eq (tgt := 177) dX8_laysSmooth_118 rfl (R32.in (by decide)) (fun c118 => ?_) (fun c118 => ?_)
                          · skip
                            refine w_iinc (ls' := [(2, 45), (0, n), (0, left), (0, g), (0, b), (0, k + 1), (0, 1)]) dX8_laysSmooth_177 rfl (Nat.le_of_ble_eq_true rfl) rfl rfl ?_
                            refine w_goto (tgt := 73) dX8_laysSmooth_180 rfl ?_
                            refine Wp.fgl (ls' := [(2, 45), (0, n), (0, left), (0, g), (0, b), (0, k + 1), (9, 0)]) 6 rfl ?_
                            exact ih73 _ (by omega) b (k + 1) rfl (by first | omega | assumption) (by omega) (by first | exact chQ_no hq (fun q => by have q1 := q.1; have q2 := q.2; omega) | exact chQ_take hq (by omega) (show cdE _ _ _ _ _ _ from ⟨by omega, by omega⟩) (by omega) | exact chQ_keep hq (by omega) (by omega))
                          · skip
                            refine w_aload_n dX8_laysSmooth_121 rfl rfl (by first | decide | omega) ?_
                            refine w_getR (o := 45) (x := 60) fX8_laysSmooth_122 rfl rfl rfl rfl ?_
                            refine w_iload dX8_laysSmooth_125 rfl ?_
                            refine w_ialdx (o := 60) (n := 2100) (x := squ (DD g) k) dX8_laysSmooth_127 rfl rfl (Nat.le_of_ble_eq_true rfl) (by omega) (hS_S.2.2.2.2.1 _ (by omega) (by omega)) ?_
                            have hr20 := (squ_r (hS_S.ok) (j := k) (by omega))
                            refine w_aload_n dX8_laysSmooth_128 rfl rfl (by first | decide | omega) ?_
                            refine w_iload_n dX8_laysSmooth_129 rfl rfl ?_
                            refine w_iconst dX8_laysSmooth_130 ?_
                            refine w_iadd dX8_laysSmooth_131 ?_
                            refine w_aload_n dX8_laysSmooth_132 rfl rfl (by first | decide | omega) ?_
                            refine w_getR (o := 45) (x := 59) fX8_laysSmooth_133 rfl rfl rfl rfl ?_
                            refine w_iload dX8_laysSmooth_136 rfl ?_
                            refine w_ialdx (o := 59) (n := 2100) (x := (sq (DD g) k).2) dX8_laysSmooth_138 rfl rfl (Nat.le_of_ble_eq_true rfl) (by omega) (hS_S.2.2.2.1 _ (by omega) (by omega)) ?_
                            have hr21 := (sq_r (hS_S.ok) (j := k) (by omega)).2
                            refine w_iload_n dX8_laysSmooth_139 rfl rfl ?_
                            refine w_callVP (o := 45) (ci := 8) (as := [(0, g + 1), (0, (sq (DD g) k).2), (0, n)]) (rest := [(0, squ (DD g) k)]) (k := 2) fX8_laysSmooth_140 rfl rfl rfl rfl rfl rfl rfl rfl (Nat.le_of_ble_eq_true rfl) (s_X8_leastOn X DD F n ng (g + 1) ((sq (DD g) k).2) n μS (RAg.cg2 hA3 (fun o h1 => (hFS.at (by omega) (by omega))) (fun k h1 => (hf_S _ (by omega)))) hoS (by first | omega | assumption) hsr.2.1 (by first | omega | assumption)) ?_
                            have hf22 := lsO_r DD n ng (g + 1) ((sq (DD g) k).2) n (by assumption) (by omega)
                            refine Wp.topE (b := bhI 536870912 DD n ng (g + 1) (sq (DD g) k).2) (lsO_bh (by omega)) ?_
                            refine w_iadd dX8_laysSmooth_143 ?_
                            refine w_iload_n dX8_laysSmooth_144 rfl rfl ?_
                            refine w_icmp_eq (tgt := 151) dX8_laysSmooth_145 rfl (R32.in (by omega)) (R32.in (by omega)) (fun c145 => ?_) (fun c145 => ?_)
                            · skip
                              refine w_iload dX8_laysSmooth_151 rfl ?_
                              refine w_iconst dX8_laysSmooth_153 ?_
                              refine w_icmp_eq (tgt := 168) dX8_laysSmooth_154 rfl (R32.in (by omega)) (R32.in (by decide)) (fun c154 => ?_) (fun c154 => ?_)
                              · skip
                                refine w_iload dX8_laysSmooth_168 rfl ?_
                                refine w_goto (tgt := 175) dX8_laysSmooth_170 rfl ?_
                                refine w_istore (ls' := [(2, 45), (0, n), (0, left), (0, g), (0, k), (0, k), (0, 1)]) dX8_laysSmooth_175 (Nat.le_of_ble_eq_true rfl) rfl rfl ?_
                                refine w_iinc (ls' := [(2, 45), (0, n), (0, left), (0, g), (0, k), (0, k + 1), (0, 1)]) dX8_laysSmooth_177 rfl (Nat.le_of_ble_eq_true rfl) rfl rfl ?_
                                refine w_goto (tgt := 73) dX8_laysSmooth_180 rfl ?_
                                refine Wp.fgl (ls' := [(2, 45), (0, n), (0, left), (0, g), (0, k), (0, k + 1), (9, 0)]) 6 rfl ?_
                                exact ih73 _ (by omega) k (k + 1) rfl (by first | omega | assumption) (by omega) (by first | exact chQ_no hq (fun q => by have q1 := q.1; have q2 := q.2; omega) | exact chQ_take hq (by omega) (show cdE _ _ _ _ _ _ from ⟨by omega, by omega⟩) (by omega) | exact chQ_keep hq (by omega) (by omega))
                              · skip
                                refine w_aload_n dX8_laysSmooth_157 rfl rfl (by first | decide | omega) ?_
                                refine w_iload dX8_laysSmooth_158 rfl ?_
                                refine w_iload dX8_laysSmooth_160 rfl ?_
                                refine w_callVP (o := 45) (ci := 8) (as := [(0, k), (0, b)]) (rest := []) (k := 1) fX8_laysSmooth_162 rfl rfl rfl rfl rfl rfl rfl rfl (Nat.le_of_ble_eq_true rfl) (s_X8_isBefore X (DD g) (F g) k b μS hS_S (by first | omega | assumption) (by first | omega | assumption)) ?_
                                have hf23 := am_b_r (keyq (DD g) (sq (DD g) k) < keyq (DD g) (sq (DD g) b))
                                refine w_if_eq (tgt := 173) dX8_laysSmooth_165 rfl (R32.in (by have := am_b_r ((keyq (DD g) (sq (DD g) k) < keyq (DD g) (sq (DD g) b))); omega)) (fun c165 => ?_) (fun c165 => ?_)
                                · skip
                                  replace c165 := am_b0 c165
                                  refine w_iload dX8_laysSmooth_173 rfl ?_
                                  refine w_istore (ls' := [(2, 45), (0, n), (0, left), (0, g), (0, b), (0, k), (0, 1)]) dX8_laysSmooth_175 (Nat.le_of_ble_eq_true rfl) rfl rfl ?_
                                  refine w_iinc (ls' := [(2, 45), (0, n), (0, left), (0, g), (0, b), (0, k + 1), (0, 1)]) dX8_laysSmooth_177 rfl (Nat.le_of_ble_eq_true rfl) rfl rfl ?_
                                  refine w_goto (tgt := 73) dX8_laysSmooth_180 rfl ?_
                                  refine Wp.fgl (ls' := [(2, 45), (0, n), (0, left), (0, g), (0, b), (0, k + 1), (9, 0)]) 6 rfl ?_
                                  exact ih73 _ (by omega) b (k + 1) rfl (by first | omega | assumption) (by omega) (by first | exact chQ_no hq (fun q => by have q1 := q.1; have q2 := q.2; omega) | exact chQ_take hq (by omega) (show cdE _ _ _ _ _ _ from ⟨by omega, by omega⟩) (by omega) | exact chQ_keep hq (by omega) (by omega))
                                · skip
                                  replace c165 := am_b1 c165
                                  refine w_iload dX8_laysSmooth_168 rfl ?_
                                  refine w_goto (tgt := 175) dX8_laysSmooth_170 rfl ?_
                                  refine w_istore (ls' := [(2, 45), (0, n), (0, left), (0, g), (0, k), (0, k), (0, 1)]) dX8_laysSmooth_175 (Nat.le_of_ble_eq_true rfl) rfl rfl ?_
                                  refine w_iinc (ls' := [(2, 45), (0, n), (0, left), (0, g), (0, k), (0, k + 1), (0, 1)]) dX8_laysSmooth_177 rfl (Nat.le_of_ble_eq_true rfl) rfl rfl ?_
                                  refine w_goto (tgt := 73) dX8_laysSmooth_180 rfl ?_
                                  refine Wp.fgl (ls' := [(2, 45), (0, n), (0, left), (0, g), (0, k), (0, k + 1), (9, 0)]) 6 rfl ?_
                                  exact ih73 _ (by omega) k (k + 1) rfl (by first | omega | assumption) (by omega) (by first | exact chQ_no hq (fun q => by have q1 := q.1; have q2 := q.2; omega) | exact chQ_take hq (by omega) (show cdE _ _ _ _ _ _ from ⟨by omega, by omega⟩) (by omega) | exact chQ_keep hq (by omega) (by omega))
                            · skip
                              refine w_goto (tgt := 177) dX8_laysSmooth_148 rfl ?_
                              refine w_iinc (ls' := [(2, 45), (0, n), (0, left), (0, g), (0, b), (0, k + 1), (0, 1)]) dX8_laysSmooth_177 rfl (Nat.le_of_ble_eq_true rfl) rfl rfl ?_
                              refine w_goto (tgt := 73) dX8_laysSmooth_180 rfl ?_
                              refine Wp.fgl (ls' := [(2, 45), (0, n), (0, left), (0, g), (0, b), (0, k + 1), (9, 0)]) 6 rfl ?_
                              exact ih73 _ (by omega) b (k + 1) rfl (by first | omega | assumption) (by omega) (by first | exact chQ_no hq (fun q => by have q1 := q.1; have q2 := q.2; omega) | exact chQ_take hq (by omega) (show cdE _ _ _ _ _ _ from ⟨by omega, by omega⟩) (by omega) | exact chQ_keep hq (by omega) (by omega))
                exact hL73 _ (-1) 0 rfl (by first | omega | assumption) (by omega) chQ_0
          exact hL54 _ (smT 536870912 DD n ng) 0 (am_up μ1 45 64 (smT 536870912 DD n ng)) rfl ((hF7.wd (by omega) (by omega)).up (by omega)) (by first | omega | assumption) (SMI_0 hdd c42 (by omega) rfl) (fun j h1 h2 => by omega) (ON_cg ho9 (fun a h1 => congrFun (am_up_o (by omega)) _)) (am_up_at.trans (by rfl)) (RAg.cg2 hA1 (fun o h1 => (am_up_o (by omega))) (fun k h1 => (am_up_nk (by omega)))) (fun k h1 => ((am_up_nk (by omega)).trans (hfA k (by omega)))) (fun o h1 => ((am_up_o (by omega)).trans (hkA _ (by omega))))
        · skip
          refine w_iconst dX8_laysSmooth_45 ?_
          exact w_zretI dX8_laysSmooth_46 rfl (Or.inl rfl) ⟨((hF7.wd (by omega) (by omega)).up (by omega)), (by exact Or.inl ⟨rfl, by omega⟩), (am_up_at.trans (by rfl)), (RAg.cg2 hA1 (fun o h1 => (am_up_o (by omega))) (fun k h1 => (am_up_nk (by omega)))), (fun k h1 => ((am_up_nk (by omega)).trans (hfA k (by omega)))), (fun o h1 => ((am_up_o (by omega)).trans (hkA _ (by omega))))⟩
      · skip
        refine w_aload_n dX8_laysSmooth_11 rfl rfl (by first | decide | omega) ?_
        refine w_iload_n dX8_laysSmooth_12 rfl rfl ?_
        refine w_iload_n dX8_laysSmooth_13 rfl rfl ?_
        refine w_callVV (o := 45) (ci := 8) (as := [(0, g), (0, n)]) (rest := []) (k := 3) fX8_laysSmooth_14 rfl rfl rfl rfl rfl rfl rfl rfl (Nat.le_of_ble_eq_true rfl) (s_X8_laysOnward X DD F n ng g μ1 hA1 (by first | assumption | omega) (by first | omega | assumption) (by first | omega | assumption)) (fun μO hμO => ?_)
        obtain ⟨hFO, ho_O, hA2_O, hf_O, hkp_O⟩ := hμO
        refine w_iinc (ls' := [(2, 45), (0, n), (0, g + (-1)), (9, 0), (9, 0), (9, 0), (9, 0)]) dX8_laysSmooth_17 rfl (Nat.le_of_ble_eq_true rfl) rfl rfl ?_
        refine w_goto (tgt := 7) dX8_laysSmooth_20 rfl ?_
        exact ih7 _ (by omega) (g + (-1)) μO rfl ((hFO.wd (by omega) (by omega)).tr hF7) (by first | omega | assumption) (by rw [show g + -1 + 1 = g by omega]; exact ho_O) hA2_O (fun k h1 => ((hf_O k (by omega)).trans (hfA k (by omega)))) (fun o h1 => ((hkp_O _ (by omega)).trans (hkA _ (by omega))))
  exact hL7 _ (ng - 1) μ rfl Fr.rf (by first | omega | assumption) (ON_0 (by omega)) hA (fun k h1 => rfl) (fun o h1 => rfl)

set_option maxRecDepth 100000 in
set_option maxHeartbeats 4000000 in
theorem s_X8_smooth (X : AX) (p : Int) (n : Int) (w : Int) (μ : Mu) (hC : CJ μ p) (hJ : RJ μ p) (hn : -2147483648 ≤ n ∧ n ≤ 2147483647) (hw : -2147483648 ≤ w ∧ w ≤ 2147483647) : Wp (GG X) M_X8_smooth 0 [(2, 45), (0, n), (0, w), (9, 0)] [] μ (qI 0 fun z μ' => (Fr 45 45 57 73 μ' μ) ∧ (z = if (0 ≤ n ∧ n ≤ 120) ∧ 0 ≤ w ∧ w ≤ 1 then (if (smT 1000000000 (ddt μ p (p + 5) (μ p 3)) n (μ p 14)) < 1000000000 then (if w = 0 then (smT 1000000000 (ddt μ p (p + 5) (μ p 3)) n (μ p 14)) else (smT 1000000000 (ddt μ p (p + 5) (μ p 3)) n (μ p 14)) - (tst (ddt μ p (p + 5) (μ p 3)) (μ p 14)).1) else -2) else -1) ∧ (RJ μ' p) ∧ (∀ k : Int, (¬ k = 0 ∧ ¬ (21 ≤ k ∧ k ≤ 24) ∧ ¬ (29 ≤ k ∧ k ≤ 33) ∧ ¬ k = 64) → μ' 45 k = μ 45 k) ∧ (∀ o : Int, 62 ≤ o ∧ o ≤ 70 → μ' o = μ o)) := by
  have hI := hC.i
  have hG := hC.pg
  have hp := hI.at
  have hz := hI.sz
  have hgr := hG.gr
  have hkn := hC.kn
  have hRA := hJ.rag hC
  refine w_aload_n dX8_smooth_0 rfl rfl (by first | decide | omega) ?_
  refine w_iconst dX8_smooth_1 ?_
  refine w_putI (o := 45) (f := 0) fX8_smooth_2 rfl rfl rfl rfl rfl ?_
  have hF_μ4 : Fr 45 45 57 61 (am_up μ 45 0 0) μ := (Fr.rf.up (by omega))
  have hA4 : RAg (ddt μ p (p + 5) (μ p 3)) (μ (p + 9)) (μ p 14) (am_up μ 45 0 0) := (RAg.cg2 hRA (fun o h1 => (am_up_o (by omega))) (fun k h1 => (am_up_nk (by omega))))
  have hJ4 : RJ (am_up μ 45 0 0) p := (RJ.cg2 hJ (fun o h1 => (am_up_o (by omega))) (fun k h1 => (am_up_nk (by omega))))
  have hj4 : RJz (am_up μ 45 0 0) p := hJ4.j0
  have hC4 : CJ (am_up μ 45 0 0) p := (CJ.cg hC (fun o h1 => (am_up_o (by omega))))
  have h564 : ∀ j : Int, 0 ≤ j → j < μ p 7 → (am_up μ 45 0 0) 56 j = μ (p + 5) j := (fun j h1 h2 => ((congrFun (am_up_o (by omega)) _).trans ((fun j h1 h2 => hJ.ht ⟨h1, h2⟩) j h1 h2)))
  have h194 : (am_up μ 45 0 0) 45 19 = μ p 3 := (((am_up_nk (by omega)).trans hJ.f19).trans (by rfl))
  have hff4 : ∀ k : Int, ¬ k = 0 → (am_up μ 45 0 0) 45 k = μ 45 k := (fun k h1 => (am_up_nk (by omega)))
  refine Wp.mu (fun μ4 hμ4 => ?_)
  rw [← hμ4] at hF_μ4 hA4 hJ4 hj4 hC4 h564 h194 hff4
  clear hμ4
  have e4 : ∀ o : Int, p ≤ o ∧ o ≤ p + 10 → μ4 o = μ o := fun o h1 => hF_μ4.at (by omega) (by omega)
  have e47 : μ4 p 7 = μ p 7 := congrFun (e4 p (by omega)) _
  have e414 : μ4 p 14 = μ p 14 := congrFun (e4 p (by omega)) _
  refine w_iload_n dX8_smooth_5 rfl rfl ?_
  refine w_iconst dX8_smooth_6 ?_
  refine w_bipush dX8_smooth_7 (by decide) ?_
  refine w_callSP (as := [(0, n), (0, 0), (0, 120)]) (rest := []) (k := 0) fX8_smooth_9 rfl rfl rfl rfl rfl (Nat.le_of_ble_eq_true rfl) (s_X8_isIn X n 0 120 μ4 (by first | omega | assumption) (by first | omega | assumption) (by first | omega | assumption)) ?_
  have hf1 := am_b_r (0 ≤ n ∧ n ≤ 120)
  refine w_if_eq (tgt := 24) dX8_smooth_12 rfl (R32.in (by have := am_b_r ((0 ≤ n ∧ n ≤ 120)); omega)) (fun c12 => ?_) (fun c12 => ?_)
  · skip
    replace c12 := am_b0 c12
    refine w_iconst dX8_smooth_24 ?_
    exact w_iretI dX8_smooth_25 rfl ⟨(hF_μ4.wd (by omega) (by omega)), (by exact ifF (by omega) rfl), hJ4, (fun k h1 => (hff4 k (by omega))), (fun o h1 => (hF_μ4.at (by omega) (by omega)))⟩
  · skip
    replace c12 := am_b1 c12
    refine w_iload_n dX8_smooth_15 rfl rfl ?_
    refine w_iconst dX8_smooth_16 ?_
    refine w_iconst dX8_smooth_17 ?_
    refine w_callSP (as := [(0, w), (0, 0), (0, 1)]) (rest := []) (k := 0) fX8_smooth_18 rfl rfl rfl rfl rfl (Nat.le_of_ble_eq_true rfl) (s_X8_isIn X w 0 1 μ4 (by first | omega | assumption) (by first | omega | assumption) (by first | omega | assumption)) ?_
    have hf2 := am_b_r (0 ≤ w ∧ w ≤ 1)
    refine w_if_ne (tgt := 26) dX8_smooth_21 rfl (R32.in (by have := am_b_r ((0 ≤ w ∧ w ≤ 1)); omega)) (fun c21 => ?_) (fun c21 => ?_)
    · skip
      replace c21 := am_b1 c21
      have hdd := hRA.dd
      have hst := smT_t (n := n) hdd (by omega)
      refine w_aload_n dX8_smooth_26 rfl rfl (by first | decide | omega) ?_
      refine w_iload_n dX8_smooth_27 rfl rfl ?_
      refine w_callVI (o := 45) (ci := 8) (as := [(0, n)]) (rest := []) (k := 5) fX8_smooth_28 rfl rfl rfl rfl rfl rfl rfl rfl (Nat.le_of_ble_eq_true rfl) (s_X8_laysSmooth X (ddt μ p (p + 5) (μ p 3)) (μ (p + 9)) n (μ p 14) μ4 hA4 (by first | omega | assumption)) (fun xS μS hμS => ?_)
      obtain ⟨hFS, hz_S, h64_S, hA2_S, hf_S, hkp_S⟩ := hμS
      have hz01 : (xS = 0 ∧ ¬ smT 536870912 (ddt μ p (p + 5) (μ p 3)) n (μ p 14) < 536870912) ∨ (xS = 1 ∧ smT 536870912 (ddt μ p (p + 5) (μ p 3)) n (μ p 14) < 536870912) := hz_S.imp id (fun q => ⟨q.1, q.2.1⟩)
      refine w_if_ne (tgt := 37) dX8_smooth_31 rfl (R32.in (by omega)) (fun c31 => ?_) (fun c31 => ?_)
      · skip
        refine w_aload_n dX8_smooth_37 rfl rfl (by first | decide | omega) ?_
        refine w_getIx (o := 45) (f := 64) (x := μS 45 64) fX8_smooth_38 rfl rfl (Nat.le_of_ble_eq_true rfl) rfl rfl ?_
        refine w_istore_n (ls' := [(2, 45), (0, n), (0, w), (0, μS 45 64)]) dX8_smooth_41 rfl (Nat.le_of_ble_eq_true rfl) rfl rfl ?_
        refine w_iload_n dX8_smooth_42 rfl rfl ?_
        refine w_if_ne (tgt := 50) dX8_smooth_43 rfl (R32.in (by omega)) (fun c43 => ?_) (fun c43 => ?_)
        · skip
          refine w_iload_n dX8_smooth_50 rfl rfl ?_
          refine w_aload_n dX8_smooth_51 rfl rfl (by first | decide | omega) ?_
          refine w_iconst dX8_smooth_52 ?_
          have htr := tst_r hdd (μ p 14) (by omega) (by omega)
          refine w_callVI (o := 45) (ci := 8) (as := [(0, 0)]) (rest := [(0, μS 45 64)]) (k := 0) fX8_smooth_53 rfl rfl rfl rfl rfl rfl rfl rfl (Nat.le_of_ble_eq_true rfl) (s_X8_totalOf X (ddt μ p (p + 5) (μ p 3)) (μ (p + 9)) (μ p 14) 0 μS hA2_S (by first | omega | assumption)) (fun xT μT hμT => ?_)
          obtain ⟨hFT, hz_T, hA2_T, hf_T⟩ := hμT
          refine w_isub dX8_smooth_56 ?_
          exact w_iretI dX8_smooth_57 rfl ⟨((hFT.wd (by omega) (by omega)).tr ((hFS.wd (by omega) (by omega)).tr (hF_μ4.wd (by omega) (by omega)))), (by first | exact ifT (by omega) (ifT (by omega) (ifT (by omega) (by omega))) | exact ifT (by omega) (ifT (by omega) (ifF (by omega) (by have e9 : totA (tst (ddt μ p (p + 5) (μ p 3)) (μ p 14)) 0 = (tst (ddt μ p (p + 5) (μ p 3)) (μ p 14)).1 := rfl; omega)))), (RJ.cg2 hJ4 (fun o h1 => ((hFT.at (by omega) (by omega)).trans (hFS.at (by omega) (by omega)))) (fun k h1 => ((hf_T _ (by omega)).trans (hf_S _ (by omega))))), (fun k h1 => ((hf_T k (by omega)).trans ((hf_S k (by omega)).trans (hff4 k (by omega))))), (fun o h1 => ((hFT.at (by omega) (by omega)).trans ((hkp_S _ (by omega)).trans (hF_μ4.at (by omega) (by omega)))))⟩
        · skip
          refine w_iload_n dX8_smooth_46 rfl rfl ?_
          refine w_goto (tgt := 57) dX8_smooth_47 rfl ?_
          exact w_iretI dX8_smooth_57 rfl ⟨((hFS.wd (by omega) (by omega)).tr (hF_μ4.wd (by omega) (by omega))), (by first | exact ifT (by omega) (ifT (by omega) (ifT (by omega) (by omega))) | exact ifT (by omega) (ifT (by omega) (ifF (by omega) (by have e9 : totA (tst (ddt μ p (p + 5) (μ p 3)) (μ p 14)) 0 = (tst (ddt μ p (p + 5) (μ p 3)) (μ p 14)).1 := rfl; omega)))), (RJ.cg2 hJ4 (fun o h1 => (hFS.at (by omega) (by omega))) (fun k h1 => (hf_S _ (by omega)))), (fun k h1 => ((hf_S k (by omega)).trans (hff4 k (by omega)))), (fun o h1 => ((hkp_S _ (by omega)).trans (hF_μ4.at (by omega) (by omega))))⟩
      · skip
        refine w_bipush dX8_smooth_34 (by decide) ?_
        exact w_iretI dX8_smooth_36 rfl ⟨((hFS.wd (by omega) (by omega)).tr (hF_μ4.wd (by omega) (by omega))), (by exact ifT (by omega) (ifF (by omega) rfl)), (RJ.cg2 hJ4 (fun o h1 => (hFS.at (by omega) (by omega))) (fun k h1 => (hf_S _ (by omega)))), (fun k h1 => ((hf_S k (by omega)).trans (hff4 k (by omega)))), (fun o h1 => ((hkp_S _ (by omega)).trans (hF_μ4.at (by omega) (by omega))))⟩
    · skip
      replace c21 := am_b0 c21
      refine w_iconst dX8_smooth_24 ?_
      exact w_iretI dX8_smooth_25 rfl ⟨(hF_μ4.wd (by omega) (by omega)), (by exact ifF (by omega) rfl), hJ4, (fun k h1 => (hff4 k (by omega))), (fun o h1 => (hF_μ4.at (by omega) (by omega)))⟩

set_option maxRecDepth 100000 in
set_option maxHeartbeats 4000000 in
theorem s_X8_smoothed (X : AX) (p : Int) (n : Int) (g : Int) (w : Int) (μ : Mu) (hC : CJ μ p) (hJ : RJ μ p) (hn : -2147483648 ≤ n ∧ n ≤ 2147483647) (hg : -2147483648 ≤ g ∧ g ≤ 2147483647) (hw : -2147483648 ≤ w ∧ w ≤ 2147483647) : Wp (GG X) M_X8_smoothed 0 [(2, 45), (0, n), (0, g), (0, w), (9, 0)] [] μ (qI 0 fun z μ' => (Fr 45 45 57 73 μ' μ) ∧ (z = if ((0 ≤ n ∧ n ≤ 120) ∧ (0 ≤ g ∧ g < μ p 14) ∧ 0 ≤ w ∧ w ≤ 3) ∧ (smT 1000000000 (ddt μ p (p + 5) (μ p 3)) n (μ p 14)) < 1000000000 then smA (ddt μ p (p + 5) (μ p 3)) n (μ p 14) g w else -1000000) ∧ (RJ μ' p) ∧ (∀ k : Int, (¬ k = 0 ∧ ¬ (21 ≤ k ∧ k ≤ 24) ∧ ¬ (29 ≤ k ∧ k ≤ 33) ∧ ¬ k = 64) → μ' 45 k = μ 45 k) ∧ (∀ o : Int, 62 ≤ o ∧ o ≤ 70 → μ' o = μ o)) := by
  have hI := hC.i
  have hG := hC.pg
  have hp := hI.at
  have hz := hI.sz
  have hgr := hG.gr
  have hkn := hC.kn
  have hRA := hJ.rag hC
  refine w_aload_n dX8_smoothed_0 rfl rfl (by first | decide | omega) ?_
  refine w_iconst dX8_smoothed_1 ?_
  refine w_putI (o := 45) (f := 0) fX8_smoothed_2 rfl rfl rfl rfl rfl ?_
  have hF_μ4 : Fr 45 45 57 61 (am_up μ 45 0 0) μ := (Fr.rf.up (by omega))
  have hA4 : RAg (ddt μ p (p + 5) (μ p 3)) (μ (p + 9)) (μ p 14) (am_up μ 45 0 0) := (RAg.cg2 hRA (fun o h1 => (am_up_o (by omega))) (fun k h1 => (am_up_nk (by omega))))
  have hJ4 : RJ (am_up μ 45 0 0) p := (RJ.cg2 hJ (fun o h1 => (am_up_o (by omega))) (fun k h1 => (am_up_nk (by omega))))
  have hj4 : RJz (am_up μ 45 0 0) p := hJ4.j0
  have hC4 : CJ (am_up μ 45 0 0) p := (CJ.cg hC (fun o h1 => (am_up_o (by omega))))
  have h564 : ∀ j : Int, 0 ≤ j → j < μ p 7 → (am_up μ 45 0 0) 56 j = μ (p + 5) j := (fun j h1 h2 => ((congrFun (am_up_o (by omega)) _).trans ((fun j h1 h2 => hJ.ht ⟨h1, h2⟩) j h1 h2)))
  have h194 : (am_up μ 45 0 0) 45 19 = μ p 3 := (((am_up_nk (by omega)).trans hJ.f19).trans (by rfl))
  have hff4 : ∀ k : Int, ¬ k = 0 → (am_up μ 45 0 0) 45 k = μ 45 k := (fun k h1 => (am_up_nk (by omega)))
  refine Wp.mu (fun μ4 hμ4 => ?_)
  rw [← hμ4] at hF_μ4 hA4 hJ4 hj4 hC4 h564 h194 hff4
  clear hμ4
  have e4 : ∀ o : Int, p ≤ o ∧ o ≤ p + 10 → μ4 o = μ o := fun o h1 => hF_μ4.at (by omega) (by omega)
  have e47 : μ4 p 7 = μ p 7 := congrFun (e4 p (by omega)) _
  have e414 : μ4 p 14 = μ p 14 := congrFun (e4 p (by omega)) _
  refine w_iload_n dX8_smoothed_5 rfl rfl ?_
  refine w_iconst dX8_smoothed_6 ?_
  refine w_bipush dX8_smoothed_7 (by decide) ?_
  refine w_callSP (as := [(0, n), (0, 0), (0, 120)]) (rest := []) (k := 0) fX8_smoothed_9 rfl rfl rfl rfl rfl (Nat.le_of_ble_eq_true rfl) (s_X8_isIn X n 0 120 μ4 (by first | omega | assumption) (by first | omega | assumption) (by first | omega | assumption)) ?_
  have hf1 := am_b_r (0 ≤ n ∧ n ≤ 120)
  refine w_if_eq (tgt := 40) dX8_smoothed_12 rfl (R32.in (by have := am_b_r ((0 ≤ n ∧ n ≤ 120)); omega)) (fun c12 => ?_) (fun c12 => ?_)
  · skip
    replace c12 := am_b0 c12
    refine w_ldc (n := -1000000) dX8_smoothed_40 k_1620 (by decide) ?_
    exact w_iretI dX8_smoothed_42 rfl ⟨(hF_μ4.wd (by omega) (by omega)), (by exact ifF (by omega) rfl), hJ4, (fun k h1 => (hff4 k (by omega))), (fun o h1 => (hF_μ4.at (by omega) (by omega)))⟩
  · skip
    replace c12 := am_b1 c12
    refine w_aload_n dX8_smoothed_15 rfl rfl (by first | decide | omega) ?_
    refine w_iload_n dX8_smoothed_16 rfl rfl ?_
    refine w_callVP (o := 45) (ci := 8) (as := [(0, g)]) (rest := []) (k := 0) fX8_smoothed_17 rfl rfl rfl rfl rfl rfl rfl rfl (Nat.le_of_ble_eq_true rfl) (s_X8_isGroup X p g μ4 hC4 hJ4 (by first | omega | assumption)) ?_
    have hf2 := am_b_r (0 ≤ g ∧ g < μ4 p 14)
    refine w_if_eq (tgt := 40) dX8_smoothed_20 rfl (R32.in (by have := am_b_r ((0 ≤ g ∧ g < μ4 p 14)); omega)) (fun c20 => ?_) (fun c20 => ?_)
    · skip
      replace c20 := am_b0 c20
      refine w_ldc (n := -1000000) dX8_smoothed_40 k_1620 (by decide) ?_
      exact w_iretI dX8_smoothed_42 rfl ⟨(hF_μ4.wd (by omega) (by omega)), (by exact ifF (by omega) rfl), hJ4, (fun k h1 => (hff4 k (by omega))), (fun o h1 => (hF_μ4.at (by omega) (by omega)))⟩
    · skip
      replace c20 := am_b1 c20
      refine w_iload_n dX8_smoothed_23 rfl rfl ?_
      refine w_iconst dX8_smoothed_24 ?_
      refine w_iconst dX8_smoothed_25 ?_
      refine w_callSP (as := [(0, w), (0, 0), (0, 3)]) (rest := []) (k := 0) fX8_smoothed_26 rfl rfl rfl rfl rfl (Nat.le_of_ble_eq_true rfl) (s_X8_isIn X w 0 3 μ4 (by first | omega | assumption) (by first | omega | assumption) (by first | omega | assumption)) ?_
      have hf3 := am_b_r (0 ≤ w ∧ w ≤ 3)
      refine w_if_eq (tgt := 40) dX8_smoothed_29 rfl (R32.in (by have := am_b_r ((0 ≤ w ∧ w ≤ 3)); omega)) (fun c29 => ?_) (fun c29 => ?_)
      · skip
        replace c29 := am_b0 c29
        refine w_ldc (n := -1000000) dX8_smoothed_40 k_1620 (by decide) ?_
        exact w_iretI dX8_smoothed_42 rfl ⟨(hF_μ4.wd (by omega) (by omega)), (by exact ifF (by omega) rfl), hJ4, (fun k h1 => (hff4 k (by omega))), (fun o h1 => (hF_μ4.at (by omega) (by omega)))⟩
      · skip
        replace c29 := am_b1 c29
        have hdd := hRA.dd
        have hst := smT_t (n := n) hdd (by omega)
        refine w_aload_n dX8_smoothed_32 rfl rfl (by first | decide | omega) ?_
        refine w_iload_n dX8_smoothed_33 rfl rfl ?_
        refine w_callVI (o := 45) (ci := 8) (as := [(0, n)]) (rest := []) (k := 5) fX8_smoothed_34 rfl rfl rfl rfl rfl rfl rfl rfl (Nat.le_of_ble_eq_true rfl) (s_X8_laysSmooth X (ddt μ p (p + 5) (μ p 3)) (μ (p + 9)) n (μ p 14) μ4 hA4 (by first | omega | assumption)) (fun xS μS hμS => ?_)
        obtain ⟨hFS, hz_S, h64_S, hA2_S, hf_S, hkp_S⟩ := hμS
        have hz01 : (xS = 0 ∧ ¬ smT 536870912 (ddt μ p (p + 5) (μ p 3)) n (μ p 14) < 536870912) ∨ (xS = 1 ∧ smT 536870912 (ddt μ p (p + 5) (μ p 3)) n (μ p 14) < 536870912) := hz_S.imp id (fun q => ⟨q.1, q.2.1⟩)
        refine w_if_ne (tgt := 43) dX8_smoothed_37 rfl (R32.in (by omega)) (fun c37 => ?_) (fun c37 => ?_)
        · skip
          have hSR := (hz_S.resolve_left (fun q => by omega)).2.2
          obtain ⟨i9, hi9, he9, hk9⟩ := hSR g (by omega) (by omega)
          have hok := hdd g (by omega) (by omega)
          have hsa := smA_i hok hi9 hk9
          have hq72 := sq_r hok hi9
          rw [he9] at hq72
          refine w_iload_n dX8_smoothed_43 rfl rfl ?_
          refine w_iconst dX8_smoothed_44 ?_
          refine w_icmp_ge (tgt := 68) dX8_smoothed_45 rfl (R32.in (by omega)) (R32.in (by decide)) (fun c45 => ?_) (fun c45 => ?_)
          · skip
            refine w_aload_n dX8_smoothed_68 rfl rfl (by first | decide | omega) ?_
            refine w_iload_n dX8_smoothed_69 rfl rfl ?_
            refine w_callVV (o := 45) (ci := 8) (as := [(0, g)]) (rest := []) (k := 2) fX8_smoothed_70 rfl rfl rfl rfl rfl rfl rfl rfl (Nat.le_of_ble_eq_true rfl) (s_X8_laysSets X (ddt μ p (p + 5) (μ p 3) g) (μ (p + 9) g) g μS (hA2_S.gp (by omega))) (fun μL hμL => ?_)
            obtain ⟨hFL, hS_L, hf_L⟩ := hμL
            have hcc := hS_L.c
            refine w_iconst dX8_smoothed_73 ?_
            refine w_istore (ls' := [(2, 45), (0, n), (0, g), (0, w), (0, 0)]) dX8_smoothed_74 (Nat.le_of_ble_eq_true rfl) rfl rfl ?_
            have hL76 : ∀ (n76 : Nat) (k : Int), (i9 - k).toNat = n76 → (0 ≤ k ∧ k ≤ i9) → Wp (GG X) M_X8_smoothed 76 [(2, 45), (0, n), (0, g), (0, w), (0, k)] [] μL (qI 0 fun z μ' => (Fr 45 45 57 73 μ' μ) ∧ (z = if ((0 ≤ n ∧ n ≤ 120) ∧ (0 ≤ g ∧ g < μ p 14) ∧ 0 ≤ w ∧ w ≤ 3) ∧ (smT 1000000000 (ddt μ p (p + 5) (μ p 3)) n (μ p 14)) < 1000000000 then smA (ddt μ p (p + 5) (μ p 3)) n (μ p 14) g w else -1000000) ∧ (RJ μ' p) ∧ (∀ k : Int, (¬ k = 0 ∧ ¬ (21 ≤ k ∧ k ≤ 24) ∧ ¬ (29 ≤ k ∧ k ≤ 33) ∧ ¬ k = 64) → μ' 45 k = μ 45 k) ∧ (∀ o : Int, 62 ≤ o ∧ o ≤ 70 → μ' o = μ o)) := by
              intro n76
              induction n76 using Nat.strongRecOn with
              | ind n76 ih76 =>
                intro k hn76 hk0
                have hqk := sq_r hok (j := k) (by omega)
                refine w_aload_n dX8_smoothed_76 rfl rfl (by first | decide | omega) ?_
                refine w_getR (o := 45) (x := 58) fX8_smoothed_77 rfl rfl rfl rfl ?_
                refine w_iload dX8_smoothed_80 rfl ?_
                refine w_ialdx (o := 58) (n := 2100) (x := (sq (ddt μ p (p + 5) (μ p 3) g) k).1) dX8_smoothed_82 rfl rfl (Nat.le_of_ble_eq_true rfl) (by omega) (hS_L.2.2.1 _ (by omega) (by omega)) ?_
                have hr6 := (sq_r (hS_L.ok) (j := k) (by omega)).1
                refine w_aload_n dX8_smoothed_83 rfl rfl (by first | decide | omega) ?_
                refine w_getR (o := 45) (x := 72) fX8_smoothed_84 rfl rfl rfl rfl ?_
                refine w_iload_n dX8_smoothed_87 rfl rfl ?_
                refine w_ialdx (o := 72) (n := 32) (x := μS 72 g) dX8_smoothed_88 rfl rfl (Nat.le_of_ble_eq_true rfl) (by omega) (congrFun (hFL.at (by omega) (by omega)) _) ?_
                refine w_icmp_ne (tgt := 108) dX8_smoothed_89 rfl (R32.in (by omega)) (R32.in (by omega)) (fun c89 => ?_) (fun c89 => ?_)
                · skip
                  have q9 : ¬ k = i9 := fun q => c89 (by rw [q, he9])
                  refine w_iinc (ls' := [(2, 45), (0, n), (0, g), (0, w), (0, k + 1)]) dX8_smoothed_108 rfl (Nat.le_of_ble_eq_true rfl) rfl rfl ?_
                  refine w_goto (tgt := 76) dX8_smoothed_111 rfl ?_
                  exact ih76 _ (by omega) (k + 1) rfl (by omega)
                · skip
                  refine w_aload_n dX8_smoothed_92 rfl rfl (by first | decide | omega) ?_
                  refine w_getR (o := 45) (x := 59) fX8_smoothed_93 rfl rfl rfl rfl ?_
                  refine w_iload dX8_smoothed_96 rfl ?_
                  refine w_ialdx (o := 59) (n := 2100) (x := (sq (ddt μ p (p + 5) (μ p 3) g) k).2) dX8_smoothed_98 rfl rfl (Nat.le_of_ble_eq_true rfl) (by omega) (hS_L.2.2.2.1 _ (by omega) (by omega)) ?_
                  have hr7 := (sq_r (hS_L.ok) (j := k) (by omega)).2
                  refine w_aload_n dX8_smoothed_99 rfl rfl (by first | decide | omega) ?_
                  refine w_getR (o := 45) (x := 73) fX8_smoothed_100 rfl rfl rfl rfl ?_
                  refine w_iload_n dX8_smoothed_103 rfl rfl ?_
                  refine w_ialdx (o := 73) (n := 32) (x := μS 73 g) dX8_smoothed_104 rfl rfl (Nat.le_of_ble_eq_true rfl) (by omega) (congrFun (hFL.at (by omega) (by omega)) _) ?_
                  refine w_icmp_eq (tgt := 114) dX8_smoothed_105 rfl (R32.in (by omega)) (R32.in (by omega)) (fun c105 => ?_) (fun c105 => ?_)
                  · skip
                    refine w_iload_n dX8_smoothed_114 rfl rfl ?_
                    refine w_iconst dX8_smoothed_115 ?_
                    refine w_icmp_ne (tgt := 129) dX8_smoothed_116 rfl (R32.in (by omega)) (R32.in (by decide)) (fun c116 => ?_) (fun c116 => ?_)
                    · skip
                      refine w_aload_n dX8_smoothed_129 rfl rfl (by first | decide | omega) ?_
                      refine w_iload dX8_smoothed_130 rfl ?_
                      refine w_callVP (o := 45) (ci := 8) (as := [(0, k)]) (rest := []) (k := 2) fX8_smoothed_132 rfl rfl rfl rfl rfl rfl rfl rfl (Nat.le_of_ble_eq_true rfl) (s_X8_rankOf X (ddt μ p (p + 5) (μ p 3) g) (μ (p + 9) g) k μL hS_L (by first | omega | assumption)) ?_
                      have hf8 := rkI_r (ddt μ p (p + 5) (μ p 3) g) k (nS (ddt μ p (p + 5) (μ p 3) g)) (nS_0 (ddt μ p (p + 5) (μ p 3) g))
                      exact w_iretI dX8_smoothed_135 rfl ⟨((hFL.wd (by omega) (by omega)).tr ((hFS.wd (by omega) (by omega)).tr (hF_μ4.wd (by omega) (by omega)))), (by have hq9 : sq (ddt μ p (p + 5) (μ p 3) g) k = (μS 72 g, μS 73 g) := Prod.ext c89 c105; first | (have e9 : w = 2 := (by omega); subst e9; exact ifT (by omega) (by rw [hsa.2.2.1]; unfold squ; rw [hq9, he9])) | (have e9 : w = 3 := (by omega); subst e9; exact ifT (by omega) (by rw [hsa.2.2.2, rkI_eq, rkI_eq, hq9, he9]))), (RJ.cg2 hJ4 (fun o h1 => ((hFL.at (by omega) (by omega)).trans (hFS.at (by omega) (by omega)))) (fun k h1 => ((hf_L _ (by omega)).trans (hf_S _ (by omega))))), (fun k h1 => ((hf_L k (by omega)).trans ((hf_S k (by omega)).trans (hff4 k (by omega))))), (fun o h1 => ((hFL.at (by omega) (by omega)).trans ((hkp_S _ (by omega)).trans (hF_μ4.at (by omega) (by omega)))))⟩
                    · skip
                      refine w_aload_n dX8_smoothed_119 rfl rfl (by first | decide | omega) ?_
                      refine w_getR (o := 45) (x := 60) fX8_smoothed_120 rfl rfl rfl rfl ?_
                      refine w_iload dX8_smoothed_123 rfl ?_
                      refine w_ialdx (o := 60) (n := 2100) (x := squ (ddt μ p (p + 5) (μ p 3) g) k) dX8_smoothed_125 rfl rfl (Nat.le_of_ble_eq_true rfl) (by omega) (hS_L.2.2.2.2.1 _ (by omega) (by omega)) ?_
                      have hr9 := (squ_r (hS_L.ok) (j := k) (by omega))
                      refine w_goto (tgt := 135) dX8_smoothed_126 rfl ?_
                      exact w_iretI dX8_smoothed_135 rfl ⟨((hFL.wd (by omega) (by omega)).tr ((hFS.wd (by omega) (by omega)).tr (hF_μ4.wd (by omega) (by omega)))), (by have hq9 : sq (ddt μ p (p + 5) (μ p 3) g) k = (μS 72 g, μS 73 g) := Prod.ext c89 c105; first | (have e9 : w = 2 := (by omega); subst e9; exact ifT (by omega) (by rw [hsa.2.2.1]; unfold squ; rw [hq9, he9])) | (have e9 : w = 3 := (by omega); subst e9; exact ifT (by omega) (by rw [hsa.2.2.2, rkI_eq, rkI_eq, hq9, he9]))), (RJ.cg2 hJ4 (fun o h1 => ((hFL.at (by omega) (by omega)).trans (hFS.at (by omega) (by omega)))) (fun k h1 => ((hf_L _ (by omega)).trans (hf_S _ (by omega))))), (fun k h1 => ((hf_L k (by omega)).trans ((hf_S k (by omega)).trans (hff4 k (by omega))))), (fun o h1 => ((hFL.at (by omega) (by omega)).trans ((hkp_S _ (by omega)).trans (hF_μ4.at (by omega) (by omega)))))⟩
                  · skip
                    have q9 : ¬ k = i9 := fun q => c105 (by rw [q, he9])
                    refine w_iinc (ls' := [(2, 45), (0, n), (0, g), (0, w), (0, k + 1)]) dX8_smoothed_108 rfl (Nat.le_of_ble_eq_true rfl) rfl rfl ?_
                    refine w_goto (tgt := 76) dX8_smoothed_111 rfl ?_
                    exact ih76 _ (by omega) (k + 1) rfl (by omega)
            exact hL76 _ 0 rfl (by omega)
          · skip
            refine w_iload_n dX8_smoothed_48 rfl rfl ?_
            refine w_if_ne (tgt := 61) dX8_smoothed_49 rfl (R32.in (by omega)) (fun c49 => ?_) (fun c49 => ?_)
            · skip
              refine w_aload_n dX8_smoothed_61 rfl rfl (by first | decide | omega) ?_
              refine w_getR (o := 45) (x := 73) fX8_smoothed_62 rfl rfl rfl rfl ?_
              refine w_iload_n dX8_smoothed_65 rfl rfl ?_
              refine w_ialdx (o := 73) (n := 32) (x := μS 73 g) dX8_smoothed_66 rfl rfl (Nat.le_of_ble_eq_true rfl) (by omega) rfl ?_
              exact w_iretI dX8_smoothed_67 rfl ⟨((hFS.wd (by omega) (by omega)).tr (hF_μ4.wd (by omega) (by omega))), (by first | (have e9 : w = 0 := (by omega); subst e9; exact ifT (by omega) (by rw [hsa.1, he9])) | (have e9 : w = 1 := (by omega); subst e9; exact ifT (by omega) (by rw [hsa.2.1, he9]))), (RJ.cg2 hJ4 (fun o h1 => (hFS.at (by omega) (by omega))) (fun k h1 => (hf_S _ (by omega)))), (fun k h1 => ((hf_S k (by omega)).trans (hff4 k (by omega)))), (fun o h1 => ((hkp_S _ (by omega)).trans (hF_μ4.at (by omega) (by omega))))⟩
            · skip
              refine w_aload_n dX8_smoothed_52 rfl rfl (by first | decide | omega) ?_
              refine w_getR (o := 45) (x := 72) fX8_smoothed_53 rfl rfl rfl rfl ?_
              refine w_iload_n dX8_smoothed_56 rfl rfl ?_
              refine w_ialdx (o := 72) (n := 32) (x := μS 72 g) dX8_smoothed_57 rfl rfl (Nat.le_of_ble_eq_true rfl) (by omega) rfl ?_
              refine w_goto (tgt := 67) dX8_smoothed_58 rfl ?_
              exact w_iretI dX8_smoothed_67 rfl ⟨((hFS.wd (by omega) (by omega)).tr (hF_μ4.wd (by omega) (by omega))), (by first | (have e9 : w = 0 := (by omega); subst e9; exact ifT (by omega) (by rw [hsa.1, he9])) | (have e9 : w = 1 := (by omega); subst e9; exact ifT (by omega) (by rw [hsa.2.1, he9]))), (RJ.cg2 hJ4 (fun o h1 => (hFS.at (by omega) (by omega))) (fun k h1 => (hf_S _ (by omega)))), (fun k h1 => ((hf_S k (by omega)).trans (hff4 k (by omega)))), (fun o h1 => ((hkp_S _ (by omega)).trans (hF_μ4.at (by omega) (by omega))))⟩
        · skip
          refine w_ldc (n := -1000000) dX8_smoothed_40 k_1620 (by decide) ?_
          exact w_iretI dX8_smoothed_42 rfl ⟨((hFS.wd (by omega) (by omega)).tr (hF_μ4.wd (by omega) (by omega))), (by exact ifF (by omega) rfl), (RJ.cg2 hJ4 (fun o h1 => (hFS.at (by omega) (by omega))) (fun k h1 => (hf_S _ (by omega)))), (fun k h1 => ((hf_S k (by omega)).trans (hff4 k (by omega)))), (fun o h1 => ((hkp_S _ (by omega)).trans (hF_μ4.at (by omega) (by omega))))⟩
