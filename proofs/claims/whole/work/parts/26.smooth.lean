set_option maxRecDepth 100000 in
set_option maxHeartbeats 4000000 in
theorem s_X4_loadGathered (X : AX) (p : Int) (g : Int) (μ ν : Mu) (hA9 : ∀ o : Int, (p ≤ o ∧ o ≤ p + 10) → ν o = μ o) (hI : PI μ p) (hG : PG μ p) (hLA : LDA μ p (p + 5) (μ p 3)) (hg : 0 ≤ g ∧ g < μ p 14) : Wp (GG X) M_X4_loadGathered 0 [(2, p), (2, 6), (0, g)] [] ν (qV fun μ' => (Fr 6 14 1 0 μ' ν) ∧ (GLd (ddt μ p (p + 5) (μ p 3) g) μ') ∧ (GK (ddt μ p (p + 5) (μ p 3) g) μ')) := by
  have hp := hI.at
  have hgr := hG.gr
  refine w_aload_n dX4_loadGathered_0 rfl rfl (by first | decide | omega) ?_
  refine w_aload_n dX4_loadGathered_1 rfl rfl (by first | decide | omega) ?_
  refine w_aload_n dX4_loadGathered_2 rfl rfl (by first | decide | omega) ?_
  refine w_getR (o := (p).toNat) (x := p + 5) fX4_loadGathered_3 (by omega) (pSh0 rfl rfl (by assumption)) rfl (pRf 10 5 rfl rfl (by assumption)) ?_
  refine w_aload_n dX4_loadGathered_6 rfl rfl (by first | decide | omega) ?_
  refine w_getR (o := (p).toNat) (x := p + 9) fX4_loadGathered_7 (by omega) (pSh0 rfl rfl (by assumption)) rfl (pRf 15 9 rfl rfl (by assumption)) ?_
  refine w_iload_n dX4_loadGathered_10 rfl rfl ?_
  refine w_ialdx (o := (p + 9).toNat) (n := 32) (x := μ (p + 9) g) dX4_loadGathered_11 (by omega) (pSh 9 rfl rfl (by assumption)) (Nat.le_of_ble_eq_true rfl) (by omega) (congrFun (hA9 _ (by omega)) _) ?_
  have hr1 := PG.fl hG (g := g) (by omega)
  refine w_aload_n dX4_loadGathered_12 rfl rfl (by first | decide | omega) ?_
  refine w_getR (o := (p).toNat) (x := p + 10) fX4_loadGathered_13 (by omega) (pSh0 rfl rfl (by assumption)) rfl (pRf 16 10 rfl rfl (by assumption)) ?_
  refine w_iload_n dX4_loadGathered_16 rfl rfl ?_
  refine w_ialdx (o := (p + 10).toNat) (n := 32) (x := μ (p + 10) g) dX4_loadGathered_17 (by omega) (pSh 10 rfl rfl (by assumption)) (Nat.le_of_ble_eq_true rfl) (by omega) (congrFun (hA9 _ (by omega)) _) ?_
  refine w_aload_n dX4_loadGathered_18 rfl rfl (by first | decide | omega) ?_
  refine w_getIx (o := (p).toNat) (f := 3) (x := μ p 3) fX4_loadGathered_19 (by omega) (pSh0 rfl rfl (by assumption)) (Nat.le_of_ble_eq_true rfl) rfl (congrFun (hA9 _ (by omega)) _) ?_
  refine w_callVV (o := 6) (ci := 0) (as := [(2, p), (2, p + 5), (0, μ (p + 9) g), (0, μ (p + 10) g), (0, μ p 3)]) (rest := []) (k := 1) fX4_loadGathered_22 rfl rfl rfl rfl rfl rfl rfl rfl (Nat.le_of_ble_eq_true rfl) (s_X0_load X p (μ (p + 9) g) (μ (p + 10) g) (μ p 3) μ ν (fun o h1 => (hA9 _ (by omega))) hI hG (hLA g hg.1 hg.2)) (fun μL hμL => ?_)
  obtain ⟨hFL, hD_L⟩ := hμL
  have hD2 : GLd (ddt μ p (p + 5) (μ p 3) g) μL := hD_L
  refine w_aload_n dX4_loadGathered_25 rfl rfl (by first | decide | omega) ?_
  refine w_callVI (o := 6) (ci := 0) (as := []) (rest := []) (k := 3) fX4_loadGathered_26 rfl rfl rfl rfl rfl rfl rfl rfl (Nat.le_of_ble_eq_true rfl) (s_X0_gather X (ddt μ p (p + 5) (μ p 3) g) μL hD2) (fun x3 μ_3 hμ3 => ?_)
  obtain ⟨hF3, hz_3, hK_3, hD_3⟩ := hμ3
  refine w_pop dX4_loadGathered_29 (by simp) ?_
  exact w_retV dX4_loadGathered_30 rfl ⟨((hF3.wd (by omega) (by omega)).tr hFL), hD_3, hK_3⟩

set_option maxRecDepth 100000 in
set_option maxHeartbeats 4000000 in
theorem s_X4_costFrom (X : AX) (D : GDt) (g : Int) (s : Int) (l : Int) (k : Int) (bh : Int → Int) (μ : Mu) (hD : GLd D μ) (hs : inS s l) (ha : alw D s l) (hk : k = key D s l) (hg : 0 ≤ g ∧ g ≤ 31) (hB : ∀ r, -60 ≤ r → r ≤ 60 → μ 17 ((g + 1) * 121 + r + 60) = bh r ∧ 0 ≤ bh r ∧ bh r ≤ 1000000000) : Wp (GG X) M_X4_costFrom 0 [(2, 16), (2, 6), (0, g), (1, k), (9, 0), (9, 0)] [] μ (pP 0 (min 1000000000 (ugl D s l + bh (l + s))) μ) := by
  have hok := hD.ok
  have hr6 : -60 ≤ l + s ∧ l + s ≤ 60 := hs.1.2
  have hbv := hB (l + s) hr6.1 hr6.2
  have hug := ugl_r hok ha hs.2
  refine w_iload_n dX4_costFrom_0 rfl rfl ?_
  refine w_iconst dX4_costFrom_1 ?_
  refine w_iadd dX4_costFrom_2 ?_
  refine w_bipush dX4_costFrom_3 (by decide) ?_
  refine w_imul dX4_costFrom_5 ?_
  refine w_aload_n dX4_costFrom_6 rfl rfl (by first | decide | omega) ?_
  refine w_lload_n dX4_costFrom_7 rfl rfl ?_
  refine w_callVP (o := 6) (ci := 0) (as := [(1, k)]) (rest := [(0, (g + 1) * 121)]) (k := 0) fX4_costFrom_8 rfl rfl rfl rfl rfl rfl rfl rfl (Nat.le_of_ble_eq_true rfl) (s_X0_rightOf_k X D s l k μ hD (by first | assumption | omega) (by first | assumption | omega) (by first | omega | assumption)) ?_
  refine w_iadd dX4_costFrom_11 ?_
  refine w_bipush dX4_costFrom_12 (by decide) ?_
  refine w_iadd dX4_costFrom_14 ?_
  refine w_istore (ls' := [(2, 16), (2, 6), (0, g), (1, k), (9, 0), (0, (((g + 1) * 121) + (l + s)) + 60)]) dX4_costFrom_15 (Nat.le_of_ble_eq_true rfl) rfl rfl ?_
  refine w_ldc (n := 1000000000) dX4_costFrom_17 k_1119 (by decide) ?_
  refine w_lload_n dX4_costFrom_19 rfl rfl ?_
  refine w_callSP (as := [(1, k)]) (rest := [(0, 1000000000)]) (k := 0) fX4_costFrom_20 rfl rfl rfl rfl rfl (Nat.le_of_ble_eq_true rfl) (s_X0_uglinessOf_k X D s l k μ (by first | assumption | omega) (by first | assumption | omega) (by first | omega | assumption) (by first | assumption | omega)) ?_
  refine w_aload_n dX4_costFrom_23 rfl rfl (by first | decide | omega) ?_
  refine w_getR (o := 16) (x := 17) fX4_costFrom_24 rfl rfl rfl rfl ?_
  refine w_iload dX4_costFrom_27 rfl ?_
  refine w_ialdx (o := 17) (n := 3993) (x := μ 17 ((((g + 1) * 121) + (l + s)) + 60)) dX4_costFrom_29 rfl rfl (Nat.le_of_ble_eq_true rfl) (by omega) rfl ?_
  refine w_iadd dX4_costFrom_30 ?_
  refine w_min fX4_costFrom_31 (R32.in (by decide)) (R32.in (by omega)) (Nat.le_of_ble_eq_true rfl) ?_
  exact w_iretP dX4_costFrom_34 rfl (by omega)

set_option maxRecDepth 100000 in
set_option maxHeartbeats 4000000 in
theorem s_X4_weighByLeft (X : AX) (D : GDt) (g : Int) (bh : Int → Int) (μ : Mu) (hD : GLd D μ) (hK : GK D μ) (hg : 0 ≤ g ∧ g ≤ 31) (hB : ∀ r, -60 ≤ r → r ≤ 60 → μ 17 ((g + 1) * 121 + r + 60) = bh r ∧ 0 ≤ bh r ∧ bh r ≤ 1000000000) : Wp (GG X) M_X4_weighByLeft 0 [(2, 16), (2, 6), (0, g), (9, 0), (9, 0), (9, 0), (9, 0), (9, 0), (9, 0)] [] μ (qI 0 fun z μ' => (Fr 18 18 1 0 μ' μ) ∧ (isMn 1000000000 (caP D bh) z) ∧ (blS D bh (μ' 18))) := by
  have hok := hD.ok
  have hcr := hK.c
  refine w_iconst dX4_weighByLeft_0 ?_
  refine w_istore_n (ls' := [(2, 16), (2, 6), (0, g), (0, 0), (9, 0), (9, 0), (9, 0), (9, 0), (9, 0)]) dX4_weighByLeft_1 rfl (Nat.le_of_ble_eq_true rfl) rfl rfl ?_
  have hL2 : ∀ (n2 : Nat) (i : Int) (μ1 : Mu), (121 - i).toNat = n2 → Fr 18 18 1 0 μ1 μ → (0 ≤ i ∧ i ≤ 121) → (∀ j : Int, 0 ≤ j → j < i → μ1 18 j = 1000000000) → Wp (GG X) M_X4_weighByLeft 2 [(2, 16), (2, 6), (0, g), (0, i), (9, 0), (9, 0), (9, 0), (9, 0), (9, 0)] [] μ1 (qI 0 fun z μ' => (Fr 18 18 1 0 μ' μ) ∧ (isMn 1000000000 (caP D bh) z) ∧ (blS D bh (μ' 18))) := by
    intro n2
    induction n2 using Nat.strongRecOn with
    | ind n2 ih2 =>
      intro i μ1 hn2 hF2 hi0 hf
      refine w_iload_n dX4_weighByLeft_2 rfl rfl ?_
      refine w_bipush dX4_weighByLeft_3 (by decide) ?_
      refine w_icmp_ge (tgt := 22) dX4_weighByLeft_5 rfl (R32.in (by omega)) (R32.in (by decide)) (fun c5 => ?_) (fun c5 => ?_)
      · skip
        refine w_ldc (n := 1000000000) dX4_weighByLeft_22 k_1119 (by decide) ?_
        refine w_istore_n (ls' := [(2, 16), (2, 6), (0, g), (0, 1000000000), (9, 0), (9, 0), (9, 0), (9, 0), (9, 0)]) dX4_weighByLeft_24 rfl (Nat.le_of_ble_eq_true rfl) rfl rfl ?_
        refine w_iconst dX4_weighByLeft_25 ?_
        refine w_istore (ls' := [(2, 16), (2, 6), (0, g), (0, 1000000000), (0, 0), (9, 0), (9, 0), (9, 0), (9, 0)]) dX4_weighByLeft_26 (Nat.le_of_ble_eq_true rfl) rfl rfl ?_
        have hL28 : ∀ (n28 : Nat) (v : Int) (i : Int) (μ2 : Mu), (μ 6 11 - i).toNat = n28 → Fr 18 18 1 0 μ2 μ → (0 ≤ i ∧ i ≤ μ 6 11) → (clR D (μ 12) bh i v) → (blR D (μ 12) bh i (μ2 18)) → Wp (GG X) M_X4_weighByLeft 28 [(2, 16), (2, 6), (0, g), (0, v), (0, i), (9, 0), (9, 0), (9, 0), (9, 0)] [] μ2 (qI 0 fun z μ' => (Fr 18 18 1 0 μ' μ) ∧ (isMn 1000000000 (caP D bh) z) ∧ (blS D bh (μ' 18))) := by
          intro n28
          induction n28 using Nat.strongRecOn with
          | ind n28 ih28 =>
            intro v i μ2 hn28 hF28 hi0 hv hbl
            have hvr := clR_b hok (fun r h1 h2 => (hB r h1 h2).2.1) hv
            refine w_iload dX4_weighByLeft_28 rfl ?_
            refine w_aload_n dX4_weighByLeft_30 rfl rfl (by first | decide | omega) ?_
            refine w_getIx (o := 6) (f := 11) (x := μ 6 11) fX4_weighByLeft_31 rfl rfl (Nat.le_of_ble_eq_true rfl) rfl (congrFun (hF28.at (by omega) (by omega)) _) ?_
            have hr1 := hK.c
            refine w_icmp_ge (tgt := 99) dX4_weighByLeft_34 rfl (R32.in (by omega)) (R32.in (by omega)) (fun c34 => ?_) (fun c34 => ?_)
            · skip
              refine w_iload_n dX4_weighByLeft_99 rfl rfl ?_
              exact w_iretI dX4_weighByLeft_100 rfl ⟨hF28, (by have he : i = μ 6 11 := (by omega); subst he; exact clR_end hK hv), (by have he : i = μ 6 11 := (by omega); subst he; exact blR_end hK hbl)⟩
            · skip
              obtain ⟨s, l, his, hal, -, hky⟩ := hK.1.2.1 i hi0.1 (by omega)
              have hl6 : -60 ≤ l ∧ l ≤ 60 := his.1.1
              have hr6 : -60 ≤ l + s ∧ l + s ≤ 60 := his.1.2
              have hug := ugl_r hok hal his.2
              have hbv := (hB (l + s) hr6.1 hr6.2).2
              refine w_aload_n dX4_weighByLeft_37 rfl rfl (by first | decide | omega) ?_
              refine w_getR (o := 6) (x := 12) fX4_weighByLeft_38 rfl rfl rfl rfl ?_
              refine w_iload dX4_weighByLeft_41 rfl ?_
              refine w_laldx (o := 12) (n := 595) (x := μ 12 i) dX4_weighByLeft_43 rfl rfl (Nat.le_of_ble_eq_true rfl) (by omega) (congrFun (hF28.at (by omega) (by omega)) _) ?_
              have hr2 := hK.kr (j := i) (by omega)
              refine w_lstore (ls' := [(2, 16), (2, 6), (0, g), (0, v), (0, i), (1, μ 12 i), (9, 0), (9, 0), (9, 0)]) dX4_weighByLeft_44 (Nat.le_of_ble_eq_true rfl) rfl rfl ?_
              refine w_aload_n dX4_weighByLeft_46 rfl rfl (by first | decide | omega) ?_
              refine w_aload_n dX4_weighByLeft_47 rfl rfl (by first | decide | omega) ?_
              refine w_iload_n dX4_weighByLeft_48 rfl rfl ?_
              refine w_lload dX4_weighByLeft_49 rfl ?_
              refine w_callVP (o := 16) (ci := 4) (as := [(2, 6), (0, g), (1, μ 12 i)]) (rest := []) (k := 1) fX4_weighByLeft_51 rfl rfl rfl rfl rfl rfl rfl rfl (Nat.le_of_ble_eq_true rfl) (s_X4_costFrom X D g s l (μ 12 i) bh μ2 (GLd.cg2 hD (fun o h1 => (hF28.at (by omega) (by omega))) (fun k h1 => (congrFun (hF28.at (by omega) (by omega)) _))) his hal hky (by first | omega | assumption) (fun r h1 h2 => by rw [hF28.at (by omega) (by omega)]; exact hB r h1 h2)) ?_
              refine w_istore (ls' := [(2, 16), (2, 6), (0, g), (0, v), (0, i), (1, μ 12 i), (9, 0), (0, min 1000000000 (ugl D s l + bh (l + s))), (9, 0)]) dX4_weighByLeft_54 (Nat.le_of_ble_eq_true rfl) rfl rfl ?_
              refine w_aload_n dX4_weighByLeft_56 rfl rfl (by first | decide | omega) ?_
              refine w_lload dX4_weighByLeft_57 rfl ?_
              refine w_callVP (o := 6) (ci := 0) (as := [(1, μ 12 i)]) (rest := []) (k := 0) fX4_weighByLeft_59 rfl rfl rfl rfl rfl rfl rfl rfl (Nat.le_of_ble_eq_true rfl) (s_X0_leftOf_k X D s l (μ 12 i) μ2 (GLd.cg2 hD (fun o h1 => (hF28.at (by omega) (by omega))) (fun k h1 => (congrFun (hF28.at (by omega) (by omega)) _))) his hal hky) ?_
              refine w_bipush dX4_weighByLeft_62 (by decide) ?_
              refine w_iadd dX4_weighByLeft_64 ?_
              refine w_istore (ls' := [(2, 16), (2, 6), (0, g), (0, v), (0, i), (1, μ 12 i), (9, 0), (0, min 1000000000 (ugl D s l + bh (l + s))), (0, l + 60)]) dX4_weighByLeft_65 (Nat.le_of_ble_eq_true rfl) rfl rfl ?_
              refine w_aload_n dX4_weighByLeft_67 rfl rfl (by first | decide | omega) ?_
              refine w_getR (o := 16) (x := 18) fX4_weighByLeft_68 rfl rfl rfl rfl ?_
              refine w_iload dX4_weighByLeft_71 rfl ?_
              refine w_aload_n dX4_weighByLeft_73 rfl rfl (by first | decide | omega) ?_
              refine w_getR (o := 16) (x := 18) fX4_weighByLeft_74 rfl rfl rfl rfl ?_
              refine w_iload dX4_weighByLeft_77 rfl ?_
              refine w_ialdx (o := 18) (n := 121) (x := μ2 18 (l + 60)) dX4_weighByLeft_79 rfl rfl (Nat.le_of_ble_eq_true rfl) (by omega) rfl ?_
              have hblr := blR_b hok (fun r h1 h2 => (hB r h1 h2).2.1) hbl hl6
              refine w_iload dX4_weighByLeft_80 rfl ?_
              refine w_min fX4_weighByLeft_82 (R32.in (by omega)) (R32.in (by omega)) (Nat.le_of_ble_eq_true rfl) ?_
              refine w_iast (o := 18) (n := 121) dX4_weighByLeft_85 rfl rfl (Nat.le_of_ble_eq_true rfl) (by omega) (by omega) ?_
              refine w_iload_n dX4_weighByLeft_86 rfl rfl ?_
              refine w_iload dX4_weighByLeft_87 rfl ?_
              refine w_min fX4_weighByLeft_89 (R32.in (by omega)) (R32.in (by omega)) (Nat.le_of_ble_eq_true rfl) ?_
              refine w_istore_n (ls' := [(2, 16), (2, 6), (0, g), (0, min v (min 1000000000 (ugl D s l + bh (l + s)))), (0, i), (1, μ 12 i), (9, 0), (0, min 1000000000 (ugl D s l + bh (l + s))), (0, l + 60)]) dX4_weighByLeft_92 rfl (Nat.le_of_ble_eq_true rfl) rfl rfl ?_
              refine w_iinc (ls' := [(2, 16), (2, 6), (0, g), (0, min v (min 1000000000 (ugl D s l + bh (l + s)))), (0, i + 1), (1, μ 12 i), (9, 0), (0, min 1000000000 (ugl D s l + bh (l + s))), (0, l + 60)]) dX4_weighByLeft_93 rfl (Nat.le_of_ble_eq_true rfl) rfl rfl ?_
              refine w_goto (tgt := 28) dX4_weighByLeft_96 rfl ?_
              refine Wp.fgl (ls' := [(2, 16), (2, 6), (0, g), (0, min v (min 1000000000 (ugl D s l + bh (l + s)))), (0, i + 1), (9, 0), (9, 0), (0, min 1000000000 (ugl D s l + bh (l + s))), (0, l + 60)]) 5 rfl ?_
              refine Wp.fgl (ls' := [(2, 16), (2, 6), (0, g), (0, min v (min 1000000000 (ugl D s l + bh (l + s)))), (0, i + 1), (9, 0), (9, 0), (9, 0), (0, l + 60)]) 7 rfl ?_
              refine Wp.fgl (ls' := [(2, 16), (2, 6), (0, g), (0, min v (min 1000000000 (ugl D s l + bh (l + s)))), (0, i + 1), (9, 0), (9, 0), (9, 0), (9, 0)]) 8 rfl ?_
              exact ih28 _ (by omega) (min v (min 1000000000 (ugl D s l + bh (l + s)))) (i + 1) (am_up μ2 18 (l + 60) (min (μ2 18 (l + 60)) (min 1000000000 (ugl D s l + bh (l + s))))) rfl (hF28.up (by omega)) (by first | omega | assumption) (clR_s hok hv hi0.1 his hal hky) (blR_s hok hbl hi0.1 his hal hky rfl)
        exact hL28 _ 1000000000 0 μ1 rfl hF2 (by first | omega | assumption) clR_0 (blR_0 (fun j h1 h2 => hf j h1 (by omega)))
      · skip
        refine w_aload_n dX4_weighByLeft_8 rfl rfl (by first | decide | omega) ?_
        refine w_getR (o := 16) (x := 18) fX4_weighByLeft_9 rfl rfl rfl rfl ?_
        refine w_iload_n dX4_weighByLeft_12 rfl rfl ?_
        refine w_ldc (n := 1000000000) dX4_weighByLeft_13 k_1119 (by decide) ?_
        refine w_iast (o := 18) (n := 121) dX4_weighByLeft_15 rfl rfl (Nat.le_of_ble_eq_true rfl) (by omega) (by omega) ?_
        refine w_iinc (ls' := [(2, 16), (2, 6), (0, g), (0, i + 1), (9, 0), (9, 0), (9, 0), (9, 0), (9, 0)]) dX4_weighByLeft_16 rfl (Nat.le_of_ble_eq_true rfl) rfl rfl ?_
        refine w_goto (tgt := 2) dX4_weighByLeft_19 rfl ?_
        exact ih2 _ (by omega) (i + 1) (am_up μ1 18 i 1000000000) rfl (hF2.up (by omega)) (by first | omega | assumption) (fillr (f := fun _ => 1000000000) hf rfl)
  exact hL2 _ 0 μ rfl Fr.rf (by first | omega | assumption) (fun j h1 h2 => by omega)

set_option maxRecDepth 100000 in
set_option maxHeartbeats 4000000 in
theorem s_X4_leastNear (X : AX) (D : GDt) (m : Int) (n : Int) (bh : Int → Int) (μ : Mu) (hok : GOK D) (hm : 0 ≤ m ∧ m ≤ 120) (hn : 0 ≤ n ∧ n ≤ 120) (hbp : ∀ r, -60 ≤ r → r ≤ 60 → 0 ≤ bh r) (hbl : blS D bh (μ 18)) : Wp (GG X) M_X4_leastNear 0 [(2, 16), (0, m), (0, n), (9, 0), (9, 0), (9, 0)] [] μ (qI 0 fun z μ' => (Fr 1 0 1 0 μ' μ) ∧ (isMn 1000000000 (nrP D bh (m - 60) n) z)) := by
  refine w_ldc (n := 1000000000) dX4_leastNear_0 k_1119 (by decide) ?_
  refine w_istore_n (ls' := [(2, 16), (0, m), (0, n), (0, 1000000000), (9, 0), (9, 0)]) dX4_leastNear_2 rfl (Nat.le_of_ble_eq_true rfl) rfl rfl ?_
  refine w_bipush dX4_leastNear_3 (by decide) ?_
  refine w_iload_n dX4_leastNear_5 rfl rfl ?_
  refine w_iload_n dX4_leastNear_6 rfl rfl ?_
  refine w_iadd dX4_leastNear_7 ?_
  refine w_min fX4_leastNear_8 (R32.in (by decide)) (R32.in (by omega)) (Nat.le_of_ble_eq_true rfl) ?_
  refine w_istore (ls' := [(2, 16), (0, m), (0, n), (0, 1000000000), (0, min 120 (m + n)), (9, 0)]) dX4_leastNear_11 (Nat.le_of_ble_eq_true rfl) rfl rfl ?_
  refine w_iconst dX4_leastNear_13 ?_
  refine w_iload_n dX4_leastNear_14 rfl rfl ?_
  refine w_iload_n dX4_leastNear_15 rfl rfl ?_
  refine w_isub dX4_leastNear_16 ?_
  refine w_max fX4_leastNear_17 (R32.in (by decide)) (R32.in (by omega)) (Nat.le_of_ble_eq_true rfl) ?_
  refine w_istore (ls' := [(2, 16), (0, m), (0, n), (0, 1000000000), (0, min 120 (m + n)), (0, max 0 (m - n))]) dX4_leastNear_20 (Nat.le_of_ble_eq_true rfl) rfl rfl ?_
  have hL22 : ∀ (n22 : Nat) (v : Int) (i : Int), (121 - i).toNat = n22 → (max 0 (m - n) ≤ i ∧ i ≤ max (max 0 (m - n)) (min 120 (m + n) + 1)) → (lnR D bh (max 0 (m - n)) i v) → Wp (GG X) M_X4_leastNear 22 [(2, 16), (9, 0), (9, 0), (0, v), (0, min 120 (m + n)), (0, i)] [] μ (qI 0 fun z μ' => (Fr 1 0 1 0 μ' μ) ∧ (isMn 1000000000 (nrP D bh (m - 60) n) z)) := by
    intro n22
    induction n22 using Nat.strongRecOn with
    | ind n22 ih22 =>
      intro v i hn22 hi0 hv
      have hvr := lnR_b hok hbp hv
      refine w_iload dX4_leastNear_22 rfl ?_
      refine w_iload dX4_leastNear_24 rfl ?_
      refine w_icmp_gt (tgt := 47) dX4_leastNear_26 rfl (R32.in (by omega)) (R32.in (by omega)) (fun c26 => ?_) (fun c26 => ?_)
      · skip
        refine w_iload_n dX4_leastNear_47 rfl rfl ?_
        exact w_iretI dX4_leastNear_48 rfl ⟨Fr.rf, (by exact lnR_end hv (by omega) hn.1 hm)⟩
      · skip
        refine w_iload_n dX4_leastNear_29 rfl rfl ?_
        refine w_aload_n dX4_leastNear_30 rfl rfl (by first | decide | omega) ?_
        refine w_getR (o := 16) (x := 18) fX4_leastNear_31 rfl rfl rfl rfl ?_
        refine w_iload dX4_leastNear_34 rfl ?_
        refine w_ialdx (o := 18) (n := 121) (x := μ 18 i) dX4_leastNear_36 rfl rfl (Nat.le_of_ble_eq_true rfl) (by omega) rfl ?_
        have hbr := blS_r hok hbp hbl (j := i) (by omega)
        refine w_min fX4_leastNear_37 (R32.in (by omega)) (R32.in (by omega)) (Nat.le_of_ble_eq_true rfl) ?_
        refine w_istore_n (ls' := [(2, 16), (9, 0), (9, 0), (0, min v (μ 18 i)), (0, min 120 (m + n)), (0, i)]) dX4_leastNear_40 rfl (Nat.le_of_ble_eq_true rfl) rfl rfl ?_
        refine w_iinc (ls' := [(2, 16), (9, 0), (9, 0), (0, min v (μ 18 i)), (0, min 120 (m + n)), (0, i + 1)]) dX4_leastNear_41 rfl (Nat.le_of_ble_eq_true rfl) rfl rfl ?_
        refine w_goto (tgt := 22) dX4_leastNear_44 rfl ?_
        exact ih22 _ (by omega) (min v (μ 18 i)) (i + 1) rfl (by first | omega | assumption) (lnR_s hbl hv (by omega) (by omega))
  refine Wp.fgl (ls' := [(2, 16), (9, 0), (0, n), (0, 1000000000), (0, min 120 (m + n)), (0, max 0 (m - n))]) 1 rfl ?_
  refine Wp.fgl (ls' := [(2, 16), (9, 0), (9, 0), (0, 1000000000), (0, min 120 (m + n)), (0, max 0 (m - n))]) 2 rfl ?_
  exact hL22 _ 1000000000 (max 0 (m - n)) rfl (by first | omega | assumption) lnR_0

set_option maxRecDepth 100000 in
set_option maxHeartbeats 4000000 in
theorem s_X4_cheapest (X : AX) (D : GDt) (g : Int) (r : Int) (n : Int) (bh : Int → Int) (μ : Mu) (hD : GLd D μ) (hK : GK D μ) (hg : 0 ≤ g ∧ g ≤ 31) (hB : ∀ r, -60 ≤ r → r ≤ 60 → μ 17 ((g + 1) * 121 + r + 60) = bh r ∧ 0 ≤ bh r ∧ bh r ≤ 1000000000) (hr : -60 ≤ r ∧ r ≤ 60) (hn : 0 ≤ n ∧ n ≤ 121) (hfe : FE D bh 1000000000 r n) : Wp (GG X) M_X4_cheapest 0 [(2, 16), (2, 6), (0, g), (0, r), (0, n), (9, 0), (9, 0), (9, 0), (9, 0), (9, 0), (9, 0), (9, 0)] [] μ (qI 1 fun z μ' => (Fr 1 0 1 0 μ' μ) ∧ (z = chF D bh r n)) := by
  have hok := hD.ok
  have hcr := hK.c
  refine w_ldc (n := 1000000000) dX4_cheapest_0 k_1119 (by decide) ?_
  refine w_istore (ls' := [(2, 16), (2, 6), (0, g), (0, r), (0, n), (0, 1000000000), (9, 0), (9, 0), (9, 0), (9, 0), (9, 0), (9, 0)]) dX4_cheapest_2 (Nat.le_of_ble_eq_true rfl) rfl rfl ?_
  refine w_ldc2 (n := 9223372036854775807) dX4_cheapest_4 k_1140 (by decide) ?_
  refine w_lstore (ls' := [(2, 16), (2, 6), (0, g), (0, r), (0, n), (0, 1000000000), (1, 9223372036854775807), (9, 0), (9, 0), (9, 0), (9, 0), (9, 0)]) dX4_cheapest_7 (Nat.le_of_ble_eq_true rfl) rfl rfl ?_
  refine w_iconst dX4_cheapest_9 ?_
  refine w_istore (ls' := [(2, 16), (2, 6), (0, g), (0, r), (0, n), (0, 1000000000), (1, 9223372036854775807), (9, 0), (0, 0), (9, 0), (9, 0), (9, 0)]) dX4_cheapest_10 (Nat.le_of_ble_eq_true rfl) rfl rfl ?_
  have hL12 : ∀ (n12 : Nat) (v : Int) (z : Int) (i : Int), (μ 6 11 - i).toNat = n12 → (0 ≤ i ∧ i ≤ μ 6 11) → (cpR D (μ 12) bh r n i v z) → Wp (GG X) M_X4_cheapest 12 [(2, 16), (2, 6), (0, g), (0, r), (0, n), (0, v), (1, z), (9, 0), (0, i), (9, 0), (9, 0), (9, 0)] [] μ (qI 1 fun z μ' => (Fr 1 0 1 0 μ' μ) ∧ (z = chF D bh r n)) := by
    intro n12
    induction n12 using Nat.strongRecOn with
    | ind n12 ih12 =>
      intro v z i hn12 hi0 hv
      have hvr := hv.1
      have hzr := isK_r hok hv.2.1
      refine w_iload dX4_cheapest_12 rfl ?_
      refine w_aload_n dX4_cheapest_14 rfl rfl (by first | decide | omega) ?_
      refine w_getIx (o := 6) (f := 11) (x := μ 6 11) fX4_cheapest_15 rfl rfl (Nat.le_of_ble_eq_true rfl) rfl rfl ?_
      have hr1 := hK.c
      refine w_icmp_ge (tgt := 92) dX4_cheapest_18 rfl (R32.in (by omega)) (R32.in (by omega)) (fun c18 => ?_) (fun c18 => ?_)
      · skip
        refine w_lload dX4_cheapest_92 rfl ?_
        exact w_lretI dX4_cheapest_94 rfl ⟨Fr.rf, (by have he : i = μ 6 11 := (by omega); subst he; exact cpR_end hK (fun r h1 h2 => (hB r h1 h2).2) hfe hv)⟩
      · skip
        obtain ⟨s, l, his, hal, -, hky⟩ := hK.1.2.1 i hi0.1 (by omega)
        have hl6 : -60 ≤ l ∧ l ≤ 60 := his.1.1
        have hr6 : -60 ≤ l + s ∧ l + s ≤ 60 := his.1.2
        have hug := ugl_r hok hal his.2
        have hbv := (hB (l + s) hr6.1 hr6.2).2
        refine w_aload_n dX4_cheapest_21 rfl rfl (by first | decide | omega) ?_
        refine w_getR (o := 6) (x := 12) fX4_cheapest_22 rfl rfl rfl rfl ?_
        refine w_iload dX4_cheapest_25 rfl ?_
        refine w_laldx (o := 12) (n := 595) (x := μ 12 i) dX4_cheapest_27 rfl rfl (Nat.le_of_ble_eq_true rfl) (by omega) rfl ?_
        have hr2 := hK.kr (j := i) (by omega)
        refine w_lstore (ls' := [(2, 16), (2, 6), (0, g), (0, r), (0, n), (0, v), (1, z), (9, 0), (0, i), (1, μ 12 i), (9, 0), (9, 0)]) dX4_cheapest_28 (Nat.le_of_ble_eq_true rfl) rfl rfl ?_
        refine w_aload_n dX4_cheapest_30 rfl rfl (by first | decide | omega) ?_
        refine w_lload dX4_cheapest_31 rfl ?_
        refine w_callVP (o := 6) (ci := 0) (as := [(1, μ 12 i)]) (rest := []) (k := 0) fX4_cheapest_33 rfl rfl rfl rfl rfl rfl rfl rfl (Nat.le_of_ble_eq_true rfl) (s_X0_leftOf_k X D s l (μ 12 i) μ hD his hal hky) ?_
        refine w_iload_n dX4_cheapest_36 rfl rfl ?_
        refine w_isub dX4_cheapest_37 ?_
        refine w_abs fX4_cheapest_38 (R32.in (by omega)) (Nat.le_of_ble_eq_true rfl) ?_
        refine w_iload dX4_cheapest_41 rfl ?_
        refine w_icmp_gt (tgt := 86) dX4_cheapest_43 rfl (R32.in (by omega)) (R32.in (by omega)) (fun c43 => ?_) (fun c43 => ?_)
        · skip
          refine w_iinc (ls' := [(2, 16), (2, 6), (0, g), (0, r), (0, n), (0, v), (1, z), (9, 0), (0, i + 1), (1, μ 12 i), (9, 0), (9, 0)]) dX4_cheapest_86 rfl (Nat.le_of_ble_eq_true rfl) rfl rfl ?_
          refine w_goto (tgt := 12) dX4_cheapest_89 rfl ?_
          refine Wp.fgl (ls' := [(2, 16), (2, 6), (0, g), (0, r), (0, n), (0, v), (1, z), (9, 0), (0, i + 1), (9, 0), (9, 0), (9, 0)]) 9 rfl ?_
          exact ih12 _ (by omega) v z (i + 1) rfl (by first | omega | assumption) (by first | exact cpR_take hok hv his hal hky (by unfold ab; omega) (by unfold cst; omega) (by unfold cst; rw [← hky]; omega) | exact (cpR_eqz hky (cpR_take hok hv his hal hky (by unfold ab; omega) (by unfold cst; omega) (by unfold cst; rw [← hky]; omega))) | exact cpR_keep hok hv his hal hky (by unfold cst; rw [← hky]; omega) | exact cpR_far hok hv his hal hky (by unfold ab; omega))
        · skip
          refine w_aload_n dX4_cheapest_46 rfl rfl (by first | decide | omega) ?_
          refine w_aload_n dX4_cheapest_47 rfl rfl (by first | decide | omega) ?_
          refine w_iload_n dX4_cheapest_48 rfl rfl ?_
          refine w_lload dX4_cheapest_49 rfl ?_
          refine w_callVP (o := 16) (ci := 4) (as := [(2, 6), (0, g), (1, μ 12 i)]) (rest := []) (k := 1) fX4_cheapest_51 rfl rfl rfl rfl rfl rfl rfl rfl (Nat.le_of_ble_eq_true rfl) (s_X4_costFrom X D g s l (μ 12 i) bh μ hD his hal hky (by first | omega | assumption) hB) ?_
          refine w_istore (ls' := [(2, 16), (2, 6), (0, g), (0, r), (0, n), (0, v), (1, z), (9, 0), (0, i), (1, μ 12 i), (9, 0), (0, min 1000000000 (ugl D s l + bh (l + s)))]) dX4_cheapest_54 (Nat.le_of_ble_eq_true rfl) rfl rfl ?_
          refine w_iload dX4_cheapest_56 rfl ?_
          refine w_iload dX4_cheapest_58 rfl ?_
          refine w_icmp_lt (tgt := 78) dX4_cheapest_60 rfl (R32.in (by omega)) (R32.in (by omega)) (fun c60 => ?_) (fun c60 => ?_)
          · skip
            refine w_iload dX4_cheapest_78 rfl ?_
            refine w_istore (ls' := [(2, 16), (2, 6), (0, g), (0, r), (0, n), (0, min 1000000000 (ugl D s l + bh (l + s))), (1, z), (9, 0), (0, i), (1, μ 12 i), (9, 0), (0, min 1000000000 (ugl D s l + bh (l + s)))]) dX4_cheapest_80 (Nat.le_of_ble_eq_true rfl) rfl rfl ?_
            refine w_lload dX4_cheapest_82 rfl ?_
            refine w_lstore (ls' := [(2, 16), (2, 6), (0, g), (0, r), (0, n), (0, min 1000000000 (ugl D s l + bh (l + s))), (1, μ 12 i), (9, 0), (0, i), (1, μ 12 i), (9, 0), (0, min 1000000000 (ugl D s l + bh (l + s)))]) dX4_cheapest_84 (Nat.le_of_ble_eq_true rfl) rfl rfl ?_
            refine w_iinc (ls' := [(2, 16), (2, 6), (0, g), (0, r), (0, n), (0, min 1000000000 (ugl D s l + bh (l + s))), (1, μ 12 i), (9, 0), (0, i + 1), (1, μ 12 i), (9, 0), (0, min 1000000000 (ugl D s l + bh (l + s)))]) dX4_cheapest_86 rfl (Nat.le_of_ble_eq_true rfl) rfl rfl ?_
            refine w_goto (tgt := 12) dX4_cheapest_89 rfl ?_
            refine Wp.fgl (ls' := [(2, 16), (2, 6), (0, g), (0, r), (0, n), (0, min 1000000000 (ugl D s l + bh (l + s))), (1, μ 12 i), (9, 0), (0, i + 1), (9, 0), (9, 0), (0, min 1000000000 (ugl D s l + bh (l + s)))]) 9 rfl ?_
            refine Wp.fgl (ls' := [(2, 16), (2, 6), (0, g), (0, r), (0, n), (0, min 1000000000 (ugl D s l + bh (l + s))), (1, μ 12 i), (9, 0), (0, i + 1), (9, 0), (9, 0), (9, 0)]) 11 rfl ?_
            exact ih12 _ (by omega) (min 1000000000 (ugl D s l + bh (l + s))) (μ 12 i) (i + 1) rfl (by first | omega | assumption) (by first | exact cpR_take hok hv his hal hky (by unfold ab; omega) (by unfold cst; omega) (by unfold cst; rw [← hky]; omega) | exact (cpR_eqz hky (cpR_take hok hv his hal hky (by unfold ab; omega) (by unfold cst; omega) (by unfold cst; rw [← hky]; omega))) | exact cpR_keep hok hv his hal hky (by unfold cst; rw [← hky]; omega) | exact cpR_far hok hv his hal hky (by unfold ab; omega))
          · skip
            refine w_iload dX4_cheapest_63 rfl ?_
            refine w_iload dX4_cheapest_65 rfl ?_
            refine w_icmp_ne (tgt := 86) dX4_cheapest_67 rfl (R32.in (by omega)) (R32.in (by omega)) (fun c67 => ?_) (fun c67 => ?_)
            · skip
              refine w_iinc (ls' := [(2, 16), (2, 6), (0, g), (0, r), (0, n), (0, v), (1, z), (9, 0), (0, i + 1), (1, μ 12 i), (9, 0), (0, min 1000000000 (ugl D s l + bh (l + s)))]) dX4_cheapest_86 rfl (Nat.le_of_ble_eq_true rfl) rfl rfl ?_
              refine w_goto (tgt := 12) dX4_cheapest_89 rfl ?_
              refine Wp.fgl (ls' := [(2, 16), (2, 6), (0, g), (0, r), (0, n), (0, v), (1, z), (9, 0), (0, i + 1), (9, 0), (9, 0), (0, min 1000000000 (ugl D s l + bh (l + s)))]) 9 rfl ?_
              refine Wp.fgl (ls' := [(2, 16), (2, 6), (0, g), (0, r), (0, n), (0, v), (1, z), (9, 0), (0, i + 1), (9, 0), (9, 0), (9, 0)]) 11 rfl ?_
              exact ih12 _ (by omega) v z (i + 1) rfl (by first | omega | assumption) (by first | exact cpR_take hok hv his hal hky (by unfold ab; omega) (by unfold cst; omega) (by unfold cst; rw [← hky]; omega) | exact (cpR_eqz hky (cpR_take hok hv his hal hky (by unfold ab; omega) (by unfold cst; omega) (by unfold cst; rw [← hky]; omega))) | exact cpR_keep hok hv his hal hky (by unfold cst; rw [← hky]; omega) | exact cpR_far hok hv his hal hky (by unfold ab; omega))
            · skip
              refine w_lload dX4_cheapest_70 rfl ?_
              have hkr := key_r hok hal his
              refine w_lload dX4_cheapest_72 rfl ?_
              refine w_lc_ge (tgt := 86) dX4_cheapest_74 dX4_cheapest_75 rfl (R64.in (by omega)) (R64.in (by omega)) (fun c75 => ?_) (fun c75 => ?_)
              · skip
                refine w_iinc (ls' := [(2, 16), (2, 6), (0, g), (0, r), (0, n), (0, v), (1, z), (9, 0), (0, i + 1), (1, μ 12 i), (9, 0), (0, min 1000000000 (ugl D s l + bh (l + s)))]) dX4_cheapest_86 rfl (Nat.le_of_ble_eq_true rfl) rfl rfl ?_
                refine w_goto (tgt := 12) dX4_cheapest_89 rfl ?_
                refine Wp.fgl (ls' := [(2, 16), (2, 6), (0, g), (0, r), (0, n), (0, v), (1, z), (9, 0), (0, i + 1), (9, 0), (9, 0), (0, min 1000000000 (ugl D s l + bh (l + s)))]) 9 rfl ?_
                refine Wp.fgl (ls' := [(2, 16), (2, 6), (0, g), (0, r), (0, n), (0, v), (1, z), (9, 0), (0, i + 1), (9, 0), (9, 0), (9, 0)]) 11 rfl ?_
                exact ih12 _ (by omega) v z (i + 1) rfl (by first | omega | assumption) (by first | exact cpR_take hok hv his hal hky (by unfold ab; omega) (by unfold cst; omega) (by unfold cst; rw [← hky]; omega) | exact (cpR_eqz hky (cpR_take hok hv his hal hky (by unfold ab; omega) (by unfold cst; omega) (by unfold cst; rw [← hky]; omega))) | exact cpR_keep hok hv his hal hky (by unfold cst; rw [← hky]; omega) | exact cpR_far hok hv his hal hky (by unfold ab; omega))
              · skip
                refine w_iload dX4_cheapest_78 rfl ?_
                refine w_istore (ls' := [(2, 16), (2, 6), (0, g), (0, r), (0, n), (0, min 1000000000 (ugl D s l + bh (l + s))), (1, z), (9, 0), (0, i), (1, μ 12 i), (9, 0), (0, min 1000000000 (ugl D s l + bh (l + s)))]) dX4_cheapest_80 (Nat.le_of_ble_eq_true rfl) rfl rfl ?_
                refine w_lload dX4_cheapest_82 rfl ?_
                refine w_lstore (ls' := [(2, 16), (2, 6), (0, g), (0, r), (0, n), (0, min 1000000000 (ugl D s l + bh (l + s))), (1, μ 12 i), (9, 0), (0, i), (1, μ 12 i), (9, 0), (0, min 1000000000 (ugl D s l + bh (l + s)))]) dX4_cheapest_84 (Nat.le_of_ble_eq_true rfl) rfl rfl ?_
                refine w_iinc (ls' := [(2, 16), (2, 6), (0, g), (0, r), (0, n), (0, min 1000000000 (ugl D s l + bh (l + s))), (1, μ 12 i), (9, 0), (0, i + 1), (1, μ 12 i), (9, 0), (0, min 1000000000 (ugl D s l + bh (l + s)))]) dX4_cheapest_86 rfl (Nat.le_of_ble_eq_true rfl) rfl rfl ?_
                refine w_goto (tgt := 12) dX4_cheapest_89 rfl ?_
                refine Wp.fgl (ls' := [(2, 16), (2, 6), (0, g), (0, r), (0, n), (0, min 1000000000 (ugl D s l + bh (l + s))), (1, μ 12 i), (9, 0), (0, i + 1), (9, 0), (9, 0), (0, min 1000000000 (ugl D s l + bh (l + s)))]) 9 rfl ?_
                refine Wp.fgl (ls' := [(2, 16), (2, 6), (0, g), (0, r), (0, n), (0, min 1000000000 (ugl D s l + bh (l + s))), (1, μ 12 i), (9, 0), (0, i + 1), (9, 0), (9, 0), (9, 0)]) 11 rfl ?_
                exact ih12 _ (by omega) (min 1000000000 (ugl D s l + bh (l + s))) (μ 12 i) (i + 1) rfl (by first | omega | assumption) (by first | exact cpR_take hok hv his hal hky (by unfold ab; omega) (by unfold cst; omega) (by unfold cst; rw [← hky]; omega) | exact (cpR_eqz hky (cpR_take hok hv his hal hky (by unfold ab; omega) (by unfold cst; omega) (by unfold cst; rw [← hky]; omega))) | exact cpR_keep hok hv his hal hky (by unfold cst; rw [← hky]; omega) | exact cpR_far hok hv his hal hky (by unfold ab; omega))
  exact hL12 _ 1000000000 9223372036854775807 0 rfl (by first | omega | assumption) cpR_0

set_option maxRecDepth 100000 in
set_option maxHeartbeats 4000000 in
theorem s_X4_choose (X : AX) (p : Int) (n : Int) (w : Int) (μ ν : Mu) (hA9 : ∀ o : Int, (p ≤ o ∧ o ≤ p + 10) → ν o = μ o) (hI : PI μ p) (hG : PG μ p) (hLA : LDA μ p (p + 5) (μ p 3)) (hn : 0 ≤ n ∧ n ≤ 120) (hw : 0 ≤ w ∧ w < μ p 14) (hB : ∀ g, 0 ≤ g → g ≤ μ p 14 → ∀ r, -60 ≤ r → r ≤ 60 → ν 17 (g * 121 + r + 60) = (bhI 1000000000 (ddt μ p (p + 5) (μ p 3)) n (μ p 14) g r)) (hsm : smT 1000000000 (ddt μ p (p + 5) (μ p 3)) n (μ p 14) < 1000000000) : Wp (GG X) M_X4_choose 0 [(2, 16), (2, p), (2, 6), (0, n), (0, w), (9, 0), (9, 0), (9, 0), (9, 0)] [] ν (qI 1 fun z μ' => (Fr 6 14 1 0 μ' ν) ∧ (z = chI (ddt μ p (p + 5) (μ p 3)) n (μ p 14) (w + 1)) ∧ (GLd (ddt μ p (p + 5) (μ p 3) w) μ') ∧ (GK (ddt μ p (p + 5) (μ p 3) w) μ')) := by
  have hp := hI.at
  have hgr := hG.gr
  have hdd := hLA.dd hI hG
  refine w_ldc2 (n := 9223372036854775807) dX4_choose_0 k_1140 (by decide) ?_
  refine w_lstore (ls' := [(2, 16), (2, p), (2, 6), (0, n), (0, w), (1, 9223372036854775807), (9, 0), (9, 0), (9, 0)]) dX4_choose_3 (Nat.le_of_ble_eq_true rfl) rfl rfl ?_
  refine w_iconst dX4_choose_5 ?_
  refine w_istore (ls' := [(2, 16), (2, p), (2, 6), (0, n), (0, w), (1, 9223372036854775807), (9, 0), (0, 0), (9, 0)]) dX4_choose_6 (Nat.le_of_ble_eq_true rfl) rfl rfl ?_
  refine w_iconst dX4_choose_8 ?_
  refine w_istore (ls' := [(2, 16), (2, p), (2, 6), (0, n), (0, w), (1, 9223372036854775807), (9, 0), (0, 0), (0, 0)]) dX4_choose_9 (Nat.le_of_ble_eq_true rfl) rfl rfl ?_
  have hL11 : ∀ (n11 : Nat) (c : Int) (r : Int) (g : Int) (μ1 : Mu), (w + 1 - g).toNat = n11 → Fr 6 14 1 0 μ1 ν → (0 ≤ g ∧ g ≤ w + 1) → (c = chI (ddt μ p (p + 5) (μ p 3)) n (μ p 14) g) → (r = chR (ddt μ p (p + 5) (μ p 3)) n (μ p 14) g) → (fsb (ddt μ p (p + 5) (μ p 3)) n (μ p 14) g) → (0 < g → GLd (ddt μ p (p + 5) (μ p 3) (g - 1)) μ1 ∧ GK (ddt μ p (p + 5) (μ p 3) (g - 1)) μ1) → Wp (GG X) M_X4_choose 11 [(2, 16), (2, p), (2, 6), (0, n), (0, w), (1, c), (9, 0), (0, r), (0, g)] [] μ1 (qI 1 fun z μ' => (Fr 6 14 1 0 μ' ν) ∧ (z = chI (ddt μ p (p + 5) (μ p 3)) n (μ p 14) (w + 1)) ∧ (GLd (ddt μ p (p + 5) (μ p 3) w) μ') ∧ (GK (ddt μ p (p + 5) (μ p 3) w) μ')) := by
    intro n11
    induction n11 using Nat.strongRecOn with
    | ind n11 ih11 =>
      intro c r g μ1 hn11 hF11 hg0 hc hr hfs hDK
      have hfr := hfs.1
      refine w_iload dX4_choose_11 rfl ?_
      refine w_iload dX4_choose_13 rfl ?_
      refine w_icmp_gt (tgt := 70) dX4_choose_15 rfl (R32.in (by omega)) (R32.in (by omega)) (fun c15 => ?_) (fun c15 => ?_)
      · skip
        refine w_lload dX4_choose_70 rfl ?_
        exact w_lretI dX4_choose_72 rfl ⟨hF11, (by have he : g = w + 1 := (by omega); rw [← he]; exact hc), (by have he : w = g - 1 := (by omega); rw [he]; exact (hDK (by omega)).1), (by have he : w = g - 1 := (by omega); rw [he]; exact (hDK (by omega)).2)⟩
      · skip
        refine w_iload dX4_choose_18 rfl ?_
        refine w_aload_n dX4_choose_20 rfl rfl (by first | decide | omega) ?_
        refine w_getIx (o := (p).toNat) (f := 14) (x := μ p 14) fX4_choose_21 (by omega) (pSh0 rfl rfl (by assumption)) (Nat.le_of_ble_eq_true rfl) rfl ((congrFun (hF11.at (by omega) (by omega)) _).trans (congrFun (hA9 _ (by omega)) _)) ?_
        have hr1 := PG.gr hG
        refine w_icmp_ge (tgt := 70) dX4_choose_24 rfl (R32.in (by omega)) (R32.in (by omega)) (fun c24 => ?_) (fun c24 => ?_)
        · skip
          omega
        · skip
          refine w_aload_n dX4_choose_27 rfl rfl (by first | decide | omega) ?_
          refine w_aload_n dX4_choose_28 rfl rfl (by first | decide | omega) ?_
          refine w_iload dX4_choose_29 rfl ?_
          refine w_callSV (as := [(2, p), (2, 6), (0, g)]) (rest := []) (k := 0) fX4_choose_31 rfl rfl rfl rfl rfl (Nat.le_of_ble_eq_true rfl) (s_X4_loadGathered X p g μ μ1 (fun o h1 => ((hF11.at (by omega) (by omega)).trans (hA9 _ (by omega)))) hI hG (by first | assumption | omega) (by first | omega | assumption)) (fun μL hμL => ?_)
          obtain ⟨hFL, hD_L, hK_L⟩ := hμL
          refine w_aload_n dX4_choose_34 rfl rfl (by first | decide | omega) ?_
          refine w_aload_n dX4_choose_35 rfl rfl (by first | decide | omega) ?_
          refine w_iload dX4_choose_36 rfl ?_
          refine w_iload dX4_choose_38 rfl ?_
          refine w_iload dX4_choose_40 rfl ?_
          have hJ42_1 : ∀ z1_0 : Int, z1_0 = (if ¬ g = 0 then n else 121) → Wp (GG X) M_X4_choose 51 [(2, 16), (2, p), (2, 6), (0, n), (0, w), (1, c), (9, 0), (0, r), (0, g)] [(0, z1_0), (0, r), (0, g), (2, 6), (2, 16)] μL (qI 1 fun z μ' => (Fr 6 14 1 0 μ' ν) ∧ (z = chI (ddt μ p (p + 5) (μ p 3)) n (μ p 14) (w + 1)) ∧ (GLd (ddt μ p (p + 5) (μ p 3) w) μ') ∧ (GK (ddt μ p (p + 5) (μ p 3) w) μ')) := by
            intro z1_0 hz1_0
            refine Wp.topE (b := if g = 0 then 121 else n) (by omega) ?_
            refine w_callVI (o := 16) (ci := 4) (as := [(2, 6), (0, g), (0, r), (0, if g = 0 then 121 else n)]) (rest := []) (k := 7) fX4_choose_51 rfl rfl rfl rfl rfl rfl rfl rfl (Nat.le_of_ble_eq_true rfl) (s_X4_cheapest X (ddt μ p (p + 5) (μ p 3) g) g r (if g = 0 then 121 else n) (bhI 1000000000 (ddt μ p (p + 5) (μ p 3)) n (μ p 14) (g + 1)) μL hD_L hK_L (by first | omega | assumption) (fun r h1 h2 => ⟨by rw [hFL.at (by omega) (by omega), hF11.at (by omega) (by omega)]; exact hB (g + 1) (by omega) (by omega) r h1 h2, bhI_b (by decide) hdd (by omega) r⟩) (by first | omega | assumption) (by first | omega | assumption) (by rw [hr]; exact hfs.2 (by omega))) (fun xC μC hμC => ?_)
            obtain ⟨hFC, hz_C⟩ := hμC
            refine w_lstore (ls' := [(2, 16), (2, p), (2, 6), (0, n), (0, w), (1, xC), (9, 0), (0, r), (0, g)]) dX4_choose_54 (Nat.le_of_ble_eq_true rfl) rfl rfl ?_
            refine w_aload_n dX4_choose_56 rfl rfl (by first | decide | omega) ?_
            refine w_lload dX4_choose_57 rfl ?_
            refine w_callVP (o := 6) (ci := 0) (as := [(1, xC)]) (rest := []) (k := 0) fX4_choose_59 rfl rfl rfl rfl rfl rfl rfl rfl (Nat.le_of_ble_eq_true rfl) (s_X0_rightOf X (ddt μ p (p + 5) (μ p 3) g) xC μC (GLd.cg2 hD_L (fun o h1 => (hFC.at (by omega) (by omega))) (fun k h1 => (congrFun (hFC.at (by omega) (by omega)) _)))) ?_
            refine w_istore (ls' := [(2, 16), (2, p), (2, 6), (0, n), (0, w), (1, xC), (9, 0), (0, way (ddt μ p (p + 5) (μ p 3) g) 0 * (xC % 128 - 60)), (0, g)]) dX4_choose_62 (Nat.le_of_ble_eq_true rfl) rfl rfl ?_
            refine w_iinc (ls' := [(2, 16), (2, p), (2, 6), (0, n), (0, w), (1, xC), (9, 0), (0, way (ddt μ p (p + 5) (μ p 3) g) 0 * (xC % 128 - 60)), (0, g + 1)]) dX4_choose_64 rfl (Nat.le_of_ble_eq_true rfl) rfl rfl ?_
            refine w_goto (tgt := 11) dX4_choose_67 rfl ?_
            exact ih11 _ (by omega) xC (way (ddt μ p (p + 5) (μ p 3) g) 0 * (xC % 128 - 60)) (g + 1) μC rfl ((hFC.wd (by omega) (by omega)).tr ((hFL.wd (by omega) (by omega)).tr hF11)) (by first | omega | assumption) (by rw [chI_s hg0.1, ← hr]; exact hz_C) (by rw [chR_s hg0.1, chI_s hg0.1, ← hr, ← hz_C]; rfl) (fsb_s hdd ⟨hg0.1, by omega⟩ hfs) (fun _ => by rw [show g + 1 - 1 = g by omega]; exact ⟨(GLd.cg2 hD_L (fun o h1 => (hFC.at (by omega) (by omega))) (fun k h1 => (congrFun (hFC.at (by omega) (by omega)) _))), (GK.cg2 hK_L (fun o h1 => (hFC.at (by omega) (by omega))) (fun k h1 => (congrFun (hFC.at (by omega) (by omega)) _)))⟩)
          refine w_if_ne (tgt := 50) dX4_choose_42 rfl (R32.in (by omega)) (fun c42 => ?_) (fun c42 => ?_)
          · skip
            refine w_iload_n dX4_choose_50 rfl rfl ?_
            exact hJ42_1 _ (by first | omega | simp [*])
          · skip
            refine w_bipush dX4_choose_45 (by decide) ?_
            refine w_goto (tgt := 51) dX4_choose_47 rfl ?_
            exact hJ42_1 _ (by first | omega | simp [*])
  exact hL11 _ 9223372036854775807 0 0 ν rfl Fr.rf (by first | omega | assumption) rfl rfl (fsb_0 hdd hsm) (fun q => by omega)

set_option maxRecDepth 100000 in
set_option maxHeartbeats 4000000 in
theorem s_X4_weigh (X : AX) (p : Int) (n : Int) (μ ν : Mu) (hA9 : ∀ o : Int, (p ≤ o ∧ o ≤ p + 10) → ν o = μ o) (hI : PI μ p) (hG : PG μ p) (hLA : LDA μ p (p + 5) (μ p 3)) (hn : 0 ≤ n ∧ n ≤ 120) : Wp (GG X) M_X4_weigh 0 [(2, 16), (2, p), (2, 6), (0, n), (9, 0), (9, 0), (9, 0)] [] ν (qI 0 fun z μ' => (Fr 6 18 1 0 μ' ν) ∧ ((z = 0 ∧ smT 1000000000 (ddt μ p (p + 5) (μ p 3)) n (μ p 14) = 1000000000) ∨ (z = 1 ∧ smT 1000000000 (ddt μ p (p + 5) (μ p 3)) n (μ p 14) < 1000000000)) ∧ (z = 1 → μ' 16 0 = smT 1000000000 (ddt μ p (p + 5) (μ p 3)) n (μ p 14)) ∧ (z = 1 → ∀ g, 0 ≤ g → g ≤ μ p 14 → ∀ r, -60 ≤ r → r ≤ 60 → μ' 17 (g * 121 + r + 60) = (bhI 1000000000 (ddt μ p (p + 5) (μ p 3)) n (μ p 14) g r))) := by
  have hp := hI.at
  have hgr := hG.gr
  have hdd := hLA.dd hI hG
  refine w_aload_n dX4_weigh_0 rfl rfl (by first | decide | omega) ?_
  refine w_getIx (o := (p).toNat) (f := 14) (x := μ p 14) fX4_weigh_1 (by omega) (pSh0 rfl rfl (by assumption)) (Nat.le_of_ble_eq_true rfl) rfl (congrFun (hA9 _ (by omega)) _) ?_
  have hr1 := PG.gr hG
  refine w_bipush dX4_weigh_4 (by decide) ?_
  refine w_min fX4_weigh_6 (R32.in (by omega)) (R32.in (by decide)) (Nat.le_of_ble_eq_true rfl) ?_
  refine Wp.topE (b := μ p 14) (by omega) ?_
  refine w_istore (ls' := [(2, 16), (2, p), (2, 6), (0, n), (0, μ p 14), (9, 0), (9, 0)]) dX4_weigh_9 (Nat.le_of_ble_eq_true rfl) rfl rfl ?_
  refine w_iconst dX4_weigh_11 ?_
  refine w_istore (ls' := [(2, 16), (2, p), (2, 6), (0, n), (0, μ p 14), (0, 0), (9, 0)]) dX4_weigh_12 (Nat.le_of_ble_eq_true rfl) rfl rfl ?_
  have hL14 : ∀ (n14 : Nat) (i : Int) (μ1 : Mu), (121 - i).toNat = n14 → Fr 6 18 1 0 μ1 ν → (0 ≤ i ∧ i ≤ 121) → (∀ j : Int, μ p 14 * 121 ≤ j → j < μ p 14 * 121 + i → μ1 17 j = 0) → Wp (GG X) M_X4_weigh 14 [(2, 16), (2, p), (2, 6), (0, n), (0, μ p 14), (0, i), (9, 0)] [] μ1 (qI 0 fun z μ' => (Fr 6 18 1 0 μ' ν) ∧ ((z = 0 ∧ smT 1000000000 (ddt μ p (p + 5) (μ p 3)) n (μ p 14) = 1000000000) ∨ (z = 1 ∧ smT 1000000000 (ddt μ p (p + 5) (μ p 3)) n (μ p 14) < 1000000000)) ∧ (z = 1 → μ' 16 0 = smT 1000000000 (ddt μ p (p + 5) (μ p 3)) n (μ p 14)) ∧ (z = 1 → ∀ g, 0 ≤ g → g ≤ μ p 14 → ∀ r, -60 ≤ r → r ≤ 60 → μ' 17 (g * 121 + r + 60) = (bhI 1000000000 (ddt μ p (p + 5) (μ p 3)) n (μ p 14) g r))) := by
    intro n14
    induction n14 using Nat.strongRecOn with
    | ind n14 ih14 =>
      intro i μ1 hn14 hF14 hi0 hf
      refine w_iload dX4_weigh_14 rfl ?_
      refine w_bipush dX4_weigh_16 (by decide) ?_
      refine w_icmp_ge (tgt := 41) dX4_weigh_18 rfl (R32.in (by omega)) (R32.in (by decide)) (fun c18 => ?_) (fun c18 => ?_)
      · skip
        refine w_aload_n dX4_weigh_41 rfl rfl (by first | decide | omega) ?_
        refine w_iconst dX4_weigh_42 ?_
        refine w_putI (o := 16) (f := 0) fX4_weigh_43 rfl rfl rfl rfl rfl ?_
        refine w_iload dX4_weigh_46 rfl ?_
        refine w_iconst dX4_weigh_48 ?_
        refine w_isub dX4_weigh_49 ?_
        refine w_istore (ls' := [(2, 16), (2, p), (2, 6), (0, n), (0, μ p 14), (0, (μ p 14) - 1), (9, 0)]) dX4_weigh_50 (Nat.le_of_ble_eq_true rfl) rfl rfl ?_
        have hL52 : ∀ (n52 : Nat) (g : Int) (μ2 : Mu), (g + 1).toNat = n52 → Fr 6 18 1 0 μ2 ν → (-1 ≤ g ∧ g < μ p 14) → (∀ g2, g < g2 → g2 ≤ μ p 14 → ∀ r, -60 ≤ r → r ≤ 60 → μ2 17 (g2 * 121 + r + 60) = (bhI 1000000000 (ddt μ p (p + 5) (μ p 3)) n (μ p 14) g2 r)) → (μ2 16 0 = (if g + 1 < μ p 14 then tgA 1000000000 (ddt μ p (p + 5) (μ p 3)) n (μ p 14) (g + 1) else 0) ∧ (g + 1 < μ p 14 → tgA 1000000000 (ddt μ p (p + 5) (μ p 3)) n (μ p 14) (g + 1) < 1000000000)) → Wp (GG X) M_X4_weigh 52 [(2, 16), (2, p), (2, 6), (0, n), (9, 0), (0, g), (9, 0)] [] μ2 (qI 0 fun z μ' => (Fr 6 18 1 0 μ' ν) ∧ ((z = 0 ∧ smT 1000000000 (ddt μ p (p + 5) (μ p 3)) n (μ p 14) = 1000000000) ∨ (z = 1 ∧ smT 1000000000 (ddt μ p (p + 5) (μ p 3)) n (μ p 14) < 1000000000)) ∧ (z = 1 → μ' 16 0 = smT 1000000000 (ddt μ p (p + 5) (μ p 3)) n (μ p 14)) ∧ (z = 1 → ∀ g, 0 ≤ g → g ≤ μ p 14 → ∀ r, -60 ≤ r → r ≤ 60 → μ' 17 (g * 121 + r + 60) = (bhI 1000000000 (ddt μ p (p + 5) (μ p 3)) n (μ p 14) g r))) := by
          intro n52
          induction n52 using Nat.strongRecOn with
          | ind n52 ih52 =>
            intro g μ2 hn52 hF52 hg0 hB hT
            refine w_iload dX4_weigh_52 rfl ?_
            refine w_if_lt (tgt := 128) dX4_weigh_54 rfl (R32.in (by omega)) (fun c54 => ?_) (fun c54 => ?_)
            · skip
              refine w_iconst dX4_weigh_128 ?_
              exact w_zretI dX4_weigh_129 rfl (Or.inr rfl) ⟨hF52, (by exact Or.inr ⟨rfl, smT_fin (by have h9 := hT.2; rw [show g + 1 = 0 by omega] at h9; exact h9)⟩), (by exact fun _ => by rw [hT.1]; have he : g = -1 := (by omega); subst he; rfl), (by exact fun _ g2 h1 h2 => hB g2 (by omega) h2)⟩
            · skip
              refine w_aload_n dX4_weigh_57 rfl rfl (by first | decide | omega) ?_
              refine w_aload_n dX4_weigh_58 rfl rfl (by first | decide | omega) ?_
              refine w_iload dX4_weigh_59 rfl ?_
              refine w_callSV (as := [(2, p), (2, 6), (0, g)]) (rest := []) (k := 0) fX4_weigh_61 rfl rfl rfl rfl rfl (Nat.le_of_ble_eq_true rfl) (s_X4_loadGathered X p g μ μ2 (fun o h1 => ((hF52.at (by omega) (by omega)).trans (hA9 _ (by omega)))) hI hG (by first | assumption | omega) (by first | omega | assumption)) (fun μL hμL => ?_)
              obtain ⟨hFL, hD_L, hK_L⟩ := hμL
              refine w_aload_n dX4_weigh_64 rfl rfl (by first | decide | omega) ?_
              refine w_aload_n dX4_weigh_65 rfl rfl (by first | decide | omega) ?_
              refine w_aload_n dX4_weigh_66 rfl rfl (by first | decide | omega) ?_
              refine w_iload dX4_weigh_67 rfl ?_
              refine w_callVI (o := 16) (ci := 4) (as := [(2, 6), (0, g)]) (rest := [(2, 16)]) (k := 6) fX4_weigh_69 rfl rfl rfl rfl rfl rfl rfl rfl (Nat.le_of_ble_eq_true rfl) (s_X4_weighByLeft X (ddt μ p (p + 5) (μ p 3) g) g (bhI 1000000000 (ddt μ p (p + 5) (μ p 3)) n (μ p 14) (g + 1)) μL hD_L hK_L (by first | omega | assumption) (fun r h1 h2 => ⟨by rw [hFL.at (by omega) (by omega)]; exact hB (g + 1) (by omega) (by omega) r h1 h2, bhI_b (by decide) hdd (by omega) r⟩)) (fun xW μW hμW => ?_)
              obtain ⟨hFW, hz_W, hb_W⟩ := hμW
              have hxT := isMn_u hz_W (tgA_is (B := 1000000000) (n := n) (ng := μ p 14) (g := g) (hdd g (by omega) (by omega)))
              have hxr := tgA_b (B := 1000000000) (n := n) (by decide) hdd (show 0 ≤ g ∧ g < μ p 14 by omega)
              refine w_putI (o := 16) (f := 0) fX4_weigh_72 rfl rfl rfl rfl rfl ?_
              refine w_aload_n dX4_weigh_75 rfl rfl (by first | decide | omega) ?_
              refine w_getIx (o := 16) (f := 0) (x := xW) fX4_weigh_76 rfl rfl (Nat.le_of_ble_eq_true rfl) rfl am_up_at ?_
              refine w_ldc (n := 1000000000) dX4_weigh_79 k_1119 (by decide) ?_
              refine w_icmp_lt (tgt := 86) dX4_weigh_81 rfl (R32.in (by omega)) (R32.in (by decide)) (fun c81 => ?_) (fun c81 => ?_)
              · skip
                refine w_iconst dX4_weigh_86 ?_
                refine w_istore (ls' := [(2, 16), (2, p), (2, 6), (0, n), (9, 0), (0, g), (0, 0)]) dX4_weigh_87 (Nat.le_of_ble_eq_true rfl) rfl rfl ?_
                have hL89 : ∀ (n89 : Nat) (i : Int) (μ3 : Mu), (121 - i).toNat = n89 → Fr 6 18 1 0 μ3 ν → (0 ≤ i ∧ i ≤ 121) → (∀ g2, g < g2 → g2 ≤ μ p 14 → ∀ r, -60 ≤ r → r ≤ 60 → μ3 17 (g2 * 121 + r + 60) = (bhI 1000000000 (ddt μ p (p + 5) (μ p 3)) n (μ p 14) g2 r)) → (∀ j : Int, g * 121 ≤ j → j < g * 121 + i → μ3 17 j = (bhI 1000000000 (ddt μ p (p + 5) (μ p 3)) n (μ p 14) g (j - g * 121 - 60))) → (blS (ddt μ p (p + 5) (μ p 3) g) (bhI 1000000000 (ddt μ p (p + 5) (μ p 3)) n (μ p 14) (g + 1)) (μ3 18)) → (μ3 16 0 = xW) → Wp (GG X) M_X4_weigh 89 [(2, 16), (2, p), (2, 6), (0, n), (9, 0), (0, g), (0, i)] [] μ3 (qI 0 fun z μ' => (Fr 6 18 1 0 μ' ν) ∧ ((z = 0 ∧ smT 1000000000 (ddt μ p (p + 5) (μ p 3)) n (μ p 14) = 1000000000) ∨ (z = 1 ∧ smT 1000000000 (ddt μ p (p + 5) (μ p 3)) n (μ p 14) < 1000000000)) ∧ (z = 1 → μ' 16 0 = smT 1000000000 (ddt μ p (p + 5) (μ p 3)) n (μ p 14)) ∧ (z = 1 → ∀ g, 0 ≤ g → g ≤ μ p 14 → ∀ r, -60 ≤ r → r ≤ 60 → μ' 17 (g * 121 + r + 60) = (bhI 1000000000 (ddt μ p (p + 5) (μ p 3)) n (μ p 14) g r))) := by
                  intro n89
                  induction n89 using Nat.strongRecOn with
                  | ind n89 ih89 =>
                    intro i μ3 hn89 hF89 hi0 hB3 hf3 hbl3 h16
                    refine w_iload dX4_weigh_89 rfl ?_
                    refine w_bipush dX4_weigh_91 (by decide) ?_
                    refine w_icmp_ge (tgt := 122) dX4_weigh_93 rfl (R32.in (by omega)) (R32.in (by decide)) (fun c93 => ?_) (fun c93 => ?_)
                    · skip
                      refine w_iinc (ls' := [(2, 16), (2, p), (2, 6), (0, n), (9, 0), (0, g + (-1)), (0, i)]) dX4_weigh_122 rfl (Nat.le_of_ble_eq_true rfl) rfl rfl ?_
                      refine w_goto (tgt := 52) dX4_weigh_125 rfl ?_
                      refine Wp.fgl (ls' := [(2, 16), (2, p), (2, 6), (0, n), (9, 0), (0, g + (-1)), (9, 0)]) 6 rfl ?_
                      exact ih52 _ (by omega) (g + (-1)) μ3 rfl hF89 (by first | omega | assumption) (by rw [show g + -1 = g - 1 by omega]; exact wgh_s hB3 hf3 (by omega)) ⟨(h16.trans (by rw [if_pos (by omega), show g + -1 + 1 = g by omega]; exact hxT)), fun _ => by rw [show g + -1 + 1 = g by omega, ← hxT]; omega⟩
                    · skip
                      refine w_aload_n dX4_weigh_96 rfl rfl (by first | decide | omega) ?_
                      refine w_getR (o := 16) (x := 17) fX4_weigh_97 rfl rfl rfl rfl ?_
                      refine w_iload dX4_weigh_100 rfl ?_
                      refine w_bipush dX4_weigh_102 (by decide) ?_
                      refine w_imul dX4_weigh_104 ?_
                      refine w_iload dX4_weigh_105 rfl ?_
                      refine w_iadd dX4_weigh_107 ?_
                      refine w_aload_n dX4_weigh_108 rfl rfl (by first | decide | omega) ?_
                      refine w_iload dX4_weigh_109 rfl ?_
                      refine w_iload_n dX4_weigh_111 rfl rfl ?_
                      refine w_callVI (o := 16) (ci := 4) (as := [(0, i), (0, n)]) (rest := [(0, (g * 121) + i), (2, 17)]) (k := 3) fX4_weigh_112 rfl rfl rfl rfl rfl rfl rfl rfl (Nat.le_of_ble_eq_true rfl) (s_X4_leastNear X (ddt μ p (p + 5) (μ p 3) g) i n (bhI 1000000000 (ddt μ p (p + 5) (μ p 3)) n (μ p 14) (g + 1)) μ3 (hdd g (by omega) (by omega)) (by first | omega | assumption) (by first | omega | assumption) (fun r _ _ => (bhI_b (by decide) hdd (by omega) r).1) hbl3) (fun xN μN hμN => ?_)
                      obtain ⟨hFN, hz_N⟩ := hμN
                      have hxr := isMn_u hz_N (bhI_is (by omega) (hdd g (by omega) (by omega)) (i - 60))
                      refine w_iast (o := 17) (n := 3993) dX4_weigh_115 rfl rfl (Nat.le_of_ble_eq_true rfl) (by omega) (by omega) ?_
                      refine w_iinc (ls' := [(2, 16), (2, p), (2, 6), (0, n), (9, 0), (0, g), (0, i + 1)]) dX4_weigh_116 rfl (Nat.le_of_ble_eq_true rfl) rfl rfl ?_
                      refine w_goto (tgt := 89) dX4_weigh_119 rfl ?_
                      exact ih89 _ (by omega) (i + 1) (am_up μN 17 ((g * 121) + i) xN) rfl (((hFN.wd (by omega) (by omega)).tr hF89).up (by omega)) (by first | omega | assumption) (fun g2 h1 h2 r h3 h4 => by rw [am_up_nk (by omega), hFN.at (by omega) (by omega)]; exact hB3 g2 h1 h2 r h3 h4) (fillr2 (f := fun j => (bhI 1000000000 (ddt μ p (p + 5) (μ p 3)) n (μ p 14) g (j - g * 121 - 60))) (fun j h1 h2 => (congrFun (hFN.at (by omega) (by omega)) _).trans (hf3 j h1 h2)) (by rw [show g * 121 + i - g * 121 - 60 = i - 60 by omega]; exact hxr)) (by rw [show (am_up μN 17 ((g * 121) + i) xN) 18 = μ3 18 from ((am_up_o (by omega)).trans (hFN.at (by omega) (by omega)))]; exact hbl3) (((congrFun (am_up_o (by first | decide | omega)) _).trans ((congrFun (hFN.at (by omega) (by omega)) _).trans h16)).trans (by rfl))
                exact hL89 _ 0 (am_up μW 16 0 xW) rfl (((hFW.wd (by omega) (by omega)).tr ((hFL.wd (by omega) (by omega)).tr hF52)).up (by omega)) (by first | omega | assumption) (fun g2 h1 h2 r h3 h4 => ((congrFun (am_up_o (by omega)) _).trans ((fun g2 h1 h2 r h3 h4 => (congrFun (hFW.at (by omega) (by omega)) _).trans ((congrFun (hFL.at (by omega) (by omega)) _).trans (hB g2 h1 h2 r h3 h4))) g2 h1 h2 r h3 h4))) (fun j h1 h2 => by omega) (by rw [show (am_up μW 16 0 xW) 18 = μW 18 from (am_up_o (by omega))]; exact hb_W) (am_up_at.trans (by rfl))
              · skip
                refine w_iconst dX4_weigh_84 ?_
                exact w_zretI dX4_weigh_85 rfl (Or.inl rfl) ⟨(((hFW.wd (by omega) (by omega)).tr ((hFL.wd (by omega) (by omega)).tr hF52)).up (by omega)), (by exact Or.inl ⟨rfl, smT_inf (by decide) hdd ⟨by omega, by omega⟩ (by rw [← hxT]; omega)⟩), (by exact fun q => by omega), (by exact fun q => by omega)⟩
        refine Wp.fgl (ls' := [(2, 16), (2, p), (2, 6), (0, n), (9, 0), (0, (μ p 14) - 1), (9, 0)]) 4 rfl ?_
        exact hL52 _ ((μ p 14) - 1) (am_up μ1 16 0 0) rfl (hF14.up (by omega)) (by first | omega | assumption) (fun g2 h1 h2 r h3 h4 => ((congrFun (am_up_o (by omega)) _).trans ((fun g2 h1 h2 r h3 h4 => by rw [bhI_end (by omega)]; exact hf _ (by omega) (by omega)) g2 h1 h2 r h3 h4))) ⟨(am_up_at.trans (by rw [if_neg (by omega)])), fun q => by omega⟩
      · skip
        refine w_aload_n dX4_weigh_21 rfl rfl (by first | decide | omega) ?_
        refine w_getR (o := 16) (x := 17) fX4_weigh_22 rfl rfl rfl rfl ?_
        refine w_iload dX4_weigh_25 rfl ?_
        refine w_bipush dX4_weigh_27 (by decide) ?_
        refine w_imul dX4_weigh_29 ?_
        refine w_iload dX4_weigh_30 rfl ?_
        refine w_iadd dX4_weigh_32 ?_
        refine w_iconst dX4_weigh_33 ?_
        refine w_iast (o := 17) (n := 3993) dX4_weigh_34 rfl rfl (Nat.le_of_ble_eq_true rfl) (by omega) (by omega) ?_
        refine w_iinc (ls' := [(2, 16), (2, p), (2, 6), (0, n), (0, μ p 14), (0, i + 1), (9, 0)]) dX4_weigh_35 rfl (Nat.le_of_ble_eq_true rfl) rfl rfl ?_
        refine w_goto (tgt := 14) dX4_weigh_38 rfl ?_
        exact ih14 _ (by omega) (i + 1) (am_up μ1 17 (((μ p 14) * 121) + i) 0) rfl (hF14.up (by omega)) (by first | omega | assumption) (fillr2 (f := fun _ => 0) hf rfl)
  exact hL14 _ 0 ν rfl Fr.rf (by first | omega | assumption) (fun j h1 h2 => by omega)
