set_option maxRecDepth 100000 in
set_option maxHeartbeats 4000000 in
theorem s_X0_gather (X : AX) (D : GDt) (μ : Mu) (hG : GLd D μ) : Wp (GG X) M_X0_gather 0 [(2, 6), (9, 0), (9, 0), (9, 0)] [] μ (qI 0 fun z μ' => (Fr 6 6 12 14 μ' μ) ∧ (z = cnD D) ∧ (GK D μ') ∧ (GLd D μ')) := by
  have hok := hG.ok
  have hn := hok.n
  have hsp := hok.sp
  refine w_aload_n dX0_gather_0 rfl rfl (by first | decide | omega) ?_
  refine w_iconst dX0_gather_1 ?_
  refine w_putI (o := 6) (f := 11) fX0_gather_2 rfl rfl rfl rfl rfl ?_
  refine w_bipush dX0_gather_5 (by decide) ?_
  refine w_istore_n (ls' := [(2, 6), (0, -8), (9, 0), (9, 0)]) dX0_gather_7 rfl (Nat.le_of_ble_eq_true rfl) rfl rfl ?_
  have hL8 : ∀ (n8 : Nat) (s : Int) (c : Int) (μ1 : Mu), (9 - s).toNat = n8 → Fr 6 6 12 14 μ1 μ → (-8 ≤ s ∧ s ≤ 9) → (0 ≤ c ∧ c ≤ 35 * (s + 8)) → (GKp D (fun s' _ => s' < s) c (μ1 12)) → (μ1 6 11 = c) → (GLd D μ1) → Wp (GG X) M_X0_gather 8 [(2, 6), (0, s), (9, 0), (9, 0)] [] μ1 (qI 0 fun z μ' => (Fr 6 6 12 14 μ' μ) ∧ (z = cnD D) ∧ (GK D μ') ∧ (GLd D μ')) := by
    intro n8
    induction n8 using Nat.strongRecOn with
    | ind n8 ih8 =>
      intro s c μ1 hn8 hF8 hs0 hc0 hK hc1 hD1
      refine w_iload_n dX0_gather_8 rfl rfl ?_
      refine w_bipush dX0_gather_9 (by decide) ?_
      refine w_icmp_gt (tgt := 101) dX0_gather_11 rfl (R32.in (by omega)) (R32.in (by decide)) (fun c11 => ?_) (fun c11 => ?_)
      · skip
        refine w_aload_n dX0_gather_101 rfl rfl (by first | decide | omega) ?_
        refine w_getIx (o := 6) (f := 11) (x := c) fX0_gather_102 rfl rfl (Nat.le_of_ble_eq_true rfl) rfl hc1 ?_
        exact w_iretI dX0_gather_105 rfl ⟨hF8, (by have he : s = 9 := (by omega); have hk9 := (show GK D μ1 from ⟨by rw [hc1]; exact GKp_cg hK (fun s1 l1 h1 h2 => ⟨fun _ => trivial, fun _ => by have := h1.2; omega⟩), hok⟩); rw [← hk9.cn, hc1]), (by have he : s = 9 := (by omega); exact ⟨by rw [hc1]; exact GKp_cg hK (fun s1 l1 h1 h2 => ⟨fun _ => trivial, fun _ => by have := h1.2; omega⟩), hok⟩), hD1⟩
      · skip
        refine w_aload_n dX0_gather_14 rfl rfl (by first | decide | omega) ?_
        refine w_iload_n dX0_gather_15 rfl rfl ?_
        refine w_callVV (o := 6) (ci := 0) (as := [(0, s)]) (rest := []) (k := 4) fX0_gather_16 rfl rfl rfl rfl rfl rfl rfl rfl (Nat.le_of_ble_eq_true rfl) (s_X0_tilt X D s μ1 hD1 (by first | omega | assumption)) (fun μT hμT => ?_)
        obtain ⟨hFT, hD_T, hT_T, hf_T⟩ := hμT
        refine w_aload_n dX0_gather_19 rfl rfl (by first | decide | omega) ?_
        refine w_iload_n dX0_gather_20 rfl rfl ?_
        refine w_callVP (o := 6) (ci := 0) (as := [(0, s)]) (rest := []) (k := 1) fX0_gather_21 rfl rfl rfl rfl rfl rfl rfl rfl (Nat.le_of_ble_eq_true rfl) (s_X0_slopeOf X D s μT hD_T (by first | omega | assumption)) ?_
        have hf2 := slp_f D s (by omega)
        refine w_istore_n (ls' := [(2, 6), (0, s), (0, slp D s), (9, 0)]) dX0_gather_24 rfl (Nat.le_of_ble_eq_true rfl) rfl rfl ?_
        refine w_aload_n dX0_gather_25 rfl rfl (by first | decide | omega) ?_
        refine w_getIx (o := 6) (f := 16) (x := μT 6 16) fX0_gather_26 rfl rfl (Nat.le_of_ble_eq_true rfl) rfl rfl ?_
        have hr3 := hT_T.lh
        refine w_istore_n (ls' := [(2, 6), (0, s), (0, slp D s), (0, μT 6 16)]) dX0_gather_29 rfl (Nat.le_of_ble_eq_true rfl) rfl rfl ?_
        have hL30 : ∀ (n30 : Nat) (l : Int) (c2 : Int) (μ2 : Mu), (μT 6 17 + 1 - l).toNat = n30 → Fr 6 6 12 14 μ2 μ → ((μT 6 16 ≤ l ∧ (l ≤ μT 6 17 + 1 ∨ l = μT 6 16)) ∧ l ≤ 300000) → (0 ≤ c2 ∧ c2 ≤ 35 * (s + 8) + (l - μT 6 16)) → (GKp D (fun s' l' => s' < s ∨ (s' = s ∧ l' < l)) c2 (μ2 12)) → (μ2 6 11 = c2) → (μ2 6 16 = μT 6 16) → (μ2 6 17 = μT 6 17) → (GLd D μ2) → (TL D s μ2) → Wp (GG X) M_X0_gather 30 [(2, 6), (0, s), (0, slp D s), (0, l)] [] μ2 (qI 0 fun z μ' => (Fr 6 6 12 14 μ' μ) ∧ (z = cnD D) ∧ (GK D μ') ∧ (GLd D μ')) := by
          intro n30
          induction n30 using Nat.strongRecOn with
          | ind n30 ih30 =>
            intro l c2 μ2 hn30 hF30 hl0 hc3 hK2 hc4 hlo hhi hD2 hT2
            have hlh := hT_T.lh
            have hfw : μT 6 16 ≤ μT 6 17 → μT 6 17 - μT 6 16 ≤ 34 := fun q => alw_few hok ((hT_T.al (l := μT 6 16)).mp ⟨by omega, by omega⟩).2 ((hT_T.al (l := μT 6 17)).mp ⟨by omega, by omega⟩).2
            refine w_iload_n dX0_gather_30 rfl rfl ?_
            refine w_aload_n dX0_gather_31 rfl rfl (by first | decide | omega) ?_
            refine w_getIx (o := 6) (f := 17) (x := μT 6 17) fX0_gather_32 rfl rfl (Nat.le_of_ble_eq_true rfl) rfl hhi ?_
            have hr4 := hT2.lh
            refine w_icmp_gt (tgt := 95) dX0_gather_35 rfl (R32.in (by omega)) (R32.in (by omega)) (fun c35 => ?_) (fun c35 => ?_)
            · skip
              refine w_iinc (ls' := [(2, 6), (0, s + 1), (0, slp D s), (0, l)]) dX0_gather_95 rfl (Nat.le_of_ble_eq_true rfl) rfl rfl ?_
              refine w_goto (tgt := 8) dX0_gather_98 rfl ?_
              refine Wp.fgl (ls' := [(2, 6), (0, s + 1), (9, 0), (0, l)]) 2 rfl ?_
              refine Wp.fgl (ls' := [(2, 6), (0, s + 1), (9, 0), (9, 0)]) 3 rfl ?_
              exact ih8 _ (by omega) (s + 1) c2 μ2 rfl hF30 (by first | omega | assumption) (by first | omega | assumption) (GKp_cg hK2 (fun s1 l1 h1 h2 => ga_o (fun q => (hT2.al2 (l := l1) (q ▸ h1).1).mpr (q ▸ h2)) (by omega))) (hc4.trans (by rfl)) hD2
            · skip
              refine w_aload_n dX0_gather_38 rfl rfl (by first | decide | omega) ?_
              refine w_getIx (o := 6) (f := 11) (x := c2) fX0_gather_39 rfl rfl (Nat.le_of_ble_eq_true rfl) rfl hc4 ?_
              refine w_aload_n dX0_gather_42 rfl rfl (by first | decide | omega) ?_
              refine w_getR (o := 6) (x := 12) fX0_gather_43 rfl rfl rfl rfl ?_
              refine w_alenL (o := 12) (n := 595) (f := 595) dX0_gather_46 rfl rfl rfl ?_
              refine w_icmp_ge (tgt := 95) dX0_gather_47 rfl (R32.in (by omega)) (R32.in (by decide)) (fun c47 => ?_) (fun c47 => ?_)
              · skip
                omega
              · skip
                have hal := (hT_T.al (l := l)).mp ⟨by omega, by omega⟩
                have his : inS s l := ⟨hal.1, by omega⟩
                have hl6 : -60 ≤ l ∧ l ≤ 60 := hal.1.1
                refine w_aload_n dX0_gather_50 rfl rfl (by first | decide | omega) ?_
                refine w_getR (o := 6) (x := 12) fX0_gather_51 rfl rfl rfl rfl ?_
                refine w_aload_n dX0_gather_54 rfl rfl (by first | decide | omega) ?_
                refine w_getIx (o := 6) (f := 11) (x := c2) fX0_gather_55 rfl rfl (Nat.le_of_ble_eq_true rfl) rfl hc4 ?_
                refine w_aload_n dX0_gather_58 rfl rfl (by first | decide | omega) ?_
                refine w_iload_n dX0_gather_59 rfl rfl ?_
                refine w_iload_n dX0_gather_60 rfl rfl ?_
                refine w_iload_n dX0_gather_61 rfl rfl ?_
                refine w_aload_n dX0_gather_62 rfl rfl (by first | decide | omega) ?_
                refine w_iload_n dX0_gather_63 rfl rfl ?_
                refine w_callVP (o := 6) (ci := 0) (as := [(0, l)]) (rest := [(0, slp D s), (0, s), (0, l), (2, 6), (0, c2), (2, 12)]) (k := 3) fX0_gather_64 rfl rfl rfl rfl rfl rfl rfl rfl (Nat.le_of_ble_eq_true rfl) (s_X0_stemsAt X D s l μ2 hD2 hT2 (by first | omega | assumption)) ?_
                have hf5 := stm_f D s l (by assumption) (by omega) (by omega)
                refine w_iadd dX0_gather_67 ?_
                refine w_aload_n dX0_gather_68 rfl rfl (by first | decide | omega) ?_
                refine w_iload_n dX0_gather_69 rfl rfl ?_
                refine w_iload_n dX0_gather_70 rfl rfl ?_
                refine w_callVP (o := 6) (ci := 0) (as := [(0, l), (0, s)]) (rest := [(0, (slp D s) + (stm D s l)), (0, s), (0, l), (2, 6), (0, c2), (2, 12)]) (k := 0) fX0_gather_71 rfl rfl rfl rfl rfl rfl rfl rfl (Nat.le_of_ble_eq_true rfl) (s_X0_staffAt X D s l μ2 hD2 (by first | omega | assumption) (by first | omega | assumption)) ?_
                have hf6 := stf_f D s l (by assumption)
                refine w_iadd dX0_gather_74 ?_
                refine w_callVP (o := 6) (ci := 0) (as := [(0, l), (0, s), (0, ((slp D s) + (stm D s l)) + (stf D s l))]) (rest := [(0, c2), (2, 12)]) (k := 2) fX0_gather_75 rfl rfl rfl rfl rfl rfl rfl rfl (Nat.le_of_ble_eq_true rfl) (s_X0_keyAt X D s l (((slp D s) + (stm D s l)) + (stf D s l)) μ2 hD2 hT2 (by first | omega | assumption) (by first | omega | assumption)) ?_
                have hug := ugl_r hok hal.2 his.2
                refine Wp.topE (b := key D s l) (by rw [key_u]; unfold ugl; rw [Int.add_comm (slp D s)]) ?_
                refine w_last (o := 12) (n := 595) dX0_gather_78 rfl rfl (Nat.le_of_ble_eq_true rfl) (by omega) (by omega) ?_
                refine w_aload_n dX0_gather_79 rfl rfl (by first | decide | omega) ?_
                refine w_dup dX0_gather_80 (by simp) ?_
                refine w_getIx (o := 6) (f := 11) (x := c2) fX0_gather_81 rfl rfl (Nat.le_of_ble_eq_true rfl) rfl ((congrFun (am_up_o (by first | decide | omega)) _).trans hc4) ?_
                refine w_iconst dX0_gather_84 ?_
                refine w_iadd dX0_gather_85 ?_
                refine w_putI (o := 6) (f := 11) fX0_gather_86 rfl rfl rfl rfl rfl ?_
                refine w_iinc (ls' := [(2, 6), (0, s), (0, slp D s), (0, l + 1)]) dX0_gather_89 rfl (Nat.le_of_ble_eq_true rfl) rfl rfl ?_
                refine w_goto (tgt := 30) dX0_gather_92 rfl ?_
                exact ih30 _ (by omega) (l + 1) (c2 + 1) (am_up (am_up μ2 12 c2 (key D s l)) 6 11 (c2 + 1)) rfl ((hF30.up (by omega)).up (by omega)) (by first | omega | assumption) (by first | omega | assumption) (by rw [show (am_up (am_up μ2 12 c2 (key D s l)) 6 11 (c2 + 1)) 12 = (am_up μ2 12 c2 (key D s l)) 12 from (am_up_o (by omega))]; exact (GKp_cg (GKp_add hok hK2 his hal.2 (by omega) (by omega)) (fun s1 l1 h1 h2 => by omega))) (am_up_at.trans (by rfl)) (((am_up_nk (by omega)).trans ((congrFun (am_up_o (by first | decide | omega)) _).trans hlo)).trans (by rfl)) (((am_up_nk (by omega)).trans ((congrFun (am_up_o (by first | decide | omega)) _).trans hhi)).trans (by rfl)) (GLd.cg2 hD2 (fun o h1 => ((am_up_o (by omega)).trans (am_up_o (by omega)))) (fun k h1 => ((am_up_nk (by omega)).trans (congrFun (am_up_o (by omega)) _)))) (TL.cg2 hT2 (fun o h1 => ((am_up_o (by omega)).trans (am_up_o (by omega)))) (fun k h1 => ((am_up_nk (by omega)).trans (congrFun (am_up_o (by omega)) _))))
        exact hL30 _ (μT 6 16) c μT rfl ((hFT.wd (by omega) (by omega)).tr hF8) (by first | omega | assumption) (by first | omega | assumption) (by rw [show μT 12 = μ1 12 from (hFT.at (by omega) (by omega))]; exact GKp_cg hK (fun s1 l1 h1 h2 => ga_i (fun q => (hT_T.al2 (l := l1) (q ▸ h1).1).mpr (q ▸ h2)))) (((hf_T _ (by omega)).trans hc1).trans (by rfl)) ((rfl : μT 6 16 = μT 6 16).trans (by rfl)) ((rfl : μT 6 17 = μT 6 17).trans (by rfl)) hD_T hT_T
  exact hL8 _ (-8) 0 (am_up μ 6 11 0) rfl (Fr.rf.up (by omega)) (by first | omega | assumption) (by first | omega | assumption) (GKp_0 (fun s l h1 h2 => by have := h1.2; omega)) (am_up_at.trans (by rfl)) (GLd.cg2 hG (fun o h1 => (am_up_o (by omega))) (fun k h1 => (am_up_nk (by omega))))

set_option maxRecDepth 100000 in
set_option maxHeartbeats 4000000 in
theorem s_X0_rankOf (X : AX) (D : GDt) (k : Int) (μ : Mu) (hG : GLd D μ) (hk : -9223372036854775808 ≤ k ∧ k ≤ 9223372036854775807) : Wp (GG X) M_X0_rankOf 0 [(2, 6), (1, k), (9, 0), (9, 0), (9, 0), (9, 0)] [] μ (qI 0 fun z μ' => (Fr 6 6 12 14 μ' μ) ∧ (z = rkD D k) ∧ (GLd D μ')) := by
  have hok := hG.ok
  have hn := hok.n
  have hsp := hok.sp
  refine w_aload_n dX0_rankOf_0 rfl rfl (by first | decide | omega) ?_
  refine w_callVI (o := 6) (ci := 0) (as := []) (rest := []) (k := 3) fX0_rankOf_1 rfl rfl rfl rfl rfl rfl rfl rfl (Nat.le_of_ble_eq_true rfl) (s_X0_gather X D μ hG) (fun xG μG hμG => ?_)
  obtain ⟨hFG, hz_G, hK_G, hD_G⟩ := hμG
  refine w_istore_n (ls' := [(2, 6), (1, k), (9, 0), (0, xG), (9, 0), (9, 0)]) dX0_rankOf_4 rfl (Nat.le_of_ble_eq_true rfl) rfl rfl ?_
  refine w_iconst dX0_rankOf_5 ?_
  refine w_istore (ls' := [(2, 6), (1, k), (9, 0), (0, xG), (0, 0), (9, 0)]) dX0_rankOf_6 (Nat.le_of_ble_eq_true rfl) rfl rfl ?_
  refine w_iconst dX0_rankOf_8 ?_
  refine w_istore (ls' := [(2, 6), (1, k), (9, 0), (0, xG), (0, 0), (0, 0)]) dX0_rankOf_9 (Nat.le_of_ble_eq_true rfl) rfl rfl ?_
  have hL11 : ∀ (n11 : Nat) (m : Int) (i : Int), (xG - i).toNat = n11 → (0 ≤ i ∧ i ≤ xG) → (m = cntlt (μG 12) k i) → Wp (GG X) M_X0_rankOf 11 [(2, 6), (1, k), (9, 0), (0, xG), (0, m), (0, i)] [] μG (qI 0 fun z μ' => (Fr 6 6 12 14 μ' μ) ∧ (z = rkD D k) ∧ (GLd D μ')) := by
    intro n11
    induction n11 using Nat.strongRecOn with
    | ind n11 ih11 =>
      intro m i hn11 hi0 hm
      have hmr := cntlt_r (f := μG 12) (k := k) hi0.1
      have hcr := hK_G.c
      have hcn := hK_G.cn
      refine w_iload dX0_rankOf_11 rfl ?_
      refine w_iload_n dX0_rankOf_13 rfl rfl ?_
      have hcr := hK_G.c
      have hcn := hK_G.cn
      refine w_icmp_ge (tgt := 45) dX0_rankOf_14 rfl (R32.in (by omega)) (R32.in (by omega)) (fun c14 => ?_) (fun c14 => ?_)
      · skip
        refine w_iload dX0_rankOf_45 rfl ?_
        exact w_iretI dX0_rankOf_47 rfl ⟨hFG, (by rw [hm, ← hK_G.rk k, show i = μG 6 11 by omega]), hD_G⟩
      · skip
        refine w_iload dX0_rankOf_17 rfl ?_
        refine w_aload_n dX0_rankOf_19 rfl rfl (by first | decide | omega) ?_
        refine w_getR (o := 6) (x := 12) fX0_rankOf_20 rfl rfl rfl rfl ?_
        refine w_iload dX0_rankOf_23 rfl ?_
        refine w_laldx (o := 12) (n := 595) (x := μG 12 i) dX0_rankOf_25 rfl rfl (Nat.le_of_ble_eq_true rfl) (by omega) rfl ?_
        have hr2 := hK_G.kr (j := i) (by omega)
        refine w_lload_n dX0_rankOf_26 rfl rfl ?_
        have hJ27_1 : ∀ z1_0 : Int, z1_0 = (if k ≤ (μG 12 i) then 0 else 1) → Wp (GG X) M_X0_rankOf 36 [(2, 6), (1, k), (9, 0), (0, xG), (0, m), (0, i)] [(0, z1_0), (0, m)] μG (qI 0 fun z μ' => (Fr 6 6 12 14 μ' μ) ∧ (z = rkD D k) ∧ (GLd D μ')) := by
          intro z1_0 hz1_0
          refine w_iadd dX0_rankOf_36 ?_
          refine w_istore (ls' := [(2, 6), (1, k), (9, 0), (0, xG), (0, m + z1_0), (0, i)]) dX0_rankOf_37 (Nat.le_of_ble_eq_true rfl) rfl rfl ?_
          refine w_iinc (ls' := [(2, 6), (1, k), (9, 0), (0, xG), (0, m + z1_0), (0, i + 1)]) dX0_rankOf_39 rfl (Nat.le_of_ble_eq_true rfl) rfl rfl ?_
          refine w_goto (tgt := 11) dX0_rankOf_42 rfl ?_
          exact ih11 _ (by omega) (m + z1_0) (i + 1) rfl (by first | omega | assumption) (by rw [cntlt_s hi0.1]; omega)
        refine w_lc_ge (tgt := 35) dX0_rankOf_27 dX0_rankOf_28 rfl (R64.in (by omega)) (R64.in (by omega)) (fun c28 => ?_) (fun c28 => ?_)
        · skip
          refine w_iconst dX0_rankOf_35 ?_
          exact hJ27_1 _ (by first | omega | simp [*])
        · skip
          refine w_iconst dX0_rankOf_31 ?_
          refine w_goto (tgt := 36) dX0_rankOf_32 rfl ?_
          exact hJ27_1 _ (by first | omega | simp [*])
  exact hL11 _ 0 0 rfl (by have := hK_G.c; have := hK_G.cn; omega) rfl

set_option maxRecDepth 100000 in
set_option maxHeartbeats 4000000 in
theorem s_X0_sortKeys (X : AX) (D : GDt) (μ : Mu) (hG : GK D μ) : Wp (GG X) M_X0_sortKeys 0 [(2, 6), (9, 0), (9, 0), (9, 0), (9, 0), (9, 0)] [] μ (qV fun μ' => (Fr 12 12 1 0 μ' μ) ∧ ((rowL (μ' 12) (μ 6 11)).Perm (rowL (μ 12) (μ 6 11))) ∧ (srt (μ' 12) (μ 6 11))) := by
  have hok := hG.ok
  have hn := hok.n
  have hsp := hok.sp
  refine w_aload_n dX0_sortKeys_0 rfl rfl (by first | decide | omega) ?_
  refine w_getIx (o := 6) (f := 11) (x := μ 6 11) fX0_sortKeys_1 rfl rfl (Nat.le_of_ble_eq_true rfl) rfl rfl ?_
  have hr1 := hG.c
  refine w_iconst dX0_sortKeys_4 ?_
  refine w_idivP dX0_sortKeys_5 (by omega) ?_
  refine w_istore_n (ls' := [(2, 6), (0, (μ 6 11) / 2), (9, 0), (9, 0), (9, 0), (9, 0)]) dX0_sortKeys_6 rfl (Nat.le_of_ble_eq_true rfl) rfl rfl ?_
  have hL7 : ∀ (n7 : Nat) (g : Int) (μ1 : Mu), (g).toNat = n7 → Fr 12 12 1 0 μ1 μ → (0 ≤ g ∧ g ≤ 300) → ((rowL (μ1 12) (μ 6 11)).Perm (rowL (μ 12) (μ 6 11))) → (g = 0 → srt (μ1 12) (μ 6 11)) → Wp (GG X) M_X0_sortKeys 7 [(2, 6), (0, g), (9, 0), (9, 0), (9, 0), (9, 0)] [] μ1 (qV fun μ' => (Fr 12 12 1 0 μ' μ) ∧ ((rowL (μ' 12) (μ 6 11)).Perm (rowL (μ 12) (μ 6 11))) ∧ (srt (μ' 12) (μ 6 11))) := by
    intro n7
    induction n7 using Nat.strongRecOn with
    | ind n7 ih7 =>
      intro g μ1 hn7 hF7 hg0 hp hs
      refine w_iload_n dX0_sortKeys_7 rfl rfl ?_
      refine w_if_le (tgt := 97) dX0_sortKeys_8 rfl (R32.in (by omega)) (fun c8 => ?_) (fun c8 => ?_)
      · skip
        exact w_retV dX0_sortKeys_97 rfl ⟨hF7, (by exact hp), (by exact hs (by omega))⟩
      · skip
        refine w_iload_n dX0_sortKeys_11 rfl rfl ?_
        refine w_istore_n (ls' := [(2, 6), (0, g), (0, g), (9, 0), (9, 0), (9, 0)]) dX0_sortKeys_12 rfl (Nat.le_of_ble_eq_true rfl) rfl rfl ?_
        have hL13 : ∀ (n13 : Nat) (i : Int) (μ2 : Mu), (μ 6 11 - i).toNat = n13 → Fr 12 12 1 0 μ2 μ → (g ≤ i ∧ (i ≤ μ 6 11 ∨ i = g)) → ((rowL (μ2 12) (μ 6 11)).Perm (rowL (μ 12) (μ 6 11))) → (g = 1 → srt (μ2 12) i) → Wp (GG X) M_X0_sortKeys 13 [(2, 6), (0, g), (0, i), (9, 0), (9, 0), (9, 0)] [] μ2 (qV fun μ' => (Fr 12 12 1 0 μ' μ) ∧ ((rowL (μ' 12) (μ 6 11)).Perm (rowL (μ 12) (μ 6 11))) ∧ (srt (μ' 12) (μ 6 11))) := by
          intro n13
          induction n13 using Nat.strongRecOn with
          | ind n13 ih13 =>
            intro i μ2 hn13 hF13 hi0 hp2 hs2
            refine w_iload_n dX0_sortKeys_13 rfl rfl ?_
            refine w_aload_n dX0_sortKeys_14 rfl rfl (by first | decide | omega) ?_
            refine w_getIx (o := 6) (f := 11) (x := μ 6 11) fX0_sortKeys_15 rfl rfl (Nat.le_of_ble_eq_true rfl) rfl (congrFun (hF13.at (by omega) (by omega)) _) ?_
            have hr2 := hG.c
            refine w_icmp_ge (tgt := 90) dX0_sortKeys_18 rfl (R32.in (by omega)) (R32.in (by omega)) (fun c18 => ?_) (fun c18 => ?_)
            · skip
              refine w_iload_n dX0_sortKeys_90 rfl rfl ?_
              refine w_iconst dX0_sortKeys_91 ?_
              refine w_idivP dX0_sortKeys_92 (by omega) ?_
              refine w_istore_n (ls' := [(2, 6), (0, g / 2), (0, i), (9, 0), (9, 0), (9, 0)]) dX0_sortKeys_93 rfl (Nat.le_of_ble_eq_true rfl) rfl rfl ?_
              refine w_goto (tgt := 7) dX0_sortKeys_94 rfl ?_
              refine Wp.fgl (ls' := [(2, 6), (0, g / 2), (9, 0), (9, 0), (9, 0), (9, 0)]) 2 rfl ?_
              exact ih7 _ (by omega) (g / 2) μ2 rfl hF13 (by first | omega | assumption) hp2 (fun q => by have h9 := hs2 (by omega); exact fun a b h1 h2 h3 => h9 a b h1 h2 (by omega))
            · skip
              refine w_aload_n dX0_sortKeys_21 rfl rfl (by first | decide | omega) ?_
              refine w_getR (o := 6) (x := 12) fX0_sortKeys_22 rfl rfl rfl rfl ?_
              refine w_iload_n dX0_sortKeys_25 rfl rfl ?_
              refine w_laldx (o := 12) (n := 595) (x := μ2 12 i) dX0_sortKeys_26 rfl rfl (Nat.le_of_ble_eq_true rfl) (by omega) rfl ?_
              refine Wp.top (fun k hk => ?_)
              refine w_lstore_n (ls' := [(2, 6), (0, g), (0, i), (1, k), (9, 0), (9, 0)]) dX0_sortKeys_27 rfl (Nat.le_of_ble_eq_true rfl) rfl rfl ?_
              refine w_iload_n dX0_sortKeys_28 rfl rfl ?_
              refine w_istore (ls' := [(2, 6), (0, g), (0, i), (1, k), (9, 0), (0, i)]) dX0_sortKeys_29 (Nat.le_of_ble_eq_true rfl) rfl rfl ?_
              have hL31 : ∀ (n31 : Nat) (a : Int) (μ3 : Mu), (a).toNat = n31 → Fr 12 12 1 0 μ3 μ → (0 ≤ a ∧ a ≤ i) → ((rowL (fup (μ3 12) a k) (μ 6 11)).Perm (rowL (μ 12) (μ 6 11))) → (g = 1 → srh (μ3 12) i a k) → Wp (GG X) M_X0_sortKeys 31 [(2, 6), (0, g), (0, i), (1, k), (9, 0), (0, a)] [] μ3 (qV fun μ' => (Fr 12 12 1 0 μ' μ) ∧ ((rowL (μ' 12) (μ 6 11)).Perm (rowL (μ 12) (μ 6 11))) ∧ (srt (μ' 12) (μ 6 11))) := by
                intro n31
                induction n31 using Nat.strongRecOn with
                | ind n31 ih31 =>
                  intro a μ3 hn31 hF31 ha0 hp3 hs3
                  have hkb := perm_b (P := fun x => 0 ≤ x ∧ x ≤ 30000000000000000) hp3 (fun j h1 h2 => hG.kr ⟨h1, h2⟩) (j := a) (by omega)
                  rw [fup_at] at hkb
                  refine w_iload dX0_sortKeys_31 rfl ?_
                  refine w_iload_n dX0_sortKeys_33 rfl rfl ?_
                  refine w_icmp_lt (tgt := 76) dX0_sortKeys_34 rfl (R32.in (by omega)) (R32.in (by omega)) (fun c34 => ?_) (fun c34 => ?_)
                  · skip
                    refine w_aload_n dX0_sortKeys_76 rfl rfl (by first | decide | omega) ?_
                    refine w_getR (o := 6) (x := 12) fX0_sortKeys_77 rfl rfl rfl rfl ?_
                    refine w_iload dX0_sortKeys_80 rfl ?_
                    refine w_lload_n dX0_sortKeys_82 rfl rfl ?_
                    refine w_last (o := 12) (n := 595) dX0_sortKeys_83 rfl rfl (Nat.le_of_ble_eq_true rfl) (by omega) (by omega) ?_
                    refine w_iinc (ls' := [(2, 6), (0, g), (0, i + 1), (1, k), (9, 0), (0, a)]) dX0_sortKeys_84 rfl (Nat.le_of_ble_eq_true rfl) rfl rfl ?_
                    refine w_goto (tgt := 13) dX0_sortKeys_87 rfl ?_
                    refine Wp.fgl (ls' := [(2, 6), (0, g), (0, i + 1), (9, 0), (9, 0), (0, a)]) 3 rfl ?_
                    refine Wp.fgl (ls' := [(2, 6), (0, g), (0, i + 1), (9, 0), (9, 0), (9, 0)]) 5 rfl ?_
                    exact ih13 _ (by omega) (i + 1) (am_up μ3 12 a k) rfl (hF31.up (by omega)) (by first | omega | assumption) (by rw [up_fup]; exact hp3) (fun q => by rw [up_fup]; exact srh_e ha0 (hs3 q) (by subst q; omega))
                  · skip
                    have hkb2 := perm_b (P := fun x => 0 ≤ x ∧ x ≤ 30000000000000000) hp3 (fun j h1 h2 => hG.kr ⟨h1, h2⟩) (j := a - g) (by omega)
                    rw [fup_ne (by omega)] at hkb2
                    refine w_aload_n dX0_sortKeys_37 rfl rfl (by first | decide | omega) ?_
                    refine w_getR (o := 6) (x := 12) fX0_sortKeys_38 rfl rfl rfl rfl ?_
                    refine w_iload dX0_sortKeys_41 rfl ?_
                    refine w_iload_n dX0_sortKeys_43 rfl rfl ?_
                    refine w_isub dX0_sortKeys_44 ?_
                    refine w_laldx (o := 12) (n := 595) (x := μ3 12 (a - g)) dX0_sortKeys_45 rfl rfl (Nat.le_of_ble_eq_true rfl) (by omega) rfl ?_
                    refine w_lload_n dX0_sortKeys_46 rfl rfl ?_
                    refine w_lc_le (tgt := 76) dX0_sortKeys_47 dX0_sortKeys_48 rfl (R64.in (by omega)) (R64.in (by omega)) (fun c48 => ?_) (fun c48 => ?_)
                    · skip
                      refine w_aload_n dX0_sortKeys_76 rfl rfl (by first | decide | omega) ?_
                      refine w_getR (o := 6) (x := 12) fX0_sortKeys_77 rfl rfl rfl rfl ?_
                      refine w_iload dX0_sortKeys_80 rfl ?_
                      refine w_lload_n dX0_sortKeys_82 rfl rfl ?_
                      refine w_last (o := 12) (n := 595) dX0_sortKeys_83 rfl rfl (Nat.le_of_ble_eq_true rfl) (by omega) (by omega) ?_
                      refine w_iinc (ls' := [(2, 6), (0, g), (0, i + 1), (1, k), (9, 0), (0, a)]) dX0_sortKeys_84 rfl (Nat.le_of_ble_eq_true rfl) rfl rfl ?_
                      refine w_goto (tgt := 13) dX0_sortKeys_87 rfl ?_
                      refine Wp.fgl (ls' := [(2, 6), (0, g), (0, i + 1), (9, 0), (9, 0), (0, a)]) 3 rfl ?_
                      refine Wp.fgl (ls' := [(2, 6), (0, g), (0, i + 1), (9, 0), (9, 0), (9, 0)]) 5 rfl ?_
                      exact ih13 _ (by omega) (i + 1) (am_up μ3 12 a k) rfl (hF31.up (by omega)) (by first | omega | assumption) (by rw [up_fup]; exact hp3) (fun q => by rw [up_fup]; exact srh_e ha0 (hs3 q) (by subst q; omega))
                    · skip
                      refine w_aload_n dX0_sortKeys_51 rfl rfl (by first | decide | omega) ?_
                      refine w_getR (o := 6) (x := 12) fX0_sortKeys_52 rfl rfl rfl rfl ?_
                      refine w_iload dX0_sortKeys_55 rfl ?_
                      refine w_aload_n dX0_sortKeys_57 rfl rfl (by first | decide | omega) ?_
                      refine w_getR (o := 6) (x := 12) fX0_sortKeys_58 rfl rfl rfl rfl ?_
                      refine w_iload dX0_sortKeys_61 rfl ?_
                      refine w_iload_n dX0_sortKeys_63 rfl rfl ?_
                      refine w_isub dX0_sortKeys_64 ?_
                      refine w_laldx (o := 12) (n := 595) (x := μ3 12 (a - g)) dX0_sortKeys_65 rfl rfl (Nat.le_of_ble_eq_true rfl) (by omega) rfl ?_
                      refine w_last (o := 12) (n := 595) dX0_sortKeys_66 rfl rfl (Nat.le_of_ble_eq_true rfl) (by omega) (by omega) ?_
                      refine w_iload dX0_sortKeys_67 rfl ?_
                      refine w_iload_n dX0_sortKeys_69 rfl rfl ?_
                      refine w_isub dX0_sortKeys_70 ?_
                      refine w_istore (ls' := [(2, 6), (0, g), (0, i), (1, k), (9, 0), (0, a - g)]) dX0_sortKeys_71 (Nat.le_of_ble_eq_true rfl) rfl rfl ?_
                      refine w_goto (tgt := 31) dX0_sortKeys_73 rfl ?_
                      exact ih31 _ (by omega) (a - g) (am_up μ3 12 a (μ3 12 (a - g))) rfl (hF31.up (by omega)) (by first | omega | assumption) (by rw [up_fup]; exact perm_mv hp3 (by omega) (by omega)) (fun q => by rw [up_fup]; subst q; exact srh_s (by omega) (hs3 rfl) (by omega))
              exact hL31 _ i μ2 rfl hF13 (by first | omega | assumption) (by rw [fup_self hk]; exact hp2) (fun q => srh_0 (hs2 q))
        exact hL13 _ g μ1 rfl hF7 (by first | omega | assumption) hp (fun q a b h1 h2 h3 => by omega)
  exact hL7 _ ((μ 6 11) / 2) μ rfl Fr.rf (by first | omega | assumption) (List.Perm.refl _) (fun q a b h1 h2 h3 => by omega)
