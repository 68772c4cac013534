
set_option maxRecDepth 100000 in
set_option maxHeartbeats 4000000 in
theorem s_X7_group (X : AX) (p : Int) (g : Int) (w : Int) (μ : Mu) (hC : CJ μ p) (hg : -2147483648 ≤ g ∧ g ≤ 2147483647) (hw : -2147483648 ≤ w ∧ w ≤ 2147483647) (hT : grT μ p g w = 0) : Wp (GG X) M_X7_group 0 [(2, 0), (0, g), (0, w)] [] μ (qI 0 fun z μ' => (Fr 6 14 1 0 μ' μ) ∧ (z = grV (ddt μ p (p + 5) (μ p 3) g) (μ (p + 9) g) w)) := by
  have hI := hC.i
  have hG := hC.pg
  have hp := hI.at
  have hz := hI.sz
  have hgr := hG.gr
  have hkn := hC.kn
  have hE : (0 ≤ g ∧ g < μ p 14) ∧ (0 ≤ w ∧ w ≤ 6) := by unfold grT at hT; by_cases a : 0 ≤ g ∧ g < μ p 14; (by_cases b : 0 ≤ w ∧ w ≤ 6; exact ⟨a, b⟩; (rw [if_neg (fun q => q a), if_pos b] at hT; exact absurd hT (by decide))); (rw [if_pos a] at hT; exact absurd hT (by decide))
  refine w_aload_n dX7_group_0 rfl rfl (by first | decide | omega) ?_
  refine w_iload_n dX7_group_1 rfl rfl ?_
  refine w_callVP (o := 0) (ci := 7) (as := [(0, g)]) (rest := []) (k := 0) fX7_group_2 rfl rfl rfl rfl rfl rfl rfl rfl (Nat.le_of_ble_eq_true rfl) (s_X7_isGroup X p g μ μ (fun o h1 => rfl) hC (by first | omega | assumption)) ?_
  have hf1 := am_b_r (0 ≤ g ∧ g < μ p 14)
  refine w_if_ne (tgt := 18) dX7_group_5 rfl (R32.in (by have := am_b_r ((0 ≤ g ∧ g < μ p 14)); omega)) (fun c5 => ?_) (fun c5 => ?_)
  · skip
    replace c5 := am_b1 c5
    refine w_aload_n dX7_group_18 rfl rfl (by first | decide | omega) ?_
    refine w_iload_n dX7_group_19 rfl rfl ?_
    refine w_callVV (o := 0) (ci := 7) (as := [(0, g)]) (rest := []) (k := 0) fX7_group_20 rfl rfl rfl rfl rfl rfl rfl rfl (Nat.le_of_ble_eq_true rfl) (s_X7_load X p g μ μ (fun o h1 => rfl) hC hE.1) (fun μL hμL => ?_)
    obtain ⟨hFL, hD_L⟩ := hμL
    refine w_iload_n dX7_group_23 rfl rfl ?_
    rcases (show (w < 0 ∨ 6 < w) ∨ w = 0 ∨ w = 1 ∨ w = 2 ∨ w = 3 ∨ w = 4 ∨ w = 5 ∨ w = 6 by omega) with q24 | q24 | q24 | q24 | q24 | q24 | q24 | q24
    · refine w_tableOut (tgt := 134) dX7_group_24 (R32.in (by omega)) q24 rfl ?_
      omega
    · refine w_tableIn (off := 44) (tgt := 68) dX7_group_24 (R32.in (by omega)) (by omega) (by omega) (by rw [q24]; rfl) rfl ?_
      refine w_aload_n dX7_group_68 rfl rfl (by first | decide | omega) ?_
      refine w_getDx (o := 0) (f := 7) (x := p) fX7_group_69 rfl rfl rfl rfl ((congrFun (hFL.at (by omega) (by omega)) _).trans hC.p7) ?_
      refine w_getR (o := (p).toNat) (x := p + 9) fX7_group_72 (by omega) (pSh0 rfl rfl (by assumption)) rfl (pRf 15 9 rfl rfl (by assumption)) ?_
      refine w_iload_n dX7_group_75 rfl rfl ?_
      refine w_ialdx (o := (p + 9).toNat) (n := 32) (x := μ (p + 9) g) dX7_group_76 (by omega) (pSh 9 rfl rfl (by assumption)) (Nat.le_of_ble_eq_true rfl) (by omega) (congrFun (hFL.at (by omega) (by omega)) _) ?_
      have hr3 := PG.fl hC.pg (g := g) (by omega)
      have hr4 := PG.fl hG (g := g) (by omega)
      exact w_iretI dX7_group_77 rfl ⟨hFL, (by subst q24; first | rfl | exact hz_Y | exact am_b_t c93 | exact am_b_f c93)⟩
    · refine w_tableIn (off := 54) (tgt := 78) dX7_group_24 (R32.in (by omega)) (by omega) (by omega) (by rw [q24]; rfl) rfl ?_
      refine w_aload_n dX7_group_78 rfl rfl (by first | decide | omega) ?_
      refine w_getR (o := 0) (x := 6) fX7_group_79 rfl rfl rfl rfl ?_
      refine w_getIx (o := 6) (f := 0) (x := dN (ddt μ p (p + 5) (μ p 3) g)) fX7_group_82 rfl rfl (Nat.le_of_ble_eq_true rfl) rfl hD_L.n ?_
      have hr5 := (hD_L.ok).n
      exact w_iretI dX7_group_85 rfl ⟨hFL, (by subst q24; first | rfl | exact hz_Y | exact am_b_t c93 | exact am_b_f c93)⟩
    · refine w_tableIn (off := 62) (tgt := 86) dX7_group_24 (R32.in (by omega)) (by omega) (by omega) (by rw [q24]; rfl) rfl ?_
      refine w_aload_n dX7_group_86 rfl rfl (by first | decide | omega) ?_
      refine w_getR (o := 0) (x := 6) fX7_group_87 rfl rfl rfl rfl ?_
      refine w_getIx (o := 6) (f := 4) (x := am_b (¬ klow (ddt μ p (p + 5) (μ p 3) g) = 99)) fX7_group_90 rfl rfl (Nat.le_of_ble_eq_true rfl) rfl hD_L.kn ?_
      refine w_if_eq (tgt := 100) dX7_group_93 rfl (R32.in (by have := am_b_r ((¬ klow (ddt μ p (p + 5) (μ p 3) g) = 99)); omega)) (fun c93 => ?_) (fun c93 => ?_)
      · skip
        replace c93 := am_b0 c93
        refine w_iconst dX7_group_100 ?_
        exact w_iretI dX7_group_101 rfl ⟨hFL, (by subst q24; first | rfl | exact hz_Y | exact am_b_t c93 | exact am_b_f c93)⟩
      · skip
        replace c93 := am_b1 c93
        refine w_iconst dX7_group_96 ?_
        refine w_goto (tgt := 101) dX7_group_97 rfl ?_
        exact w_iretI dX7_group_101 rfl ⟨hFL, (by subst q24; first | rfl | exact hz_Y | exact am_b_t c93 | exact am_b_f c93)⟩
    · refine w_tableIn (off := 78) (tgt := 102) dX7_group_24 (R32.in (by omega)) (by omega) (by omega) (by rw [q24]; rfl) rfl ?_
      refine w_aload_n dX7_group_102 rfl rfl (by first | decide | omega) ?_
      refine w_getR (o := 0) (x := 6) fX7_group_103 rfl rfl rfl rfl ?_
      refine w_getIx (o := 6) (f := 2) (x := spn (ddt μ p (p + 5) (μ p 3) g)) fX7_group_106 rfl rfl (Nat.le_of_ble_eq_true rfl) rfl hD_L.sp ?_
      have hr6 := (hD_L.ok).sp
      exact w_iretI dX7_group_109 rfl ⟨hFL, (by subst q24; first | rfl | exact hz_Y | exact am_b_t c93 | exact am_b_f c93)⟩
    · refine w_tableIn (off := 86) (tgt := 110) dX7_group_24 (R32.in (by omega)) (by omega) (by omega) (by rw [q24]; rfl) rfl ?_
      refine w_aload_n dX7_group_110 rfl rfl (by first | decide | omega) ?_
      refine w_getR (o := 0) (x := 6) fX7_group_111 rfl rfl rfl rfl ?_
      refine w_callVP (o := 6) (ci := 0) (as := []) (rest := []) (k := 2) fX7_group_114 rfl rfl rfl rfl rfl rfl rfl rfl (Nat.le_of_ble_eq_true rfl) (s_X0_mostBeams X (ddt μ p (p + 5) (μ p 3) g) μL hD_L) ?_
      exact w_iretI dX7_group_117 rfl ⟨hFL, (by subst q24; first | rfl | exact hz_Y | exact am_b_t c93 | exact am_b_f c93)⟩
    · refine w_tableIn (off := 94) (tgt := 118) dX7_group_24 (R32.in (by omega)) (by omega) (by omega) (by rw [q24]; rfl) rfl ?_
      refine w_aload_n dX7_group_118 rfl rfl (by first | decide | omega) ?_
      refine w_getR (o := 0) (x := 6) fX7_group_119 rfl rfl rfl rfl ?_
      refine w_callVI (o := 6) (ci := 0) (as := []) (rest := []) (k := 3) fX7_group_122 rfl rfl rfl rfl rfl rfl rfl rfl (Nat.le_of_ble_eq_true rfl) (s_X0_gather X (ddt μ p (p + 5) (μ p 3) g) μL hD_L) (fun xY μY hμY => ?_)
      obtain ⟨hFY, hz_Y, hK_Y, hD_Y⟩ := hμY
      exact w_iretI dX7_group_125 rfl ⟨((hFY.wd (by omega) (by omega)).tr hFL), (by subst q24; first | rfl | exact hz_Y | exact am_b_t c93 | exact am_b_f c93)⟩
    · refine w_tableIn (off := 102) (tgt := 126) dX7_group_24 (R32.in (by omega)) (by omega) (by omega) (by rw [q24]; rfl) rfl ?_
      refine w_aload_n dX7_group_126 rfl rfl (by first | decide | omega) ?_
      refine w_getR (o := 0) (x := 6) fX7_group_127 rfl rfl rfl rfl ?_
      refine w_callVP (o := 6) (ci := 0) (as := []) (rest := []) (k := 2) fX7_group_130 rfl rfl rfl rfl rfl rfl rfl rfl (Nat.le_of_ble_eq_true rfl) (s_X0_howManyUp X (ddt μ p (p + 5) (μ p 3) g) μL hD_L) ?_
      exact w_iretI dX7_group_133 rfl ⟨hFL, (by subst q24; first | rfl | exact hz_Y | exact am_b_t c93 | exact am_b_f c93)⟩
  · skip
    replace c5 := am_b0 c5
    exact absurd hE.1 c5
