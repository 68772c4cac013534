set_option maxRecDepth 100000 in
set_option maxHeartbeats 4000000 in
theorem s_X7_element (X : AX) (p : Int) (i : Int) (w : Int) (μ : Mu) (hC : CJ μ p) (hi : -2147483648 ≤ i ∧ i ≤ 2147483647) (hw : -2147483648 ≤ w ∧ w ≤ 2147483647) (hT : elT μ p i w = 0) : Wp (GG X) M_X7_element 0 [(2, 0), (0, i), (0, w)] [] μ (pP 0 (elV μ p i w) μ) := by
  have hI := hC.i
  have hG := hC.pg
  have hp := hI.at
  have hz := hI.sz
  have hgr := hG.gr
  have hkn := hC.kn
  have hE : (0 ≤ i ∧ i < μ p 7) ∧ (0 ≤ w ∧ w ≤ 7) := by unfold elT at hT; by_cases a : 0 ≤ i ∧ i < μ p 7; (by_cases b : 0 ≤ w ∧ w ≤ 7; exact ⟨a, b⟩; (rw [if_neg (fun q => q a), if_pos b] at hT; exact absurd hT (by decide))); (rw [if_pos a] at hT; exact absurd hT (by decide))
  refine w_aload_n dX7_element_0 rfl rfl (by first | decide | omega) ?_
  refine w_iload_n dX7_element_1 rfl rfl ?_
  refine w_callVP (o := 0) (ci := 7) (as := [(0, i)]) (rest := []) (k := 0) fX7_element_2 rfl rfl rfl rfl rfl rfl rfl rfl (Nat.le_of_ble_eq_true rfl) (s_X7_isElement X p i μ μ (fun o h1 => rfl) hC (by first | omega | assumption)) ?_
  have hf1 := am_b_r (0 ≤ i ∧ i < μ p 7)
  refine w_if_ne (tgt := 18) dX7_element_5 rfl (R32.in (by have := am_b_r ((0 ≤ i ∧ i < μ p 7)); omega)) (fun c5 => ?_) (fun c5 => ?_)
  · skip
    replace c5 := am_b1 c5
    refine w_iload_n dX7_element_18 rfl rfl ?_
    rcases (show (w < 0 ∨ 7 < w) ∨ w = 0 ∨ w = 1 ∨ w = 2 ∨ w = 3 ∨ w = 4 ∨ w = 5 ∨ w = 6 ∨ w = 7 by omega) with q19 | q19 | q19 | q19 | q19 | q19 | q19 | q19 | q19
    · refine w_tableOut (tgt := 162) dX7_element_19 (R32.in (by omega)) q19 rfl ?_
      omega
    · refine w_tableIn (off := 45) (tgt := 64) dX7_element_19 (R32.in (by omega)) (by omega) (by omega) (by rw [q19]; rfl) rfl ?_
      refine w_aload_n dX7_element_64 rfl rfl (by first | decide | omega) ?_
      refine w_getDx (o := 0) (f := 7) (x := p) fX7_element_65 rfl rfl rfl rfl hC.p7 ?_
      refine w_getR (o := (p).toNat) (x := p + 3) fX7_element_68 (by omega) (pSh0 rfl rfl (by assumption)) rfl (pRf 8 3 rfl rfl (by assumption)) ?_
      refine w_iload_n dX7_element_71 rfl rfl ?_
      refine w_ialdx (o := (p + 3).toNat) (n := 64) (x := μ (p + 3) i) dX7_element_72 (by omega) (pSh 3 rfl rfl (by assumption)) (Nat.le_of_ble_eq_true rfl) (by omega) rfl ?_
      have hr2 := PI.kr hC.i (q := p + 3) (i := i) rfl (by omega)
      have hr3 := PI.kr hI (q := p + 3) (i := i) rfl (by omega)
      exact w_iretP dX7_element_73 rfl (by subst q19; rfl)
    · refine w_tableIn (off := 55) (tgt := 74) dX7_element_19 (R32.in (by omega)) (by omega) (by omega) (by rw [q19]; rfl) rfl ?_
      refine w_aload_n dX7_element_74 rfl rfl (by first | decide | omega) ?_
      refine w_getDx (o := 0) (f := 7) (x := p) fX7_element_75 rfl rfl rfl rfl hC.p7 ?_
      refine w_getR (o := (p).toNat) (x := p + 4) fX7_element_78 (by omega) (pSh0 rfl rfl (by assumption)) rfl (pRf 9 4 rfl rfl (by assumption)) ?_
      refine w_iload_n dX7_element_81 rfl rfl ?_
      refine w_zaldx (o := (p + 4).toNat) (n := 64) (x := μ (p + 4) i) dX7_element_82 (by omega) (pSh 4 rfl rfl (by assumption)) (Nat.le_of_ble_eq_true rfl) (by omega) rfl ?_
      have hr4 := PI.so hC.i (q := p + 4) (i := i) rfl (by omega)
      have hr5 := PI.so hI (q := p + 4) (i := i) rfl (by omega)
      refine w_if_eq (tgt := 90) dX7_element_83 rfl (R32.in (by omega)) (fun c83 => ?_) (fun c83 => ?_)
      · skip
        refine w_iconst dX7_element_90 ?_
        exact w_iretP dX7_element_91 rfl (by subst q19; show _ = μ (p + 4) i; omega)
      · skip
        refine w_iconst dX7_element_86 ?_
        refine w_goto (tgt := 91) dX7_element_87 rfl ?_
        exact w_iretP dX7_element_91 rfl (by subst q19; show _ = μ (p + 4) i; omega)
    · refine w_tableIn (off := 73) (tgt := 92) dX7_element_19 (R32.in (by omega)) (by omega) (by omega) (by rw [q19]; rfl) rfl ?_
      refine w_aload_n dX7_element_92 rfl rfl (by first | decide | omega) ?_
      refine w_getDx (o := 0) (f := 7) (x := p) fX7_element_93 rfl rfl rfl rfl hC.p7 ?_
      refine w_iload_n dX7_element_96 rfl rfl ?_
      refine w_callVP (o := (p).toNat) (ci := 2) (as := [(0, i)]) (rest := []) (k := 0) fX7_element_97 rfl (by omega) (pSh0 rfl rfl (by assumption)) rfl rfl rfl rfl rfl (Nat.le_of_ble_eq_true rfl) (s_X2_timeWithin X p i μ μ (fun o h1 => rfl) hI (by first | omega | assumption)) ?_
      have hf6 := twn_r μ p i hI
      exact w_iretP dX7_element_100 rfl (by subst q19; rfl)
    · refine w_tableIn (off := 82) (tgt := 101) dX7_element_19 (R32.in (by omega)) (by omega) (by omega) (by rw [q19]; rfl) rfl ?_
      refine w_aload_n dX7_element_101 rfl rfl (by first | decide | omega) ?_
      refine w_getDx (o := 0) (f := 7) (x := p) fX7_element_102 rfl rfl rfl rfl hC.p7 ?_
      refine w_iload_n dX7_element_105 rfl rfl ?_
      refine w_callVP (o := (p).toNat) (ci := 2) (as := [(0, i)]) (rest := []) (k := 0) fX7_element_106 rfl (by omega) (pSh0 rfl rfl (by assumption)) rfl rfl rfl rfl rfl (Nat.le_of_ble_eq_true rfl) (s_X2_measureOf X p i μ μ (fun o h1 => rfl) hI (by first | omega | assumption)) ?_
      have hf7 := mof_r μ p i hI (by omega)
      exact w_iretP dX7_element_109 rfl (by subst q19; rfl)
    · refine w_tableIn (off := 91) (tgt := 110) dX7_element_19 (R32.in (by omega)) (by omega) (by omega) (by rw [q19]; rfl) rfl ?_
      refine w_aload_n dX7_element_110 rfl rfl (by first | decide | omega) ?_
      refine w_getDx (o := 0) (f := 7) (x := p) fX7_element_111 rfl rfl rfl rfl hC.p7 ?_
      refine w_iload_n dX7_element_114 rfl rfl ?_
      refine w_iconst dX7_element_115 ?_
      refine w_callVP (o := (p).toNat) (ci := 2) (as := [(0, i), (0, 0)]) (rest := []) (k := 3) fX7_element_116 rfl (by omega) (pSh0 rfl rfl (by assumption)) rfl rfl rfl rfl rfl (Nat.le_of_ble_eq_true rfl) (s_X2_partOf X p i 0 μ μ (fun o h1 => rfl) hI (by first | omega | assumption) (by first | omega | assumption)) ?_
      have hf8 := pof_r μ p i 0 hI
      exact w_iretP dX7_element_119 rfl (by subst q19; rfl)
    · refine w_tableIn (off := 101) (tgt := 120) dX7_element_19 (R32.in (by omega)) (by omega) (by omega) (by rw [q19]; rfl) rfl ?_
      refine w_aload_n dX7_element_120 rfl rfl (by first | decide | omega) ?_
      refine w_getDx (o := 0) (f := 7) (x := p) fX7_element_121 rfl rfl rfl rfl hC.p7 ?_
      refine w_getR (o := (p).toNat) (x := p + 7) fX7_element_124 (by omega) (pSh0 rfl rfl (by assumption)) rfl (pRf 12 7 rfl rfl (by assumption)) ?_
      refine w_iload_n dX7_element_127 rfl rfl ?_
      refine w_ialdx (o := (p + 7).toNat) (n := 64) (x := μ (p + 7) i) dX7_element_128 (by omega) (pSh 7 rfl rfl (by assumption)) (Nat.le_of_ble_eq_true rfl) (by omega) rfl ?_
      have hr9 := PI.xs hC.i (q := p + 7) (i := i) rfl (by omega)
      have hr10 := PI.xs hI (q := p + 7) (i := i) rfl (by omega)
      exact w_iretP dX7_element_129 rfl (by subst q19; rfl)
    · refine w_tableIn (off := 111) (tgt := 130) dX7_element_19 (R32.in (by omega)) (by omega) (by omega) (by rw [q19]; rfl) rfl ?_
      refine w_aload_n dX7_element_130 rfl rfl (by first | decide | omega) ?_
      refine w_iload_n dX7_element_131 rfl rfl ?_
      refine w_callVP (o := 0) (ci := 7) (as := [(0, i)]) (rest := []) (k := 0) fX7_element_132 rfl rfl rfl rfl rfl rfl rfl rfl (Nat.le_of_ble_eq_true rfl) (s_X7_isGrouped X p i μ μ (fun o h1 => rfl) hC (by first | omega | assumption)) ?_
      have hf11 := am_b_r (0 ≤ i ∧ i < μ p 7 ∧ 0 ≤ μ (p + 8) i)
      refine w_if_eq (tgt := 150) dX7_element_135 rfl (R32.in (by have := am_b_r ((0 ≤ i ∧ i < μ p 7 ∧ 0 ≤ μ (p + 8) i)); omega)) (fun c135 => ?_) (fun c135 => ?_)
      · skip
        replace c135 := am_b0 c135
        refine w_bipush dX7_element_150 (by decide) ?_
        exact w_iretP dX7_element_152 rfl (by subst q19; show _ = if 0 ≤ μ (p + 8) i then μ (p + 8) i else -2; first | exact (if_pos (by omega)).symm | exact (if_neg (by omega)).symm)
      · skip
        replace c135 := am_b1 c135
        refine w_aload_n dX7_element_138 rfl rfl (by first | decide | omega) ?_
        refine w_getDx (o := 0) (f := 7) (x := p) fX7_element_139 rfl rfl rfl rfl hC.p7 ?_
        refine w_getR (o := (p).toNat) (x := p + 8) fX7_element_142 (by omega) (pSh0 rfl rfl (by assumption)) rfl (pRf 13 8 rfl rfl (by assumption)) ?_
        refine w_iload_n dX7_element_145 rfl rfl ?_
        refine w_ialdx (o := (p + 8).toNat) (n := 64) (x := μ (p + 8) i) dX7_element_146 (by omega) (pSh 8 rfl rfl (by assumption)) (Nat.le_of_ble_eq_true rfl) (by omega) rfl ?_
        have hr12 := PG.go hC.pg (i := i) (by omega)
        have hr13 := PG.go hG (i := i) (by omega)
        refine w_goto (tgt := 152) dX7_element_147 rfl ?_
        exact w_iretP dX7_element_152 rfl (by subst q19; show _ = if 0 ≤ μ (p + 8) i then μ (p + 8) i else -2; first | exact (if_pos (by omega)).symm | exact (if_neg (by omega)).symm)
    · refine w_tableIn (off := 134) (tgt := 153) dX7_element_19 (R32.in (by omega)) (by omega) (by omega) (by rw [q19]; rfl) rfl ?_
      refine w_aload_n dX7_element_153 rfl rfl (by first | decide | omega) ?_
      refine w_getDx (o := 0) (f := 7) (x := p) fX7_element_154 rfl rfl rfl rfl hC.p7 ?_
      refine w_iload_n dX7_element_157 rfl rfl ?_
      refine w_callVP (o := (p).toNat) (ci := 2) (as := [(0, i)]) (rest := []) (k := 0) fX7_element_158 rfl (by omega) (pSh0 rfl rfl (by assumption)) rfl rfl rfl rfl rfl (Nat.le_of_ble_eq_true rfl) (s_X2_beamsOf X p i μ μ (fun o h1 => rfl) hI (by first | omega | assumption)) ?_
      have hf14 := bmz_r μ p i
      exact w_iretP dX7_element_161 rfl (by subst q19; rfl)
  · skip
    replace c5 := am_b0 c5
    exact absurd hE.1 c5

set_option maxRecDepth 100000 in
set_option maxHeartbeats 4000000 in
theorem s_X7_group (X : AX) (p : Int) (g : Int) (w : Int) (μ : Mu) (hC : CJ μ p) (hg : -2147483648 ≤ g ∧ g ≤ 2147483647) (hw : -2147483648 ≤ w ∧ w ≤ 2147483647) (hT : grT μ p g w = 0) : Wp (GG X) M_X7_group 0 [(2, 0), (0, g), (0, w)] [] μ (qI 0 fun z μ' => (Fr 6 14 1 0 μ' μ) ∧ (z = grV (ddt μ p (p + 5) (μ p 3) g) (μ (p + 9) g) w)) := by
  have hI := hC.i
  have hG := hC.pg
  have hp := hI.at
  have hz := hI.sz
  have hgr := hG.gr
  have hkn := hC.kn
  have hE : (0 ≤ g ∧ g < μ p 14) ∧ (0 ≤ w ∧ w ≤ 6) := by unfold grT at hT; by_cases a : 0 ≤ g ∧ g < μ p 14; (by_cases b : 0 ≤ w ∧ w ≤ 6; exact ⟨a, b⟩; (rw [if_neg (fun q => q a), if_pos b] at hT; exact absurd hT (by decide))); (rw [if_pos a] at hT; exact absurd hT (by decide))
  refine w_aload_n dX7_group_0 rfl rfl (by first | decide | omega) ?_
  refine w_iload_n dX7_group_1 rfl rfl ?_
  refine w_callVP (o := 0) (ci := 7) (as := [(0, g)]) (rest := []) (k := 0) fX7_group_2 rfl rfl rfl rfl rfl rfl rfl rfl (Nat.le_of_ble_eq_true rfl) (s_X7_isGroup X p g μ μ (fun o h1 => rfl) hC (by first | omega | assumption)) ?_
  have hf1 := am_b_r (0 ≤ g ∧ g < μ p 14)
  refine w_if_ne (tgt := 18) dX7_group_5 rfl (R32.in (by have := am_b_r ((0 ≤ g ∧ g < μ p 14)); omega)) (fun c5 => ?_) (fun c5 => ?_)
  · skip
    replace c5 := am_b1 c5
    refine w_aload_n dX7_group_18 rfl rfl (by first | decide | omega) ?_
    refine w_iload_n dX7_group_19 rfl rfl ?_
    refine w_callVV (o := 0) (ci := 7) (as := [(0, g)]) (rest := []) (k := 0) fX7_group_20 rfl rfl rfl rfl rfl rfl rfl rfl (Nat.le_of_ble_eq_true rfl) (s_X7_load X p g μ μ (fun o h1 => rfl) hC hE.1) (fun μL hμL => ?_)
    obtain ⟨hFL, hD_L⟩ := hμL
    refine w_iload_n dX7_group_23 rfl rfl ?_
    rcases (show (w < 0 ∨ 6 < w) ∨ w = 0 ∨ w = 1 ∨ w = 2 ∨ w = 3 ∨ w = 4 ∨ w = 5 ∨ w = 6 by omega) with q24 | q24 | q24 | q24 | q24 | q24 | q24 | q24
    · refine w_tableOut (tgt := 134) dX7_group_24 (R32.in (by omega)) q24 rfl ?_
      omega
    · refine w_tableIn (off := 44) (tgt := 68) dX7_group_24 (R32.in (by omega)) (by omega) (by omega) (by rw [q24]; rfl) rfl ?_
      refine w_aload_n dX7_group_68 rfl rfl (by first | decide | omega) ?_
      refine w_getDx (o := 0) (f := 7) (x := p) fX7_group_69 rfl rfl rfl rfl ((congrFun (hFL.at (by omega) (by omega)) _).trans hC.p7) ?_
      refine w_getR (o := (p).toNat) (x := p + 9) fX7_group_72 (by omega) (pSh0 rfl rfl (by assumption)) rfl (pRf 15 9 rfl rfl (by assumption)) ?_
      refine w_iload_n dX7_group_75 rfl rfl ?_
      refine w_ialdx (o := (p + 9).toNat) (n := 32) (x := μ (p + 9) g) dX7_group_76 (by omega) (pSh 9 rfl rfl (by assumption)) (Nat.le_of_ble_eq_true rfl) (by omega) (congrFun (hFL.at (by omega) (by omega)) _) ?_
      have hr3 := PG.fl hC.pg (g := g) (by omega)
      have hr4 := PG.fl hG (g := g) (by omega)
      exact w_iretI dX7_group_77 rfl ⟨hFL, (by subst q24; first | rfl | exact hz_Y | exact am_b_t c93 | exact am_b_f c93)⟩
    · refine w_tableIn (off := 54) (tgt := 78) dX7_group_24 (R32.in (by omega)) (by omega) (by omega) (by rw [q24]; rfl) rfl ?_
      refine w_aload_n dX7_group_78 rfl rfl (by first | decide | omega) ?_
      refine w_getR (o := 0) (x := 6) fX7_group_79 rfl rfl rfl rfl ?_
      refine w_getIx (o := 6) (f := 0) (x := dN (ddt μ p (p + 5) (μ p 3) g)) fX7_group_82 rfl rfl (Nat.le_of_ble_eq_true rfl) rfl hD_L.n ?_
      have hr5 := (hD_L.ok).n
      exact w_iretI dX7_group_85 rfl ⟨hFL, (by subst q24; first | rfl | exact hz_Y | exact am_b_t c93 | exact am_b_f c93)⟩
    · refine w_tableIn (off := 62) (tgt := 86) dX7_group_24 (R32.in (by omega)) (by omega) (by omega) (by rw [q24]; rfl) rfl ?_
      refine w_aload_n dX7_group_86 rfl rfl (by first | decide | omega) ?_
      refine w_getR (o := 0) (x := 6) fX7_group_87 rfl rfl rfl rfl ?_
      refine w_getIx (o := 6) (f := 4) (x := am_b (¬ klow (ddt μ p (p + 5) (μ p 3) g) = 99)) fX7_group_90 rfl rfl (Nat.le_of_ble_eq_true rfl) rfl hD_L.kn ?_
      refine w_if_eq (tgt := 100) dX7_group_93 rfl (R32.in (by have := am_b_r ((¬ klow (ddt μ p (p + 5) (μ p 3) g) = 99)); omega)) (fun c93 => ?_) (fun c93 => ?_)
      · skip
        replace c93 := am_b0 c93
        refine w_iconst dX7_group_100 ?_
        exact w_iretI dX7_group_101 rfl ⟨hFL, (by subst q24; first | rfl | exact hz_Y | exact am_b_t c93 | exact am_b_f c93)⟩
      · skip
        replace c93 := am_b1 c93
        refine w_iconst dX7_group_96 ?_
        refine w_goto (tgt := 101) dX7_group_97 rfl ?_
        exact w_iretI dX7_group_101 rfl ⟨hFL, (by subst q24; first | rfl | exact hz_Y | exact am_b_t c93 | exact am_b_f c93)⟩
    · refine w_tableIn (off := 78) (tgt := 102) dX7_group_24 (R32.in (by omega)) (by omega) (by omega) (by rw [q24]; rfl) rfl ?_
      refine w_aload_n dX7_group_102 rfl rfl (by first | decide | omega) ?_
      refine w_getR (o := 0) (x := 6) fX7_group_103 rfl rfl rfl rfl ?_
      refine w_getIx (o := 6) (f := 2) (x := spn (ddt μ p (p + 5) (μ p 3) g)) fX7_group_106 rfl rfl (Nat.le_of_ble_eq_true rfl) rfl hD_L.sp ?_
      have hr6 := (hD_L.ok).sp
      exact w_iretI dX7_group_109 rfl ⟨hFL, (by subst q24; first | rfl | exact hz_Y | exact am_b_t c93 | exact am_b_f c93)⟩
    · refine w_tableIn (off := 86) (tgt := 110) dX7_group_24 (R32.in (by omega)) (by omega) (by omega) (by rw [q24]; rfl) rfl ?_
      refine w_aload_n dX7_group_110 rfl rfl (by first | decide | omega) ?_
      refine w_getR (o := 0) (x := 6) fX7_group_111 rfl rfl rfl rfl ?_
      refine w_callVP (o := 6) (ci := 0) (as := []) (rest := []) (k := 2) fX7_group_114 rfl rfl rfl rfl rfl rfl rfl rfl (Nat.le_of_ble_eq_true rfl) (s_X0_mostBeams X (ddt μ p (p + 5) (μ p 3) g) μL hD_L) ?_
      exact w_iretI dX7_group_117 rfl ⟨hFL, (by subst q24; first | rfl | exact hz_Y | exact am_b_t c93 | exact am_b_f c93)⟩
    · refine w_tableIn (off := 94) (tgt := 118) dX7_group_24 (R32.in (by omega)) (by omega) (by omega) (by rw [q24]; rfl) rfl ?_
      refine w_aload_n dX7_group_118 rfl rfl (by first | decide | omega) ?_
      refine w_getR (o := 0) (x := 6) fX7_group_119 rfl rfl rfl rfl ?_
      refine w_callVI (o := 6) (ci := 0) (as := []) (rest := []) (k := 3) fX7_group_122 rfl rfl rfl rfl rfl rfl rfl rfl (Nat.le_of_ble_eq_true rfl) (s_X0_gather X (ddt μ p (p + 5) (μ p 3) g) μL hD_L) (fun xY μY hμY => ?_)
      obtain ⟨hFY, hz_Y, hK_Y, hD_Y⟩ := hμY
      exact w_iretI dX7_group_125 rfl ⟨((hFY.wd (by omega) (by omega)).tr hFL), (by subst q24; first | rfl | exact hz_Y | exact am_b_t c93 | exact am_b_f c93)⟩
    · refine w_tableIn (off := 102) (tgt := 126) dX7_group_24 (R32.in (by omega)) (by omega) (by omega) (by rw [q24]; rfl) rfl ?_
      refine w_aload_n dX7_group_126 rfl rfl (by first | decide | omega) ?_
      refine w_getR (o := 0) (x := 6) fX7_group_127 rfl rfl rfl rfl ?_
      refine w_callVP (o := 6) (ci := 0) (as := []) (rest := []) (k := 2) fX7_group_130 rfl rfl rfl rfl rfl rfl rfl rfl (Nat.le_of_ble_eq_true rfl) (s_X0_howManyUp X (ddt μ p (p + 5) (μ p 3) g) μL hD_L) ?_
      exact w_iretI dX7_group_133 rfl ⟨hFL, (by subst q24; first | rfl | exact hz_Y | exact am_b_t c93 | exact am_b_f c93)⟩
  · skip
    replace c5 := am_b0 c5
    exact absurd hE.1 c5
