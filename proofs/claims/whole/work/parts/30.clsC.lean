set_option maxRecDepth 100000 in
set_option maxHeartbeats 4000000 in
theorem s_X7_touch (X : AX) (p : Int) (g : Int) (e : Int) (k : Int) (μ : Mu) (hC : CJ μ p) (hg : -2147483648 ≤ g ∧ g ≤ 2147483647) (he : -2147483648 ≤ e ∧ e ≤ 2147483647) (hk : -2147483648 ≤ k ∧ k ≤ 2147483647) : Wp (GG X) M_X7_touch 0 [(2, 0), (0, g), (0, e), (0, k), (9, 0), (9, 0), (9, 0)] [] μ (qI 0 fun z μ' => (Fr 6 14 1 0 μ' μ) ∧ (z = if (0 ≤ g ∧ g < μ p 14) ∧ (0 ≤ e ∧ e ≤ 1) ∧ 0 ≤ k ∧ k < dB (ddt μ p (p + 5) (μ p 3) g) (if e = 0 then 0 else dN (ddt μ p (p + 5) (μ p 3) g) - 1) then tchA (ddt μ p (p + 5) (μ p 3) g) e k else -1)) := by
  have hI := hC.i
  have hG := hC.pg
  have hp := hI.at
  have hz := hI.sz
  have hgr := hG.gr
  have hkn := hC.kn
  refine w_aload_n dX7_touch_0 rfl rfl (by first | decide | omega) ?_
  refine w_iload_n dX7_touch_1 rfl rfl ?_
  refine w_callVP (o := 0) (ci := 7) (as := [(0, g)]) (rest := []) (k := 0) fX7_touch_2 rfl rfl rfl rfl rfl rfl rfl rfl (Nat.le_of_ble_eq_true rfl) (s_X7_isGroup X p g μ μ (fun o h1 => rfl) hC (by first | omega | assumption)) ?_
  have hf1 := am_b_r (0 ≤ g ∧ g < μ p 14)
  refine w_if_eq (tgt := 21) dX7_touch_5 rfl (R32.in (by have := am_b_r ((0 ≤ g ∧ g < μ p 14)); omega)) (fun c5 => ?_) (fun c5 => ?_)
  · skip
    replace c5 := am_b0 c5
    refine w_iconst dX7_touch_21 ?_
    exact w_iretI dX7_touch_22 rfl ⟨Fr.rf, (by exact ifF (by omega) (rfl))⟩
  · skip
    replace c5 := am_b1 c5
    refine w_iload_n dX7_touch_8 rfl rfl ?_
    refine w_if_lt (tgt := 21) dX7_touch_9 rfl (R32.in (by omega)) (fun c9 => ?_) (fun c9 => ?_)
    · skip
      refine w_iconst dX7_touch_21 ?_
      exact w_iretI dX7_touch_22 rfl ⟨Fr.rf, (by exact ifF (by omega) (rfl))⟩
    · skip
      refine w_iload_n dX7_touch_12 rfl rfl ?_
      refine w_iconst dX7_touch_13 ?_
      refine w_icmp_gt (tgt := 21) dX7_touch_14 rfl (R32.in (by omega)) (R32.in (by decide)) (fun c14 => ?_) (fun c14 => ?_)
      · skip
        refine w_iconst dX7_touch_21 ?_
        exact w_iretI dX7_touch_22 rfl ⟨Fr.rf, (by exact ifF (by omega) (rfl))⟩
      · skip
        refine w_iload_n dX7_touch_17 rfl rfl ?_
        refine w_if_ge (tgt := 23) dX7_touch_18 rfl (R32.in (by omega)) (fun c18 => ?_) (fun c18 => ?_)
        · skip
          refine w_aload_n dX7_touch_23 rfl rfl (by first | decide | omega) ?_
          refine w_iload_n dX7_touch_24 rfl rfl ?_
          refine w_callVV (o := 0) (ci := 7) (as := [(0, g)]) (rest := []) (k := 0) fX7_touch_25 rfl rfl rfl rfl rfl rfl rfl rfl (Nat.le_of_ble_eq_true rfl) (s_X7_load X p g μ μ (fun o h1 => rfl) hC (by first | omega | assumption)) (fun μL hμL => ?_)
          obtain ⟨hFL, hD_L⟩ := hμL
          have hok := (hD_L).ok
          have hmr := mnK_r hok
          have hnn := hok.n
          have hbr := hok.br (i := (if e = 0 then 0 else dN (ddt μ p (p + 5) (μ p 3) g) - 1)) (by omega)
          refine w_iload_n dX7_touch_28 rfl rfl ?_
          refine w_aload_n dX7_touch_29 rfl rfl (by first | decide | omega) ?_
          refine w_getR (o := 0) (x := 6) fX7_touch_30 rfl rfl rfl rfl ?_
          refine w_iload_n dX7_touch_33 rfl rfl ?_
          refine w_callVP (o := 6) (ci := 0) (as := [(0, e)]) (rest := [(0, k)]) (k := 0) fX7_touch_34 rfl rfl rfl rfl rfl rfl rfl rfl (Nat.le_of_ble_eq_true rfl) (s_X0_beamsAtEnd X (ddt μ p (p + 5) (μ p 3) g) e μL hD_L (by omega)) ?_
          refine w_icmp_lt (tgt := 42) dX7_touch_37 rfl (R32.in (by omega)) (R32.in (by omega)) (fun c37 => ?_) (fun c37 => ?_)
          · skip
            refine w_aload_n dX7_touch_42 rfl rfl (by first | decide | omega) ?_
            refine w_getR (o := 0) (x := 6) fX7_touch_43 rfl rfl rfl rfl ?_
            refine w_callVI (o := 6) (ci := 0) (as := []) (rest := []) (k := 3) fX7_touch_46 rfl rfl rfl rfl rfl rfl rfl rfl (Nat.le_of_ble_eq_true rfl) (s_X0_findBest X (ddt μ p (p + 5) (μ p 3) g) μL hD_L) (fun xB μB hμB => ?_)
            obtain ⟨hFB, hz_B, hD_B, hf_B⟩ := hμB
            refine w_lstore (ls' := [(2, 0), (0, g), (0, e), (0, k), (1, xB), (9, 0), (9, 0)]) dX7_touch_49 (Nat.le_of_ble_eq_true rfl) rfl rfl ?_
            refine w_lload dX7_touch_51 rfl ?_
            refine w_ldc2 (n := 9223372036854775807) dX7_touch_53 k_871 (by decide) ?_
            refine w_lc_ne (tgt := 63) dX7_touch_56 dX7_touch_57 rfl (R64.in (by omega)) (R64.in (by omega)) (fun c57 => ?_) (fun c57 => ?_)
            · skip
              have hr2 := mnK_r2 hok (fun q => c57 (hz_B.trans q))
              have hwk := wk3_r (ddt μ p (p + 5) (μ p 3) g) (if e = 0 then 0 else dN (ddt μ p (p + 5) (μ p 3) g) - 1) k (by omega)
              refine w_aload_n dX7_touch_63 rfl rfl (by first | decide | omega) ?_
              refine w_getR (o := 0) (x := 6) fX7_touch_64 rfl rfl rfl rfl ?_
              refine w_iload_n dX7_touch_67 rfl rfl ?_
              refine w_iload_n dX7_touch_68 rfl rfl ?_
              have hJ69_1 : ∀ z1_0 : Int, z1_0 = (if ¬ e = 0 then (bL (ddt μ p (p + 5) (μ p 3) g)) + (bR (ddt μ p (p + 5) (μ p 3) g) - bL (ddt μ p (p + 5) (μ p 3) g)) else (bL (ddt μ p (p + 5) (μ p 3) g))) → Wp (GG X) M_X7_touch 93 [(2, 0), (0, g), (0, e), (0, k), (1, xB), (9, 0), (9, 0)] [(0, z1_0), (0, e), (2, 6)] μB (qI 0 fun z μ' => (Fr 6 14 1 0 μ' μ) ∧ (z = if (0 ≤ g ∧ g < μ p 14) ∧ (0 ≤ e ∧ e ≤ 1) ∧ 0 ≤ k ∧ k < dB (ddt μ p (p + 5) (μ p 3) g) (if e = 0 then 0 else dN (ddt μ p (p + 5) (μ p 3) g) - 1) then tchA (ddt μ p (p + 5) (μ p 3) g) e k else -1)) := by
                intro z1_0 hz1_0
                refine Wp.topE (b := if e = 0 then bL (ddt μ p (p + 5) (μ p 3) g) else bR (ddt μ p (p + 5) (μ p 3) g)) (by omega) ?_
                refine w_iload_n dX7_touch_93 rfl rfl ?_
                refine w_callVP (o := 6) (ci := 0) (as := [(0, e), (0, if e = 0 then bL (ddt μ p (p + 5) (μ p 3) g) else bR (ddt μ p (p + 5) (μ p 3) g)), (0, k)]) (rest := []) (k := 0) fX7_touch_94 rfl rfl rfl rfl rfl rfl rfl rfl (Nat.le_of_ble_eq_true rfl) (s_X0_beamHeight X (ddt μ p (p + 5) (μ p 3) g) e (if e = 0 then bL (ddt μ p (p + 5) (μ p 3) g) else bR (ddt μ p (p + 5) (μ p 3) g)) k μB hD_B (by omega)) ?_
                refine w_istore (ls' := [(2, 0), (0, g), (0, e), (0, k), (1, xB), (9, 0), (0, (if e = 0 then bL (ddt μ p (p + 5) (μ p 3) g) else bR (ddt μ p (p + 5) (μ p 3) g)) - way (ddt μ p (p + 5) (μ p 3) g) (if e = 0 then 0 else dN (ddt μ p (p + 5) (μ p 3) g) - 1) * 3 * k)]) dX7_touch_97 (Nat.le_of_ble_eq_true rfl) rfl rfl ?_
                refine w_iload dX7_touch_99 rfl ?_
                refine w_callSP (as := [(0, (if e = 0 then bL (ddt μ p (p + 5) (μ p 3) g) else bR (ddt μ p (p + 5) (μ p 3) g)) - way (ddt μ p (p + 5) (μ p 3) g) (if e = 0 then 0 else dN (ddt μ p (p + 5) (μ p 3) g) - 1) * 3 * k)]) (rest := []) (k := 0) fX7_touch_101 rfl rfl rfl rfl rfl (Nat.le_of_ble_eq_true rfl) (s_X0_isOnStaff X ((if e = 0 then bL (ddt μ p (p + 5) (μ p 3) g) else bR (ddt μ p (p + 5) (μ p 3) g)) - way (ddt μ p (p + 5) (μ p 3) g) (if e = 0 then 0 else dN (ddt μ p (p + 5) (μ p 3) g) - 1) * 3 * k) μB (by first | omega | assumption)) ?_
                refine w_if_eq (tgt := 116) dX7_touch_104 rfl (R32.in (by have := am_b_r ((-9 ≤ ((if e = 0 then bL (ddt μ p (p + 5) (μ p 3) g) else bR (ddt μ p (p + 5) (μ p 3) g)) - way (ddt μ p (p + 5) (μ p 3) g) (if e = 0 then 0 else dN (ddt μ p (p + 5) (μ p 3) g) - 1) * 3 * k) ∧ ((if e = 0 then bL (ddt μ p (p + 5) (μ p 3) g) else bR (ddt μ p (p + 5) (μ p 3) g)) - way (ddt μ p (p + 5) (μ p 3) g) (if e = 0 then 0 else dN (ddt μ p (p + 5) (μ p 3) g) - 1) * 3 * k) ≤ 9)); omega)) (fun c104 => ?_) (fun c104 => ?_)
                · skip
                  replace c104 := am_b0 c104
                  refine w_bipush dX7_touch_116 (by decide) ?_
                  exact w_iretI dX7_touch_118 rfl ⟨((hFB.wd (by omega) (by omega)).tr hFL), (by exact ifT (by omega) (by unfold tchA; rw [if_neg (fun q => c57 (hz_B.trans q))]; first | exact ifT (by omega) rfl | exact ifF (by omega) rfl))⟩
                · skip
                  replace c104 := am_b1 c104
                  refine w_iload dX7_touch_107 rfl ?_
                  refine w_iconst dX7_touch_109 ?_
                  refine w_callSP (as := [(0, (if e = 0 then bL (ddt μ p (p + 5) (μ p 3) g) else bR (ddt μ p (p + 5) (μ p 3) g)) - way (ddt μ p (p + 5) (μ p 3) g) (if e = 0 then 0 else dN (ddt μ p (p + 5) (μ p 3) g) - 1) * 3 * k), (0, 4)]) (rest := []) (k := 1) fX7_touch_110 rfl rfl rfl rfl rfl (Nat.le_of_ble_eq_true rfl) (s_J9_floorMod_7cf53 X ((if e = 0 then bL (ddt μ p (p + 5) (μ p 3) g) else bR (ddt μ p (p + 5) (μ p 3) g)) - way (ddt μ p (p + 5) (μ p 3) g) (if e = 0 then 0 else dN (ddt μ p (p + 5) (μ p 3) g) - 1) * 3 * k) 4 μB (by first | omega | assumption) (by first | omega | assumption)) ?_
                  refine w_goto (tgt := 118) dX7_touch_113 rfl ?_
                  exact w_iretI dX7_touch_118 rfl ⟨((hFB.wd (by omega) (by omega)).tr hFL), (by exact ifT (by omega) (by unfold tchA; rw [if_neg (fun q => c57 (hz_B.trans q))]; first | exact ifT (by omega) rfl | exact ifF (by omega) rfl))⟩
              refine w_if_ne (tgt := 84) dX7_touch_69 rfl (R32.in (by omega)) (fun c69 => ?_) (fun c69 => ?_)
              · skip
                refine w_aload_n dX7_touch_84 rfl rfl (by first | decide | omega) ?_
                refine w_getR (o := 0) (x := 6) fX7_touch_85 rfl rfl rfl rfl ?_
                refine w_lload dX7_touch_88 rfl ?_
                refine w_callVP (o := 6) (ci := 0) (as := [(1, xB)]) (rest := [(0, e), (2, 6)]) (k := 0) fX7_touch_90 rfl rfl rfl rfl rfl rfl rfl rfl (Nat.le_of_ble_eq_true rfl) (s_X0_rightOf_k X (ddt μ p (p + 5) (μ p 3) g) (bR (ddt μ p (p + 5) (μ p 3) g) - bL (ddt μ p (p + 5) (μ p 3) g)) (bL (ddt μ p (p + 5) (μ p 3) g)) xB μB hD_B (mnK_w hok (fun q => c57 (hz_B.trans q))).1 (mnK_w hok (fun q => c57 (hz_B.trans q))).2.1 (hz_B.trans (mnK_w hok (fun q => c57 (hz_B.trans q))).2.2.1)) ?_
                exact hJ69_1 _ (by first | omega | simp [*])
              · skip
                refine w_aload_n dX7_touch_72 rfl rfl (by first | decide | omega) ?_
                refine w_getR (o := 0) (x := 6) fX7_touch_73 rfl rfl rfl rfl ?_
                refine w_lload dX7_touch_76 rfl ?_
                refine w_callVP (o := 6) (ci := 0) (as := [(1, xB)]) (rest := [(0, e), (2, 6)]) (k := 0) fX7_touch_78 rfl rfl rfl rfl rfl rfl rfl rfl (Nat.le_of_ble_eq_true rfl) (s_X0_leftOf_k X (ddt μ p (p + 5) (μ p 3) g) (bR (ddt μ p (p + 5) (μ p 3) g) - bL (ddt μ p (p + 5) (μ p 3) g)) (bL (ddt μ p (p + 5) (μ p 3) g)) xB μB hD_B (mnK_w hok (fun q => c57 (hz_B.trans q))).1 (mnK_w hok (fun q => c57 (hz_B.trans q))).2.1 (hz_B.trans (mnK_w hok (fun q => c57 (hz_B.trans q))).2.2.1)) ?_
                refine w_goto (tgt := 93) dX7_touch_81 rfl ?_
                exact hJ69_1 _ (by first | omega | simp [*])
            · skip
              refine w_bipush dX7_touch_60 (by decide) ?_
              exact w_iretI dX7_touch_62 rfl ⟨((hFB.wd (by omega) (by omega)).tr hFL), (by exact ifT (by omega) ((if_pos (hz_B.symm.trans c57)).symm))⟩
          · skip
            refine w_iconst dX7_touch_40 ?_
            exact w_iretI dX7_touch_41 rfl ⟨hFL, (by exact ifF (by omega) (rfl))⟩
        · skip
          refine w_iconst dX7_touch_21 ?_
          exact w_iretI dX7_touch_22 rfl ⟨Fr.rf, (by exact ifF (by omega) (rfl))⟩

set_option maxRecDepth 100000 in
set_option maxHeartbeats 4000000 in
theorem s_X7_beams (X : AX) (p : Int) (i : Int) (w : Int) (μ : Mu) (hC : CJ μ p) (hi : -2147483648 ≤ i ∧ i ≤ 2147483647) (hw : -2147483648 ≤ w ∧ w ≤ 2147483647) : Wp (GG X) M_X7_beams 0 [(2, 0), (0, i), (0, w)] [] μ (pP 0 (if (0 ≤ i ∧ i < μ p 7) ∧ 0 ≤ w ∧ w ≤ 3 then (if 0 ≤ μ (p + 8) i then bmA μ p i w else -2) else -1) μ) := by
  have hI := hC.i
  have hG := hC.pg
  have hp := hI.at
  have hz := hI.sz
  have hgr := hG.gr
  have hkn := hC.kn
  refine w_aload_n dX7_beams_0 rfl rfl (by first | decide | omega) ?_
  refine w_iload_n dX7_beams_1 rfl rfl ?_
  refine w_callVP (o := 0) (ci := 7) (as := [(0, i)]) (rest := []) (k := 0) fX7_beams_2 rfl rfl rfl rfl rfl rfl rfl rfl (Nat.le_of_ble_eq_true rfl) (s_X7_isElement X p i μ μ (fun o h1 => rfl) hC (by first | omega | assumption)) ?_
  have hf1 := am_b_r (0 ≤ i ∧ i < μ p 7)
  refine w_if_eq (tgt := 17) dX7_beams_5 rfl (R32.in (by have := am_b_r ((0 ≤ i ∧ i < μ p 7)); omega)) (fun c5 => ?_) (fun c5 => ?_)
  · skip
    replace c5 := am_b0 c5
    refine w_iconst dX7_beams_17 ?_
    exact w_iretP dX7_beams_18 rfl (by exact ifF (by omega) (rfl))
  · skip
    replace c5 := am_b1 c5
    refine w_iload_n dX7_beams_8 rfl rfl ?_
    refine w_if_lt (tgt := 17) dX7_beams_9 rfl (R32.in (by omega)) (fun c9 => ?_) (fun c9 => ?_)
    · skip
      refine w_iconst dX7_beams_17 ?_
      exact w_iretP dX7_beams_18 rfl (by exact ifF (by omega) (rfl))
    · skip
      refine w_iload_n dX7_beams_12 rfl rfl ?_
      refine w_iconst dX7_beams_13 ?_
      refine w_icmp_le (tgt := 19) dX7_beams_14 rfl (R32.in (by omega)) (R32.in (by decide)) (fun c14 => ?_) (fun c14 => ?_)
      · skip
        refine w_aload_n dX7_beams_19 rfl rfl (by first | decide | omega) ?_
        refine w_iload_n dX7_beams_20 rfl rfl ?_
        refine w_callVP (o := 0) (ci := 7) (as := [(0, i)]) (rest := []) (k := 0) fX7_beams_21 rfl rfl rfl rfl rfl rfl rfl rfl (Nat.le_of_ble_eq_true rfl) (s_X7_isGrouped X p i μ μ (fun o h1 => rfl) hC (by first | omega | assumption)) ?_
        have hf2 := am_b_r (0 ≤ i ∧ i < μ p 7 ∧ 0 ≤ μ (p + 8) i)
        refine w_if_ne (tgt := 30) dX7_beams_24 rfl (R32.in (by have := am_b_r ((0 ≤ i ∧ i < μ p 7 ∧ 0 ≤ μ (p + 8) i)); omega)) (fun c24 => ?_) (fun c24 => ?_)
        · skip
          replace c24 := am_b1 c24
          refine w_iload_n dX7_beams_30 rfl rfl ?_
          rcases (show (w < 0 ∨ 2 < w) ∨ w = 0 ∨ w = 1 ∨ w = 2 by omega) with q31 | q31 | q31 | q31
          · refine w_tableOut (tgt := 98) dX7_beams_31 (R32.in (by omega)) q31 rfl ?_
            refine w_aload_n dX7_beams_98 rfl rfl (by first | decide | omega) ?_
            refine w_getDx (o := 0) (f := 7) (x := p) fX7_beams_99 rfl rfl rfl rfl hC.p7 ?_
            refine w_iload_n dX7_beams_102 rfl rfl ?_
            refine w_callVP (o := (p).toNat) (ci := 2) (as := [(0, i)]) (rest := []) (k := 1) fX7_beams_103 rfl (by omega) (pSh0 rfl rfl (by assumption)) rfl rfl rfl rfl rfl (Nat.le_of_ble_eq_true rfl) (s_X2_stubsGoLeft X p i μ μ (fun o h1 => rfl) hI hG (by first | omega | assumption)) ?_
            refine w_if_eq (tgt := 113) dX7_beams_106 rfl (R32.in (by have := am_b_r ((sgl μ p i)); omega)) (fun c106 => ?_) (fun c106 => ?_)
            · skip
              replace c106 := am_b0 c106
              refine w_aload_n dX7_beams_113 rfl rfl (by first | decide | omega) ?_
              refine w_getDx (o := 0) (f := 7) (x := p) fX7_beams_114 rfl rfl rfl rfl hC.p7 ?_
              refine w_iload_n dX7_beams_117 rfl rfl ?_
              refine w_callVP (o := (p).toNat) (ci := 2) (as := [(0, i)]) (rest := []) (k := 0) fX7_beams_118 rfl (by omega) (pSh0 rfl rfl (by assumption)) rfl rfl rfl rfl rfl (Nat.le_of_ble_eq_true rfl) (s_X2_stubsOf X p i μ μ (fun o h1 => rfl) hI hG (by first | omega | assumption)) ?_
              exact w_iretP dX7_beams_121 rfl (by exact ifT (by omega) (ifT (by omega) (by unfold bmA; rw [if_neg (by omega), if_neg (by omega), if_neg (by omega)]; first | exact ifT c106 rfl | exact ifF c106 rfl)))
            · skip
              replace c106 := am_b1 c106
              refine w_iconst dX7_beams_109 ?_
              refine w_goto (tgt := 121) dX7_beams_110 rfl ?_
              exact w_iretP dX7_beams_121 rfl (by exact ifT (by omega) (ifT (by omega) (by unfold bmA; rw [if_neg (by omega), if_neg (by omega), if_neg (by omega)]; first | exact ifT c106 rfl | exact ifF c106 rfl)))
          · refine w_tableIn (off := 25) (tgt := 56) dX7_beams_31 (R32.in (by omega)) (by omega) (by omega) (by rw [q31]; rfl) rfl ?_
            refine w_aload_n dX7_beams_56 rfl rfl (by first | decide | omega) ?_
            refine w_getDx (o := 0) (f := 7) (x := p) fX7_beams_57 rfl rfl rfl rfl hC.p7 ?_
            refine w_iload_n dX7_beams_60 rfl rfl ?_
            refine w_callVP (o := (p).toNat) (ci := 2) (as := [(0, i)]) (rest := []) (k := 0) fX7_beams_61 rfl (by omega) (pSh0 rfl rfl (by assumption)) rfl rfl rfl rfl rfl (Nat.le_of_ble_eq_true rfl) (s_X2_beamsLeft X p i μ μ (fun o h1 => rfl) hI hG (by first | omega | assumption)) ?_
            have hf3 := bml_r μ p i
            exact w_iretP dX7_beams_64 rfl (by exact ifT (by omega) (ifT (by omega) (by unfold bmA; rw [if_pos (by omega)])))
          · refine w_tableIn (off := 34) (tgt := 65) dX7_beams_31 (R32.in (by omega)) (by omega) (by omega) (by rw [q31]; rfl) rfl ?_
            refine w_aload_n dX7_beams_65 rfl rfl (by first | decide | omega) ?_
            refine w_getDx (o := 0) (f := 7) (x := p) fX7_beams_66 rfl rfl rfl rfl hC.p7 ?_
            refine w_iload_n dX7_beams_69 rfl rfl ?_
            refine w_callVP (o := (p).toNat) (ci := 2) (as := [(0, i)]) (rest := []) (k := 0) fX7_beams_70 rfl (by omega) (pSh0 rfl rfl (by assumption)) rfl rfl rfl rfl rfl (Nat.le_of_ble_eq_true rfl) (s_X2_beamsRight X p i μ μ (fun o h1 => rfl) hI hG (by first | omega | assumption)) ?_
            have hf4 := bmr_r μ p i
            exact w_iretP dX7_beams_73 rfl (by exact ifT (by omega) (ifT (by omega) (by unfold bmA; rw [if_neg (by omega), if_pos (by omega)])))
          · refine w_tableIn (off := 43) (tgt := 74) dX7_beams_31 (R32.in (by omega)) (by omega) (by omega) (by rw [q31]; rfl) rfl ?_
            refine w_aload_n dX7_beams_74 rfl rfl (by first | decide | omega) ?_
            refine w_getDx (o := 0) (f := 7) (x := p) fX7_beams_75 rfl rfl rfl rfl hC.p7 ?_
            refine w_iload_n dX7_beams_78 rfl rfl ?_
            refine w_callVP (o := (p).toNat) (ci := 2) (as := [(0, i)]) (rest := []) (k := 1) fX7_beams_79 rfl (by omega) (pSh0 rfl rfl (by assumption)) rfl rfl rfl rfl rfl (Nat.le_of_ble_eq_true rfl) (s_X2_stubsGoLeft X p i μ μ (fun o h1 => rfl) hI hG (by first | omega | assumption)) ?_
            refine w_if_eq (tgt := 96) dX7_beams_82 rfl (R32.in (by have := am_b_r ((sgl μ p i)); omega)) (fun c82 => ?_) (fun c82 => ?_)
            · skip
              replace c82 := am_b0 c82
              refine w_iconst dX7_beams_96 ?_
              exact w_iretP dX7_beams_97 rfl (by exact ifT (by omega) (ifT (by omega) (by unfold bmA; rw [if_neg (by omega), if_neg (by omega), if_pos (by omega)]; first | exact ifT c82 rfl | exact ifF c82 rfl)))
            · skip
              replace c82 := am_b1 c82
              refine w_aload_n dX7_beams_85 rfl rfl (by first | decide | omega) ?_
              refine w_getDx (o := 0) (f := 7) (x := p) fX7_beams_86 rfl rfl rfl rfl hC.p7 ?_
              refine w_iload_n dX7_beams_89 rfl rfl ?_
              refine w_callVP (o := (p).toNat) (ci := 2) (as := [(0, i)]) (rest := []) (k := 0) fX7_beams_90 rfl (by omega) (pSh0 rfl rfl (by assumption)) rfl rfl rfl rfl rfl (Nat.le_of_ble_eq_true rfl) (s_X2_stubsOf X p i μ μ (fun o h1 => rfl) hI hG (by first | omega | assumption)) ?_
              refine w_goto (tgt := 97) dX7_beams_93 rfl ?_
              exact w_iretP dX7_beams_97 rfl (by exact ifT (by omega) (ifT (by omega) (by unfold bmA; rw [if_neg (by omega), if_neg (by omega), if_pos (by omega)]; first | exact ifT c82 rfl | exact ifF c82 rfl)))
        · skip
          replace c24 := am_b0 c24
          refine w_bipush dX7_beams_27 (by decide) ?_
          exact w_iretP dX7_beams_29 rfl (by exact ifT (by omega) (ifF (by omega) rfl))
      · skip
        refine w_iconst dX7_beams_17 ?_
        exact w_iretP dX7_beams_18 rfl (by exact ifF (by omega) (rfl))

set_option maxRecDepth 100000 in
set_option maxHeartbeats 4000000 in
theorem s_X7_total (X : AX) (p : Int) (w : Int) (μ : Mu) (hC : CJ μ p) (hw : -2147483648 ≤ w ∧ w ≤ 2147483647) : Wp (GG X) M_X7_total 0 [(2, 0), (0, w)] [] μ (qI 0 fun z μ' => (Fr 6 15 1 0 μ' μ) ∧ (z = if 0 ≤ w ∧ w ≤ 3 then totA (tst (ddt μ p (p + 5) (μ p 3)) (μ p 14)) w else -1)) := by
  have hI := hC.i
  have hG := hC.pg
  have hp := hI.at
  have hz := hI.sz
  have hgr := hG.gr
  have hkn := hC.kn
  refine w_iload_n dX7_total_0 rfl rfl ?_
  refine w_callSP (as := [(0, w)]) (rest := []) (k := 0) fX7_total_1 rfl rfl rfl rfl rfl (Nat.le_of_ble_eq_true rfl) (s_X6_isWhat X w μ (by first | omega | assumption)) ?_
  have hf1 := am_b_r (0 ≤ w ∧ w ≤ 3)
  refine w_if_ne (tgt := 9) dX7_total_4 rfl (R32.in (by have := am_b_r ((0 ≤ w ∧ w ≤ 3)); omega)) (fun c4 => ?_) (fun c4 => ?_)
  · skip
    replace c4 := am_b1 c4
    refine w_aload_n dX7_total_9 rfl rfl (by first | decide | omega) ?_
    refine w_getR (o := 0) (x := 15) fX7_total_10 rfl rfl rfl rfl ?_
    refine w_aload_n dX7_total_13 rfl rfl (by first | decide | omega) ?_
    refine w_getDx (o := 0) (f := 7) (x := p) fX7_total_14 rfl rfl rfl rfl hC.p7 ?_
    refine w_aload_n dX7_total_17 rfl rfl (by first | decide | omega) ?_
    refine w_getDx (o := 0) (f := 7) (x := p) fX7_total_18 rfl rfl rfl rfl hC.p7 ?_
    refine w_getR (o := (p).toNat) (x := p + 5) fX7_total_21 (by omega) (pSh0 rfl rfl (by assumption)) rfl (pRf 10 5 rfl rfl (by assumption)) ?_
    refine w_aload_n dX7_total_24 rfl rfl (by first | decide | omega) ?_
    refine w_getDx (o := 0) (f := 7) (x := p) fX7_total_25 rfl rfl rfl rfl hC.p7 ?_
    refine w_getIx (o := (p).toNat) (f := 3) (x := μ p 3) fX7_total_28 (by omega) (pSh0 rfl rfl (by assumption)) (Nat.le_of_ble_eq_true rfl) rfl rfl ?_
    have hr2 := hC.kn
    refine w_aload_n dX7_total_31 rfl rfl (by first | decide | omega) ?_
    refine w_getR (o := 0) (x := 6) fX7_total_32 rfl rfl rfl rfl ?_
    refine w_callVV (o := 15) (ci := 6) (as := [(2, p), (2, p + 5), (0, μ p 3), (2, 6)]) (rest := []) (k := 5) fX7_total_35 rfl rfl rfl rfl rfl rfl rfl rfl (Nat.le_of_ble_eq_true rfl) (s_X6_take X p (μ p 3) μ μ (fun o h1 => rfl) hI hG (hC.lda hkn)) (fun μT hμT => ?_)
    obtain ⟨hFT, h0_T, h1_T, h2_T, h3_T⟩ := hμT
    refine w_aload_n dX7_total_38 rfl rfl (by first | decide | omega) ?_
    refine w_getR (o := 0) (x := 15) fX7_total_39 rfl rfl rfl rfl ?_
    refine w_iload_n dX7_total_42 rfl rfl ?_
    refine w_callVP (o := 15) (ci := 6) (as := [(0, w)]) (rest := []) (k := 0) fX7_total_43 rfl rfl rfl rfl rfl rfl rfl rfl (Nat.le_of_ble_eq_true rfl) (s_X6_tell X w μT (by first | omega | assumption)) ?_
    exact w_iretI dX7_total_46 rfl ⟨hFT, (by exact ifT (by omega) ((by unfold totA; rw [h0_T, h1_T, h2_T, h3_T])))⟩
  · skip
    replace c4 := am_b0 c4
    refine w_iconst dX7_total_7 ?_
    exact w_iretI dX7_total_8 rfl ⟨Fr.rf, (by exact ifF (by omega) (rfl))⟩

set_option maxRecDepth 100000 in
set_option maxHeartbeats 4000000 in
theorem s_X7_ifKnee (X : AX) (p : Int) (n : Int) (w : Int) (μ : Mu) (hC : CJ μ p) (hn : -2147483648 ≤ n ∧ n ≤ 2147483647) (hw : -2147483648 ≤ w ∧ w ≤ 2147483647) : Wp (GG X) M_X7_ifKnee 0 [(2, 0), (0, n), (0, w)] [] μ (qI 0 fun z μ' => (Fr 6 15 1 0 μ' μ) ∧ (z = if (4 ≤ n ∧ n ≤ 24) ∧ 0 ≤ w ∧ w ≤ 3 then totA (tst (ddt μ p (p + 5) n) (μ p 14)) w else -1)) := by
  have hI := hC.i
  have hG := hC.pg
  have hp := hI.at
  have hz := hI.sz
  have hgr := hG.gr
  have hkn := hC.kn
  refine w_iload_n dX7_ifKnee_0 rfl rfl ?_
  refine w_iconst dX7_ifKnee_1 ?_
  refine w_icmp_lt (tgt := 18) dX7_ifKnee_2 rfl (R32.in (by omega)) (R32.in (by decide)) (fun c2 => ?_) (fun c2 => ?_)
  · skip
    refine w_iconst dX7_ifKnee_18 ?_
    exact w_iretI dX7_ifKnee_19 rfl ⟨Fr.rf, (by exact ifF (by omega) (rfl))⟩
  · skip
    refine w_iload_n dX7_ifKnee_5 rfl rfl ?_
    refine w_bipush dX7_ifKnee_6 (by decide) ?_
    refine w_icmp_gt (tgt := 18) dX7_ifKnee_8 rfl (R32.in (by omega)) (R32.in (by decide)) (fun c8 => ?_) (fun c8 => ?_)
    · skip
      refine w_iconst dX7_ifKnee_18 ?_
      exact w_iretI dX7_ifKnee_19 rfl ⟨Fr.rf, (by exact ifF (by omega) (rfl))⟩
    · skip
      refine w_iload_n dX7_ifKnee_11 rfl rfl ?_
      refine w_callSP (as := [(0, w)]) (rest := []) (k := 0) fX7_ifKnee_12 rfl rfl rfl rfl rfl (Nat.le_of_ble_eq_true rfl) (s_X6_isWhat X w μ (by first | omega | assumption)) ?_
      have hf1 := am_b_r (0 ≤ w ∧ w ≤ 3)
      refine w_if_ne (tgt := 20) dX7_ifKnee_15 rfl (R32.in (by have := am_b_r ((0 ≤ w ∧ w ≤ 3)); omega)) (fun c15 => ?_) (fun c15 => ?_)
      · skip
        replace c15 := am_b1 c15
        refine w_aload_n dX7_ifKnee_20 rfl rfl (by first | decide | omega) ?_
        refine w_getR (o := 0) (x := 15) fX7_ifKnee_21 rfl rfl rfl rfl ?_
        refine w_aload_n dX7_ifKnee_24 rfl rfl (by first | decide | omega) ?_
        refine w_getDx (o := 0) (f := 7) (x := p) fX7_ifKnee_25 rfl rfl rfl rfl hC.p7 ?_
        refine w_aload_n dX7_ifKnee_28 rfl rfl (by first | decide | omega) ?_
        refine w_getDx (o := 0) (f := 7) (x := p) fX7_ifKnee_29 rfl rfl rfl rfl hC.p7 ?_
        refine w_getR (o := (p).toNat) (x := p + 5) fX7_ifKnee_32 (by omega) (pSh0 rfl rfl (by assumption)) rfl (pRf 10 5 rfl rfl (by assumption)) ?_
        refine w_iload_n dX7_ifKnee_35 rfl rfl ?_
        refine w_aload_n dX7_ifKnee_36 rfl rfl (by first | decide | omega) ?_
        refine w_getR (o := 0) (x := 6) fX7_ifKnee_37 rfl rfl rfl rfl ?_
        refine w_callVV (o := 15) (ci := 6) (as := [(2, p), (2, p + 5), (0, n), (2, 6)]) (rest := []) (k := 5) fX7_ifKnee_40 rfl rfl rfl rfl rfl rfl rfl rfl (Nat.le_of_ble_eq_true rfl) (s_X6_take X p n μ μ (fun o h1 => rfl) hI hG (hC.lda (by omega))) (fun μT hμT => ?_)
        obtain ⟨hFT, h0_T, h1_T, h2_T, h3_T⟩ := hμT
        refine w_aload_n dX7_ifKnee_43 rfl rfl (by first | decide | omega) ?_
        refine w_getR (o := 0) (x := 15) fX7_ifKnee_44 rfl rfl rfl rfl ?_
        refine w_iload_n dX7_ifKnee_47 rfl rfl ?_
        refine w_callVP (o := 15) (ci := 6) (as := [(0, w)]) (rest := []) (k := 0) fX7_ifKnee_48 rfl rfl rfl rfl rfl rfl rfl rfl (Nat.le_of_ble_eq_true rfl) (s_X6_tell X w μT (by first | omega | assumption)) ?_
        exact w_iretI dX7_ifKnee_51 rfl ⟨hFT, (by exact ifT (by omega) ((by unfold totA; rw [h0_T, h1_T, h2_T, h3_T])))⟩
      · skip
        replace c15 := am_b0 c15
        refine w_iconst dX7_ifKnee_18 ?_
        exact w_iretI dX7_ifKnee_19 rfl ⟨Fr.rf, (by exact ifF (by omega) (rfl))⟩

set_option maxRecDepth 100000 in
set_option maxHeartbeats 4000000 in
theorem s_X7_ifParts (X : AX) (p : Int) (n : Int) (μ : Mu) (hC : CJ μ p) (hn : -2147483648 ≤ n ∧ n ≤ 2147483647) : Wp (GG X) M_X7_ifParts 0 [(2, 0), (0, n)] [] μ (pP 0 (if 1 ≤ n ∧ n ≤ 12 then ((seg (μ p 7) (fun j => runl μ p j n) 0).length : Int) else -1) μ) := by
  have hI := hC.i
  have hG := hC.pg
  have hp := hI.at
  have hz := hI.sz
  have hgr := hG.gr
  have hkn := hC.kn
  refine w_iload_n dX7_ifParts_0 rfl rfl ?_
  refine w_iconst dX7_ifParts_1 ?_
  refine w_icmp_lt (tgt := 11) dX7_ifParts_2 rfl (R32.in (by omega)) (R32.in (by decide)) (fun c2 => ?_) (fun c2 => ?_)
  · skip
    refine w_iconst dX7_ifParts_11 ?_
    refine w_goto (tgt := 23) dX7_ifParts_12 rfl ?_
    exact w_iretP dX7_ifParts_23 rfl (by first | exact ifT (by omega) rfl | exact ifF (by omega) rfl)
  · skip
    refine w_iload_n dX7_ifParts_5 rfl rfl ?_
    refine w_bipush dX7_ifParts_6 (by decide) ?_
    refine w_icmp_le (tgt := 15) dX7_ifParts_8 rfl (R32.in (by omega)) (R32.in (by decide)) (fun c8 => ?_) (fun c8 => ?_)
    · skip
      refine w_aload_n dX7_ifParts_15 rfl rfl (by first | decide | omega) ?_
      refine w_getDx (o := 0) (f := 7) (x := p) fX7_ifParts_16 rfl rfl rfl rfl hC.p7 ?_
      refine w_iload_n dX7_ifParts_19 rfl rfl ?_
      refine w_callVP (o := (p).toNat) (ci := 2) (as := [(0, n)]) (rest := []) (k := 3) fX7_ifParts_20 rfl (by omega) (pSh0 rfl rfl (by assumption)) rfl rfl rfl rfl rfl (Nat.le_of_ble_eq_true rfl) (s_X2_countGroups X p n μ μ (fun o h1 => rfl) hI (by first | omega | assumption)) ?_
      exact w_iretP dX7_ifParts_23 rfl (by first | exact ifT (by omega) rfl | exact ifF (by omega) rfl)
    · skip
      refine w_iconst dX7_ifParts_11 ?_
      refine w_goto (tgt := 23) dX7_ifParts_12 rfl ?_
      exact w_iretP dX7_ifParts_23 rfl (by first | exact ifT (by omega) rfl | exact ifF (by omega) rfl)

set_option maxRecDepth 100000 in
set_option maxHeartbeats 4000000 in
theorem s_X7_tryShifted (X : AX) (p : Int) (t : Int) (μ ν : Mu) (hA9 : ∀ o : Int, (0 ≤ o ∧ o ≤ 0) ∨ (p ≤ o ∧ o ≤ p + 10) → ν o = μ o) (hC : CJ μ p) (ht : -24 ≤ t ∧ t ≤ 24) : Wp (GG X) M_X7_tryShifted 0 [(2, 0), (0, t), (9, 0)] [] ν (qI 0 fun z μ' => (Fr 19 19 1 0 μ' ν) ∧ ((z = 0 ∧ ¬ shB μ p t = true) ∨ (z = 1 ∧ shB μ p t = true)) ∧ (z = 1 → ∀ j : Int, 0 ≤ j → j < μ p 7 → μ' 19 j = shF μ p t j)) := by
  have hI := hC.i
  have hG := hC.pg
  have hp := hI.at
  have hz := hI.sz
  have hgr := hG.gr
  have hkn := hC.kn
  refine w_iconst dX7_tryShifted_0 ?_
  refine w_istore_n (ls' := [(2, 0), (0, t), (0, 0)]) dX7_tryShifted_1 rfl (Nat.le_of_ble_eq_true rfl) rfl rfl ?_
  have hL2 : ∀ (n2 : Nat) (i : Int) (μ1 : Mu), (μ p 7 - i).toNat = n2 → Fr 19 19 1 0 μ1 ν → (0 ≤ i ∧ i ≤ μ p 7) → (shI μ p t i = true) → (∀ j : Int, 0 ≤ j → j < i → μ1 19 j = shF μ p t j) → Wp (GG X) M_X7_tryShifted 2 [(2, 0), (0, t), (0, i)] [] μ1 (qI 0 fun z μ' => (Fr 19 19 1 0 μ' ν) ∧ ((z = 0 ∧ ¬ shB μ p t = true) ∨ (z = 1 ∧ shB μ p t = true)) ∧ (z = 1 → ∀ j : Int, 0 ≤ j → j < μ p 7 → μ' 19 j = shF μ p t j)) := by
    intro n2
    induction n2 using Nat.strongRecOn with
    | ind n2 ih2 =>
      intro i μ1 hn2 hF2 hi0 hb ht2
      refine w_iload_n dX7_tryShifted_2 rfl rfl ?_
      refine w_aload_n dX7_tryShifted_3 rfl rfl (by first | decide | omega) ?_
      refine w_getDx (o := 0) (f := 7) (x := p) fX7_tryShifted_4 rfl rfl rfl rfl ((congrFun (hF2.at (by omega) (by omega)) _).trans ((congrFun (hA9 _ (by omega)) _).trans hC.p7)) ?_
      refine w_getIx (o := (p).toNat) (f := 7) (x := μ p 7) fX7_tryShifted_7 (by omega) (pSh0 rfl rfl (by assumption)) (Nat.le_of_ble_eq_true rfl) rfl ((congrFun (hF2.at (by omega) (by omega)) _).trans (congrFun (hA9 _ (by omega)) _)) ?_
      have hr1 := PI.sz hC.i
      have hr2 := PI.sz hI
      refine w_icmp_ge (tgt := 66) dX7_tryShifted_10 rfl (R32.in (by omega)) (R32.in (by omega)) (fun c10 => ?_) (fun c10 => ?_)
      · skip
        refine w_iconst dX7_tryShifted_66 ?_
        exact w_zretI dX7_tryShifted_67 rfl (Or.inr rfl) ⟨hF2, (by have he : i = μ p 7 := (by omega); exact Or.inr ⟨rfl, by unfold shB; rw [← he]; exact hb⟩), (by exact fun _ j h1 h2 => ht2 j h1 (by omega))⟩
      · skip
        refine w_aload_n dX7_tryShifted_13 rfl rfl (by first | decide | omega) ?_
        refine w_getR (o := 0) (x := 19) fX7_tryShifted_14 rfl rfl rfl rfl ?_
        refine w_iload_n dX7_tryShifted_17 rfl rfl ?_
        refine w_aload_n dX7_tryShifted_18 rfl rfl (by first | decide | omega) ?_
        refine w_getDx (o := 0) (f := 7) (x := p) fX7_tryShifted_19 rfl rfl rfl rfl ((congrFun (hF2.at (by omega) (by omega)) _).trans ((congrFun (hA9 _ (by omega)) _).trans hC.p7)) ?_
        refine w_getR (o := (p).toNat) (x := p + 4) fX7_tryShifted_22 (by omega) (pSh0 rfl rfl (by assumption)) rfl (pRf 9 4 rfl rfl (by assumption)) ?_
        refine w_iload_n dX7_tryShifted_25 rfl rfl ?_
        refine w_zaldx (o := (p + 4).toNat) (n := 64) (x := μ (p + 4) i) dX7_tryShifted_26 (by omega) (pSh 4 rfl rfl (by assumption)) (Nat.le_of_ble_eq_true rfl) (by omega) ((congrFun (hF2.at (by omega) (by omega)) _).trans (congrFun (hA9 _ (by omega)) _)) ?_
        have hr3 := PI.so hC.i (q := p + 4) (i := i) rfl (by omega)
        have hr4 := PI.so hI (q := p + 4) (i := i) rfl (by omega)
        have hJ27_1 : ∀ z1_0 : Int, z1_0 = (if (μ (p + 4) i) = 0 then 0 else (μ (p + 5) i) + t) → Wp (GG X) M_X7_tryShifted 45 [(2, 0), (0, t), (0, i)] [(0, z1_0), (0, i), (2, 19)] μ1 (qI 0 fun z μ' => (Fr 19 19 1 0 μ' ν) ∧ ((z = 0 ∧ ¬ shB μ p t = true) ∨ (z = 1 ∧ shB μ p t = true)) ∧ (z = 1 → ∀ j : Int, 0 ≤ j → j < μ p 7 → μ' 19 j = shF μ p t j)) := by
          intro z1_0 hz1_0
          refine Wp.topE (b := shF μ p t i) (by unfold shF; omega) ?_
          refine w_iast (o := 19) (n := 64) dX7_tryShifted_45 rfl rfl (Nat.le_of_ble_eq_true rfl) (by omega) (by omega) ?_
          have hsf : shF μ p t i = if μ (p + 4) i = 0 then 0 else μ (p + 5) i + t := rfl
          have hhd := hI.hd (q := p + 5) (i := i) rfl (by omega)
          refine w_aload_n dX7_tryShifted_46 rfl rfl (by first | decide | omega) ?_
          refine w_getR (o := 0) (x := 19) fX7_tryShifted_47 rfl rfl rfl rfl ?_
          refine w_iload_n dX7_tryShifted_50 rfl rfl ?_
          refine w_ialdx (o := 19) (n := 64) (x := shF μ p t i) dX7_tryShifted_51 rfl rfl (Nat.le_of_ble_eq_true rfl) (by omega) am_up_at ?_
          refine w_callSP (as := [(0, shF μ p t i)]) (rest := []) (k := 0) fX7_tryShifted_52 rfl rfl rfl rfl rfl (Nat.le_of_ble_eq_true rfl) (s_X7_isPosition X (shF μ p t i) (am_up μ1 19 i (shF μ p t i)) (by first | omega | assumption)) ?_
          have hf5 := am_b_r (-12 ≤ (shF μ p t i) ∧ (shF μ p t i) ≤ 12)
          refine w_if_ne (tgt := 60) dX7_tryShifted_55 rfl (R32.in (by have := am_b_r ((-12 ≤ (shF μ p t i) ∧ (shF μ p t i) ≤ 12)); omega)) (fun c55 => ?_) (fun c55 => ?_)
          · skip
            replace c55 := am_b1 c55
            refine w_iinc (ls' := [(2, 0), (0, t), (0, i + 1)]) dX7_tryShifted_60 rfl (Nat.le_of_ble_eq_true rfl) rfl rfl ?_
            refine w_goto (tgt := 2) dX7_tryShifted_63 rfl ?_
            exact ih2 _ (by omega) (i + 1) (am_up μ1 19 i (shF μ p t i)) rfl (hF2.up (by omega)) (by first | omega | assumption) (shI_go hi0.1 hb (by omega)) (fillr (f := shF μ p t) ht2 rfl)
          · skip
            replace c55 := am_b0 c55
            refine w_iconst dX7_tryShifted_58 ?_
            exact w_zretI dX7_tryShifted_59 rfl (Or.inl rfl) ⟨(hF2.up (by omega)), (by exact Or.inl ⟨rfl, shI_no ⟨hi0.1, by omega⟩ (by omega)⟩), (by exact fun q => by omega)⟩
        refine w_if_eq (tgt := 44) dX7_tryShifted_27 rfl (R32.in (by omega)) (fun c27 => ?_) (fun c27 => ?_)
        · skip
          refine w_iconst dX7_tryShifted_44 ?_
          exact hJ27_1 _ (by first | omega | simp [*])
        · skip
          refine w_aload_n dX7_tryShifted_30 rfl rfl (by first | decide | omega) ?_
          refine w_getDx (o := 0) (f := 7) (x := p) fX7_tryShifted_31 rfl rfl rfl rfl ((congrFun (hF2.at (by omega) (by omega)) _).trans ((congrFun (hA9 _ (by omega)) _).trans hC.p7)) ?_
          refine w_getR (o := (p).toNat) (x := p + 5) fX7_tryShifted_34 (by omega) (pSh0 rfl rfl (by assumption)) rfl (pRf 10 5 rfl rfl (by assumption)) ?_
          refine w_iload_n dX7_tryShifted_37 rfl rfl ?_
          refine w_ialdx (o := (p + 5).toNat) (n := 64) (x := μ (p + 5) i) dX7_tryShifted_38 (by omega) (pSh 5 rfl rfl (by assumption)) (Nat.le_of_ble_eq_true rfl) (by omega) ((congrFun (hF2.at (by omega) (by omega)) _).trans (congrFun (hA9 _ (by omega)) _)) ?_
          have hr6 := PI.hd hC.i (q := p + 5) (i := i) rfl (by omega)
          have hr7 := PI.hd hI (q := p + 5) (i := i) rfl (by omega)
          refine w_iload_n dX7_tryShifted_39 rfl rfl ?_
          refine w_iadd dX7_tryShifted_40 ?_
          refine w_goto (tgt := 45) dX7_tryShifted_41 rfl ?_
          exact hJ27_1 _ (by first | omega | simp [*])
  exact hL2 _ 0 ν rfl Fr.rf (by first | omega | assumption) rfl (fun j h1 h2 => by omega)

set_option maxRecDepth 100000 in
set_option maxHeartbeats 4000000 in
theorem s_X7_ifShifted (X : AX) (p : Int) (t : Int) (w : Int) (μ : Mu) (hC : CJ μ p) (ht : -2147483648 ≤ t ∧ t ≤ 2147483647) (hw : -2147483648 ≤ w ∧ w ≤ 2147483647) : Wp (GG X) M_X7_ifShifted 0 [(2, 0), (0, t), (0, w)] [] μ (qI 0 fun z μ' => (Fr 6 19 1 0 μ' μ) ∧ (z = if ((-12 ≤ t ∧ t ≤ 12) ∧ 0 ≤ w ∧ w ≤ 3) ∧ shB μ p t = true then totA (tst (ddS μ p t) (μ p 14)) w else -1)) := by
  have hI := hC.i
  have hG := hC.pg
  have hp := hI.at
  have hz := hI.sz
  have hgr := hG.gr
  have hkn := hC.kn
  refine w_iload_n dX7_ifShifted_0 rfl rfl ?_
  refine w_callSP (as := [(0, t)]) (rest := []) (k := 0) fX7_ifShifted_1 rfl rfl rfl rfl rfl (Nat.le_of_ble_eq_true rfl) (s_X7_isPosition X t μ (by first | omega | assumption)) ?_
  have hf1 := am_b_r (-12 ≤ t ∧ t ≤ 12)
  refine w_if_eq (tgt := 22) dX7_ifShifted_4 rfl (R32.in (by have := am_b_r ((-12 ≤ t ∧ t ≤ 12)); omega)) (fun c4 => ?_) (fun c4 => ?_)
  · skip
    replace c4 := am_b0 c4
    refine w_iconst dX7_ifShifted_22 ?_
    exact w_iretI dX7_ifShifted_23 rfl ⟨Fr.rf, (by first | exact ifF (fun q => hz_S.elim (fun h => h.2 q.2) (fun h => by omega)) rfl | exact ifF (fun q => by omega) rfl)⟩
  · skip
    replace c4 := am_b1 c4
    refine w_iload_n dX7_ifShifted_7 rfl rfl ?_
    refine w_callSP (as := [(0, w)]) (rest := []) (k := 0) fX7_ifShifted_8 rfl rfl rfl rfl rfl (Nat.le_of_ble_eq_true rfl) (s_X6_isWhat X w μ (by first | omega | assumption)) ?_
    have hf2 := am_b_r (0 ≤ w ∧ w ≤ 3)
    refine w_if_eq (tgt := 22) dX7_ifShifted_11 rfl (R32.in (by have := am_b_r ((0 ≤ w ∧ w ≤ 3)); omega)) (fun c11 => ?_) (fun c11 => ?_)
    · skip
      replace c11 := am_b0 c11
      refine w_iconst dX7_ifShifted_22 ?_
      exact w_iretI dX7_ifShifted_23 rfl ⟨Fr.rf, (by first | exact ifF (fun q => hz_S.elim (fun h => h.2 q.2) (fun h => by omega)) rfl | exact ifF (fun q => by omega) rfl)⟩
    · skip
      replace c11 := am_b1 c11
      refine w_aload_n dX7_ifShifted_14 rfl rfl (by first | decide | omega) ?_
      refine w_iload_n dX7_ifShifted_15 rfl rfl ?_
      refine w_callVI (o := 0) (ci := 7) (as := [(0, t)]) (rest := []) (k := 1) fX7_ifShifted_16 rfl rfl rfl rfl rfl rfl rfl rfl (Nat.le_of_ble_eq_true rfl) (s_X7_tryShifted X p t μ μ (fun o h1 => rfl) hC (by first | omega | assumption)) (fun xS μS hμS => ?_)
      obtain ⟨hFS, hz_S, hq_S⟩ := hμS
      have hCS : CJ μS p := CJ.cg hC (fun o h1 => hFS.at (by omega) (by omega))
      refine w_if_ne (tgt := 24) dX7_ifShifted_19 rfl (R32.in (by omega)) (fun c19 => ?_) (fun c19 => ?_)
      · skip
        refine w_aload_n dX7_ifShifted_24 rfl rfl (by first | decide | omega) ?_
        refine w_getR (o := 0) (x := 15) fX7_ifShifted_25 rfl rfl rfl rfl ?_
        refine w_aload_n dX7_ifShifted_28 rfl rfl (by first | decide | omega) ?_
        refine w_getDx (o := 0) (f := 7) (x := p) fX7_ifShifted_29 rfl rfl rfl rfl ((congrFun (hFS.at (by omega) (by omega)) _).trans hC.p7) ?_
        refine w_aload_n dX7_ifShifted_32 rfl rfl (by first | decide | omega) ?_
        refine w_getR (o := 0) (x := 19) fX7_ifShifted_33 rfl rfl rfl rfl ?_
        refine w_aload_n dX7_ifShifted_36 rfl rfl (by first | decide | omega) ?_
        refine w_getDx (o := 0) (f := 7) (x := p) fX7_ifShifted_37 rfl rfl rfl rfl ((congrFun (hFS.at (by omega) (by omega)) _).trans hC.p7) ?_
        refine w_getIx (o := (p).toNat) (f := 3) (x := μ p 3) fX7_ifShifted_40 (by omega) (pSh0 rfl rfl (by assumption)) (Nat.le_of_ble_eq_true rfl) rfl (congrFun (hFS.at (by omega) (by omega)) _) ?_
        have hr4 := hC.kn
        refine w_aload_n dX7_ifShifted_43 rfl rfl (by first | decide | omega) ?_
        refine w_getR (o := 0) (x := 6) fX7_ifShifted_44 rfl rfl rfl rfl ?_
        refine w_callVV (o := 15) (ci := 6) (as := [(2, p), (2, 19), (0, μ p 3), (2, 6)]) (rest := []) (k := 5) fX7_ifShifted_47 rfl rfl rfl rfl rfl rfl rfl rfl (Nat.le_of_ble_eq_true rfl) (s_X6_take_t X p (μ p 3) μS μS (fun o h1 => rfl) (PI.cg hI (fun o h1 => (hFS.at (by omega) (by omega)))) (PG.cg hG (fun o h1 => (hFS.at (by omega) (by omega)))) (by rcases hz_S with h | h; omega; exact try_lda hC hCS (fun o h1 => hFS.at (by omega) (by omega)) hkn h.2 (hq_S h.1))) (fun μT hμT => ?_)
        obtain ⟨hFT, h0_T, h1_T, h2_T, h3_T⟩ := hμT
        refine w_aload_n dX7_ifShifted_50 rfl rfl (by first | decide | omega) ?_
        refine w_getR (o := 0) (x := 15) fX7_ifShifted_51 rfl rfl rfl rfl ?_
        refine w_iload_n dX7_ifShifted_54 rfl rfl ?_
        refine w_callVP (o := 15) (ci := 6) (as := [(0, w)]) (rest := []) (k := 0) fX7_ifShifted_55 rfl rfl rfl rfl rfl rfl rfl rfl (Nat.le_of_ble_eq_true rfl) (s_X6_tell X w μT (by first | omega | assumption)) ?_
        exact w_iretI dX7_ifShifted_58 rfl ⟨((hFT.wd (by omega) (by omega)).tr (hFS.wd (by omega) (by omega))), (by rcases hz_S with h | h; omega; exact ifT ⟨by omega, h.2⟩ (by rw [← try_tst hC (fun o h1 => hFS.at (by omega) (by omega)) (hq_S h.1)]; unfold totA; rw [h0_T, h1_T, h2_T, h3_T]))⟩
      · skip
        refine w_iconst dX7_ifShifted_22 ?_
        exact w_iretI dX7_ifShifted_23 rfl ⟨(hFS.wd (by omega) (by omega)), (by first | exact ifF (fun q => hz_S.elim (fun h => h.2 q.2) (fun h => by omega)) rfl | exact ifF (fun q => by omega) rfl)⟩

set_option maxRecDepth 100000 in
set_option maxHeartbeats 4000000 in
theorem s_X7_uglinessOfNotes (X : AX) (p : Int) (f : Int) (m : Int) (μ ν : Mu) (hA9 : ∀ o : Int, (0 ≤ o ∧ o ≤ 0) ∨ (p ≤ o ∧ o ≤ p + 10) → ν o = μ o) (hC : CJ μ p) (hm : 1 ≤ m ∧ m ≤ 64) (hf : 0 ≤ f ∧ f ≤ 64) (hL : m = 1 ∨ ldok μ p (p + 5) f m (μ p 3)) : Wp (GG X) M_X7_uglinessOfNotes 0 [(2, 0), (0, f), (0, m), (9, 0), (9, 0)] [] ν (qI 0 fun z μ' => (Fr 6 14 1 0 μ' ν) ∧ (z = uglP (uglG μ p) f m) ∧ (-2 ≤ z ∧ z ≤ 5880)) := by
  have hI := hC.i
  have hG := hC.pg
  have hp := hI.at
  have hz := hI.sz
  have hgr := hG.gr
  have hkn := hC.kn
  refine w_iload_n dX7_uglinessOfNotes_0 rfl rfl ?_
  refine w_iconst dX7_uglinessOfNotes_1 ?_
  refine w_icmp_ne (tgt := 7) dX7_uglinessOfNotes_2 rfl (R32.in (by omega)) (R32.in (by decide)) (fun c2 => ?_) (fun c2 => ?_)
  · skip
    refine w_aload_n dX7_uglinessOfNotes_7 rfl rfl (by first | decide | omega) ?_
    refine w_getR (o := 0) (x := 6) fX7_uglinessOfNotes_8 rfl rfl rfl rfl ?_
    refine w_aload_n dX7_uglinessOfNotes_11 rfl rfl (by first | decide | omega) ?_
    refine w_getDx (o := 0) (f := 7) (x := p) fX7_uglinessOfNotes_12 rfl rfl rfl rfl ((congrFun (hA9 _ (by omega)) _).trans hC.p7) ?_
    refine w_aload_n dX7_uglinessOfNotes_15 rfl rfl (by first | decide | omega) ?_
    refine w_getDx (o := 0) (f := 7) (x := p) fX7_uglinessOfNotes_16 rfl rfl rfl rfl ((congrFun (hA9 _ (by omega)) _).trans hC.p7) ?_
    refine w_getR (o := (p).toNat) (x := p + 5) fX7_uglinessOfNotes_19 (by omega) (pSh0 rfl rfl (by assumption)) rfl (pRf 10 5 rfl rfl (by assumption)) ?_
    refine w_iload_n dX7_uglinessOfNotes_22 rfl rfl ?_
    refine w_iload_n dX7_uglinessOfNotes_23 rfl rfl ?_
    refine w_aload_n dX7_uglinessOfNotes_24 rfl rfl (by first | decide | omega) ?_
    refine w_getDx (o := 0) (f := 7) (x := p) fX7_uglinessOfNotes_25 rfl rfl rfl rfl ((congrFun (hA9 _ (by omega)) _).trans hC.p7) ?_
    refine w_getIx (o := (p).toNat) (f := 3) (x := μ p 3) fX7_uglinessOfNotes_28 (by omega) (pSh0 rfl rfl (by assumption)) (Nat.le_of_ble_eq_true rfl) rfl (congrFun (hA9 _ (by omega)) _) ?_
    have hr1 := hC.kn
    refine w_callVV (o := 6) (ci := 0) (as := [(2, p), (2, p + 5), (0, f), (0, m), (0, μ p 3)]) (rest := []) (k := 1) fX7_uglinessOfNotes_31 rfl rfl rfl rfl rfl rfl rfl rfl (Nat.le_of_ble_eq_true rfl) (s_X0_load X p f m (μ p 3) μ ν (fun o h1 => (hA9 _ (by omega))) hI hG (hL.resolve_left (by omega))) (fun μL hμL => ?_)
    obtain ⟨hFL, hD_L⟩ := hμL
    have hD2 : GLd ((uglG μ p) f m) μL := hD_L
    have hok := hD2.ok
    have hmr := mnK_r hok
    refine w_aload_n dX7_uglinessOfNotes_34 rfl rfl (by first | decide | omega) ?_
    refine w_getR (o := 0) (x := 6) fX7_uglinessOfNotes_35 rfl rfl rfl rfl ?_
    refine w_callVI (o := 6) (ci := 0) (as := []) (rest := []) (k := 3) fX7_uglinessOfNotes_38 rfl rfl rfl rfl rfl rfl rfl rfl (Nat.le_of_ble_eq_true rfl) (s_X0_findBest X ((uglG μ p) f m) μL hD2) (fun xB μB hμB => ?_)
    obtain ⟨hFB, hz_B, hD_B, hf_B⟩ := hμB
    refine w_lstore_n (ls' := [(2, 0), (0, f), (0, m), (1, xB), (9, 0)]) dX7_uglinessOfNotes_41 rfl (Nat.le_of_ble_eq_true rfl) rfl rfl ?_
    refine w_lload_n dX7_uglinessOfNotes_42 rfl rfl ?_
    refine w_ldc2 (n := 9223372036854775807) dX7_uglinessOfNotes_43 k_871 (by decide) ?_
    refine w_lc_ne (tgt := 55) dX7_uglinessOfNotes_46 dX7_uglinessOfNotes_47 rfl (R64.in (by omega)) (R64.in (by omega)) (fun c47 => ?_) (fun c47 => ?_)
    · skip
      refine w_lload_n dX7_uglinessOfNotes_55 rfl rfl ?_
      refine w_callSP (as := [(1, xB)]) (rest := []) (k := 0) fX7_uglinessOfNotes_56 rfl rfl rfl rfl rfl (Nat.le_of_ble_eq_true rfl) (s_X0_uglinessOf X xB μB (by first | omega | assumption)) ?_
      exact w_iretI dX7_uglinessOfNotes_59 rfl ⟨((hFB.wd (by omega) (by omega)).tr hFL), (by unfold uglP; rw [if_neg (by omega)]; first | exact ifT (hz_B.symm.trans c47) rfl | exact ifF (fun q => c47 (hz_B.trans q)) (by unfold bU; rw [← hz_B])), (by first | omega | (have := bU_r hok (fun q => c47 (hz_B.trans q)); unfold bU at this; rw [← hz_B] at this; omega))⟩
    · skip
      refine w_bipush dX7_uglinessOfNotes_50 (by decide) ?_
      refine w_goto (tgt := 59) dX7_uglinessOfNotes_52 rfl ?_
      exact w_iretI dX7_uglinessOfNotes_59 rfl ⟨((hFB.wd (by omega) (by omega)).tr hFL), (by unfold uglP; rw [if_neg (by omega)]; first | exact ifT (hz_B.symm.trans c47) rfl | exact ifF (fun q => c47 (hz_B.trans q)) (by unfold bU; rw [← hz_B])), (by first | omega | (have := bU_r hok (fun q => c47 (hz_B.trans q)); unfold bU at this; rw [← hz_B] at this; omega))⟩
  · skip
    refine w_iconst dX7_uglinessOfNotes_5 ?_
    exact w_iretI dX7_uglinessOfNotes_6 rfl ⟨Fr.rf, (by unfold uglP; rw [if_pos (by omega)]), (by omega)⟩

set_option maxRecDepth 100000 in
set_option maxHeartbeats 4000000 in
theorem s_X7_uglinessOfCut (X : AX) (p : Int) (g : Int) (k : Int) (μ ν : Mu) (hA9 : ∀ o : Int, (0 ≤ o ∧ o ≤ 0) ∨ (p ≤ o ∧ o ≤ p + 10) → ν o = μ o) (hC : CJ μ p) (hg : 0 ≤ g ∧ g < μ p 14) (hk : 1 ≤ k ∧ k < μ (p + 10) g) : Wp (GG X) M_X7_uglinessOfCut 0 [(2, 0), (0, g), (0, k), (9, 0), (9, 0)] [] ν (qI 0 fun z μ' => (Fr 6 14 1 0 μ' ν) ∧ (z = cutP (uglG μ p) (μ (p + 9) g) (μ (p + 10) g) k) ∧ (-2 ≤ z ∧ z ≤ 11760)) := by
  have hI := hC.i
  have hG := hC.pg
  have hp := hI.at
  have hz := hI.sz
  have hgr := hG.gr
  have hkn := hC.kn
  have hfl := hG.fl hg
  refine w_aload_n dX7_uglinessOfCut_0 rfl rfl (by first | decide | omega) ?_
  refine w_aload_n dX7_uglinessOfCut_1 rfl rfl (by first | decide | omega) ?_
  refine w_getDx (o := 0) (f := 7) (x := p) fX7_uglinessOfCut_2 rfl rfl rfl rfl ((congrFun (hA9 _ (by omega)) _).trans hC.p7) ?_
  refine w_getR (o := (p).toNat) (x := p + 9) fX7_uglinessOfCut_5 (by omega) (pSh0 rfl rfl (by assumption)) rfl (pRf 15 9 rfl rfl (by assumption)) ?_
  refine w_iload_n dX7_uglinessOfCut_8 rfl rfl ?_
  refine w_ialdx (o := (p + 9).toNat) (n := 32) (x := μ (p + 9) g) dX7_uglinessOfCut_9 (by omega) (pSh 9 rfl rfl (by assumption)) (Nat.le_of_ble_eq_true rfl) (by omega) (congrFun (hA9 _ (by omega)) _) ?_
  have hr1 := PG.fl hC.pg (g := g) (by omega)
  have hr2 := PG.fl hG (g := g) (by omega)
  refine w_iload_n dX7_uglinessOfCut_10 rfl rfl ?_
  refine w_callVI (o := 0) (ci := 7) (as := [(0, μ (p + 9) g), (0, k)]) (rest := []) (k := 2) fX7_uglinessOfCut_11 rfl rfl rfl rfl rfl rfl rfl rfl (Nat.le_of_ble_eq_true rfl) (s_X7_uglinessOfNotes X p (μ (p + 9) g) k μ ν (fun o h1 => (hA9 _ (by omega))) hC (by first | omega | assumption) (by first | omega | assumption) (by by_cases q : k = 1; exact Or.inl q; exact Or.inr (hC.ldc hg (by omega) (by omega) (by omega)))) (fun xA μA hμA => ?_)
  obtain ⟨hFA, hz_A, hr_A⟩ := hμA
  refine w_istore_n (ls' := [(2, 0), (0, g), (0, k), (0, xA), (9, 0)]) dX7_uglinessOfCut_14 rfl (Nat.le_of_ble_eq_true rfl) rfl rfl ?_
  refine w_iload_n dX7_uglinessOfCut_15 rfl rfl ?_
  refine w_bipush dX7_uglinessOfCut_16 (by decide) ?_
  refine w_icmp_ne (tgt := 24) dX7_uglinessOfCut_18 rfl (R32.in (by omega)) (R32.in (by decide)) (fun c18 => ?_) (fun c18 => ?_)
  · skip
    refine w_aload_n dX7_uglinessOfCut_24 rfl rfl (by first | decide | omega) ?_
    refine w_aload_n dX7_uglinessOfCut_25 rfl rfl (by first | decide | omega) ?_
    refine w_getDx (o := 0) (f := 7) (x := p) fX7_uglinessOfCut_26 rfl rfl rfl rfl ((congrFun (hFA.at (by omega) (by omega)) _).trans ((congrFun (hA9 _ (by omega)) _).trans hC.p7)) ?_
    refine w_getR (o := (p).toNat) (x := p + 9) fX7_uglinessOfCut_29 (by omega) (pSh0 rfl rfl (by assumption)) rfl (pRf 15 9 rfl rfl (by assumption)) ?_
    refine w_iload_n dX7_uglinessOfCut_32 rfl rfl ?_
    refine w_ialdx (o := (p + 9).toNat) (n := 32) (x := μ (p + 9) g) dX7_uglinessOfCut_33 (by omega) (pSh 9 rfl rfl (by assumption)) (Nat.le_of_ble_eq_true rfl) (by omega) ((congrFun (hFA.at (by omega) (by omega)) _).trans (congrFun (hA9 _ (by omega)) _)) ?_
    refine w_iload_n dX7_uglinessOfCut_34 rfl rfl ?_
    refine w_iadd dX7_uglinessOfCut_35 ?_
    refine w_aload_n dX7_uglinessOfCut_36 rfl rfl (by first | decide | omega) ?_
    refine w_getDx (o := 0) (f := 7) (x := p) fX7_uglinessOfCut_37 rfl rfl rfl rfl ((congrFun (hFA.at (by omega) (by omega)) _).trans ((congrFun (hA9 _ (by omega)) _).trans hC.p7)) ?_
    refine w_getR (o := (p).toNat) (x := p + 10) fX7_uglinessOfCut_40 (by omega) (pSh0 rfl rfl (by assumption)) rfl (pRf 16 10 rfl rfl (by assumption)) ?_
    refine w_iload_n dX7_uglinessOfCut_43 rfl rfl ?_
    refine w_ialdx (o := (p + 10).toNat) (n := 32) (x := μ (p + 10) g) dX7_uglinessOfCut_44 (by omega) (pSh 10 rfl rfl (by assumption)) (Nat.le_of_ble_eq_true rfl) (by omega) ((congrFun (hFA.at (by omega) (by omega)) _).trans (congrFun (hA9 _ (by omega)) _)) ?_
    refine w_iload_n dX7_uglinessOfCut_45 rfl rfl ?_
    refine w_isub dX7_uglinessOfCut_46 ?_
    refine w_callVI (o := 0) (ci := 7) (as := [(0, (μ (p + 9) g) + k), (0, (μ (p + 10) g) - k)]) (rest := []) (k := 2) fX7_uglinessOfCut_47 rfl rfl rfl rfl rfl rfl rfl rfl (Nat.le_of_ble_eq_true rfl) (s_X7_uglinessOfNotes X p ((μ (p + 9) g) + k) ((μ (p + 10) g) - k) μ μA (fun o h1 => ((hFA.at (by omega) (by omega)).trans (hA9 _ (by omega)))) hC (by first | omega | assumption) (by first | omega | assumption) (by by_cases q : μ (p + 10) g - k = 1; exact Or.inl q; exact Or.inr (hC.ldc hg (by omega) (by omega) (by omega)))) (fun xB μB hμB => ?_)
    obtain ⟨hFB, hz_B, hr_B⟩ := hμB
    refine w_istore (ls' := [(2, 0), (0, g), (0, k), (0, xA), (0, xB)]) dX7_uglinessOfCut_50 (Nat.le_of_ble_eq_true rfl) rfl rfl ?_
    refine w_iload dX7_uglinessOfCut_52 rfl ?_
    refine w_bipush dX7_uglinessOfCut_54 (by decide) ?_
    refine w_icmp_ne (tgt := 64) dX7_uglinessOfCut_56 rfl (R32.in (by omega)) (R32.in (by decide)) (fun c56 => ?_) (fun c56 => ?_)
    · skip
      refine w_iload_n dX7_uglinessOfCut_64 rfl rfl ?_
      refine w_iload dX7_uglinessOfCut_65 rfl ?_
      refine w_iadd dX7_uglinessOfCut_67 ?_
      exact w_iretI dX7_uglinessOfCut_68 rfl ⟨((hFB.wd (by omega) (by omega)).tr hFA), (by unfold cutP; rw [if_neg (by omega)]; first | exact ifT (by omega) rfl | exact ifF (by omega) (by omega)), (by omega)⟩
    · skip
      refine w_bipush dX7_uglinessOfCut_59 (by decide) ?_
      refine w_goto (tgt := 68) dX7_uglinessOfCut_61 rfl ?_
      exact w_iretI dX7_uglinessOfCut_68 rfl ⟨((hFB.wd (by omega) (by omega)).tr hFA), (by unfold cutP; rw [if_neg (by omega)]; first | exact ifT (by omega) rfl | exact ifF (by omega) (by omega)), (by omega)⟩
  · skip
    refine w_bipush dX7_uglinessOfCut_21 (by decide) ?_
    exact w_iretI dX7_uglinessOfCut_23 rfl ⟨hFA, (by unfold cutP; rw [if_pos (by omega)]), (by omega)⟩

set_option maxRecDepth 100000 in
set_option maxHeartbeats 4000000 in
theorem s_X7_ifCut (X : AX) (p : Int) (g : Int) (k : Int) (μ : Mu) (hC : CJ μ p) (hg : -2147483648 ≤ g ∧ g ≤ 2147483647) (hk : -2147483648 ≤ k ∧ k ≤ 2147483647) : Wp (GG X) M_X7_ifCut 0 [(2, 0), (0, g), (0, k)] [] μ (qI 0 fun z μ' => (Fr 6 14 1 0 μ' μ) ∧ (z = if (0 ≤ g ∧ g < μ p 14) ∧ 1 ≤ k ∧ k < μ (p + 10) g then cutP (uglG μ p) (μ (p + 9) g) (μ (p + 10) g) k else -1)) := by
  have hI := hC.i
  have hG := hC.pg
  have hp := hI.at
  have hz := hI.sz
  have hgr := hG.gr
  have hkn := hC.kn
  refine w_aload_n dX7_ifCut_0 rfl rfl (by first | decide | omega) ?_
  refine w_iload_n dX7_ifCut_1 rfl rfl ?_
  refine w_callVP (o := 0) (ci := 7) (as := [(0, g)]) (rest := []) (k := 0) fX7_ifCut_2 rfl rfl rfl rfl rfl rfl rfl rfl (Nat.le_of_ble_eq_true rfl) (s_X7_isGroup X p g μ μ (fun o h1 => rfl) hC (by first | omega | assumption)) ?_
  have hf1 := am_b_r (0 ≤ g ∧ g < μ p 14)
  refine w_if_eq (tgt := 26) dX7_ifCut_5 rfl (R32.in (by have := am_b_r ((0 ≤ g ∧ g < μ p 14)); omega)) (fun c5 => ?_) (fun c5 => ?_)
  · skip
    replace c5 := am_b0 c5
    refine w_iconst dX7_ifCut_26 ?_
    exact w_iretI dX7_ifCut_27 rfl ⟨Fr.rf, (by exact ifF (by omega) (rfl))⟩
  · skip
    replace c5 := am_b1 c5
    refine w_iload_n dX7_ifCut_8 rfl rfl ?_
    refine w_iconst dX7_ifCut_9 ?_
    refine w_icmp_lt (tgt := 26) dX7_ifCut_10 rfl (R32.in (by omega)) (R32.in (by decide)) (fun c10 => ?_) (fun c10 => ?_)
    · skip
      refine w_iconst dX7_ifCut_26 ?_
      exact w_iretI dX7_ifCut_27 rfl ⟨Fr.rf, (by exact ifF (by omega) (rfl))⟩
    · skip
      refine w_iload_n dX7_ifCut_13 rfl rfl ?_
      refine w_aload_n dX7_ifCut_14 rfl rfl (by first | decide | omega) ?_
      refine w_getDx (o := 0) (f := 7) (x := p) fX7_ifCut_15 rfl rfl rfl rfl hC.p7 ?_
      refine w_getR (o := (p).toNat) (x := p + 10) fX7_ifCut_18 (by omega) (pSh0 rfl rfl (by assumption)) rfl (pRf 16 10 rfl rfl (by assumption)) ?_
      refine w_iload_n dX7_ifCut_21 rfl rfl ?_
      refine w_ialdx (o := (p + 10).toNat) (n := 32) (x := μ (p + 10) g) dX7_ifCut_22 (by omega) (pSh 10 rfl rfl (by assumption)) (Nat.le_of_ble_eq_true rfl) (by omega) rfl ?_
      have hr2 := PG.fl hC.pg (g := g) (by omega)
      have hr3 := PG.fl hG (g := g) (by omega)
      refine w_icmp_lt (tgt := 28) dX7_ifCut_23 rfl (R32.in (by omega)) (R32.in (by omega)) (fun c23 => ?_) (fun c23 => ?_)
      · skip
        refine w_aload_n dX7_ifCut_28 rfl rfl (by first | decide | omega) ?_
        refine w_iload_n dX7_ifCut_29 rfl rfl ?_
        refine w_iload_n dX7_ifCut_30 rfl rfl ?_
        refine w_callVI (o := 0) (ci := 7) (as := [(0, g), (0, k)]) (rest := []) (k := 2) fX7_ifCut_31 rfl rfl rfl rfl rfl rfl rfl rfl (Nat.le_of_ble_eq_true rfl) (s_X7_uglinessOfCut X p g k μ μ (fun o h1 => rfl) hC (by first | omega | assumption) (by first | omega | assumption)) (fun xC μC hμC => ?_)
        obtain ⟨hFC, hz_C, hr_C⟩ := hμC
        exact w_iretI dX7_ifCut_34 rfl ⟨hFC, (by exact ifT (by omega) (hz_C))⟩
      · skip
        refine w_iconst dX7_ifCut_26 ?_
        exact w_iretI dX7_ifCut_27 rfl ⟨Fr.rf, (by exact ifF (by omega) (rfl))⟩

set_option maxRecDepth 100000 in
set_option maxHeartbeats 4000000 in
theorem s_X7_cut (X : AX) (p : Int) (g : Int) (μ : Mu) (hC : CJ μ p) (hg : -2147483648 ≤ g ∧ g ≤ 2147483647) : Wp (GG X) M_X7_cut 0 [(2, 0), (0, g), (9, 0), (9, 0), (9, 0), (9, 0)] [] μ (qI 0 fun z μ' => (Fr 6 14 1 0 μ' μ) ∧ (z = if (0 ≤ g ∧ g < μ p 14) then (cutI (cutP (uglG μ p) (μ (p + 9) g) (μ (p + 10) g)) (μ (p + 10) g - 1)).1 else -1)) := by
  have hI := hC.i
  have hG := hC.pg
  have hp := hI.at
  have hz := hI.sz
  have hgr := hG.gr
  have hkn := hC.kn
  refine w_aload_n dX7_cut_0 rfl rfl (by first | decide | omega) ?_
  refine w_iload_n dX7_cut_1 rfl rfl ?_
  refine w_callVP (o := 0) (ci := 7) (as := [(0, g)]) (rest := []) (k := 0) fX7_cut_2 rfl rfl rfl rfl rfl rfl rfl rfl (Nat.le_of_ble_eq_true rfl) (s_X7_isGroup X p g μ μ (fun o h1 => rfl) hC (by first | omega | assumption)) ?_
  have hf1 := am_b_r (0 ≤ g ∧ g < μ p 14)
  refine w_if_ne (tgt := 10) dX7_cut_5 rfl (R32.in (by have := am_b_r ((0 ≤ g ∧ g < μ p 14)); omega)) (fun c5 => ?_) (fun c5 => ?_)
  · skip
    replace c5 := am_b1 c5
    refine w_bipush dX7_cut_10 (by decide) ?_
    refine w_istore_n (ls' := [(2, 0), (0, g), (0, -2), (9, 0), (9, 0), (9, 0)]) dX7_cut_12 rfl (Nat.le_of_ble_eq_true rfl) rfl rfl ?_
    refine w_ldcw (n := 2147483647) dX7_cut_13 k_1015 (by decide) ?_
    refine w_istore_n (ls' := [(2, 0), (0, g), (0, -2), (0, 2147483647), (9, 0), (9, 0)]) dX7_cut_16 rfl (Nat.le_of_ble_eq_true rfl) rfl rfl ?_
    refine w_iconst dX7_cut_17 ?_
    refine w_istore (ls' := [(2, 0), (0, g), (0, -2), (0, 2147483647), (0, 1), (9, 0)]) dX7_cut_18 (Nat.le_of_ble_eq_true rfl) rfl rfl ?_
    have hL20 : ∀ (n20 : Nat) (f : Int) (le : Int) (k : Int) (μ1 : Mu), (μ (p + 10) g - k).toNat = n20 → Fr 6 14 1 0 μ1 μ → (1 ≤ k ∧ k ≤ μ (p + 10) g) → (-2 ≤ le ∧ le ≤ 2147483647) → (f = (cutI (cutP (uglG μ p) (μ (p + 9) g) (μ (p + 10) g)) (k - 1)).1) → (le = (cutI (cutP (uglG μ p) (μ (p + 9) g) (μ (p + 10) g)) (k - 1)).2) → Wp (GG X) M_X7_cut 20 [(2, 0), (0, g), (0, f), (0, le), (0, k), (9, 0)] [] μ1 (qI 0 fun z μ' => (Fr 6 14 1 0 μ' μ) ∧ (z = if (0 ≤ g ∧ g < μ p 14) then (cutI (cutP (uglG μ p) (μ (p + 9) g) (μ (p + 10) g)) (μ (p + 10) g - 1)).1 else -1)) := by
      intro n20
      induction n20 using Nat.strongRecOn with
      | ind n20 ih20 =>
        intro f le k μ1 hn20 hF20 hk0 hle hf hl2
        have hfl := hG.fl (g := g) (by omega)
        refine w_iload dX7_cut_20 rfl ?_
        refine w_aload_n dX7_cut_22 rfl rfl (by first | decide | omega) ?_
        refine w_getDx (o := 0) (f := 7) (x := p) fX7_cut_23 rfl rfl rfl rfl ((congrFun (hF20.at (by omega) (by omega)) _).trans hC.p7) ?_
        refine w_getR (o := (p).toNat) (x := p + 10) fX7_cut_26 (by omega) (pSh0 rfl rfl (by assumption)) rfl (pRf 16 10 rfl rfl (by assumption)) ?_
        refine w_iload_n dX7_cut_29 rfl rfl ?_
        refine w_ialdx (o := (p + 10).toNat) (n := 32) (x := μ (p + 10) g) dX7_cut_30 (by omega) (pSh 10 rfl rfl (by assumption)) (Nat.le_of_ble_eq_true rfl) (by omega) (congrFun (hF20.at (by omega) (by omega)) _) ?_
        have hr2 := PG.fl hC.pg (g := g) (by omega)
        have hr3 := PG.fl hG (g := g) (by omega)
        refine w_icmp_ge (tgt := 68) dX7_cut_31 rfl (R32.in (by omega)) (R32.in (by omega)) (fun c31 => ?_) (fun c31 => ?_)
        · skip
          refine w_iload_n dX7_cut_68 rfl rfl ?_
          exact w_iretI dX7_cut_69 rfl ⟨hF20, (by exact ifT (by omega) (by rw [hf, show k - 1 = μ (p + 10) g - 1 by omega]))⟩
        · skip
          refine w_aload_n dX7_cut_34 rfl rfl (by first | decide | omega) ?_
          refine w_iload_n dX7_cut_35 rfl rfl ?_
          refine w_iload dX7_cut_36 rfl ?_
          refine w_callVI (o := 0) (ci := 7) (as := [(0, g), (0, k)]) (rest := []) (k := 2) fX7_cut_38 rfl rfl rfl rfl rfl rfl rfl rfl (Nat.le_of_ble_eq_true rfl) (s_X7_uglinessOfCut X p g k μ μ1 (fun o h1 => (hF20.at (by omega) (by omega))) hC (by first | omega | assumption) (by first | omega | assumption)) (fun xC μC hμC => ?_)
          obtain ⟨hFC, hz_C, hr_C⟩ := hμC
          refine w_istore (ls' := [(2, 0), (0, g), (0, f), (0, le), (0, k), (0, xC)]) dX7_cut_41 (Nat.le_of_ble_eq_true rfl) rfl rfl ?_
          refine w_iload dX7_cut_43 rfl ?_
          refine w_bipush dX7_cut_45 (by decide) ?_
          refine w_icmp_eq (tgt := 62) dX7_cut_47 rfl (R32.in (by omega)) (R32.in (by decide)) (fun c47 => ?_) (fun c47 => ?_)
          · skip
            refine w_iinc (ls' := [(2, 0), (0, g), (0, f), (0, le), (0, k + 1), (0, xC)]) dX7_cut_62 rfl (Nat.le_of_ble_eq_true rfl) rfl rfl ?_
            refine w_goto (tgt := 20) dX7_cut_65 rfl ?_
            refine Wp.fgl (ls' := [(2, 0), (0, g), (0, f), (0, le), (0, k + 1), (9, 0)]) 5 rfl ?_
            exact ih20 _ (by omega) f le (k + 1) μC rfl ((hFC.wd (by omega) (by omega)).tr hF20) (by first | omega | assumption) (by omega) (by rw [show k + 1 - 1 = k - 1 + 1 by omega, cutI_s (by omega), show k - 1 + 1 = k by omega, ← hz_C, ← hl2]; first | (rw [if_pos (by omega)]) | (rw [if_neg (by omega)]; exact hf)) (by rw [show k + 1 - 1 = k - 1 + 1 by omega, cutI_s (by omega), show k - 1 + 1 = k by omega, ← hz_C, ← hl2]; first | (rw [if_pos (by omega)]) | (rw [if_neg (by omega)]; exact hl2))
          · skip
            refine w_iload dX7_cut_50 rfl ?_
            refine w_iload_n dX7_cut_52 rfl rfl ?_
            refine w_icmp_ge (tgt := 62) dX7_cut_53 rfl (R32.in (by omega)) (R32.in (by omega)) (fun c53 => ?_) (fun c53 => ?_)
            · skip
              refine w_iinc (ls' := [(2, 0), (0, g), (0, f), (0, le), (0, k + 1), (0, xC)]) dX7_cut_62 rfl (Nat.le_of_ble_eq_true rfl) rfl rfl ?_
              refine w_goto (tgt := 20) dX7_cut_65 rfl ?_
              refine Wp.fgl (ls' := [(2, 0), (0, g), (0, f), (0, le), (0, k + 1), (9, 0)]) 5 rfl ?_
              exact ih20 _ (by omega) f le (k + 1) μC rfl ((hFC.wd (by omega) (by omega)).tr hF20) (by first | omega | assumption) (by omega) (by rw [show k + 1 - 1 = k - 1 + 1 by omega, cutI_s (by omega), show k - 1 + 1 = k by omega, ← hz_C, ← hl2]; first | (rw [if_pos (by omega)]) | (rw [if_neg (by omega)]; exact hf)) (by rw [show k + 1 - 1 = k - 1 + 1 by omega, cutI_s (by omega), show k - 1 + 1 = k by omega, ← hz_C, ← hl2]; first | (rw [if_pos (by omega)]) | (rw [if_neg (by omega)]; exact hl2))
            · skip
              refine w_iload dX7_cut_56 rfl ?_
              refine w_istore_n (ls' := [(2, 0), (0, g), (0, f), (0, xC), (0, k), (0, xC)]) dX7_cut_58 rfl (Nat.le_of_ble_eq_true rfl) rfl rfl ?_
              refine w_iload dX7_cut_59 rfl ?_
              refine w_istore_n (ls' := [(2, 0), (0, g), (0, k), (0, xC), (0, k), (0, xC)]) dX7_cut_61 rfl (Nat.le_of_ble_eq_true rfl) rfl rfl ?_
              refine w_iinc (ls' := [(2, 0), (0, g), (0, k), (0, xC), (0, k + 1), (0, xC)]) dX7_cut_62 rfl (Nat.le_of_ble_eq_true rfl) rfl rfl ?_
              refine w_goto (tgt := 20) dX7_cut_65 rfl ?_
              refine Wp.fgl (ls' := [(2, 0), (0, g), (0, k), (0, xC), (0, k + 1), (9, 0)]) 5 rfl ?_
              exact ih20 _ (by omega) k xC (k + 1) μC rfl ((hFC.wd (by omega) (by omega)).tr hF20) (by first | omega | assumption) (by omega) (by rw [show k + 1 - 1 = k - 1 + 1 by omega, cutI_s (by omega), show k - 1 + 1 = k by omega, ← hz_C, ← hl2]; first | (rw [if_pos (by omega)]) | (rw [if_neg (by omega)]; exact hf)) (by rw [show k + 1 - 1 = k - 1 + 1 by omega, cutI_s (by omega), show k - 1 + 1 = k by omega, ← hz_C, ← hl2]; first | (rw [if_pos (by omega)]) | (rw [if_neg (by omega)]; exact hl2))
    exact hL20 _ (-2) 2147483647 1 μ rfl Fr.rf (by have := hG.fl (g := g) (by omega); omega) (by first | omega | assumption) rfl rfl
  · skip
    replace c5 := am_b0 c5
    refine w_iconst dX7_cut_8 ?_
    exact w_iretI dX7_cut_9 rfl ⟨Fr.rf, (by exact ifF (by omega) (rfl))⟩
