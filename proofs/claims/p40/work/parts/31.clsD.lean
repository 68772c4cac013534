set_option maxRecDepth 100000 in
set_option maxHeartbeats 4000000 in
theorem s_X7_ifPut (X : AX) (p : Int) (i : Int) (q : Int) (w : Int) (μ : Mu) (hC : CJ μ p) (hi : -2147483648 ≤ i ∧ i ≤ 2147483647) (hq : -2147483648 ≤ q ∧ q ≤ 2147483647) (hw : -2147483648 ≤ w ∧ w ≤ 2147483647) : Wp (GG X) M_X7_ifPut 0 [(2, 0), (0, i), (0, q), (0, w)] [] μ (qI 0 fun z μ' => (Fr 6 19 1 0 μ' μ) ∧ (z = if (0 ≤ i ∧ i < μ p 7 ∧ 0 ≤ μ (p + 8) i) ∧ (-12 ≤ q ∧ q ≤ 12) ∧ 0 ≤ w ∧ w ≤ 5 then ansB (ddP μ p i q) w else -1000000)) := by
  have hI := hC.i
  have hG := hC.pg
  have hp := hI.at
  have hz := hI.sz
  have hgr := hG.gr
  have hkn := hC.kn
  refine w_aload_n dX7_ifPut_0 rfl rfl (by first | decide | omega) ?_
  refine w_iload_n dX7_ifPut_1 rfl rfl ?_
  refine w_callVP (o := 0) (ci := 7) (as := [(0, i)]) (rest := []) (k := 0) fX7_ifPut_2 rfl rfl rfl rfl rfl rfl rfl rfl (Nat.le_of_ble_eq_true rfl) (s_X7_isGrouped X p i μ μ (fun o h1 => rfl) hC (by first | omega | assumption)) ?_
  have hf1 := am_b_r (0 ≤ i ∧ i < μ p 7 ∧ 0 ≤ μ (p + 8) i)
  refine w_if_eq (tgt := 15) dX7_ifPut_5 rfl (R32.in (by have := am_b_r ((0 ≤ i ∧ i < μ p 7 ∧ 0 ≤ μ (p + 8) i)); omega)) (fun c5 => ?_) (fun c5 => ?_)
  · skip
    replace c5 := am_b0 c5
    refine w_ldc (n := -1000000) dX7_ifPut_15 k_597 (by decide) ?_
    exact w_iretI dX7_ifPut_17 rfl ⟨Fr.rf, (by exact ifF (by omega) (rfl))⟩
  · skip
    replace c5 := am_b1 c5
    refine w_iload_n dX7_ifPut_8 rfl rfl ?_
    refine w_callSP (as := [(0, q)]) (rest := []) (k := 0) fX7_ifPut_9 rfl rfl rfl rfl rfl (Nat.le_of_ble_eq_true rfl) (s_X7_isPosition X q μ (by first | omega | assumption)) ?_
    have hf2 := am_b_r (-12 ≤ q ∧ q ≤ 12)
    refine w_if_ne (tgt := 18) dX7_ifPut_12 rfl (R32.in (by have := am_b_r ((-12 ≤ q ∧ q ≤ 12)); omega)) (fun c12 => ?_) (fun c12 => ?_)
    · skip
      replace c12 := am_b1 c12
      refine w_aload_n dX7_ifPut_18 rfl rfl (by first | decide | omega) ?_
      refine w_iconst dX7_ifPut_19 ?_
      refine w_callVI (o := 0) (ci := 7) (as := [(0, 0)]) (rest := []) (k := 1) fX7_ifPut_20 rfl rfl rfl rfl rfl rfl rfl rfl (Nat.le_of_ble_eq_true rfl) (s_X7_tryShifted X p 0 μ μ (fun o h1 => rfl) hC (by first | omega | assumption)) (fun xS μS hμS => ?_)
      obtain ⟨hFS, hz_S, hq_S⟩ := hμS
      have hxS : xS = 1 := hz_S.elim (fun h => absurd (shB_0 hC) h.2) (fun h => h.1)
      have hqS := hq_S hxS
      have hgo := hG.go (i := i) (by omega)
      have hgf := hG.fl (g := μ (p + 8) i) (by omega)
      refine w_pop dX7_ifPut_23 (by simp) ?_
      refine w_aload_n dX7_ifPut_24 rfl rfl (by first | decide | omega) ?_
      refine w_getR (o := 0) (x := 19) fX7_ifPut_25 rfl rfl rfl rfl ?_
      refine w_iload_n dX7_ifPut_28 rfl rfl ?_
      refine w_iload_n dX7_ifPut_29 rfl rfl ?_
      refine w_iast (o := 19) (n := 64) dX7_ifPut_30 rfl rfl (Nat.le_of_ble_eq_true rfl) (by omega) (by omega) ?_
      have hF_μ9 : Fr 19 19 1 0 (am_up μS 19 i q) μ := (hFS.up (by omega))
      have hT9 : ∀ j : Int, 0 ≤ j → j < μ p 7 → (am_up μS 19 i q) 19 j = if j = i then q else shF μ p 0 j := (setr (g := fun j => if j = i then q else shF μ p 0 j) hqS (if_pos rfl).symm (fun j h1 h2 h3 => if_neg h3))
      refine Wp.mu (fun μ9 hμ9 => ?_)
      rw [← hμ9] at hF_μ9 hT9
      clear hμ9
      have e9 : μ9 (p + 9) = μ (p + 9) := hF_μ9.at (by omega) (by omega)
      have e10 : μ9 (p + 10) = μ (p + 10) := hF_μ9.at (by omega) (by omega)
      have e0 : μ9 p = μ p := hF_μ9.at (by omega) (by omega)
      have hdp : ddt μ9 p 19 (μ9 p 3) (μ (p + 8) i) = ddP μ p i q := by rw [e0]; exact ddP_try hC (fun o h1 => hF_μ9.at (by omega) (by omega)) ⟨by omega, by omega, by omega⟩ ((hT9 i (by omega) (by omega)).trans (if_pos rfl)) (fun j h1 h2 h3 h4 => (hT9 j h1 h2).trans ((if_neg h3).trans (by first | (rw [shF_1 h4]; omega) | rfl)))
      refine w_aload_n dX7_ifPut_31 rfl rfl (by first | decide | omega) ?_
      refine w_aload_n dX7_ifPut_32 rfl rfl (by first | decide | omega) ?_
      refine w_getDx (o := 0) (f := 7) (x := p) fX7_ifPut_33 rfl rfl rfl rfl ((congrFun (hF_μ9.at (by omega) (by omega)) _).trans hC.p7) ?_
      refine w_getR (o := (p).toNat) (x := p + 8) fX7_ifPut_36 (by omega) (pSh0 rfl rfl (by assumption)) rfl (pRf 13 8 rfl rfl (by assumption)) ?_
      refine w_iload_n dX7_ifPut_39 rfl rfl ?_
      refine w_ialdx (o := (p + 8).toNat) (n := 64) (x := μ (p + 8) i) dX7_ifPut_40 (by omega) (pSh 8 rfl rfl (by assumption)) (Nat.le_of_ble_eq_true rfl) (by omega) (congrFun (hF_μ9.at (by omega) (by omega)) _) ?_
      have hr4 := PG.go hC.pg (i := i) (by omega)
      have hr5 := PG.go hG (i := i) (by omega)
      refine w_callVV (o := 0) (ci := 7) (as := [(0, μ (p + 8) i)]) (rest := []) (k := 0) fX7_ifPut_41 rfl rfl rfl rfl rfl rfl rfl rfl (Nat.le_of_ble_eq_true rfl) (s_X7_loadTried X p (μ (p + 8) i) μ9 μ9 (fun o h1 => rfl) (CJ.cg hC (fun o h1 => (hF_μ9.at (by omega) (by omega)))) (by rw [e0]; omega) (fun j h1 h2 => by rw [e9] at h1 h2; rw [e10] at h2; have h3 := hT9 j (by omega) (by omega); have h4 := hI.hd (q := p + 5) (i := j) rfl (by omega); have h5 : shF μ p 0 j = if μ (p + 4) j = 0 then 0 else μ (p + 5) j + 0 := rfl; rw [h3]; split <;> omega)) (fun μL hμL => ?_)
      obtain ⟨hFL, hD_L⟩ := hμL
      have hDL : GLd (ddP μ p i q) μL := (by rw [← hdp]; exact hD_L)
      refine w_aload_n dX7_ifPut_44 rfl rfl (by first | decide | omega) ?_
      refine w_iload_n dX7_ifPut_45 rfl rfl ?_
      refine w_callVI (o := 0) (ci := 7) (as := [(0, w)]) (rest := []) (k := 2) fX7_ifPut_46 rfl rfl rfl rfl rfl rfl rfl rfl (Nat.le_of_ble_eq_true rfl) (s_X7_tellBest X (ddP μ p i q) w μL hDL (by first | omega | assumption)) (fun xT μT hμT => ?_)
      obtain ⟨hFT, hz_T, hD_T, hf_T⟩ := hμT
      exact w_iretI dX7_ifPut_49 rfl ⟨((hFT.wd (by omega) (by omega)).tr ((hFL.wd (by omega) (by omega)).tr (hF_μ9.wd (by omega) (by omega)))), (by exact hz_T.trans (ifA2 ⟨by omega, by omega⟩))⟩
    · skip
      replace c12 := am_b0 c12
      refine w_ldc (n := -1000000) dX7_ifPut_15 k_597 (by decide) ?_
      exact w_iretI dX7_ifPut_17 rfl ⟨Fr.rf, (by exact ifF (by omega) (rfl))⟩


