set_option maxRecDepth 100000 in
set_option maxHeartbeats 4000000 in
theorem s_X7_ifPut (X : AX) (p : Int) (i : Int) (q : Int) (w : Int) (μ : Mu) (hC : CJ μ p) (hi : -2147483648 ≤ i ∧ i ≤ 2147483647) (hq : -2147483648 ≤ q ∧ q ≤ 2147483647) (hw : -2147483648 ≤ w ∧ w ≤ 2147483647) : Wp (GG X) M_X7_ifPut 0 [(2, 0), (0, i), (0, q), (0, w)] [] μ (qI 0 fun z μ' => (Fr 6 19 1 0 μ' μ) ∧ (z = if (0 ≤ i ∧ i < μ p 7 ∧ 0 ≤ μ (p + 8) i) ∧ (-12 ≤ q ∧ q ≤ 12) ∧ 0 ≤ w ∧ w ≤ 5 then ansB (ddP μ p i q) w else -1000000)) := by
  have hI := hC.i
  have hG := hC.pg
  have hp := hI.at
  have hz := hI.sz
  have hgr := hG.gr
  have hkn := hC.kn
  refine w_aload_n dX7_ifPut_0 rfl rfl (by first | decide | omega) ?_
  refine w_iload_n dX7_ifPut_1 rfl rfl ?_
  refine w_callVP (o := 0) (ci := 7) (as := [(0, i)]) (rest := []) (k := 0) fX7_ifPut_2 rfl rfl rfl rfl rfl rfl rfl rfl (Nat.le_of_ble_eq_true rfl) (s_X7_isGrouped X p i μ μ (fun o h1 => rfl) hC (by first | omega | assumption)) ?_
  have hf1 := am_b_r (0 ≤ i ∧ i < μ p 7 ∧ 0 ≤ μ (p + 8) i)
  refine w_if_eq (tgt := 15) dX7_ifPut_5 rfl (R32.in (by have := am_b_r ((0 ≤ i ∧ i < μ p 7 ∧ 0 ≤ μ (p + 8) i)); omega)) (fun c5 => ?_) (fun c5 => ?_)
  · skip
    replace c5 := am_b0 c5
    refine w_ldc (n := -1000000) dX7_ifPut_15 k_704 (by decide) ?_
    exact w_iretI dX7_ifPut_17 rfl ⟨Fr.rf, (by exact ifF (by omega) (rfl))⟩
  · skip
    replace c5 := am_b1 c5
    refine w_iload_n dX7_ifPut_8 rfl rfl ?_
    refine w_callSP (as := [(0, q)]) (rest := []) (k := 0) fX7_ifPut_9 rfl rfl rfl rfl rfl (Nat.le_of_ble_eq_true rfl) (s_X7_isPosition X q μ (by first | omega | assumption)) ?_
    have hf2 := am_b_r (-12 ≤ q ∧ q ≤ 12)
    refine w_if_ne (tgt := 18) dX7_ifPut_12 rfl (R32.in (by have := am_b_r ((-12 ≤ q ∧ q ≤ 12)); omega)) (fun c12 => ?_) (fun c12 => ?_)
    · skip
      replace c12 := am_b1 c12
      refine w_aload_n dX7_ifPut_18 rfl rfl (by first | decide | omega) ?_
      refine w_iconst dX7_ifPut_19 ?_
      refine w_callVI (o := 0) (ci := 7) (as := [(0, 0)]) (rest := []) (k := 1) fX7_ifPut_20 rfl rfl rfl rfl rfl rfl rfl rfl (Nat.le_of_ble_eq_true rfl) (s_X7_tryShifted X p 0 μ μ (fun o h1 => rfl) hC (by first | omega | assumption)) (fun xS μS hμS => ?_)
      obtain ⟨hFS, hz_S, hq_S⟩ := hμS
      have hxS : xS = 1 := hz_S.elim (fun h => absurd (shB_0 hC) h.2) (fun h => h.1)
      have hqS := hq_S hxS
      have hgo := hG.go (i := i) (by omega)
      have hgf := hG.fl (g := μ (p + 8) i) (by omega)
      refine w_pop dX7_ifPut_23 (by simp) ?_
      refine w_aload_n dX7_ifPut_24 rfl rfl (by first | decide | omega) ?_
      refine w_getR (o := 0) (x := 19) fX7_ifPut_25 rfl rfl rfl rfl ?_
      refine w_iload_n dX7_ifPut_28 rfl rfl ?_
      refine w_iload_n dX7_ifPut_29 rfl rfl ?_
      refine w_iast (o := 19) (n := 64) dX7_ifPut_30 rfl rfl (Nat.le_of_ble_eq_true rfl) (by omega) (by omega) ?_
      have hF_μ9 : Fr 19 19 1 0 (am_up μS 19 i q) μ := (hFS.up (by omega))
      have hT9 : ∀ j : Int, 0 ≤ j → j < μ p 7 → (am_up μS 19 i q) 19 j = if j = i then q else shF μ p 0 j := (setr (g := fun j => if j = i then q else shF μ p 0 j) hqS (if_pos rfl).symm (fun j h1 h2 h3 => if_neg h3))
      refine Wp.mu (fun μ9 hμ9 => ?_)
      rw [← hμ9] at hF_μ9 hT9
      clear hμ9
      have e9 : μ9 (p + 9) = μ (p + 9) := hF_μ9.at (by omega) (by omega)
      have e10 : μ9 (p + 10) = μ (p + 10) := hF_μ9.at (by omega) (by omega)
      have e0 : μ9 p = μ p := hF_μ9.at (by omega) (by omega)
      have hdp : ddt μ9 p 19 (μ9 p 3) (μ (p + 8) i) = ddP μ p i q := by rw [e0]; exact ddP_try hC (fun o h1 => hF_μ9.at (by omega) (by omega)) ⟨by omega, by omega, by omega⟩ ((hT9 i (by omega) (by omega)).trans (if_pos rfl)) (fun j h1 h2 h3 h4 => (hT9 j h1 h2).trans ((if_neg h3).trans (by first | (rw [shF_1 h4]; omega) | rfl)))
      refine w_aload_n dX7_ifPut_31 rfl rfl (by first | decide | omega) ?_
      refine w_aload_n dX7_ifPut_32 rfl rfl (by first | decide | omega) ?_
      refine w_getDx (o := 0) (f := 7) (x := p) fX7_ifPut_33 rfl rfl rfl rfl ((congrFun (hF_μ9.at (by omega) (by omega)) _).trans hC.p7) ?_
      refine w_getR (o := (p).toNat) (x := p + 8) fX7_ifPut_36 (by omega) (pSh0 rfl rfl (by assumption)) rfl (pRf 13 8 rfl rfl (by assumption)) ?_
      refine w_iload_n dX7_ifPut_39 rfl rfl ?_
      refine w_ialdx (o := (p + 8).toNat) (n := 64) (x := μ (p + 8) i) dX7_ifPut_40 (by omega) (pSh 8 rfl rfl (by assumption)) (Nat.le_of_ble_eq_true rfl) (by omega) (congrFun (hF_μ9.at (by omega) (by omega)) _) ?_
      have hr4 := PG.go hC.pg (i := i) (by omega)
      have hr5 := PG.go hG (i := i) (by omega)
      refine w_callVV (o := 0) (ci := 7) (as := [(0, μ (p + 8) i)]) (rest := []) (k := 0) fX7_ifPut_41 rfl rfl rfl rfl rfl rfl rfl rfl (Nat.le_of_ble_eq_true rfl) (s_X7_loadTried X p (μ (p + 8) i) μ9 μ9 (fun o h1 => rfl) (CJ.cg hC (fun o h1 => (hF_μ9.at (by omega) (by omega)))) (by rw [e0]; omega) (fun j h1 h2 => by rw [e9] at h1 h2; rw [e10] at h2; have h3 := hT9 j (by omega) (by omega); have h4 := hI.hd (q := p + 5) (i := j) rfl (by omega); have h5 : shF μ p 0 j = if μ (p + 4) j = 0 then 0 else μ (p + 5) j + 0 := rfl; rw [h3]; split <;> omega)) (fun μL hμL => ?_)
      obtain ⟨hFL, hD_L⟩ := hμL
      have hDL : GLd (ddP μ p i q) μL := (by rw [← hdp]; exact hD_L)
      refine w_aload_n dX7_ifPut_44 rfl rfl (by first | decide | omega) ?_
      refine w_iload_n dX7_ifPut_45 rfl rfl ?_
      refine w_callVI (o := 0) (ci := 7) (as := [(0, w)]) (rest := []) (k := 2) fX7_ifPut_46 rfl rfl rfl rfl rfl rfl rfl rfl (Nat.le_of_ble_eq_true rfl) (s_X7_tellBest X (ddP μ p i q) w μL hDL (by first | omega | assumption)) (fun xT μT hμT => ?_)
      obtain ⟨hFT, hz_T, hD_T, hf_T⟩ := hμT
      exact w_iretI dX7_ifPut_49 rfl ⟨((hFT.wd (by omega) (by omega)).tr ((hFL.wd (by omega) (by omega)).tr (hF_μ9.wd (by omega) (by omega)))), (by exact hz_T.trans (ifA2 ⟨by omega, by omega⟩))⟩
    · skip
      replace c12 := am_b0 c12
      refine w_ldc (n := -1000000) dX7_ifPut_15 k_704 (by decide) ?_
      exact w_iretI dX7_ifPut_17 rfl ⟨Fr.rf, (by exact ifF (by omega) (rfl))⟩

set_option maxRecDepth 100000 in
set_option maxHeartbeats 4000000 in
theorem s_X7_wish (X : AX) (p : Int) (i : Int) (μ : Mu) (hC : CJ μ p) (hi : -2147483648 ≤ i ∧ i ≤ 2147483647) : Wp (GG X) M_X7_wish 0 [(2, 0), (0, i), (9, 0), (9, 0), (9, 0), (9, 0), (9, 0), (9, 0), (9, 0)] [] μ (qI 0 fun z μ' => (Fr 6 19 1 0 μ' μ) ∧ (((0 ≤ i ∧ i < μ p 7 ∧ 0 ≤ μ (p + 8) i) ∧ wiR μ p i z) ∨ (¬ (0 ≤ i ∧ i < μ p 7 ∧ 0 ≤ μ (p + 8) i) ∧ z = -1000000))) := by
  have hI := hC.i
  have hG := hC.pg
  have hp := hI.at
  have hz := hI.sz
  have hgr := hG.gr
  have hkn := hC.kn
  refine w_aload_n dX7_wish_0 rfl rfl (by first | decide | omega) ?_
  refine w_iload_n dX7_wish_1 rfl rfl ?_
  refine w_callVP (o := 0) (ci := 7) (as := [(0, i)]) (rest := []) (k := 0) fX7_wish_2 rfl rfl rfl rfl rfl rfl rfl rfl (Nat.le_of_ble_eq_true rfl) (s_X7_isGrouped X p i μ μ (fun o h1 => rfl) hC (by first | omega | assumption)) ?_
  have hf1 := am_b_r (0 ≤ i ∧ i < μ p 7 ∧ 0 ≤ μ (p + 8) i)
  refine w_if_ne (tgt := 11) dX7_wish_5 rfl (R32.in (by have := am_b_r ((0 ≤ i ∧ i < μ p 7 ∧ 0 ≤ μ (p + 8) i)); omega)) (fun c5 => ?_) (fun c5 => ?_)
  · skip
    replace c5 := am_b1 c5
    refine w_aload_n dX7_wish_11 rfl rfl (by first | decide | omega) ?_
    refine w_iconst dX7_wish_12 ?_
    refine w_callVI (o := 0) (ci := 7) (as := [(0, 0)]) (rest := []) (k := 1) fX7_wish_13 rfl rfl rfl rfl rfl rfl rfl rfl (Nat.le_of_ble_eq_true rfl) (s_X7_tryShifted X p 0 μ μ (fun o h1 => rfl) hC (by first | omega | assumption)) (fun xS μS hμS => ?_)
    obtain ⟨hFS, hz_S, hq_S⟩ := hμS
    have hxS : xS = 1 := hz_S.elim (fun h => absurd (shB_0 hC) h.2) (fun h => h.1)
    have hqS := hq_S hxS
    have hgo := hG.go (i := i) (by omega)
    have hgf := hG.fl (g := μ (p + 8) i) (by omega)
    refine w_pop dX7_wish_16 (by simp) ?_
    refine w_aload_n dX7_wish_17 rfl rfl (by first | decide | omega) ?_
    refine w_getDx (o := 0) (f := 7) (x := p) fX7_wish_18 rfl rfl rfl rfl ((congrFun (hFS.at (by omega) (by omega)) _).trans hC.p7) ?_
    refine w_getR (o := (p).toNat) (x := p + 5) fX7_wish_21 (by omega) (pSh0 rfl rfl (by assumption)) rfl (pRf 10 5 rfl rfl (by assumption)) ?_
    refine w_iload_n dX7_wish_24 rfl rfl ?_
    refine w_ialdx (o := (p + 5).toNat) (n := 64) (x := μ (p + 5) i) dX7_wish_25 (by omega) (pSh 5 rfl rfl (by assumption)) (Nat.le_of_ble_eq_true rfl) (by omega) (congrFun (hFS.at (by omega) (by omega)) _) ?_
    have hr3 := PI.hd hC.i (q := p + 5) (i := i) rfl (by omega)
    have hr4 := PI.hd hI (q := p + 5) (i := i) rfl (by omega)
    refine w_istore_n (ls' := [(2, 0), (0, i), (0, μ (p + 5) i), (9, 0), (9, 0), (9, 0), (9, 0), (9, 0), (9, 0)]) dX7_wish_26 rfl (Nat.le_of_ble_eq_true rfl) rfl rfl ?_
    refine w_ldc (n := -1000000) dX7_wish_27 k_704 (by decide) ?_
    refine w_istore_n (ls' := [(2, 0), (0, i), (0, μ (p + 5) i), (0, -1000000), (9, 0), (9, 0), (9, 0), (9, 0), (9, 0)]) dX7_wish_29 rfl (Nat.le_of_ble_eq_true rfl) rfl rfl ?_
    refine w_ldcw (n := 2147483647) dX7_wish_30 k_1015 (by decide) ?_
    refine w_istore (ls' := [(2, 0), (0, i), (0, μ (p + 5) i), (0, -1000000), (0, 2147483647), (9, 0), (9, 0), (9, 0), (9, 0)]) dX7_wish_33 (Nat.le_of_ble_eq_true rfl) rfl rfl ?_
    refine w_iconst dX7_wish_35 ?_
    refine w_istore (ls' := [(2, 0), (0, i), (0, μ (p + 5) i), (0, -1000000), (0, 2147483647), (0, 0), (9, 0), (9, 0), (9, 0)]) dX7_wish_36 (Nat.le_of_ble_eq_true rfl) rfl rfl ?_
    have hL38 : ∀ (n38 : Nat) (w : Int) (le : Int) (s : Int) (μ1 : Mu), (50 - s).toNat = n38 → Fr 6 19 1 0 μ1 μ → (0 ≤ s ∧ s ≤ 50) → (wiQ μ p i s w le) → (∀ j : Int, 0 ≤ j → j < μ p 7 → ¬ j = i → μ1 19 j = shF μ p 0 j) → Wp (GG X) M_X7_wish 38 [(2, 0), (0, i), (0, μ (p + 5) i), (0, w), (0, le), (0, s), (9, 0), (9, 0), (9, 0)] [] μ1 (qI 0 fun z μ' => (Fr 6 19 1 0 μ' μ) ∧ (((0 ≤ i ∧ i < μ p 7 ∧ 0 ≤ μ (p + 8) i) ∧ wiR μ p i z) ∨ (¬ (0 ≤ i ∧ i < μ p 7 ∧ 0 ≤ μ (p + 8) i) ∧ z = -1000000))) := by
      intro n38
      induction n38 using Nat.strongRecOn with
      | ind n38 ih38 =>
        intro w le s μ1 hn38 hF38 hs0 hw hT1
        have hler := wiQ_r hC ⟨by omega, by omega, by omega⟩ hw
        refine w_iload dX7_wish_38 rfl ?_
        refine w_bipush dX7_wish_40 (by decide) ?_
        refine w_icmp_gt (tgt := 127) dX7_wish_42 rfl (R32.in (by omega)) (R32.in (by decide)) (fun c42 => ?_) (fun c42 => ?_)
        · skip
          refine w_iload_n dX7_wish_127 rfl rfl ?_
          exact w_iretI dX7_wish_128 rfl ⟨hF38, (by have he : s = 50 := (by omega); subst he; exact Or.inl ⟨by omega, le, hw⟩)⟩
        · skip
          refine w_iload_n dX7_wish_45 rfl rfl ?_
          refine w_iload dX7_wish_46 rfl ?_
          refine w_callSP (as := [(0, s)]) (rest := [(0, μ (p + 5) i)]) (k := 0) fX7_wish_48 rfl rfl rfl rfl rfl (Nat.le_of_ble_eq_true rfl) (s_X7_outward X s μ1 (by first | omega | assumption)) ?_
          have hf5 := ow_f s (by omega)
          refine w_iadd dX7_wish_51 ?_
          refine w_istore (ls' := [(2, 0), (0, i), (0, μ (p + 5) i), (0, w), (0, le), (0, s), (0, (μ (p + 5) i) + (ow s)), (9, 0), (9, 0)]) dX7_wish_52 (Nat.le_of_ble_eq_true rfl) rfl rfl ?_
          refine w_iload dX7_wish_54 rfl ?_
          refine w_callSP (as := [(0, (μ (p + 5) i) + (ow s))]) (rest := []) (k := 0) fX7_wish_56 rfl rfl rfl rfl rfl (Nat.le_of_ble_eq_true rfl) (s_X7_isPosition X ((μ (p + 5) i) + (ow s)) μ1 (by first | omega | assumption)) ?_
          have hf6 := am_b_r (-12 ≤ ((μ (p + 5) i) + (ow s)) ∧ ((μ (p + 5) i) + (ow s)) ≤ 12)
          refine w_if_eq (tgt := 121) dX7_wish_59 rfl (R32.in (by have := am_b_r ((-12 ≤ ((μ (p + 5) i) + (ow s)) ∧ ((μ (p + 5) i) + (ow s)) ≤ 12)); omega)) (fun c59 => ?_) (fun c59 => ?_)
          · skip
            replace c59 := am_b0 c59
            have hw2 := wiQ_no hw (show ¬ wok μ p i s from fun q => by have := q.1; omega)
            refine w_iinc (ls' := [(2, 0), (0, i), (0, μ (p + 5) i), (0, w), (0, le), (0, s + 1), (0, (μ (p + 5) i) + (ow s)), (9, 0), (9, 0)]) dX7_wish_121 rfl (Nat.le_of_ble_eq_true rfl) rfl rfl ?_
            refine w_goto (tgt := 38) dX7_wish_124 rfl ?_
            refine Wp.fgl (ls' := [(2, 0), (0, i), (0, μ (p + 5) i), (0, w), (0, le), (0, s + 1), (9, 0), (9, 0), (9, 0)]) 6 rfl ?_
            exact ih38 _ (by omega) w le (s + 1) μ1 rfl hF38 (by first | omega | assumption) hw2 (by first | exact hT1 | exact (fun j h1 h2 h3 => (congrFun (hFB.at (by omega) (by omega)) _).trans ((congrFun (hFL.at (by omega) (by omega)) _).trans ((hT9 j h1 h2).trans (if_neg h3)))))
          · skip
            replace c59 := am_b1 c59
            refine w_aload_n dX7_wish_62 rfl rfl (by first | decide | omega) ?_
            refine w_getR (o := 0) (x := 19) fX7_wish_63 rfl rfl rfl rfl ?_
            refine w_iload_n dX7_wish_66 rfl rfl ?_
            refine w_iload dX7_wish_67 rfl ?_
            refine w_iast (o := 19) (n := 64) dX7_wish_69 rfl rfl (Nat.le_of_ble_eq_true rfl) (by omega) (by omega) ?_
            have hF_μ9 : Fr 6 19 1 0 (am_up μ1 19 i ((μ (p + 5) i) + (ow s))) μ := (hF38.up (by omega))
            have hT9 : ∀ j : Int, 0 ≤ j → j < μ p 7 → (am_up μ1 19 i ((μ (p + 5) i) + (ow s))) 19 j = if j = i then (μ (p + 5) i + ow s) else shF μ p 0 j := (fun j h1 h2 => by by_cases hj : j = i; rw [hj, if_pos rfl, am_up_at]; rw [if_neg hj, am_up_nk hj]; exact hT1 j h1 h2 hj)
            refine Wp.mu (fun μ9 hμ9 => ?_)
            rw [← hμ9] at hF_μ9 hT9
            clear hμ9
            have e9 : μ9 (p + 9) = μ (p + 9) := hF_μ9.at (by omega) (by omega)
            have e10 : μ9 (p + 10) = μ (p + 10) := hF_μ9.at (by omega) (by omega)
            have e0 : μ9 p = μ p := hF_μ9.at (by omega) (by omega)
            have hdp : ddt μ9 p 19 (μ9 p 3) (μ (p + 8) i) = ddP μ p i (μ (p + 5) i + ow s) := by rw [e0]; exact ddP_try hC (fun o h1 => hF_μ9.at (by omega) (by omega)) ⟨by omega, by omega, by omega⟩ ((hT9 i (by omega) (by omega)).trans (if_pos rfl)) (fun j h1 h2 h3 h4 => (hT9 j h1 h2).trans ((if_neg h3).trans (by first | (rw [shF_1 h4]; omega) | rfl)))
            refine w_aload_n dX7_wish_70 rfl rfl (by first | decide | omega) ?_
            refine w_aload_n dX7_wish_71 rfl rfl (by first | decide | omega) ?_
            refine w_getDx (o := 0) (f := 7) (x := p) fX7_wish_72 rfl rfl rfl rfl ((congrFun (hF_μ9.at (by omega) (by omega)) _).trans hC.p7) ?_
            refine w_getR (o := (p).toNat) (x := p + 8) fX7_wish_75 (by omega) (pSh0 rfl rfl (by assumption)) rfl (pRf 13 8 rfl rfl (by assumption)) ?_
            refine w_iload_n dX7_wish_78 rfl rfl ?_
            refine w_ialdx (o := (p + 8).toNat) (n := 64) (x := μ (p + 8) i) dX7_wish_79 (by omega) (pSh 8 rfl rfl (by assumption)) (Nat.le_of_ble_eq_true rfl) (by omega) (congrFun (hF_μ9.at (by omega) (by omega)) _) ?_
            have hr7 := PG.go hC.pg (i := i) (by omega)
            have hr8 := PG.go hG (i := i) (by omega)
            refine w_callVV (o := 0) (ci := 7) (as := [(0, μ (p + 8) i)]) (rest := []) (k := 0) fX7_wish_80 rfl rfl rfl rfl rfl rfl rfl rfl (Nat.le_of_ble_eq_true rfl) (s_X7_loadTried X p (μ (p + 8) i) μ9 μ9 (fun o h1 => rfl) (CJ.cg hC (fun o h1 => (hF_μ9.at (by omega) (by omega)))) (by rw [e0]; omega) (fun j h1 h2 => by rw [e9] at h1 h2; rw [e10] at h2; have h3 := hT9 j (by omega) (by omega); have h4 := hI.hd (q := p + 5) (i := j) rfl (by omega); have h5 : shF μ p 0 j = if μ (p + 4) j = 0 then 0 else μ (p + 5) j + 0 := rfl; rw [h3]; split <;> omega)) (fun μL hμL => ?_)
            obtain ⟨hFL, hD_L⟩ := hμL
            have hDL : GLd (ddP μ p i (μ (p + 5) i + ow s)) μL := (by rw [← hdp]; exact hD_L)
            have hok := hDL.ok
            have hmr := mnK_r hok
            refine w_aload_n dX7_wish_83 rfl rfl (by first | decide | omega) ?_
            refine w_getR (o := 0) (x := 6) fX7_wish_84 rfl rfl rfl rfl ?_
            refine w_callVI (o := 6) (ci := 0) (as := []) (rest := []) (k := 3) fX7_wish_87 rfl rfl rfl rfl rfl rfl rfl rfl (Nat.le_of_ble_eq_true rfl) (s_X0_findBest X (ddP μ p i (μ (p + 5) i + ow s)) μL hDL) (fun xB μB hμB => ?_)
            obtain ⟨hFB, hz_B, hD_B, hf_B⟩ := hμB
            refine w_lstore (ls' := [(2, 0), (0, i), (0, μ (p + 5) i), (0, w), (0, le), (0, s), (0, (μ (p + 5) i) + (ow s)), (1, xB), (9, 0)]) dX7_wish_90 (Nat.le_of_ble_eq_true rfl) rfl rfl ?_
            refine w_lload dX7_wish_92 rfl ?_
            refine w_ldc2 (n := 9223372036854775807) dX7_wish_94 k_871 (by decide) ?_
            have hbu := fun (q : ¬ mnK (ddP μ p i (μ (p + 5) i + ow s)) = 9223372036854775807) => bU_r hok q
            have hbd : bU (ddP μ p i (μ (p + 5) i + ow s)) = mnK (ddP μ p i (μ (p + 5) i + ow s)) / 4398046511104 := rfl
            refine w_lc_eq (tgt := 121) dX7_wish_97 dX7_wish_98 rfl (R64.in (by omega)) (R64.in (by omega)) (fun c98 => ?_) (fun c98 => ?_)
            · skip
              have hw2 := wiQ_no hw (show ¬ wok μ p i s from fun q => q.2 (hz_B.symm.trans c98))
              refine w_iinc (ls' := [(2, 0), (0, i), (0, μ (p + 5) i), (0, w), (0, le), (0, s + 1), (0, (μ (p + 5) i) + (ow s)), (1, xB), (9, 0)]) dX7_wish_121 rfl (Nat.le_of_ble_eq_true rfl) rfl rfl ?_
              refine w_goto (tgt := 38) dX7_wish_124 rfl ?_
              refine Wp.fgl (ls' := [(2, 0), (0, i), (0, μ (p + 5) i), (0, w), (0, le), (0, s + 1), (9, 0), (1, xB), (9, 0)]) 6 rfl ?_
              refine Wp.fgl (ls' := [(2, 0), (0, i), (0, μ (p + 5) i), (0, w), (0, le), (0, s + 1), (9, 0), (9, 0), (9, 0)]) 7 rfl ?_
              exact ih38 _ (by omega) w le (s + 1) μB rfl ((hFB.wd (by omega) (by omega)).tr ((hFL.wd (by omega) (by omega)).tr hF_μ9)) (by first | omega | assumption) hw2 (by first | exact hT1 | exact (fun j h1 h2 h3 => (congrFun (hFB.at (by omega) (by omega)) _).trans ((congrFun (hFL.at (by omega) (by omega)) _).trans ((hT9 j h1 h2).trans (if_neg h3)))))
            · skip
              have hbu2 := hbu (fun q => c98 (hz_B.trans q))
              refine w_lload dX7_wish_101 rfl ?_
              refine w_callSP (as := [(1, xB)]) (rest := []) (k := 0) fX7_wish_103 rfl rfl rfl rfl rfl (Nat.le_of_ble_eq_true rfl) (s_X0_uglinessOf X xB μB (by first | omega | assumption)) ?_
              refine w_iload dX7_wish_106 rfl ?_
              refine w_icmp_ge (tgt := 121) dX7_wish_108 rfl (R32.in (by omega)) (R32.in (by omega)) (fun c108 => ?_) (fun c108 => ?_)
              · skip
                have hw2 := wiQ_keep hw hs0.1 (show wug μ p i s < 2147483647 by unfold wug; omega) (by unfold wug; omega)
                refine w_iinc (ls' := [(2, 0), (0, i), (0, μ (p + 5) i), (0, w), (0, le), (0, s + 1), (0, (μ (p + 5) i) + (ow s)), (1, xB), (9, 0)]) dX7_wish_121 rfl (Nat.le_of_ble_eq_true rfl) rfl rfl ?_
                refine w_goto (tgt := 38) dX7_wish_124 rfl ?_
                refine Wp.fgl (ls' := [(2, 0), (0, i), (0, μ (p + 5) i), (0, w), (0, le), (0, s + 1), (9, 0), (1, xB), (9, 0)]) 6 rfl ?_
                refine Wp.fgl (ls' := [(2, 0), (0, i), (0, μ (p + 5) i), (0, w), (0, le), (0, s + 1), (9, 0), (9, 0), (9, 0)]) 7 rfl ?_
                exact ih38 _ (by omega) w le (s + 1) μB rfl ((hFB.wd (by omega) (by omega)).tr ((hFL.wd (by omega) (by omega)).tr hF_μ9)) (by first | omega | assumption) hw2 (by first | exact hT1 | exact (fun j h1 h2 h3 => (congrFun (hFB.at (by omega) (by omega)) _).trans ((congrFun (hFL.at (by omega) (by omega)) _).trans ((hT9 j h1 h2).trans (if_neg h3)))))
              · skip
                have hw2 := wiQ_take hw hs0.1 (show wok μ p i s from ⟨by omega, fun q => c98 (hz_B.trans q)⟩) (by unfold wug; omega)
                refine w_lload dX7_wish_111 rfl ?_
                refine w_callSP (as := [(1, xB)]) (rest := []) (k := 0) fX7_wish_113 rfl rfl rfl rfl rfl (Nat.le_of_ble_eq_true rfl) (s_X0_uglinessOf X xB μB (by first | omega | assumption)) ?_
                refine Wp.topE (b := wug μ p i s) (by unfold wug bU; rw [hz_B]) ?_
                refine w_istore (ls' := [(2, 0), (0, i), (0, μ (p + 5) i), (0, w), (0, wug μ p i s), (0, s), (0, (μ (p + 5) i) + (ow s)), (1, xB), (9, 0)]) dX7_wish_116 (Nat.le_of_ble_eq_true rfl) rfl rfl ?_
                refine w_iload dX7_wish_118 rfl ?_
                refine w_istore_n (ls' := [(2, 0), (0, i), (0, μ (p + 5) i), (0, (μ (p + 5) i) + (ow s)), (0, wug μ p i s), (0, s), (0, (μ (p + 5) i) + (ow s)), (1, xB), (9, 0)]) dX7_wish_120 rfl (Nat.le_of_ble_eq_true rfl) rfl rfl ?_
                refine w_iinc (ls' := [(2, 0), (0, i), (0, μ (p + 5) i), (0, (μ (p + 5) i) + (ow s)), (0, wug μ p i s), (0, s + 1), (0, (μ (p + 5) i) + (ow s)), (1, xB), (9, 0)]) dX7_wish_121 rfl (Nat.le_of_ble_eq_true rfl) rfl rfl ?_
                refine w_goto (tgt := 38) dX7_wish_124 rfl ?_
                refine Wp.fgl (ls' := [(2, 0), (0, i), (0, μ (p + 5) i), (0, (μ (p + 5) i) + (ow s)), (0, wug μ p i s), (0, s + 1), (9, 0), (1, xB), (9, 0)]) 6 rfl ?_
                refine Wp.fgl (ls' := [(2, 0), (0, i), (0, μ (p + 5) i), (0, (μ (p + 5) i) + (ow s)), (0, wug μ p i s), (0, s + 1), (9, 0), (9, 0), (9, 0)]) 7 rfl ?_
                exact ih38 _ (by omega) ((μ (p + 5) i) + (ow s)) (wug μ p i s) (s + 1) μB rfl ((hFB.wd (by omega) (by omega)).tr ((hFL.wd (by omega) (by omega)).tr hF_μ9)) (by first | omega | assumption) hw2 (by first | exact hT1 | exact (fun j h1 h2 h3 => (congrFun (hFB.at (by omega) (by omega)) _).trans ((congrFun (hFL.at (by omega) (by omega)) _).trans ((hT9 j h1 h2).trans (if_neg h3)))))
    exact hL38 _ (-1000000) 2147483647 0 μS rfl (hFS.wd (by omega) (by omega)) (by first | omega | assumption) wiQ_0 (fun j h1 h2 h3 => hqS j h1 h2)
  · skip
    replace c5 := am_b0 c5
    refine w_ldc (n := -1000000) dX7_wish_8 k_704 (by decide) ?_
    exact w_iretI dX7_wish_10 rfl ⟨Fr.rf, (by exact Or.inr ⟨by omega, rfl⟩)⟩

set_option maxRecDepth 100000 in
set_option maxHeartbeats 4000000 in
theorem s_X7_shift (X : AX) (p : Int) (μ : Mu) (hC : CJ μ p) : Wp (GG X) M_X7_shift 0 [(2, 0), (9, 0), (9, 0), (9, 0), (9, 0), (9, 0), (9, 0)] [] μ (qI 0 fun z μ' => (Fr 6 19 1 0 μ' μ) ∧ ((μ p 14 = 0 ∧ z = -1000000) ∨ (¬ μ p 14 = 0 ∧ shR μ p z))) := by
  have hI := hC.i
  have hG := hC.pg
  have hp := hI.at
  have hz := hI.sz
  have hgr := hG.gr
  have hkn := hC.kn
  refine w_aload_n dX7_shift_0 rfl rfl (by first | decide | omega) ?_
  refine w_getDx (o := 0) (f := 7) (x := p) fX7_shift_1 rfl rfl rfl rfl hC.p7 ?_
  refine w_getIx (o := (p).toNat) (f := 14) (x := μ p 14) fX7_shift_4 (by omega) (pSh0 rfl rfl (by assumption)) (Nat.le_of_ble_eq_true rfl) rfl rfl ?_
  have hr1 := PG.gr hC.pg
  have hr2 := PG.gr hG
  refine w_if_ne (tgt := 13) dX7_shift_7 rfl (R32.in (by omega)) (fun c7 => ?_) (fun c7 => ?_)
  · skip
    refine w_iconst dX7_shift_13 ?_
    refine w_istore_n (ls' := [(2, 0), (0, 0), (9, 0), (9, 0), (9, 0), (9, 0), (9, 0)]) dX7_shift_14 rfl (Nat.le_of_ble_eq_true rfl) rfl rfl ?_
    refine w_ldc2 (n := 9223372036854775807) dX7_shift_15 k_871 (by decide) ?_
    refine w_lstore_n (ls' := [(2, 0), (0, 0), (1, 9223372036854775807), (9, 0), (9, 0), (9, 0), (9, 0)]) dX7_shift_18 rfl (Nat.le_of_ble_eq_true rfl) rfl rfl ?_
    refine w_iconst dX7_shift_19 ?_
    refine w_istore (ls' := [(2, 0), (0, 0), (1, 9223372036854775807), (9, 0), (0, 0), (9, 0), (9, 0)]) dX7_shift_20 (Nat.le_of_ble_eq_true rfl) rfl rfl ?_
    have hL22 : ∀ (n22 : Nat) (f : Int) (le : Int) (s : Int) (μ1 : Mu), (25 - s).toNat = n22 → Fr 6 19 1 0 μ1 μ → (0 ≤ s ∧ s ≤ 25) → (0 ≤ le ∧ le ≤ 9223372036854775807) → (shQ μ p s f le) → Wp (GG X) M_X7_shift 22 [(2, 0), (0, f), (1, le), (9, 0), (0, s), (9, 0), (9, 0)] [] μ1 (qI 0 fun z μ' => (Fr 6 19 1 0 μ' μ) ∧ ((μ p 14 = 0 ∧ z = -1000000) ∨ (¬ μ p 14 = 0 ∧ shR μ p z))) := by
      intro n22
      induction n22 using Nat.strongRecOn with
      | ind n22 ih22 =>
        intro f le s μ1 hn22 hF22 hs0 hler hw
        refine w_iload dX7_shift_22 rfl ?_
        refine w_bipush dX7_shift_24 (by decide) ?_
        refine w_icmp_gt (tgt := 98) dX7_shift_26 rfl (R32.in (by omega)) (R32.in (by decide)) (fun c26 => ?_) (fun c26 => ?_)
        · skip
          refine w_iload_n dX7_shift_98 rfl rfl ?_
          exact w_iretI dX7_shift_99 rfl ⟨hF22, (by have he : s = 25 := (by omega); subst he; exact Or.inr ⟨by omega, shQ_end hC hw⟩)⟩
        · skip
          refine w_aload_n dX7_shift_29 rfl rfl (by first | decide | omega) ?_
          refine w_iload dX7_shift_30 rfl ?_
          refine w_callSP (as := [(0, s)]) (rest := [(2, 0)]) (k := 0) fX7_shift_32 rfl rfl rfl rfl rfl (Nat.le_of_ble_eq_true rfl) (s_X7_outward X s μ1 (by first | omega | assumption)) ?_
          have hf3 := ow_f s (by omega)
          refine w_callVI (o := 0) (ci := 7) (as := [(0, ow s)]) (rest := []) (k := 1) fX7_shift_35 rfl rfl rfl rfl rfl rfl rfl rfl (Nat.le_of_ble_eq_true rfl) (s_X7_tryShifted X p (ow s) μ μ1 (fun o h1 => (hF22.at (by omega) (by omega))) hC (by first | omega | assumption)) (fun xS μS hμS => ?_)
          obtain ⟨hFS, hz_S, hq_S⟩ := hμS
          have hCS : CJ μS p := CJ.cg hC (fun o h1 => (hFS.at (by omega) (by omega)).trans (hF22.at (by omega) (by omega)))
          refine w_if_eq (tgt := 92) dX7_shift_38 rfl (R32.in (by omega)) (fun c38 => ?_) (fun c38 => ?_)
          · skip
            have hsb : ¬ shB μ p (ow s) = true := hz_S.elim (fun h => h.2) (fun h => by omega)
            have hw2 := shQ_no hw hsb
            refine w_iinc (ls' := [(2, 0), (0, f), (1, le), (9, 0), (0, s + 1), (9, 0), (9, 0)]) dX7_shift_92 rfl (Nat.le_of_ble_eq_true rfl) rfl rfl ?_
            refine w_goto (tgt := 22) dX7_shift_95 rfl ?_
            exact ih22 _ (by omega) f le (s + 1) μS rfl ((hFS.wd (by omega) (by omega)).tr hF22) (by first | omega | assumption) (by omega) hw2
          · skip
            have hs1 : xS = 1 := by omega
            have hsb : shB μ p (ow s) = true := hz_S.elim (fun h => by omega) (fun h => h.2)
            refine w_aload_n dX7_shift_41 rfl rfl (by first | decide | omega) ?_
            refine w_getR (o := 0) (x := 15) fX7_shift_42 rfl rfl rfl rfl ?_
            refine w_aload_n dX7_shift_45 rfl rfl (by first | decide | omega) ?_
            refine w_getDx (o := 0) (f := 7) (x := p) fX7_shift_46 rfl rfl rfl rfl ((congrFun (hFS.at (by omega) (by omega)) _).trans ((congrFun (hF22.at (by omega) (by omega)) _).trans hC.p7)) ?_
            refine w_aload_n dX7_shift_49 rfl rfl (by first | decide | omega) ?_
            refine w_getR (o := 0) (x := 19) fX7_shift_50 rfl rfl rfl rfl ?_
            refine w_aload_n dX7_shift_53 rfl rfl (by first | decide | omega) ?_
            refine w_getDx (o := 0) (f := 7) (x := p) fX7_shift_54 rfl rfl rfl rfl ((congrFun (hFS.at (by omega) (by omega)) _).trans ((congrFun (hF22.at (by omega) (by omega)) _).trans hC.p7)) ?_
            refine w_getIx (o := (p).toNat) (f := 3) (x := μ p 3) fX7_shift_57 (by omega) (pSh0 rfl rfl (by assumption)) (Nat.le_of_ble_eq_true rfl) rfl ((congrFun (hFS.at (by omega) (by omega)) _).trans (congrFun (hF22.at (by omega) (by omega)) _)) ?_
            have hr5 := hC.kn
            refine w_aload_n dX7_shift_60 rfl rfl (by first | decide | omega) ?_
            refine w_getR (o := 0) (x := 6) fX7_shift_61 rfl rfl rfl rfl ?_
            refine w_callVV (o := 15) (ci := 6) (as := [(2, p), (2, 19), (0, μ p 3), (2, 6)]) (rest := []) (k := 5) fX7_shift_64 rfl rfl rfl rfl rfl rfl rfl rfl (Nat.le_of_ble_eq_true rfl) (s_X6_take_t X p (μ p 3) μS μS (fun o h1 => rfl) (PI.cg hI (fun o h1 => ((hFS.at (by omega) (by omega)).trans (hF22.at (by omega) (by omega))))) (PG.cg hG (fun o h1 => ((hFS.at (by omega) (by omega)).trans (hF22.at (by omega) (by omega))))) (try_lda hC hCS (fun o h1 => (hFS.at (by omega) (by omega)).trans (hF22.at (by omega) (by omega))) hkn hsb (hq_S hs1))) (fun μT hμT => ?_)
            obtain ⟨hFT, h0_T, h1_T, h2_T, h3_T⟩ := hμT
            have hts := try_tst (t := ow s) hC (fun o h1 => (hFS.at (by omega) (by omega)).trans (hF22.at (by omega) (by omega))) (hq_S hs1)
            rw [hts] at h0_T h1_T
            have hwr := wor_r hC hsb
            have hwd : wor μ p (ow s) = (tst (ddS μ p (ow s)) (μ p 14)).2.1 * 4294967296 + (tst (ddS μ p (ow s)) (μ p 14)).1 := rfl
            refine w_aload_n dX7_shift_67 rfl rfl (by first | decide | omega) ?_
            refine w_getR (o := 0) (x := 15) fX7_shift_68 rfl rfl rfl rfl ?_
            refine w_callVP (o := 15) (ci := 6) (as := []) (rest := []) (k := 0) fX7_shift_71 rfl rfl rfl rfl rfl rfl rfl rfl (Nat.le_of_ble_eq_true rfl) (s_X6_asideThenUgliness X μT (by first | omega | assumption)) ?_
            refine Wp.topE (b := wor μ p (ow s)) (by rw [h0_T, h1_T]; rfl) ?_
            refine w_lstore (ls' := [(2, 0), (0, f), (1, le), (9, 0), (0, s), (1, wor μ p (ow s)), (9, 0)]) dX7_shift_74 (Nat.le_of_ble_eq_true rfl) rfl rfl ?_
            refine w_lload dX7_shift_76 rfl ?_
            refine w_lload_n dX7_shift_78 rfl rfl ?_
            refine w_lc_ge (tgt := 92) dX7_shift_79 dX7_shift_80 rfl (R64.in (by omega)) (R64.in (by omega)) (fun c80 => ?_) (fun c80 => ?_)
            · skip
              have hw2 := shQ_keep hw hs0.1 (by omega) (by omega)
              refine w_iinc (ls' := [(2, 0), (0, f), (1, le), (9, 0), (0, s + 1), (1, wor μ p (ow s)), (9, 0)]) dX7_shift_92 rfl (Nat.le_of_ble_eq_true rfl) rfl rfl ?_
              refine w_goto (tgt := 22) dX7_shift_95 rfl ?_
              refine Wp.fgl (ls' := [(2, 0), (0, f), (1, le), (9, 0), (0, s + 1), (9, 0), (9, 0)]) 5 rfl ?_
              exact ih22 _ (by omega) f le (s + 1) μT rfl ((hFT.wd (by omega) (by omega)).tr ((hFS.wd (by omega) (by omega)).tr hF22)) (by first | omega | assumption) (by omega) hw2
            · skip
              have hw2 := shQ_take hw hs0.1 hsb (by omega)
              refine w_lload dX7_shift_83 rfl ?_
              refine w_lstore_n (ls' := [(2, 0), (0, f), (1, wor μ p (ow s)), (9, 0), (0, s), (1, wor μ p (ow s)), (9, 0)]) dX7_shift_85 rfl (Nat.le_of_ble_eq_true rfl) rfl rfl ?_
              refine w_iload dX7_shift_86 rfl ?_
              refine w_callSP (as := [(0, s)]) (rest := []) (k := 0) fX7_shift_88 rfl rfl rfl rfl rfl (Nat.le_of_ble_eq_true rfl) (s_X7_outward X s μT (by first | omega | assumption)) ?_
              have hf7 := ow_f s (by omega)
              refine w_istore_n (ls' := [(2, 0), (0, ow s), (1, wor μ p (ow s)), (9, 0), (0, s), (1, wor μ p (ow s)), (9, 0)]) dX7_shift_91 rfl (Nat.le_of_ble_eq_true rfl) rfl rfl ?_
              refine w_iinc (ls' := [(2, 0), (0, ow s), (1, wor μ p (ow s)), (9, 0), (0, s + 1), (1, wor μ p (ow s)), (9, 0)]) dX7_shift_92 rfl (Nat.le_of_ble_eq_true rfl) rfl rfl ?_
              refine w_goto (tgt := 22) dX7_shift_95 rfl ?_
              refine Wp.fgl (ls' := [(2, 0), (0, ow s), (1, wor μ p (ow s)), (9, 0), (0, s + 1), (9, 0), (9, 0)]) 5 rfl ?_
              exact ih22 _ (by omega) (ow s) (wor μ p (ow s)) (s + 1) μT rfl ((hFT.wd (by omega) (by omega)).tr ((hFS.wd (by omega) (by omega)).tr hF22)) (by first | omega | assumption) (by omega) hw2
    exact hL22 _ 0 9223372036854775807 0 μ rfl Fr.rf (by first | omega | assumption) (by first | omega | assumption) shQ_0
  · skip
    refine w_ldc (n := -1000000) dX7_shift_10 k_704 (by decide) ?_
    exact w_iretI dX7_shift_12 rfl ⟨Fr.rf, (by exact Or.inl ⟨by omega, rfl⟩)⟩
