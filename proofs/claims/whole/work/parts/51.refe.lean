set_option maxRecDepth 100000 in
set_option maxHeartbeats 4000000 in
theorem s_X8_mostBeams (X : AX) (D : GDt) (f : Int) (g : Int) (μ : Mu) (hG : RGs D f g μ) : Wp (GG X) M_X8_mostBeams 0 [(2, 45), (0, g), (9, 0), (9, 0)] [] μ (pP 0 (mbD D (dN D)) μ) := by
  have hok := hG.ok
  have hn := hok.n
  have hfr := hG.r
  refine w_iconst dX8_mostBeams_0 ?_
  refine w_istore_n (ls' := [(2, 45), (0, g), (0, 0), (9, 0)]) dX8_mostBeams_1 rfl (Nat.le_of_ble_eq_true rfl) rfl rfl ?_
  refine w_iconst dX8_mostBeams_2 ?_
  refine w_istore_n (ls' := [(2, 45), (0, g), (0, 0), (0, 0)]) dX8_mostBeams_3 rfl (Nat.le_of_ble_eq_true rfl) rfl rfl ?_
  have hL4 : ∀ (n4 : Nat) (m : Int) (k : Int), (dN D - k).toNat = n4 → (0 ≤ k ∧ k ≤ dN D) → (0 ≤ m ∧ m ≤ 3) → (m = mbD D k) → Wp (GG X) M_X8_mostBeams 4 [(2, 45), (0, g), (0, m), (0, k)] [] μ (pP 0 (mbD D (dN D)) μ) := by
    intro n4
    induction n4 using Nat.strongRecOn with
    | ind n4 ih4 =>
      intro m k hn4 hk0 hmr hm
      refine w_iload_n dX8_mostBeams_4 rfl rfl ?_
      refine w_aload_n dX8_mostBeams_5 rfl rfl (by first | decide | omega) ?_
      refine w_getR (o := 45) (x := 55) fX8_mostBeams_6 rfl rfl rfl rfl ?_
      refine w_iload_n dX8_mostBeams_9 rfl rfl ?_
      refine w_ialdx (o := 55) (n := 33) (x := dN D) dX8_mostBeams_10 rfl rfl (Nat.le_of_ble_eq_true rfl) (by omega) hG.m ?_
      have hr1 := (hG.ok).n
      refine w_icmp_ge (tgt := 61) dX8_mostBeams_11 rfl (R32.in (by omega)) (R32.in (by omega)) (fun c11 => ?_) (fun c11 => ?_)
      · skip
        refine w_iload_n dX8_mostBeams_61 rfl rfl ?_
        exact w_iretP dX8_mostBeams_62 rfl (by have he : k = dN D := (by omega); subst he; exact hm)
      · skip
        refine w_aload_n dX8_mostBeams_14 rfl rfl (by first | decide | omega) ?_
        refine w_getR (o := 45) (x := 48) fX8_mostBeams_15 rfl rfl rfl rfl ?_
        refine w_aload_n dX8_mostBeams_18 rfl rfl (by first | decide | omega) ?_
        refine w_getR (o := 45) (x := 54) fX8_mostBeams_19 rfl rfl rfl rfl ?_
        refine w_iload_n dX8_mostBeams_22 rfl rfl ?_
        refine w_ialdx (o := 54) (n := 33) (x := f) dX8_mostBeams_23 rfl rfl (Nat.le_of_ble_eq_true rfl) (by omega) hG.fi ?_
        refine w_iload_n dX8_mostBeams_24 rfl rfl ?_
        refine w_iadd dX8_mostBeams_25 ?_
        refine w_ialdx (o := 48) (n := 64) (x := dB D k) dX8_mostBeams_26 rfl rfl (Nat.le_of_ble_eq_true rfl) (by omega) (hG.b (by omega)) ?_
        have hr2 := (hG.ok).br (i := k) (by omega)
        refine w_callSP (as := [(0, dB D k)]) (rest := []) (k := 0) fX8_mostBeams_27 rfl rfl rfl rfl rfl (Nat.le_of_ble_eq_true rfl) (s_X8_beamsOf X (dB D k) μ) ?_
        refine w_iload_n dX8_mostBeams_30 rfl rfl ?_
        refine w_icmp_le (tgt := 53) dX8_mostBeams_31 rfl (R32.in (by omega)) (R32.in (by omega)) (fun c31 => ?_) (fun c31 => ?_)
        · skip
          refine w_iload_n dX8_mostBeams_53 rfl rfl ?_
          refine w_istore_n (ls' := [(2, 45), (0, g), (0, m), (0, k)]) dX8_mostBeams_54 rfl (Nat.le_of_ble_eq_true rfl) rfl rfl ?_
          refine w_iinc (ls' := [(2, 45), (0, g), (0, m), (0, k + 1)]) dX8_mostBeams_55 rfl (Nat.le_of_ble_eq_true rfl) rfl rfl ?_
          refine w_goto (tgt := 4) dX8_mostBeams_58 rfl ?_
          exact ih4 _ (by omega) m (k + 1) rfl (by first | omega | assumption) (by omega) (by rw [mbD_s hk0.1, ← hm]; omega)
        · skip
          refine w_aload_n dX8_mostBeams_34 rfl rfl (by first | decide | omega) ?_
          refine w_getR (o := 45) (x := 48) fX8_mostBeams_35 rfl rfl rfl rfl ?_
          refine w_aload_n dX8_mostBeams_38 rfl rfl (by first | decide | omega) ?_
          refine w_getR (o := 45) (x := 54) fX8_mostBeams_39 rfl rfl rfl rfl ?_
          refine w_iload_n dX8_mostBeams_42 rfl rfl ?_
          refine w_ialdx (o := 54) (n := 33) (x := f) dX8_mostBeams_43 rfl rfl (Nat.le_of_ble_eq_true rfl) (by omega) hG.fi ?_
          refine w_iload_n dX8_mostBeams_44 rfl rfl ?_
          refine w_iadd dX8_mostBeams_45 ?_
          refine w_ialdx (o := 48) (n := 64) (x := dB D k) dX8_mostBeams_46 rfl rfl (Nat.le_of_ble_eq_true rfl) (by omega) (hG.b (by omega)) ?_
          refine w_callSP (as := [(0, dB D k)]) (rest := []) (k := 0) fX8_mostBeams_47 rfl rfl rfl rfl rfl (Nat.le_of_ble_eq_true rfl) (s_X8_beamsOf X (dB D k) μ) ?_
          refine w_goto (tgt := 54) dX8_mostBeams_50 rfl ?_
          refine w_istore_n (ls' := [(2, 45), (0, g), (0, (dB D k)), (0, k)]) dX8_mostBeams_54 rfl (Nat.le_of_ble_eq_true rfl) rfl rfl ?_
          refine w_iinc (ls' := [(2, 45), (0, g), (0, (dB D k)), (0, k + 1)]) dX8_mostBeams_55 rfl (Nat.le_of_ble_eq_true rfl) rfl rfl ?_
          refine w_goto (tgt := 4) dX8_mostBeams_58 rfl ?_
          exact ih4 _ (by omega) (dB D k) (k + 1) rfl (by first | omega | assumption) (by omega) (by rw [mbD_s hk0.1, ← hm]; omega)
  exact hL4 _ 0 0 rfl (by first | omega | assumption) (by omega) rfl

set_option maxRecDepth 100000 in
set_option maxHeartbeats 4000000 in
theorem s_X8_upMany (X : AX) (D : GDt) (f : Int) (g : Int) (μ : Mu) (hG : RGs D f g μ) : Wp (GG X) M_X8_upMany 0 [(2, 45), (0, g), (9, 0), (9, 0)] [] μ (qI 0 fun z μ' => (Fr 45 45 57 57 μ' μ) ∧ (z = upD D (dN D)) ∧ (∀ k : Int, ¬ k = 21 → μ' 45 k = μ 45 k)) := by
  have hok := hG.ok
  have hn := hok.n
  have hfr := hG.r
  refine w_aload_n dX8_upMany_0 rfl rfl (by first | decide | omega) ?_
  refine w_iload_n dX8_upMany_1 rfl rfl ?_
  refine w_callVV (o := 45) (ci := 8) (as := [(0, g)]) (rest := []) (k := 4) fX8_upMany_2 rfl rfl rfl rfl rfl rfl rfl rfl (Nat.le_of_ble_eq_true rfl) (s_X8_laysWays X D f g μ hG) (fun μW hμW => ?_)
  obtain ⟨hFW, hW_W, hf_W⟩ := hμW
  refine w_iconst dX8_upMany_5 ?_
  refine w_istore_n (ls' := [(2, 45), (0, g), (0, 0), (9, 0)]) dX8_upMany_6 rfl (Nat.le_of_ble_eq_true rfl) rfl rfl ?_
  refine w_iconst dX8_upMany_7 ?_
  refine w_istore_n (ls' := [(2, 45), (0, g), (0, 0), (0, 0)]) dX8_upMany_8 rfl (Nat.le_of_ble_eq_true rfl) rfl rfl ?_
  have hL9 : ∀ (n9 : Nat) (m : Int) (k : Int), (dN D - k).toNat = n9 → (0 ≤ k ∧ k ≤ dN D) → (m = upD D k) → Wp (GG X) M_X8_upMany 9 [(2, 45), (0, g), (0, m), (0, k)] [] μW (qI 0 fun z μ' => (Fr 45 45 57 57 μ' μ) ∧ (z = upD D (dN D)) ∧ (∀ k : Int, ¬ k = 21 → μ' 45 k = μ 45 k)) := by
    intro n9
    induction n9 using Nat.strongRecOn with
    | ind n9 ih9 =>
      intro m k hn9 hk0 hm
      have hur := upD_r D (i := k) hk0.1
      refine w_iload_n dX8_upMany_9 rfl rfl ?_
      refine w_aload_n dX8_upMany_10 rfl rfl (by first | decide | omega) ?_
      refine w_getR (o := 45) (x := 55) fX8_upMany_11 rfl rfl rfl rfl ?_
      refine w_iload_n dX8_upMany_14 rfl rfl ?_
      refine w_ialdx (o := 55) (n := 33) (x := dN D) dX8_upMany_15 rfl rfl (Nat.le_of_ble_eq_true rfl) (by omega) ((congrFun (hFW.at (by omega) (by omega)) _).trans hG.m) ?_
      have hr2 := (hG.ok).n
      refine w_icmp_ge (tgt := 49) dX8_upMany_16 rfl (R32.in (by omega)) (R32.in (by omega)) (fun c16 => ?_) (fun c16 => ?_)
      · skip
        refine w_iload_n dX8_upMany_49 rfl rfl ?_
        exact w_iretI dX8_upMany_50 rfl ⟨hFW, (by have he : k = dN D := (by omega); subst he; exact hm), (fun k h1 => (hf_W k (by omega)))⟩
      · skip
        refine w_iload_n dX8_upMany_19 rfl rfl ?_
        refine w_aload_n dX8_upMany_20 rfl rfl (by first | decide | omega) ?_
        refine w_getR (o := 45) (x := 57) fX8_upMany_21 rfl rfl rfl rfl ?_
        refine w_aload_n dX8_upMany_24 rfl rfl (by first | decide | omega) ?_
        refine w_getR (o := 45) (x := 54) fX8_upMany_25 rfl rfl rfl rfl ?_
        refine w_iload_n dX8_upMany_28 rfl rfl ?_
        refine w_ialdx (o := 54) (n := 33) (x := f) dX8_upMany_29 rfl rfl (Nat.le_of_ble_eq_true rfl) (by omega) ((congrFun (hFW.at (by omega) (by omega)) _).trans hG.fi) ?_
        refine w_iload_n dX8_upMany_30 rfl rfl ?_
        refine w_iadd dX8_upMany_31 ?_
        refine w_ialdx (o := 57) (n := 64) (x := way D k) dX8_upMany_32 rfl rfl (Nat.le_of_ble_eq_true rfl) (by omega) (hW_W.w (by omega)) ?_
        have hr3 := way_b D k
        refine w_if_le (tgt := 40) dX8_upMany_33 rfl (R32.in (by omega)) (fun c33 => ?_) (fun c33 => ?_)
        · skip
          refine w_iconst dX8_upMany_40 ?_
          refine w_iadd dX8_upMany_41 ?_
          refine w_istore_n (ls' := [(2, 45), (0, g), (0, m + 0), (0, k)]) dX8_upMany_42 rfl (Nat.le_of_ble_eq_true rfl) rfl rfl ?_
          refine w_iinc (ls' := [(2, 45), (0, g), (0, m + 0), (0, k + 1)]) dX8_upMany_43 rfl (Nat.le_of_ble_eq_true rfl) rfl rfl ?_
          refine w_goto (tgt := 9) dX8_upMany_46 rfl ?_
          exact ih9 _ (by omega) (m + 0) (k + 1) rfl (by first | omega | assumption) (by rw [upD_s hk0.1, ← hm]; omega)
        · skip
          refine w_iconst dX8_upMany_36 ?_
          refine w_goto (tgt := 41) dX8_upMany_37 rfl ?_
          refine w_iadd dX8_upMany_41 ?_
          refine w_istore_n (ls' := [(2, 45), (0, g), (0, m + 1), (0, k)]) dX8_upMany_42 rfl (Nat.le_of_ble_eq_true rfl) rfl rfl ?_
          refine w_iinc (ls' := [(2, 45), (0, g), (0, m + 1), (0, k + 1)]) dX8_upMany_43 rfl (Nat.le_of_ble_eq_true rfl) rfl rfl ?_
          refine w_goto (tgt := 9) dX8_upMany_46 rfl ?_
          exact ih9 _ (by omega) (m + 1) (k + 1) rfl (by first | omega | assumption) (by rw [upD_s hk0.1, ← hm]; omega)
  exact hL9 _ 0 0 rfl (by first | omega | assumption) rfl

set_option maxRecDepth 100000 in
set_option maxHeartbeats 4000000 in
theorem s_X8_isKneedNow (X : AX) (D : GDt) (f : Int) (g : Int) (μ : Mu) (hG : RGs D f g μ) : Wp (GG X) M_X8_isKneedNow 0 [(2, 45), (0, g)] [] μ (qI 0 fun z μ' => (Fr 45 45 57 57 μ' μ) ∧ (z = am_b (¬ klow D = 99)) ∧ (∀ k : Int, ¬ k = 21 → μ' 45 k = μ 45 k)) := by
  have hok := hG.ok
  have hn := hok.n
  have hfr := hG.r
  refine w_aload_n dX8_isKneedNow_0 rfl rfl (by first | decide | omega) ?_
  refine w_iload_n dX8_isKneedNow_1 rfl rfl ?_
  refine w_callVV (o := 45) (ci := 8) (as := [(0, g)]) (rest := []) (k := 4) fX8_isKneedNow_2 rfl rfl rfl rfl rfl rfl rfl rfl (Nat.le_of_ble_eq_true rfl) (s_X8_laysWays X D f g μ hG) (fun μW hμW => ?_)
  obtain ⟨hFW, hW_W, hf_W⟩ := hμW
  refine w_aload_n dX8_isKneedNow_5 rfl rfl (by first | decide | omega) ?_
  refine w_getIx (o := 45) (f := 21) (x := am_b (¬ klow D = 99)) fX8_isKneedNow_6 rfl rfl (Nat.le_of_ble_eq_true rfl) rfl hW_W.kn ?_
  exact w_zretI dX8_isKneedNow_9 rfl (am_b_01 _) ⟨hFW, (by rfl), (fun k h1 => (hf_W k (by omega)))⟩

set_option maxRecDepth 100000 in
set_option maxHeartbeats 4000000 in
theorem s_X8_allowedMany (X : AX) (D : GDt) (f : Int) (g : Int) (μ : Mu) (hG : RGs D f g μ) : Wp (GG X) M_X8_allowedMany 0 [(2, 45), (0, g)] [] μ (qI 0 fun z μ' => (Fr 45 45 57 61 μ' μ) ∧ (z = cnD D) ∧ (∀ k : Int, (¬ k = 21 ∧ ¬ k = 22 ∧ ¬ k = 23 ∧ ¬ k = 24 ∧ ¬ k = 29) → μ' 45 k = μ 45 k)) := by
  have hok := hG.ok
  have hn := hok.n
  have hfr := hG.r
  refine w_aload_n dX8_allowedMany_0 rfl rfl (by first | decide | omega) ?_
  refine w_iload_n dX8_allowedMany_1 rfl rfl ?_
  refine w_callVV (o := 45) (ci := 8) (as := [(0, g)]) (rest := []) (k := 2) fX8_allowedMany_2 rfl rfl rfl rfl rfl rfl rfl rfl (Nat.le_of_ble_eq_true rfl) (s_X8_laysSets X D f g μ hG) (fun μS hμS => ?_)
  obtain ⟨hFS, hS_S, hf_S⟩ := hμS
  refine w_aload_n dX8_allowedMany_5 rfl rfl (by first | decide | omega) ?_
  refine w_getIx (o := 45) (f := 29) (x := nS D) fX8_allowedMany_6 rfl rfl (Nat.le_of_ble_eq_true rfl) rfl hS_S.2.1.1 ?_
  have hr2 := hS_S.c
  exact w_iretI dX8_allowedMany_9 rfl ⟨hFS, (by exact nS_kl D), (fun k h1 => (hf_S k (by omega)))⟩

set_option maxRecDepth 100000 in
set_option maxHeartbeats 4000000 in
theorem s_X8_failsWith (X : AX) (t : Int) (μ : Mu) : Wp (GG X) M_X8_failsWith 0 [(2, 45), (0, t)] [] μ (qI 0 fun z μ' => (Fr 45 45 1 0 μ' μ) ∧ (z = 0) ∧ (μ' 45 0 = t) ∧ (∀ k : Int, ¬ k = 0 → μ' 45 k = μ 45 k)) := by
  refine w_aload_n dX8_failsWith_0 rfl rfl (by first | decide | omega) ?_
  refine w_iload_n dX8_failsWith_1 rfl rfl ?_
  refine w_putI (o := 45) (f := 0) fX8_failsWith_2 rfl rfl rfl rfl rfl ?_
  refine w_iconst dX8_failsWith_5 ?_
  exact w_iretI dX8_failsWith_6 rfl ⟨(Fr.rf.up (by omega)), (by rfl), (am_up_at.trans (by rfl)), (fun k h1 => (am_up_nk (by omega)))⟩

set_option maxRecDepth 100000 in
set_option maxHeartbeats 4000000 in
theorem s_X8_thrown (X : AX) (μ : Mu) : Wp (GG X) M_X8_thrown 0 [(2, 45)] [] μ (pP 0 (μ 45 0) μ) := by
  refine w_aload_n dX8_thrown_0 rfl rfl (by first | decide | omega) ?_
  refine w_getIx (o := 45) (f := 0) (x := μ 45 0) fX8_thrown_1 rfl rfl (Nat.le_of_ble_eq_true rfl) rfl rfl ?_
  exact w_iretP dX8_thrown_4 rfl (by rfl)

set_option maxRecDepth 100000 in
set_option maxHeartbeats 4000000 in
theorem s_X8_group (X : AX) (p : Int) (g : Int) (w : Int) (μ : Mu) (hC : CJ μ p) (hJ : RJ μ p) (hX : RX μ p) (hg : -2147483648 ≤ g ∧ g ≤ 2147483647) (hw : -2147483648 ≤ w ∧ w ≤ 2147483647) : Wp (GG X) M_X8_group 0 [(2, 45), (0, g), (0, w)] [] μ (qI 0 fun z μ' => (Fr 45 45 57 61 μ' μ) ∧ (μ' 45 0 = grT μ p g w) ∧ (grT μ p g w = 0 → z = grV (ddt μ p (p + 5) (μ p 3) g) (μ (p + 9) g) w) ∧ (RJ μ' p) ∧ (∀ k : Int, (¬ k = 0 ∧ ¬ (21 ≤ k ∧ k ≤ 24) ∧ ¬ (29 ≤ k ∧ k ≤ 33)) → μ' 45 k = μ 45 k)) := by
  have hI := hC.i
  have hG := hC.pg
  have hp := hI.at
  have hz := hI.sz
  have hgr := hG.gr
  have hkn := hC.kn
  have hRA := hJ.rag hC
  refine w_aload_n dX8_group_0 rfl rfl (by first | decide | omega) ?_
  refine w_iconst dX8_group_1 ?_
  refine w_putI (o := 45) (f := 0) fX8_group_2 rfl rfl rfl rfl rfl ?_
  have hF_μ4 : Fr 45 45 57 61 (am_up μ 45 0 0) μ := (Fr.rf.up (by omega))
  have hA4 : RAg (ddt μ p (p + 5) (μ p 3)) (μ (p + 9)) (μ p 14) (am_up μ 45 0 0) := (RAg.cg2 hRA (fun o h1 => (am_up_o (by omega))) (fun k h1 => (am_up_nk (by omega))))
  have hJ4 : RJ (am_up μ 45 0 0) p := (RJ.cg2 hJ (fun o h1 => (am_up_o (by omega))) (fun k h1 => (am_up_nk (by omega))))
  have hj4 : RJz (am_up μ 45 0 0) p := hJ4.j0
  have hC4 : CJ (am_up μ 45 0 0) p := (CJ.cg hC (fun o h1 => (am_up_o (by omega))))
  have h564 : ∀ j : Int, 0 ≤ j → j < μ p 7 → (am_up μ 45 0 0) 56 j = μ (p + 5) j := (fun j h1 h2 => ((congrFun (am_up_o (by omega)) _).trans (hJ.ht ⟨h1, h2⟩)))
  have hX4 : RX (am_up μ 45 0 0) p := (RX.cg2 hX (fun o h1 => (am_up_o (by omega))) (fun k h1 => (am_up_nk (by omega))))
  have h194 : (am_up μ 45 0 0) 45 19 = μ p 3 := (((am_up_nk (by omega)).trans hJ.f19).trans (by rfl))
  have hff4 : ∀ k : Int, ¬ k = 0 → (am_up μ 45 0 0) 45 k = μ 45 k := (fun k h1 => (am_up_nk (by omega)))
  have h04 : (am_up μ 45 0 0) 45 0 = 0 := (am_up_at.trans (by rfl))
  refine Wp.mu (fun μ4 hμ4 => ?_)
  rw [← hμ4] at hF_μ4 hA4 hJ4 hj4 hC4 h564 hX4 h194 hff4 h04
  clear hμ4
  have e4 : ∀ o : Int, p ≤ o ∧ o ≤ p + 10 → μ4 o = μ o := fun o h1 => hF_μ4.at (by omega) (by omega)
  have e47 : μ4 p 7 = μ p 7 := congrFun (e4 p (by omega)) _
  have e414 : μ4 p 14 = μ p 14 := congrFun (e4 p (by omega)) _
  refine w_aload_n dX8_group_5 rfl rfl (by first | decide | omega) ?_
  refine w_iload_n dX8_group_6 rfl rfl ?_
  refine w_callVP (o := 45) (ci := 8) (as := [(0, g)]) (rest := []) (k := 0) fX8_group_7 rfl rfl rfl rfl rfl rfl rfl rfl (Nat.le_of_ble_eq_true rfl) (s_X8_isGroup X p g μ4 hC4 hJ4 (by first | omega | assumption)) ?_
  have hf1 := am_b_r (0 ≤ g ∧ g < μ4 p 14)
  refine w_if_ne (tgt := 19) dX8_group_10 rfl (R32.in (by have := am_b_r ((0 ≤ g ∧ g < μ4 p 14)); omega)) (fun c10 => ?_) (fun c10 => ?_)
  · skip
    replace c10 := am_b1 c10
    refine w_iload_n dX8_group_19 rfl rfl ?_
    rcases (show (w < 0 ∨ 6 < w) ∨ w = 0 ∨ w = 1 ∨ w = 2 ∨ w = 3 ∨ w = 4 ∨ w = 5 ∨ w = 6 by omega) with q20 | q20 | q20 | q20 | q20 | q20 | q20 | q20
    · refine w_tableOut (tgt := 143) dX8_group_20 (R32.in (by omega)) q20 rfl ?_
      refine w_aload_n dX8_group_143 rfl rfl (by first | decide | omega) ?_
      refine w_iconst dX8_group_144 ?_
      refine w_callVI (o := 45) (ci := 8) (as := [(0, 2)]) (rest := []) (k := 0) fX8_group_145 rfl rfl rfl rfl rfl rfl rfl rfl (Nat.le_of_ble_eq_true rfl) (s_X8_failsWith X 2 μ4) (fun xE μE hμE => ?_)
      obtain ⟨hFE, hz_E, h0_E, hf_E⟩ := hμE
      exact w_iretI dX8_group_148 rfl ⟨((hFE.wd (by omega) (by omega)).tr hF_μ4), ((rfl : μE 45 0 = μE 45 0).trans (by unfold grT; omega)), (by intro h9; first | (exfalso; unfold grT at h9; omega) | (unfold grV; omega)), (RJ.cg2 hJ4 (fun o h1 => (hFE.at (by omega) (by omega))) (fun k h1 => (hf_E _ (by omega)))), (fun k h1 => ((hf_E k (by omega)).trans (hff4 k (by omega))))⟩
    · refine w_tableIn (off := 44) (tgt := 64) dX8_group_20 (R32.in (by omega)) (by omega) (by omega) (by rw [q20]; rfl) rfl ?_
      refine w_aload_n dX8_group_64 rfl rfl (by first | decide | omega) ?_
      refine w_getR (o := 45) (x := 54) fX8_group_65 rfl rfl rfl rfl ?_
      refine w_iload_n dX8_group_68 rfl rfl ?_
      refine w_ialdx (o := 54) (n := 33) (x := μ (p + 9) g) dX8_group_69 rfl rfl (Nat.le_of_ble_eq_true rfl) (by omega) ((congrFun (hF_μ4.at (by omega) (by omega)) _).trans (hJ.gf (by omega))) ?_
      have hr3 := PG.fl hG (g := g) (by omega)
      exact w_iretI dX8_group_70 rfl ⟨hF_μ4, ((rfl : μ4 45 0 = μ4 45 0).trans (by unfold grT; omega)), (by intro h9; first | (exfalso; unfold grT at h9; omega) | (unfold grV; omega)), hJ4, (fun k h1 => (hff4 k (by omega)))⟩
    · refine w_tableIn (off := 51) (tgt := 71) dX8_group_20 (R32.in (by omega)) (by omega) (by omega) (by rw [q20]; rfl) rfl ?_
      have hdn : dN (ddt μ p (p + 5) (μ p 3) g) = μ (p + 10) g := rfl
      refine w_aload_n dX8_group_71 rfl rfl (by first | decide | omega) ?_
      refine w_getR (o := 45) (x := 55) fX8_group_72 rfl rfl rfl rfl ?_
      refine w_iload_n dX8_group_75 rfl rfl ?_
      refine w_ialdx (o := 55) (n := 33) (x := μ (p + 10) g) dX8_group_76 rfl rfl (Nat.le_of_ble_eq_true rfl) (by omega) ((congrFun (hF_μ4.at (by omega) (by omega)) _).trans (hJ.gm (by omega))) ?_
      have hr4 := PG.fl hG (g := g) (by omega)
      exact w_iretI dX8_group_77 rfl ⟨hF_μ4, ((rfl : μ4 45 0 = μ4 45 0).trans (by unfold grT; omega)), (by intro h9; first | (exfalso; unfold grT at h9; omega) | (unfold grV; omega)), hJ4, (fun k h1 => (hff4 k (by omega)))⟩
    · refine w_tableIn (off := 58) (tgt := 78) dX8_group_20 (R32.in (by omega)) (by omega) (by omega) (by rw [q20]; rfl) rfl ?_
      refine w_aload_n dX8_group_78 rfl rfl (by first | decide | omega) ?_
      refine w_iload_n dX8_group_79 rfl rfl ?_
      refine w_callVI (o := 45) (ci := 8) (as := [(0, g)]) (rest := []) (k := 0) fX8_group_80 rfl rfl rfl rfl rfl rfl rfl rfl (Nat.le_of_ble_eq_true rfl) (s_X8_isKneedNow X (ddt μ p (p + 5) (μ p 3) g) (μ (p + 9) g) g μ4 (hA4.gp (by omega))) (fun xK μK hμK => ?_)
      obtain ⟨hFK, hz_K, hf_K⟩ := hμK
      have hk01 := am_b_01 (¬ klow (ddt μ p (p + 5) (μ p 3) g) = 99)
      refine w_if_eq (tgt := 90) dX8_group_83 rfl (R32.in (by omega)) (fun c83 => ?_) (fun c83 => ?_)
      · skip
        refine w_iconst dX8_group_90 ?_
        exact w_iretI dX8_group_91 rfl ⟨((hFK.wd (by omega) (by omega)).tr hF_μ4), ((hf_K _ (by omega)).trans (by unfold grT; omega)), (by intro h9; first | (exfalso; unfold grT at h9; omega) | (unfold grV; omega)), (RJ.cg2 hJ4 (fun o h1 => (hFK.at (by omega) (by omega))) (fun k h1 => (hf_K _ (by omega)))), (fun k h1 => ((hf_K k (by omega)).trans (hff4 k (by omega))))⟩
      · skip
        refine w_iconst dX8_group_86 ?_
        refine w_goto (tgt := 91) dX8_group_87 rfl ?_
        exact w_iretI dX8_group_91 rfl ⟨((hFK.wd (by omega) (by omega)).tr hF_μ4), ((hf_K _ (by omega)).trans (by unfold grT; omega)), (by intro h9; first | (exfalso; unfold grT at h9; omega) | (unfold grV; omega)), (RJ.cg2 hJ4 (fun o h1 => (hFK.at (by omega) (by omega))) (fun k h1 => (hf_K _ (by omega)))), (fun k h1 => ((hf_K k (by omega)).trans (hff4 k (by omega))))⟩
    · refine w_tableIn (off := 72) (tgt := 92) dX8_group_20 (R32.in (by omega)) (by omega) (by omega) (by rw [q20]; rfl) rfl ?_
      have hfl := hG.fl (g := g) (by omega)
      have hsp9 : spn (ddt μ p (p + 5) (μ p 3) g) = μ (p + 7) ((μ (p + 9) g) + μ (p + 10) g - 1) - μ (p + 7) (μ (p + 9) g) := by have h := gdt_x (μ := μ) (p := p) (q := p + 5) (f := (μ (p + 9) g)) (m := μ (p + 10) g) (kn := μ p 3) (i := μ (p + 10) g - 1) (by omega); rw [show (μ (p + 9) g) + (μ (p + 10) g - 1) = (μ (p + 9) g) + μ (p + 10) g - 1 by omega] at h; exact h
      refine w_aload_n dX8_group_92 rfl rfl (by first | decide | omega) ?_
      refine w_getR (o := 45) (x := 52) fX8_group_93 rfl rfl rfl rfl ?_
      refine w_aload_n dX8_group_96 rfl rfl (by first | decide | omega) ?_
      refine w_getR (o := 45) (x := 54) fX8_group_97 rfl rfl rfl rfl ?_
      refine w_iload_n dX8_group_100 rfl rfl ?_
      refine w_ialdx (o := 54) (n := 33) (x := μ (p + 9) g) dX8_group_101 rfl rfl (Nat.le_of_ble_eq_true rfl) (by omega) ((congrFun (hF_μ4.at (by omega) (by omega)) _).trans (hJ.gf (by omega))) ?_
      have hr6 := PG.fl hG (g := g) (by omega)
      refine w_aload_n dX8_group_102 rfl rfl (by first | decide | omega) ?_
      refine w_getR (o := 45) (x := 55) fX8_group_103 rfl rfl rfl rfl ?_
      refine w_iload_n dX8_group_106 rfl rfl ?_
      refine w_ialdx (o := 55) (n := 33) (x := μ (p + 10) g) dX8_group_107 rfl rfl (Nat.le_of_ble_eq_true rfl) (by omega) ((congrFun (hF_μ4.at (by omega) (by omega)) _).trans (hJ.gm (by omega))) ?_
      refine w_iadd dX8_group_108 ?_
      refine w_iconst dX8_group_109 ?_
      refine w_isub dX8_group_110 ?_
      refine w_ialdx (o := 52) (n := 64) (x := μ (p + 7) (((μ (p + 9) g) + (μ (p + 10) g)) - 1)) dX8_group_111 rfl rfl (Nat.le_of_ble_eq_true rfl) (by omega) ((congrFun (hF_μ4.at (by omega) (by omega)) _).trans (hJ.xs (by omega))) ?_
      have hr7 := PI.xs hI (q := p + 7) (i := (((μ (p + 9) g) + (μ (p + 10) g)) - 1)) rfl (by omega)
      refine w_aload_n dX8_group_112 rfl rfl (by first | decide | omega) ?_
      refine w_getR (o := 45) (x := 52) fX8_group_113 rfl rfl rfl rfl ?_
      refine w_aload_n dX8_group_116 rfl rfl (by first | decide | omega) ?_
      refine w_getR (o := 45) (x := 54) fX8_group_117 rfl rfl rfl rfl ?_
      refine w_iload_n dX8_group_120 rfl rfl ?_
      refine w_ialdx (o := 54) (n := 33) (x := μ (p + 9) g) dX8_group_121 rfl rfl (Nat.le_of_ble_eq_true rfl) (by omega) ((congrFun (hF_μ4.at (by omega) (by omega)) _).trans (hJ.gf (by omega))) ?_
      refine w_ialdx (o := 52) (n := 64) (x := μ (p + 7) (μ (p + 9) g)) dX8_group_122 rfl rfl (Nat.le_of_ble_eq_true rfl) (by omega) ((congrFun (hF_μ4.at (by omega) (by omega)) _).trans (hJ.xs (by omega))) ?_
      have hr8 := PI.xs hI (q := p + 7) (i := (μ (p + 9) g)) rfl (by omega)
      refine w_isub dX8_group_123 ?_
      exact w_iretI dX8_group_124 rfl ⟨hF_μ4, ((rfl : μ4 45 0 = μ4 45 0).trans (by unfold grT; omega)), (by intro h9; first | (exfalso; unfold grT at h9; omega) | (unfold grV; omega)), hJ4, (fun k h1 => (hff4 k (by omega)))⟩
    · refine w_tableIn (off := 105) (tgt := 125) dX8_group_20 (R32.in (by omega)) (by omega) (by omega) (by rw [q20]; rfl) rfl ?_
      refine w_aload_n dX8_group_125 rfl rfl (by first | decide | omega) ?_
      refine w_iload_n dX8_group_126 rfl rfl ?_
      refine w_callVP (o := 45) (ci := 8) (as := [(0, g)]) (rest := []) (k := 2) fX8_group_127 rfl rfl rfl rfl rfl rfl rfl rfl (Nat.le_of_ble_eq_true rfl) (s_X8_mostBeams X (ddt μ p (p + 5) (μ p 3) g) (μ (p + 9) g) g μ4 (hA4.gp (by omega))) ?_
      exact w_iretI dX8_group_130 rfl ⟨hF_μ4, ((rfl : μ4 45 0 = μ4 45 0).trans (by unfold grT; omega)), (by intro h9; first | (exfalso; unfold grT at h9; omega) | (unfold grV; omega)), hJ4, (fun k h1 => (hff4 k (by omega)))⟩
    · refine w_tableIn (off := 111) (tgt := 131) dX8_group_20 (R32.in (by omega)) (by omega) (by omega) (by rw [q20]; rfl) rfl ?_
      refine w_aload_n dX8_group_131 rfl rfl (by first | decide | omega) ?_
      refine w_iload_n dX8_group_132 rfl rfl ?_
      refine w_callVI (o := 45) (ci := 8) (as := [(0, g)]) (rest := []) (k := 0) fX8_group_133 rfl rfl rfl rfl rfl rfl rfl rfl (Nat.le_of_ble_eq_true rfl) (s_X8_allowedMany X (ddt μ p (p + 5) (μ p 3) g) (μ (p + 9) g) g μ4 (hA4.gp (by omega))) (fun xA μA hμA => ?_)
      obtain ⟨hFA, hz_A, hf_A⟩ := hμA
      exact w_iretI dX8_group_136 rfl ⟨((hFA.wd (by omega) (by omega)).tr hF_μ4), ((hf_A _ (by omega)).trans (by unfold grT; omega)), (by intro h9; first | (exfalso; unfold grT at h9; omega) | (unfold grV; omega)), (RJ.cg2 hJ4 (fun o h1 => (hFA.at (by omega) (by omega))) (fun k h1 => (hf_A _ (by omega)))), (fun k h1 => ((hf_A k (by omega)).trans (hff4 k (by omega))))⟩
    · refine w_tableIn (off := 117) (tgt := 137) dX8_group_20 (R32.in (by omega)) (by omega) (by omega) (by rw [q20]; rfl) rfl ?_
      refine w_aload_n dX8_group_137 rfl rfl (by first | decide | omega) ?_
      refine w_iload_n dX8_group_138 rfl rfl ?_
      refine w_callVI (o := 45) (ci := 8) (as := [(0, g)]) (rest := []) (k := 2) fX8_group_139 rfl rfl rfl rfl rfl rfl rfl rfl (Nat.le_of_ble_eq_true rfl) (s_X8_upMany X (ddt μ p (p + 5) (μ p 3) g) (μ (p + 9) g) g μ4 (hA4.gp (by omega))) (fun xU μU hμU => ?_)
      obtain ⟨hFU, hz_U, hf_U⟩ := hμU
      exact w_iretI dX8_group_142 rfl ⟨((hFU.wd (by omega) (by omega)).tr hF_μ4), ((hf_U _ (by omega)).trans (by unfold grT; omega)), (by intro h9; first | (exfalso; unfold grT at h9; omega) | (unfold grV; omega)), (RJ.cg2 hJ4 (fun o h1 => (hFU.at (by omega) (by omega))) (fun k h1 => (hf_U _ (by omega)))), (fun k h1 => ((hf_U k (by omega)).trans (hff4 k (by omega))))⟩
  · skip
    replace c10 := am_b0 c10
    refine w_aload_n dX8_group_13 rfl rfl (by first | decide | omega) ?_
    refine w_iconst dX8_group_14 ?_
    refine w_callVI (o := 45) (ci := 8) (as := [(0, 1)]) (rest := []) (k := 0) fX8_group_15 rfl rfl rfl rfl rfl rfl rfl rfl (Nat.le_of_ble_eq_true rfl) (s_X8_failsWith X 1 μ4) (fun xE μE hμE => ?_)
    obtain ⟨hFE, hz_E, h0_E, hf_E⟩ := hμE
    exact w_iretI dX8_group_18 rfl ⟨((hFE.wd (by omega) (by omega)).tr hF_μ4), ((rfl : μE 45 0 = μE 45 0).trans (by unfold grT; omega)), (by intro h9; first | (exfalso; unfold grT at h9; omega) | (unfold grV; omega)), (RJ.cg2 hJ4 (fun o h1 => (hFE.at (by omega) (by omega))) (fun k h1 => (hf_E _ (by omega)))), (fun k h1 => ((hf_E k (by omega)).trans (hff4 k (by omega))))⟩

set_option maxRecDepth 100000 in
set_option maxHeartbeats 4000000 in
theorem s_X8_element (X : AX) (p : Int) (i : Int) (w : Int) (μ : Mu) (hC : CJ μ p) (hJ : RJ μ p) (hX : RX μ p) (hi : -2147483648 ≤ i ∧ i ≤ 2147483647) (hw : -2147483648 ≤ w ∧ w ≤ 2147483647) : Wp (GG X) M_X8_element 0 [(2, 45), (0, i), (0, w)] [] μ (qI 0 fun z μ' => (Fr 45 45 57 61 μ' μ) ∧ (μ' 45 0 = elT μ p i w) ∧ (elT μ p i w = 0 → z = elV μ p i w) ∧ (RJ μ' p) ∧ (∀ k : Int, (¬ k = 0 ∧ ¬ (21 ≤ k ∧ k ≤ 24) ∧ ¬ (29 ≤ k ∧ k ≤ 33)) → μ' 45 k = μ 45 k)) := by
  have hI := hC.i
  have hG := hC.pg
  have hp := hI.at
  have hz := hI.sz
  have hgr := hG.gr
  have hkn := hC.kn
  have hRA := hJ.rag hC
  refine w_aload_n dX8_element_0 rfl rfl (by first | decide | omega) ?_
  refine w_iconst dX8_element_1 ?_
  refine w_putI (o := 45) (f := 0) fX8_element_2 rfl rfl rfl rfl rfl ?_
  have hF_μ4 : Fr 45 45 57 61 (am_up μ 45 0 0) μ := (Fr.rf.up (by omega))
  have hA4 : RAg (ddt μ p (p + 5) (μ p 3)) (μ (p + 9)) (μ p 14) (am_up μ 45 0 0) := (RAg.cg2 hRA (fun o h1 => (am_up_o (by omega))) (fun k h1 => (am_up_nk (by omega))))
  have hJ4 : RJ (am_up μ 45 0 0) p := (RJ.cg2 hJ (fun o h1 => (am_up_o (by omega))) (fun k h1 => (am_up_nk (by omega))))
  have hj4 : RJz (am_up μ 45 0 0) p := hJ4.j0
  have hC4 : CJ (am_up μ 45 0 0) p := (CJ.cg hC (fun o h1 => (am_up_o (by omega))))
  have h564 : ∀ j : Int, 0 ≤ j → j < μ p 7 → (am_up μ 45 0 0) 56 j = μ (p + 5) j := (fun j h1 h2 => ((congrFun (am_up_o (by omega)) _).trans (hJ.ht ⟨h1, h2⟩)))
  have hX4 : RX (am_up μ 45 0 0) p := (RX.cg2 hX (fun o h1 => (am_up_o (by omega))) (fun k h1 => (am_up_nk (by omega))))
  have h194 : (am_up μ 45 0 0) 45 19 = μ p 3 := (((am_up_nk (by omega)).trans hJ.f19).trans (by rfl))
  have hff4 : ∀ k : Int, ¬ k = 0 → (am_up μ 45 0 0) 45 k = μ 45 k := (fun k h1 => (am_up_nk (by omega)))
  have h04 : (am_up μ 45 0 0) 45 0 = 0 := (am_up_at.trans (by rfl))
  refine Wp.mu (fun μ4 hμ4 => ?_)
  rw [← hμ4] at hF_μ4 hA4 hJ4 hj4 hC4 h564 hX4 h194 hff4 h04
  clear hμ4
  have e4 : ∀ o : Int, p ≤ o ∧ o ≤ p + 10 → μ4 o = μ o := fun o h1 => hF_μ4.at (by omega) (by omega)
  have e47 : μ4 p 7 = μ p 7 := congrFun (e4 p (by omega)) _
  have e414 : μ4 p 14 = μ p 14 := congrFun (e4 p (by omega)) _
  have e48 : μ4 (p + 8) i = μ (p + 8) i := congrFun (e4 (p + 8) (by omega)) _
  have e44 : μ4 (p + 4) i = μ (p + 4) i := congrFun (e4 (p + 4) (by omega)) _
  refine w_aload_n dX8_element_5 rfl rfl (by first | decide | omega) ?_
  refine w_iload_n dX8_element_6 rfl rfl ?_
  refine w_callVP (o := 45) (ci := 8) (as := [(0, i)]) (rest := []) (k := 0) fX8_element_7 rfl rfl rfl rfl rfl rfl rfl rfl (Nat.le_of_ble_eq_true rfl) (s_X8_isElement X p i μ4 hC4 hJ4 (by first | omega | assumption)) ?_
  have hf1 := am_b_r (0 ≤ i ∧ i < μ4 p 7)
  refine w_if_ne (tgt := 19) dX8_element_10 rfl (R32.in (by have := am_b_r ((0 ≤ i ∧ i < μ4 p 7)); omega)) (fun c10 => ?_) (fun c10 => ?_)
  · skip
    replace c10 := am_b1 c10
    have htw := twn_r μ p i hI
    refine w_iload_n dX8_element_19 rfl rfl ?_
    rcases (show (w < 0 ∨ 7 < w) ∨ w = 0 ∨ w = 1 ∨ w = 2 ∨ w = 3 ∨ w = 4 ∨ w = 5 ∨ w = 6 ∨ w = 7 by omega) with q20 | q20 | q20 | q20 | q20 | q20 | q20 | q20 | q20
    · refine w_tableOut (tgt := 169) dX8_element_20 (R32.in (by omega)) q20 rfl ?_
      refine w_aload_n dX8_element_169 rfl rfl (by first | decide | omega) ?_
      refine w_iconst dX8_element_170 ?_
      refine w_callVI (o := 45) (ci := 8) (as := [(0, 2)]) (rest := []) (k := 0) fX8_element_171 rfl rfl rfl rfl rfl rfl rfl rfl (Nat.le_of_ble_eq_true rfl) (s_X8_failsWith X 2 μ4) (fun xE μE hμE => ?_)
      obtain ⟨hFE, hz_E, h0_E, hf_E⟩ := hμE
      exact w_iretI dX8_element_174 rfl ⟨((hFE.wd (by omega) (by omega)).tr hF_μ4), ((rfl : μE 45 0 = μE 45 0).trans (by unfold elT; omega)), (by intro h9; first | (exfalso; unfold elT at h9; omega) | (subst q20; rfl) | (subst q20; exact elV_6 _) | (unfold elV; unfold bmz; omega)), (RJ.cg2 hJ4 (fun o h1 => (hFE.at (by omega) (by omega))) (fun k h1 => (hf_E _ (by omega)))), (fun k h1 => ((hf_E k (by omega)).trans (hff4 k (by omega))))⟩
    · refine w_tableIn (off := 48) (tgt := 68) dX8_element_20 (R32.in (by omega)) (by omega) (by omega) (by rw [q20]; rfl) rfl ?_
      refine w_iconst dX8_element_68 ?_
      refine w_aload_n dX8_element_69 rfl rfl (by first | decide | omega) ?_
      refine w_getR (o := 45) (x := 48) fX8_element_70 rfl rfl rfl rfl ?_
      refine w_iload_n dX8_element_73 rfl rfl ?_
      refine w_ialdx (o := 48) (n := 64) (x := bok (μ (p + 3) i)) dX8_element_74 rfl rfl (Nat.le_of_ble_eq_true rfl) (by omega) ((congrFun (hF_μ4.at (by omega) (by omega)) _).trans (hJ.kd (by omega))) ?_
      have hr3 := bok_f (μ (p + 3) i)
      refine w_ishl dX8_element_75 ?_
      refine Wp.topE (b := μ (p + 3) i) (knd_sh _ (hI.kd rfl (by omega))) ?_
      exact w_iretI dX8_element_76 rfl ⟨hF_μ4, ((rfl : μ4 45 0 = μ4 45 0).trans (by unfold elT; omega)), (by intro h9; first | (exfalso; unfold elT at h9; omega) | (subst q20; rfl) | (subst q20; exact elV_6 _) | (unfold elV; unfold bmz; omega)), hJ4, (fun k h1 => (hff4 k (by omega)))⟩
    · refine w_tableIn (off := 57) (tgt := 77) dX8_element_20 (R32.in (by omega)) (by omega) (by omega) (by rw [q20]; rfl) rfl ?_
      refine w_aload_n dX8_element_77 rfl rfl (by first | decide | omega) ?_
      refine w_getR (o := 45) (x := 49) fX8_element_78 rfl rfl rfl rfl ?_
      refine w_iload_n dX8_element_81 rfl rfl ?_
      refine w_zaldx (o := 49) (n := 64) (x := μ (p + 4) i) dX8_element_82 rfl rfl (Nat.le_of_ble_eq_true rfl) (by omega) ((congrFun (hF_μ4.at (by omega) (by omega)) _).trans (hJ.nt (by omega))) ?_
      have hr4 := PI.so hI (q := p + 4) (i := i) rfl (by omega)
      refine w_if_eq (tgt := 90) dX8_element_83 rfl (R32.in (by omega)) (fun c83 => ?_) (fun c83 => ?_)
      · skip
        refine w_iconst dX8_element_90 ?_
        exact w_iretI dX8_element_91 rfl ⟨hF_μ4, ((rfl : μ4 45 0 = μ4 45 0).trans (by unfold elT; omega)), (by intro h9; first | (exfalso; unfold elT at h9; omega) | (subst q20; rfl) | (subst q20; exact elV_6 _) | (unfold elV; unfold bmz; omega)), hJ4, (fun k h1 => (hff4 k (by omega)))⟩
      · skip
        refine w_iconst dX8_element_86 ?_
        refine w_goto (tgt := 91) dX8_element_87 rfl ?_
        exact w_iretI dX8_element_91 rfl ⟨hF_μ4, ((rfl : μ4 45 0 = μ4 45 0).trans (by unfold elT; omega)), (by intro h9; first | (exfalso; unfold elT at h9; omega) | (subst q20; rfl) | (subst q20; exact elV_6 _) | (unfold elV; unfold bmz; omega)), hJ4, (fun k h1 => (hff4 k (by omega)))⟩
    · refine w_tableIn (off := 72) (tgt := 92) dX8_element_20 (R32.in (by omega)) (by omega) (by omega) (by rw [q20]; rfl) rfl ?_
      refine w_aload_n dX8_element_92 rfl rfl (by first | decide | omega) ?_
      refine w_getR (o := 45) (x := 51) fX8_element_93 rfl rfl rfl rfl ?_
      refine w_iload_n dX8_element_96 rfl rfl ?_
      refine w_ialdx (o := 51) (n := 64) (x := μ (p + 6) i) dX8_element_97 rfl rfl (Nat.le_of_ble_eq_true rfl) (by omega) ((congrFun (hF_μ4.at (by omega) (by omega)) _).trans (hJ.tm (by omega))) ?_
      have hr5 := PI.tm hI (q := p + 6) (i := i) rfl (by omega)
      refine w_aload_n dX8_element_98 rfl rfl (by first | decide | omega) ?_
      refine w_callVP (o := 45) (ci := 8) (as := []) (rest := [(0, μ (p + 6) i)]) (k := 0) fX8_element_99 rfl rfl rfl rfl rfl rfl rfl rfl (Nat.le_of_ble_eq_true rfl) (s_X8_measure X p μ4 hC4 hJ4) ?_
      have hf6 := mlg_r μ4 p (by first | exact hI | exact hC4.i)
      refine Wp.topE (b := mlg μ p) (mlg_cg e4) ?_
      refine w_iremP dX8_element_102 (by omega) ?_
      exact w_iretI dX8_element_103 rfl ⟨hF_μ4, ((rfl : μ4 45 0 = μ4 45 0).trans (by unfold elT; omega)), (by intro h9; first | (exfalso; unfold elT at h9; omega) | (subst q20; rfl) | (subst q20; exact elV_6 _) | (unfold elV; unfold bmz; omega)), hJ4, (fun k h1 => (hff4 k (by omega)))⟩
    · refine w_tableIn (off := 84) (tgt := 104) dX8_element_20 (R32.in (by omega)) (by omega) (by omega) (by rw [q20]; rfl) rfl ?_
      refine w_aload_n dX8_element_104 rfl rfl (by first | decide | omega) ?_
      refine w_getR (o := 45) (x := 51) fX8_element_105 rfl rfl rfl rfl ?_
      refine w_iload_n dX8_element_108 rfl rfl ?_
      refine w_ialdx (o := 51) (n := 64) (x := μ (p + 6) i) dX8_element_109 rfl rfl (Nat.le_of_ble_eq_true rfl) (by omega) ((congrFun (hF_μ4.at (by omega) (by omega)) _).trans (hJ.tm (by omega))) ?_
      have hr7 := PI.tm hI (q := p + 6) (i := i) rfl (by omega)
      refine w_aload_n dX8_element_110 rfl rfl (by first | decide | omega) ?_
      refine w_callVP (o := 45) (ci := 8) (as := []) (rest := [(0, μ (p + 6) i)]) (k := 0) fX8_element_111 rfl rfl rfl rfl rfl rfl rfl rfl (Nat.le_of_ble_eq_true rfl) (s_X8_measure X p μ4 hC4 hJ4) ?_
      have hf8 := mlg_r μ4 p (by first | exact hI | exact hC4.i)
      refine Wp.topE (b := mlg μ p) (mlg_cg e4) ?_
      refine w_idivP dX8_element_114 (by omega) ?_
      exact w_iretI dX8_element_115 rfl ⟨hF_μ4, ((rfl : μ4 45 0 = μ4 45 0).trans (by unfold elT; omega)), (by intro h9; first | (exfalso; unfold elT at h9; omega) | (subst q20; rfl) | (subst q20; exact elV_6 _) | (unfold elV; unfold bmz; omega)), hJ4, (fun k h1 => (hff4 k (by omega)))⟩
    · refine w_tableIn (off := 96) (tgt := 116) dX8_element_20 (R32.in (by omega)) (by omega) (by omega) (by rw [q20]; rfl) rfl ?_
      refine w_aload_n dX8_element_116 rfl rfl (by first | decide | omega) ?_
      refine w_aload_n dX8_element_117 rfl rfl (by first | decide | omega) ?_
      refine w_getR (o := 45) (x := 51) fX8_element_118 rfl rfl rfl rfl ?_
      refine w_iload_n dX8_element_121 rfl rfl ?_
      refine w_ialdx (o := 51) (n := 64) (x := μ (p + 6) i) dX8_element_122 rfl rfl (Nat.le_of_ble_eq_true rfl) (by omega) ((congrFun (hF_μ4.at (by omega) (by omega)) _).trans (hJ.tm (by omega))) ?_
      have hr9 := PI.tm hI (q := p + 6) (i := i) rfl (by omega)
      refine w_aload_n dX8_element_123 rfl rfl (by first | decide | omega) ?_
      refine w_callVP (o := 45) (ci := 8) (as := []) (rest := [(0, μ (p + 6) i), (2, 45)]) (k := 0) fX8_element_124 rfl rfl rfl rfl rfl rfl rfl rfl (Nat.le_of_ble_eq_true rfl) (s_X8_measure X p μ4 hC4 hJ4) ?_
      have hf10 := mlg_r μ4 p (by first | exact hI | exact hC4.i)
      refine Wp.topE (b := mlg μ p) (mlg_cg e4) ?_
      refine w_iremP dX8_element_127 (by omega) ?_
      refine Wp.topE (b := twn μ p i) rfl ?_
      refine w_callVP (o := 45) (ci := 8) (as := [(0, twn μ p i)]) (rest := []) (k := 2) fX8_element_128 rfl rfl rfl rfl rfl rfl rfl rfl (Nat.le_of_ble_eq_true rfl) (s_X8_partAt X p (twn μ p i) μ4 hC4 hJ4 hX4 (by rw [mlg_cg e4]; exact ⟨htw.1, htw.2.1⟩)) ?_
      have hf11 := pIn_r (pt := μ4 (p + 1)) (c := μ4 p 4) (b := (twn μ p i) / blg (μ4 p 2)) _ 0 (μ4 (p + 1) 0) rfl
      refine Wp.topE (b := pof μ p i 0) (by unfold pof; rw [if_neg (by omega), e4 p (by omega), e4 (p + 1) (by omega)]) ?_
      exact w_iretI dX8_element_131 rfl ⟨hF_μ4, ((rfl : μ4 45 0 = μ4 45 0).trans (by unfold elT; omega)), (by intro h9; first | (exfalso; unfold elT at h9; omega) | (subst q20; rfl) | (subst q20; exact elV_6 _) | (unfold elV; unfold bmz; omega)), hJ4, (fun k h1 => (hff4 k (by omega)))⟩
    · refine w_tableIn (off := 112) (tgt := 132) dX8_element_20 (R32.in (by omega)) (by omega) (by omega) (by rw [q20]; rfl) rfl ?_
      refine w_aload_n dX8_element_132 rfl rfl (by first | decide | omega) ?_
      refine w_getR (o := 45) (x := 52) fX8_element_133 rfl rfl rfl rfl ?_
      refine w_iload_n dX8_element_136 rfl rfl ?_
      refine w_ialdx (o := 52) (n := 64) (x := μ (p + 7) i) dX8_element_137 rfl rfl (Nat.le_of_ble_eq_true rfl) (by omega) ((congrFun (hF_μ4.at (by omega) (by omega)) _).trans (hJ.xs (by omega))) ?_
      have hr12 := PI.xs hI (q := p + 7) (i := i) rfl (by omega)
      exact w_iretI dX8_element_138 rfl ⟨hF_μ4, ((rfl : μ4 45 0 = μ4 45 0).trans (by unfold elT; omega)), (by intro h9; first | (exfalso; unfold elT at h9; omega) | (subst q20; rfl) | (subst q20; exact elV_6 _) | (unfold elV; unfold bmz; omega)), hJ4, (fun k h1 => (hff4 k (by omega)))⟩
    · refine w_tableIn (off := 119) (tgt := 139) dX8_element_20 (R32.in (by omega)) (by omega) (by omega) (by rw [q20]; rfl) rfl ?_
      refine w_aload_n dX8_element_139 rfl rfl (by first | decide | omega) ?_
      refine w_getR (o := 45) (x := 53) fX8_element_140 rfl rfl rfl rfl ?_
      refine w_iload_n dX8_element_143 rfl rfl ?_
      refine w_ialdx (o := 53) (n := 64) (x := goR (μ (p + 8) i)) dX8_element_144 rfl rfl (Nat.le_of_ble_eq_true rfl) (by omega) ((congrFun (hF_μ4.at (by omega) (by omega)) _).trans (hJ.go (by omega))) ?_
      have hr13 := goR_f (μ (p + 8) i)
      have hr14 := PG.go hG (i := i) (by omega)
      exact w_iretI dX8_element_145 rfl ⟨hF_μ4, ((rfl : μ4 45 0 = μ4 45 0).trans (by unfold elT; omega)), (by intro h9; first | (exfalso; unfold elT at h9; omega) | (subst q20; rfl) | (subst q20; exact elV_6 _) | (unfold elV; unfold bmz; omega)), hJ4, (fun k h1 => (hff4 k (by omega)))⟩
    · refine w_tableIn (off := 126) (tgt := 146) dX8_element_20 (R32.in (by omega)) (by omega) (by omega) (by rw [q20]; rfl) rfl ?_
      refine w_aload_n dX8_element_146 rfl rfl (by first | decide | omega) ?_
      refine w_getR (o := 45) (x := 49) fX8_element_147 rfl rfl rfl rfl ?_
      refine w_iload_n dX8_element_150 rfl rfl ?_
      refine w_zaldx (o := 49) (n := 64) (x := μ (p + 4) i) dX8_element_151 rfl rfl (Nat.le_of_ble_eq_true rfl) (by omega) ((congrFun (hF_μ4.at (by omega) (by omega)) _).trans (hJ.nt (by omega))) ?_
      have hr15 := PI.so hI (q := p + 4) (i := i) rfl (by omega)
      refine w_if_eq (tgt := 167) dX8_element_152 rfl (R32.in (by omega)) (fun c152 => ?_) (fun c152 => ?_)
      · skip
        refine w_iconst dX8_element_167 ?_
        exact w_iretI dX8_element_168 rfl ⟨hF_μ4, ((rfl : μ4 45 0 = μ4 45 0).trans (by unfold elT; omega)), (by intro h9; first | (exfalso; unfold elT at h9; omega) | (subst q20; rfl) | (subst q20; exact elV_6 _) | (unfold elV; unfold bmz; omega)), hJ4, (fun k h1 => (hff4 k (by omega)))⟩
      · skip
        refine w_aload_n dX8_element_155 rfl rfl (by first | decide | omega) ?_
        refine w_getR (o := 45) (x := 48) fX8_element_156 rfl rfl rfl rfl ?_
        refine w_iload_n dX8_element_159 rfl rfl ?_
        refine w_ialdx (o := 48) (n := 64) (x := bok (μ (p + 3) i)) dX8_element_160 rfl rfl (Nat.le_of_ble_eq_true rfl) (by omega) ((congrFun (hF_μ4.at (by omega) (by omega)) _).trans (hJ.kd (by omega))) ?_
        have hr16 := bok_f (μ (p + 3) i)
        refine w_callSP (as := [(0, bok (μ (p + 3) i))]) (rest := []) (k := 0) fX8_element_161 rfl rfl rfl rfl rfl (Nat.le_of_ble_eq_true rfl) (s_X8_beamsOf X (bok (μ (p + 3) i)) μ4) ?_
        refine w_goto (tgt := 168) dX8_element_164 rfl ?_
        exact w_iretI dX8_element_168 rfl ⟨hF_μ4, ((rfl : μ4 45 0 = μ4 45 0).trans (by unfold elT; omega)), (by intro h9; first | (exfalso; unfold elT at h9; omega) | (subst q20; rfl) | (subst q20; exact elV_6 _) | (unfold elV; unfold bmz; omega)), hJ4, (fun k h1 => (hff4 k (by omega)))⟩
  · skip
    replace c10 := am_b0 c10
    refine w_aload_n dX8_element_13 rfl rfl (by first | decide | omega) ?_
    refine w_iconst dX8_element_14 ?_
    refine w_callVI (o := 45) (ci := 8) (as := [(0, 1)]) (rest := []) (k := 0) fX8_element_15 rfl rfl rfl rfl rfl rfl rfl rfl (Nat.le_of_ble_eq_true rfl) (s_X8_failsWith X 1 μ4) (fun xE μE hμE => ?_)
    obtain ⟨hFE, hz_E, h0_E, hf_E⟩ := hμE
    exact w_iretI dX8_element_18 rfl ⟨((hFE.wd (by omega) (by omega)).tr hF_μ4), ((rfl : μE 45 0 = μE 45 0).trans (by unfold elT; omega)), (by intro h9; first | (exfalso; unfold elT at h9; omega) | (subst q20; rfl) | (subst q20; exact elV_6 _) | (unfold elV; unfold bmz; omega)), (RJ.cg2 hJ4 (fun o h1 => (hFE.at (by omega) (by omega))) (fun k h1 => (hf_E _ (by omega)))), (fun k h1 => ((hf_E k (by omega)).trans (hff4 k (by omega))))⟩

set_option maxRecDepth 100000 in
set_option maxHeartbeats 4000000 in
theorem s_X8_count (X : AX) (p : Int) (w : Int) (μ : Mu) (hC : CJ μ p) (hJ : RJ μ p) (hX : RX μ p) (hw : -2147483648 ≤ w ∧ w ≤ 2147483647) (h35 : μ 45 35 = μ 1 1) (h60 : μ 45 60 = μ 3 2) : Wp (GG X) M_X8_count 0 [(2, 45), (0, w)] [] μ (qI 0 fun z μ' => (Fr 45 45 57 61 μ' μ) ∧ (z = cntC μ p w) ∧ (RJ μ' p) ∧ (∀ k : Int, (¬ k = 0 ∧ ¬ (21 ≤ k ∧ k ≤ 24) ∧ ¬ (29 ≤ k ∧ k ≤ 33)) → μ' 45 k = μ 45 k)) := by
  have hI := hC.i
  have hG := hC.pg
  have hp := hI.at
  have hz := hI.sz
  have hgr := hG.gr
  have hkn := hC.kn
  have hRA := hJ.rag hC
  refine w_aload_n dX8_count_0 rfl rfl (by first | decide | omega) ?_
  refine w_iconst dX8_count_1 ?_
  refine w_putI (o := 45) (f := 0) fX8_count_2 rfl rfl rfl rfl rfl ?_
  have hF_μ4 : Fr 45 45 57 61 (am_up μ 45 0 0) μ := (Fr.rf.up (by omega))
  have hA4 : RAg (ddt μ p (p + 5) (μ p 3)) (μ (p + 9)) (μ p 14) (am_up μ 45 0 0) := (RAg.cg2 hRA (fun o h1 => (am_up_o (by omega))) (fun k h1 => (am_up_nk (by omega))))
  have hJ4 : RJ (am_up μ 45 0 0) p := (RJ.cg2 hJ (fun o h1 => (am_up_o (by omega))) (fun k h1 => (am_up_nk (by omega))))
  have hj4 : RJz (am_up μ 45 0 0) p := hJ4.j0
  have hC4 : CJ (am_up μ 45 0 0) p := (CJ.cg hC (fun o h1 => (am_up_o (by omega))))
  have h564 : ∀ j : Int, 0 ≤ j → j < μ p 7 → (am_up μ 45 0 0) 56 j = μ (p + 5) j := (fun j h1 h2 => ((congrFun (am_up_o (by omega)) _).trans (hJ.ht ⟨h1, h2⟩)))
  have hX4 : RX (am_up μ 45 0 0) p := (RX.cg2 hX (fun o h1 => (am_up_o (by omega))) (fun k h1 => (am_up_nk (by omega))))
  have h194 : (am_up μ 45 0 0) 45 19 = μ p 3 := (((am_up_nk (by omega)).trans hJ.f19).trans (by rfl))
  have hff4 : ∀ k : Int, ¬ k = 0 → (am_up μ 45 0 0) 45 k = μ 45 k := (fun k h1 => (am_up_nk (by omega)))
  have h04 : (am_up μ 45 0 0) 45 0 = 0 := (am_up_at.trans (by rfl))
  refine Wp.mu (fun μ4 hμ4 => ?_)
  rw [← hμ4] at hF_μ4 hA4 hJ4 hj4 hC4 h564 hX4 h194 hff4 h04
  clear hμ4
  have e4 : ∀ o : Int, p ≤ o ∧ o ≤ p + 10 → μ4 o = μ o := fun o h1 => hF_μ4.at (by omega) (by omega)
  have e47 : μ4 p 7 = μ p 7 := congrFun (e4 p (by omega)) _
  have e414 : μ4 p 14 = μ p 14 := congrFun (e4 p (by omega)) _
  refine w_iload_n dX8_count_5 rfl rfl ?_
  rcases (show (w < 0 ∨ 10 < w) ∨ w = 0 ∨ w = 1 ∨ w = 2 ∨ w = 3 ∨ w = 4 ∨ w = 5 ∨ w = 6 ∨ w = 7 ∨ w = 8 ∨ w = 9 ∨ w = 10 by omega) with q6 | q6 | q6 | q6 | q6 | q6 | q6 | q6 | q6 | q6 | q6 | q6
  · refine w_tableOut (tgt := 144) dX8_count_6 (R32.in (by omega)) q6 rfl ?_
    refine w_iload_n dX8_count_144 rfl rfl ?_
    refine w_bipush dX8_count_145 (by decide) ?_
    refine w_bipush dX8_count_147 (by decide) ?_
    refine w_callSP (as := [(0, w), (0, 11), (0, 14)]) (rest := []) (k := 0) fX8_count_149 rfl rfl rfl rfl rfl (Nat.le_of_ble_eq_true rfl) (s_X8_isIn X w 11 14 μ4 (by first | omega | assumption) (by first | omega | assumption) (by first | omega | assumption)) ?_
    have hf1 := am_b_r (11 ≤ w ∧ w ≤ 14)
    refine w_if_eq (tgt := 167) dX8_count_152 rfl (R32.in (by have := am_b_r ((11 ≤ w ∧ w ≤ 14)); omega)) (fun c152 => ?_) (fun c152 => ?_)
    · skip
      replace c152 := am_b0 c152
      refine w_iconst dX8_count_167 ?_
      exact w_iretI dX8_count_168 rfl ⟨hF_μ4, (by first | (subst q6; rfl) | (subst q6; exact h35) | (subst q6; exact h60) | (subst q6; exact (if_pos c88).symm) | (subst q6; exact (if_neg c88).symm) | (unfold cntC; omega)), hJ4, (fun k h1 => (hff4 k (by omega)))⟩
    · skip
      replace c152 := am_b1 c152
      refine w_aload_n dX8_count_155 rfl rfl (by first | decide | omega) ?_
      refine w_getR (o := 45) (x := 47) fX8_count_156 rfl rfl rfl rfl ?_
      refine w_iload_n dX8_count_159 rfl rfl ?_
      refine w_bipush dX8_count_160 (by decide) ?_
      refine w_isub dX8_count_162 ?_
      refine w_ialdx (o := 47) (n := 4) (x := μ (p + 2) (w - 11)) dX8_count_163 rfl rfl (Nat.le_of_ble_eq_true rfl) (by omega) ((congrFun (hF_μ4.at (by omega) (by omega)) _).trans (hX.wd (by omega))) ?_
      have hr2 := PI.wd hI (q := p + 2) (i := (w - 11)) rfl (by omega)
      refine w_goto (tgt := 168) dX8_count_164 rfl ?_
      exact w_iretI dX8_count_168 rfl ⟨hF_μ4, (by first | (subst q6; rfl) | (subst q6; exact h35) | (subst q6; exact h60) | (subst q6; exact (if_pos c88).symm) | (subst q6; exact (if_neg c88).symm) | (unfold cntC; omega)), hJ4, (fun k h1 => (hff4 k (by omega)))⟩
  · refine w_tableIn (off := 58) (tgt := 64) dX8_count_6 (R32.in (by omega)) (by omega) (by omega) (by rw [q6]; rfl) rfl ?_
    refine w_aload_n dX8_count_64 rfl rfl (by first | decide | omega) ?_
    refine w_getIx (o := 45) (f := 11) (x := μ p 0) fX8_count_65 rfl rfl (Nat.le_of_ble_eq_true rfl) rfl ((hff4 _ (by omega)).trans hX.f11) ?_
    exact w_iretI dX8_count_68 rfl ⟨hF_μ4, (by first | (subst q6; rfl) | (subst q6; exact h35) | (subst q6; exact h60) | (subst q6; exact (if_pos c88).symm) | (subst q6; exact (if_neg c88).symm) | (unfold cntC; omega)), hJ4, (fun k h1 => (hff4 k (by omega)))⟩
  · refine w_tableIn (off := 63) (tgt := 69) dX8_count_6 (R32.in (by omega)) (by omega) (by omega) (by rw [q6]; rfl) rfl ?_
    refine w_aload_n dX8_count_69 rfl rfl (by first | decide | omega) ?_
    refine w_getIx (o := 45) (f := 7) (x := μ p 7) fX8_count_70 rfl rfl (Nat.le_of_ble_eq_true rfl) rfl ((hff4 _ (by omega)).trans hJ.f7) ?_
    exact w_iretI dX8_count_73 rfl ⟨hF_μ4, (by first | (subst q6; rfl) | (subst q6; exact h35) | (subst q6; exact h60) | (subst q6; exact (if_pos c88).symm) | (subst q6; exact (if_neg c88).symm) | (unfold cntC; omega)), hJ4, (fun k h1 => (hff4 k (by omega)))⟩
  · refine w_tableIn (off := 68) (tgt := 74) dX8_count_6 (R32.in (by omega)) (by omega) (by omega) (by rw [q6]; rfl) rfl ?_
    refine w_aload_n dX8_count_74 rfl rfl (by first | decide | omega) ?_
    refine w_callVP (o := 45) (ci := 8) (as := []) (rest := []) (k := 2) fX8_count_75 rfl rfl rfl rfl rfl rfl rfl rfl (Nat.le_of_ble_eq_true rfl) (s_X8_noteMany X p μ4 hC4 hJ4) ?_
    refine Wp.topE (b := itr (fun j a => a + μ (p + 4) j) 0 (μ p 7)) (by rw [e4 (p + 4) (by omega), e47]) ?_
    exact w_iretI dX8_count_78 rfl ⟨hF_μ4, (by first | (subst q6; rfl) | (subst q6; exact h35) | (subst q6; exact h60) | (subst q6; exact (if_pos c88).symm) | (subst q6; exact (if_neg c88).symm) | (unfold cntC; omega)), hJ4, (fun k h1 => (hff4 k (by omega)))⟩
  · refine w_tableIn (off := 73) (tgt := 79) dX8_count_6 (R32.in (by omega)) (by omega) (by omega) (by rw [q6]; rfl) rfl ?_
    refine w_aload_n dX8_count_79 rfl rfl (by first | decide | omega) ?_
    refine w_getIx (o := 45) (f := 17) (x := (μ p 14)) fX8_count_80 rfl rfl (Nat.le_of_ble_eq_true rfl) rfl hA4.n ?_
    have hr3 := hA4.r
    have hr4 := hRA.r
    exact w_iretI dX8_count_83 rfl ⟨hF_μ4, (by first | (subst q6; rfl) | (subst q6; exact h35) | (subst q6; exact h60) | (subst q6; exact (if_pos c88).symm) | (subst q6; exact (if_neg c88).symm) | (unfold cntC; omega)), hJ4, (fun k h1 => (hff4 k (by omega)))⟩
  · refine w_tableIn (off := 78) (tgt := 84) dX8_count_6 (R32.in (by omega)) (by omega) (by omega) (by rw [q6]; rfl) rfl ?_
    have hml := mlg_r μ p hI
    refine w_aload_n dX8_count_84 rfl rfl (by first | decide | omega) ?_
    refine w_getIx (o := 45) (f := 7) (x := μ p 7) fX8_count_85 rfl rfl (Nat.le_of_ble_eq_true rfl) rfl ((hff4 _ (by omega)).trans hJ.f7) ?_
    refine w_if_ne (tgt := 95) dX8_count_88 rfl (R32.in (by omega)) (fun c88 => ?_) (fun c88 => ?_)
    · skip
      refine w_aload_n dX8_count_95 rfl rfl (by first | decide | omega) ?_
      refine w_getR (o := 45) (x := 51) fX8_count_96 rfl rfl rfl rfl ?_
      refine w_aload_n dX8_count_99 rfl rfl (by first | decide | omega) ?_
      refine w_getIx (o := 45) (f := 7) (x := μ p 7) fX8_count_100 rfl rfl (Nat.le_of_ble_eq_true rfl) rfl ((hff4 _ (by omega)).trans hJ.f7) ?_
      refine w_iconst dX8_count_103 ?_
      refine w_isub dX8_count_104 ?_
      refine w_ialdx (o := 51) (n := 64) (x := μ (p + 6) ((μ p 7) - 1)) dX8_count_105 rfl rfl (Nat.le_of_ble_eq_true rfl) (by omega) ((congrFun (hF_μ4.at (by omega) (by omega)) _).trans (hJ.tm (by omega))) ?_
      have hr5 := PI.tm hI (q := p + 6) (i := ((μ p 7) - 1)) rfl (by omega)
      refine w_aload_n dX8_count_106 rfl rfl (by first | decide | omega) ?_
      refine w_callVP (o := 45) (ci := 8) (as := []) (rest := [(0, μ (p + 6) ((μ p 7) - 1))]) (k := 0) fX8_count_107 rfl rfl rfl rfl rfl rfl rfl rfl (Nat.le_of_ble_eq_true rfl) (s_X8_measure X p μ4 hC4 hJ4) ?_
      have hf6 := mlg_r μ4 p (by first | exact hI | exact hC4.i)
      refine Wp.topE (b := mlg μ p) (mlg_cg e4) ?_
      refine w_idivP dX8_count_110 (by omega) ?_
      refine w_iconst dX8_count_111 ?_
      refine w_iadd dX8_count_112 ?_
      exact w_iretI dX8_count_113 rfl ⟨hF_μ4, (by first | (subst q6; rfl) | (subst q6; exact h35) | (subst q6; exact h60) | (subst q6; exact (if_pos c88).symm) | (subst q6; exact (if_neg c88).symm) | (unfold cntC; omega)), hJ4, (fun k h1 => (hff4 k (by omega)))⟩
    · skip
      refine w_iconst dX8_count_91 ?_
      refine w_goto (tgt := 113) dX8_count_92 rfl ?_
      exact w_iretI dX8_count_113 rfl ⟨hF_μ4, (by first | (subst q6; rfl) | (subst q6; exact h35) | (subst q6; exact h60) | (subst q6; exact (if_pos c88).symm) | (subst q6; exact (if_neg c88).symm) | (unfold cntC; omega)), hJ4, (fun k h1 => (hff4 k (by omega)))⟩
  · refine w_tableIn (off := 108) (tgt := 114) dX8_count_6 (R32.in (by omega)) (by omega) (by omega) (by rw [q6]; rfl) rfl ?_
    refine w_aload_n dX8_count_114 rfl rfl (by first | decide | omega) ?_
    refine w_getIx (o := 45) (f := 1) (x := μ p 1) fX8_count_115 rfl rfl (Nat.le_of_ble_eq_true rfl) rfl ((hff4 _ (by omega)).trans hJ.f1) ?_
    exact w_iretI dX8_count_118 rfl ⟨hF_μ4, (by first | (subst q6; rfl) | (subst q6; exact h35) | (subst q6; exact h60) | (subst q6; exact (if_pos c88).symm) | (subst q6; exact (if_neg c88).symm) | (unfold cntC; omega)), hJ4, (fun k h1 => (hff4 k (by omega)))⟩
  · refine w_tableIn (off := 113) (tgt := 119) dX8_count_6 (R32.in (by omega)) (by omega) (by omega) (by rw [q6]; rfl) rfl ?_
    refine w_aload_n dX8_count_119 rfl rfl (by first | decide | omega) ?_
    refine w_getIx (o := 45) (f := 2) (x := μ p 2) fX8_count_120 rfl rfl (Nat.le_of_ble_eq_true rfl) rfl ((hff4 _ (by omega)).trans hJ.f2) ?_
    exact w_iretI dX8_count_123 rfl ⟨hF_μ4, (by first | (subst q6; rfl) | (subst q6; exact h35) | (subst q6; exact h60) | (subst q6; exact (if_pos c88).symm) | (subst q6; exact (if_neg c88).symm) | (unfold cntC; omega)), hJ4, (fun k h1 => (hff4 k (by omega)))⟩
  · refine w_tableIn (off := 118) (tgt := 124) dX8_count_6 (R32.in (by omega)) (by omega) (by omega) (by rw [q6]; rfl) rfl ?_
    refine w_aload_n dX8_count_124 rfl rfl (by first | decide | omega) ?_
    refine w_getIx (o := 45) (f := 5) (x := μ p 3) fX8_count_125 rfl rfl (Nat.le_of_ble_eq_true rfl) rfl ((hff4 _ (by omega)).trans hJ.f5) ?_
    exact w_iretI dX8_count_128 rfl ⟨hF_μ4, (by first | (subst q6; rfl) | (subst q6; exact h35) | (subst q6; exact h60) | (subst q6; exact (if_pos c88).symm) | (subst q6; exact (if_neg c88).symm) | (unfold cntC; omega)), hJ4, (fun k h1 => (hff4 k (by omega)))⟩
  · refine w_tableIn (off := 123) (tgt := 129) dX8_count_6 (R32.in (by omega)) (by omega) (by omega) (by rw [q6]; rfl) rfl ?_
    refine w_aload_n dX8_count_129 rfl rfl (by first | decide | omega) ?_
    refine w_callVP (o := 45) (ci := 8) (as := []) (rest := []) (k := 0) fX8_count_130 rfl rfl rfl rfl rfl rfl rfl rfl (Nat.le_of_ble_eq_true rfl) (s_X8_partsTold X p μ4 hC4 hJ4 hX4) ?_
    refine Wp.topE (b := μ p 4) (by rw [e4 p (by omega)]) ?_
    exact w_iretI dX8_count_133 rfl ⟨hF_μ4, (by first | (subst q6; rfl) | (subst q6; exact h35) | (subst q6; exact h60) | (subst q6; exact (if_pos c88).symm) | (subst q6; exact (if_neg c88).symm) | (unfold cntC; omega)), hJ4, (fun k h1 => (hff4 k (by omega)))⟩
  · refine w_tableIn (off := 128) (tgt := 134) dX8_count_6 (R32.in (by omega)) (by omega) (by omega) (by rw [q6]; rfl) rfl ?_
    refine w_aload_n dX8_count_134 rfl rfl (by first | decide | omega) ?_
    refine w_getIx (o := 45) (f := 60) (x := μ 45 60) fX8_count_135 rfl rfl (Nat.le_of_ble_eq_true rfl) rfl (hff4 _ (by omega)) ?_
    exact w_iretI dX8_count_138 rfl ⟨hF_μ4, (by first | (subst q6; rfl) | (subst q6; exact h35) | (subst q6; exact h60) | (subst q6; exact (if_pos c88).symm) | (subst q6; exact (if_neg c88).symm) | (unfold cntC; omega)), hJ4, (fun k h1 => (hff4 k (by omega)))⟩
  · refine w_tableIn (off := 133) (tgt := 139) dX8_count_6 (R32.in (by omega)) (by omega) (by omega) (by rw [q6]; rfl) rfl ?_
    refine w_aload_n dX8_count_139 rfl rfl (by first | decide | omega) ?_
    refine w_getIx (o := 45) (f := 35) (x := μ 45 35) fX8_count_140 rfl rfl (Nat.le_of_ble_eq_true rfl) rfl (hff4 _ (by omega)) ?_
    exact w_iretI dX8_count_143 rfl ⟨hF_μ4, (by first | (subst q6; rfl) | (subst q6; exact h35) | (subst q6; exact h60) | (subst q6; exact (if_pos c88).symm) | (subst q6; exact (if_neg c88).symm) | (unfold cntC; omega)), hJ4, (fun k h1 => (hff4 k (by omega)))⟩

set_option maxRecDepth 100000 in
set_option maxHeartbeats 4000000 in
theorem s_X8_isElement_k (X : AX) (p : Int) (i : Int) (μ : Mu) (hC : CJ μ p) (hK : RK μ p) (hi : -2147483648 ≤ i ∧ i ≤ 2147483647) : Wp (GG X) M_X8_isElement 0 [(2, 45), (0, i)] [] μ (pP 0 (am_b (0 ≤ i ∧ i < μ p 7)) μ) := by
  have hI := hC.i
  have hG := hC.pg
  have hp := hI.at
  have hz := hI.sz
  have hgr := hG.gr
  have hkn := hC.kn
  refine w_iload_n dX8_isElement_0 rfl rfl ?_
  refine w_iconst dX8_isElement_1 ?_
  refine w_aload_n dX8_isElement_2 rfl rfl (by first | decide | omega) ?_
  refine w_getIx (o := 45) (f := 7) (x := μ p 7) fX8_isElement_3 rfl rfl (Nat.le_of_ble_eq_true rfl) rfl hK.f7 ?_
  refine w_iconst dX8_isElement_6 ?_
  refine w_isub dX8_isElement_7 ?_
  refine w_callSP (as := [(0, i), (0, 0), (0, (μ p 7) - 1)]) (rest := []) (k := 0) fX8_isElement_8 rfl rfl rfl rfl rfl (Nat.le_of_ble_eq_true rfl) (s_X8_isIn X i 0 ((μ p 7) - 1) μ (by first | omega | assumption) (by first | omega | assumption) (by first | omega | assumption)) ?_
  have hf1 := am_b_r (0 ≤ i ∧ i ≤ ((μ p 7) - 1))
  exact w_zretP dX8_isElement_11 rfl (am_b_01 _) (by exact am_b_iff (by omega))

set_option maxRecDepth 100000 in
set_option maxHeartbeats 4000000 in
theorem s_X8_isNoteAt_k (X : AX) (p : Int) (i : Int) (μ : Mu) (hC : CJ μ p) (hK : RK μ p) (hi : -2147483648 ≤ i ∧ i ≤ 2147483647) : Wp (GG X) M_X8_isNoteAt 0 [(2, 45), (0, i)] [] μ (pP 0 (am_b (0 ≤ i ∧ i < μ p 7 ∧ μ (p + 4) i = 1)) μ) := by
  have hI := hC.i
  have hG := hC.pg
  have hp := hI.at
  have hz := hI.sz
  have hgr := hG.gr
  have hkn := hC.kn
  refine w_aload_n dX8_isNoteAt_0 rfl rfl (by first | decide | omega) ?_
  refine w_iload_n dX8_isNoteAt_1 rfl rfl ?_
  refine w_callVP (o := 45) (ci := 8) (as := [(0, i)]) (rest := []) (k := 0) fX8_isNoteAt_2 rfl rfl rfl rfl rfl rfl rfl rfl (Nat.le_of_ble_eq_true rfl) (s_X8_isElement_k X p i μ hC hK (by first | omega | assumption)) ?_
  have hf1 := am_b_r (0 ≤ i ∧ i < μ p 7)
  refine w_if_eq (tgt := 21) dX8_isNoteAt_5 rfl (R32.in (by have := am_b_r ((0 ≤ i ∧ i < μ p 7)); omega)) (fun c5 => ?_) (fun c5 => ?_)
  · skip
    replace c5 := am_b0 c5
    refine w_iconst dX8_isNoteAt_21 ?_
    exact w_zretP dX8_isNoteAt_22 rfl (Or.inl rfl) (by first | exact am_b_t (by omega) | exact am_b_f (by omega))
  · skip
    replace c5 := am_b1 c5
    refine w_aload_n dX8_isNoteAt_8 rfl rfl (by first | decide | omega) ?_
    refine w_getR (o := 45) (x := 49) fX8_isNoteAt_9 rfl rfl rfl rfl ?_
    refine w_iload_n dX8_isNoteAt_12 rfl rfl ?_
    refine w_zaldx (o := 49) (n := 64) (x := μ (p + 4) i) dX8_isNoteAt_13 rfl rfl (Nat.le_of_ble_eq_true rfl) (by omega) (hK.nt (by omega)) ?_
    have hr2 := PI.so hI (q := p + 4) (i := i) rfl (by omega)
    refine w_if_eq (tgt := 21) dX8_isNoteAt_14 rfl (R32.in (by omega)) (fun c14 => ?_) (fun c14 => ?_)
    · skip
      refine w_iconst dX8_isNoteAt_21 ?_
      exact w_zretP dX8_isNoteAt_22 rfl (Or.inl rfl) (by first | exact am_b_t (by omega) | exact am_b_f (by omega))
    · skip
      refine w_iconst dX8_isNoteAt_17 ?_
      refine w_goto (tgt := 22) dX8_isNoteAt_18 rfl ?_
      exact w_zretP dX8_isNoteAt_22 rfl (Or.inr rfl) (by first | exact am_b_t (by omega) | exact am_b_f (by omega))

set_option maxRecDepth 100000 in
set_option maxHeartbeats 4000000 in
theorem s_X8_thinksPlainly_k (X : AX) (μ : Mu) : Wp (GG X) M_X8_thinksPlainly 0 [(2, 45), (9, 0)] [] μ (qV fun μ' => (Fr 45 45 56 56 μ' μ) ∧ (∀ j : Int, 0 ≤ j → j < 64 → μ' 56 j = μ 50 j) ∧ (μ' 45 19 = μ 45 5) ∧ (∀ k : Int, ¬ k = 19 → μ' 45 k = μ 45 k)) := by
  refine w_iconst dX8_thinksPlainly_0 ?_
  refine w_istore_n (ls' := [(2, 45), (0, 0)]) dX8_thinksPlainly_1 rfl (Nat.le_of_ble_eq_true rfl) rfl rfl ?_
  have hL2 : ∀ (n2 : Nat) (i : Int) (μ1 : Mu), (64 - i).toNat = n2 → Fr 45 45 56 56 μ1 μ → (0 ≤ i ∧ i ≤ 64) → (∀ j : Int, 0 ≤ j → j < i → μ1 56 j = μ 50 j) → (∀ k : Int, ¬ k = 19 → μ1 45 k = μ 45 k) → Wp (GG X) M_X8_thinksPlainly 2 [(2, 45), (0, i)] [] μ1 (qV fun μ' => (Fr 45 45 56 56 μ' μ) ∧ (∀ j : Int, 0 ≤ j → j < 64 → μ' 56 j = μ 50 j) ∧ (μ' 45 19 = μ 45 5) ∧ (∀ k : Int, ¬ k = 19 → μ' 45 k = μ 45 k)) := by
    intro n2
    induction n2 using Nat.strongRecOn with
    | ind n2 ih2 =>
      intro i μ1 hn2 hF2 hi0 h56 hfA
      refine w_iload_n dX8_thinksPlainly_2 rfl rfl ?_
      refine w_bipush dX8_thinksPlainly_3 (by decide) ?_
      refine w_icmp_ge (tgt := 26) dX8_thinksPlainly_5 rfl (R32.in (by omega)) (R32.in (by decide)) (fun c5 => ?_) (fun c5 => ?_)
      · skip
        have h56b : ∀ j : Int, 0 ≤ j → j < 64 → μ1 56 j = μ 50 j := fun j h1 h2 => h56 j h1 (by omega)
        refine w_aload_n dX8_thinksPlainly_26 rfl rfl (by first | decide | omega) ?_
        refine w_aload_n dX8_thinksPlainly_27 rfl rfl (by first | decide | omega) ?_
        refine w_getIx (o := 45) (f := 5) (x := μ 45 5) fX8_thinksPlainly_28 rfl rfl (Nat.le_of_ble_eq_true rfl) rfl (hfA _ (by omega)) ?_
        refine w_putI (o := 45) (f := 19) fX8_thinksPlainly_31 rfl rfl rfl rfl rfl ?_
        exact w_retV dX8_thinksPlainly_34 rfl ⟨(hF2.up (by omega)), (fun j h1 h2 => ((congrFun (am_up_o (by omega)) _).trans (h56b j h1 h2))), (am_up_at.trans (by rfl)), (fun k h1 => ((am_up_nk (by omega)).trans (hfA k (by omega))))⟩
      · skip
        refine w_aload_n dX8_thinksPlainly_8 rfl rfl (by first | decide | omega) ?_
        refine w_getR (o := 45) (x := 56) fX8_thinksPlainly_9 rfl rfl rfl rfl ?_
        refine w_iload_n dX8_thinksPlainly_12 rfl rfl ?_
        refine w_aload_n dX8_thinksPlainly_13 rfl rfl (by first | decide | omega) ?_
        refine w_getR (o := 45) (x := 50) fX8_thinksPlainly_14 rfl rfl rfl rfl ?_
        refine w_iload_n dX8_thinksPlainly_17 rfl rfl ?_
        refine w_ialdx (o := 50) (n := 64) (x := μ 50 i) dX8_thinksPlainly_18 rfl rfl (Nat.le_of_ble_eq_true rfl) (by omega) (congrFun (hF2.at (by omega) (by omega)) _) ?_
        refine w_iast (o := 56) (n := 64) dX8_thinksPlainly_19 rfl rfl (Nat.le_of_ble_eq_true rfl) (by omega) (by omega) ?_
        refine w_iinc (ls' := [(2, 45), (0, i + 1)]) dX8_thinksPlainly_20 rfl (Nat.le_of_ble_eq_true rfl) rfl rfl ?_
        refine w_goto (tgt := 2) dX8_thinksPlainly_23 rfl ?_
        exact ih2 _ (by omega) (i + 1) (am_up μ1 56 i (μ 50 i)) rfl (hF2.up (by omega)) (by first | omega | assumption) (fillr (f := μ 50) h56 rfl) (fun k h1 => ((congrFun (am_up_o (by omega)) _).trans (hfA k (by omega))))
  exact hL2 _ 0 μ rfl Fr.rf (by first | omega | assumption) (fun j h1 h2 => by omega) (fun k h1 => rfl)

set_option maxRecDepth 100000 in
set_option maxHeartbeats 4000000 in
theorem s_X8_put (X : AX) (p : Int) (i : Int) (q : Int) (μ : Mu) (hC : CJ μ p) (hK : RK μ p) (hi : -2147483648 ≤ i ∧ i ≤ 2147483647) (hq : -2147483648 ≤ q ∧ q ≤ 2147483647) (hh : 0 ≤ μ 45 60 ∧ μ 45 60 ≤ 20) : Wp (GG X) M_X8_put 0 [(2, 45), (0, i), (0, q), (9, 0)] [] μ (qI 0 fun z μ' => (Fr 45 50 56 70 μ' μ) ∧ (putR μ p i q z μ') ∧ (∀ k : Int, (¬ k = 0 ∧ ¬ k = 19 ∧ ¬ k = 60) → μ' 45 k = μ 45 k) ∧ (∀ o : Int, 46 ≤ o ∧ o ≤ 49 → μ' o = μ o) ∧ (∀ o : Int, 57 ≤ o ∧ o ≤ 68 → μ' o = μ o)) := by
  have hI := hC.i
  have hG := hC.pg
  have hp := hI.at
  have hz := hI.sz
  have hgr := hG.gr
  have hkn := hC.kn
  refine w_aload_n dX8_put_0 rfl rfl (by first | decide | omega) ?_
  refine w_iconst dX8_put_1 ?_
  refine w_putI (o := 45) (f := 0) fX8_put_2 rfl rfl rfl rfl rfl ?_
  have hF_μ4 : Fr 45 45 57 57 (am_up μ 45 0 0) μ := (Fr.rf.up (by omega))
  have h4e : (am_up μ 45 0 0) = (fun a b => if a = 45 then (if b = 0 then 0 else μ a b) else μ a b) := rfl
  have hK4 : RK (am_up μ 45 0 0) p := (RK.cg2 hK (fun o h1 => (am_up_o (by omega))) (fun k h1 => (am_up_nk (by omega))))
  have hC4 : CJ (am_up μ 45 0 0) p := (CJ.cg hC (fun o h1 => (am_up_o (by omega))))
  have hff4 : ∀ k : Int, ¬ k = 0 → (am_up μ 45 0 0) 45 k = μ 45 k := (fun k h1 => (am_up_nk (by omega)))
  have hk4 : ∀ o : Int, 46 ≤ o ∧ o ≤ 70 → (am_up μ 45 0 0) o = μ o := (fun o h1 => (am_up_o (by omega)))
  refine Wp.mu (fun μ4 hμ4 => ?_)
  rw [← hμ4] at hF_μ4 h4e hK4 hC4 hff4 hk4
  clear hμ4
  have e4p : μ4 p = μ p := hF_μ4.at (by omega) (by omega)
  have e44 : μ4 (p + 4) = μ (p + 4) := hF_μ4.at (by omega) (by omega)
  have e47 : μ4 p 7 = μ p 7 := congrFun e4p _
  have e4i : μ4 (p + 4) i = μ (p + 4) i := congrFun e44 _
  refine w_aload_n dX8_put_5 rfl rfl (by first | decide | omega) ?_
  refine w_iload_n dX8_put_6 rfl rfl ?_
  refine w_callVP (o := 45) (ci := 8) (as := [(0, i)]) (rest := []) (k := 0) fX8_put_7 rfl rfl rfl rfl rfl rfl rfl rfl (Nat.le_of_ble_eq_true rfl) (s_X8_isNoteAt_k X p i μ4 hC4 hK4 (by first | omega | assumption)) ?_
  have hf1 := am_b_r (0 ≤ i ∧ i < μ4 p 7 ∧ μ4 (p + 4) i = 1)
  refine w_if_eq (tgt := 24) dX8_put_10 rfl (R32.in (by have := am_b_r ((0 ≤ i ∧ i < μ4 p 7 ∧ μ4 (p + 4) i = 1)); omega)) (fun c10 => ?_) (fun c10 => ?_)
  · skip
    replace c10 := am_b0 c10
    refine w_ldc (n := -1000000) dX8_put_24 k_1620 (by decide) ?_
    exact w_iretI dX8_put_26 rfl ⟨(hF_μ4.wd (by omega) (by omega)), (by exact Or.inr ⟨by omega, rfl, h4e⟩), (fun k h1 => (hff4 k (by omega))), (fun o h1 => (hF_μ4.at (by omega) (by omega))), (fun o h1 => (hk4 _ (by omega)))⟩
  · skip
    replace c10 := am_b1 c10
    refine w_iload_n dX8_put_13 rfl rfl ?_
    refine w_bipush dX8_put_14 (by decide) ?_
    refine w_bipush dX8_put_16 (by decide) ?_
    refine w_callSP (as := [(0, q), (0, -12), (0, 12)]) (rest := []) (k := 0) fX8_put_18 rfl rfl rfl rfl rfl (Nat.le_of_ble_eq_true rfl) (s_X8_isIn X q (-12) 12 μ4 (by first | omega | assumption) (by first | omega | assumption) (by first | omega | assumption)) ?_
    have hf2 := am_b_r ((-12) ≤ q ∧ q ≤ 12)
    refine w_if_ne (tgt := 27) dX8_put_21 rfl (R32.in (by have := am_b_r (((-12) ≤ q ∧ q ≤ 12)); omega)) (fun c21 => ?_) (fun c21 => ?_)
    · skip
      replace c21 := am_b1 c21
      refine w_aload_n dX8_put_27 rfl rfl (by first | decide | omega) ?_
      refine w_getIx (o := 45) (f := 60) (x := μ 45 60) fX8_put_28 rfl rfl (Nat.le_of_ble_eq_true rfl) rfl (hff4 _ (by omega)) ?_
      refine w_bipush dX8_put_31 (by decide) ?_
      refine w_icmp_ne (tgt := 88) dX8_put_33 rfl (R32.in (by omega)) (R32.in (by decide)) (fun c33 => ?_) (fun c33 => ?_)
      · skip
        have hF_μ7 : Fr 45 45 57 70 μ4 μ := (hF_μ4.wd (by omega) (by omega))
        have hff7 : ∀ k : Int, (¬ k = 0 ∧ ¬ k = 60) → μ4 45 k = μ 45 k := (fun k h1 => (hff4 k (by omega)))
        have hs7 : μ4 45 60 = min (μ 45 60) 19 := ((hff4 _ (by omega)).trans (by omega))
        have h697 : ∀ j : Int, 0 ≤ j → j < min (μ 45 60) 19 → μ4 69 j = if μ 45 60 = 20 then μ 69 (j + 1) else μ 69 j := (fun j h1 h2 => by first | exact (congrFun (am_up_o (by omega)) _).trans ((h69a j h1 (by omega)).trans (if_pos (by omega)).symm) | exact (congrFun (hk4 69 (by omega)) j).trans (if_neg (by omega)).symm)
        have h707 : ∀ j : Int, 0 ≤ j → j < min (μ 45 60) 19 → μ4 70 j = if μ 45 60 = 20 then μ 70 (j + 1) else μ 70 j := (fun j h1 h2 => by first | exact (congrFun (am_up_o (by omega)) _).trans ((h70a j h1 (by omega)).trans (if_pos (by omega)).symm) | exact (congrFun (hk4 70 (by omega)) j).trans (if_neg (by omega)).symm)
        have hk7 : ∀ o : Int, 46 ≤ o ∧ o ≤ 68 → μ4 o = μ o := (fun o h1 => (hk4 _ (by omega)))
        refine Wp.mu (fun μ7 hμ7 => ?_)
        rw [← hμ7] at hF_μ7 hff7 hs7 h697 h707 hk7
        clear hμ7
        refine w_aload_n dX8_put_88 rfl rfl (by first | decide | omega) ?_
        refine w_getR (o := 45) (x := 50) fX8_put_89 rfl rfl rfl rfl ?_
        refine w_iload_n dX8_put_92 rfl rfl ?_
        refine w_ialdx (o := 50) (n := 64) (x := μ 50 i) dX8_put_93 rfl rfl (Nat.le_of_ble_eq_true rfl) (by omega) (congrFun (hF_μ7.at (by omega) (by omega)) _) ?_
        refine w_istore_n (ls' := [(2, 45), (0, i), (0, q), (0, μ 50 i)]) dX8_put_94 rfl (Nat.le_of_ble_eq_true rfl) rfl rfl ?_
        refine w_aload_n dX8_put_95 rfl rfl (by first | decide | omega) ?_
        refine w_getR (o := 45) (x := 69) fX8_put_96 rfl rfl rfl rfl ?_
        refine w_aload_n dX8_put_99 rfl rfl (by first | decide | omega) ?_
        refine w_getIx (o := 45) (f := 60) (x := min (μ 45 60) 19) fX8_put_100 rfl rfl (Nat.le_of_ble_eq_true rfl) rfl hs7 ?_
        refine w_iload_n dX8_put_103 rfl rfl ?_
        refine w_iast (o := 69) (n := 20) dX8_put_104 rfl rfl (Nat.le_of_ble_eq_true rfl) (by omega) (by omega) ?_
        refine w_aload_n dX8_put_105 rfl rfl (by first | decide | omega) ?_
        refine w_getR (o := 45) (x := 70) fX8_put_106 rfl rfl rfl rfl ?_
        refine w_aload_n dX8_put_109 rfl rfl (by first | decide | omega) ?_
        refine w_getIx (o := 45) (f := 60) (x := min (μ 45 60) 19) fX8_put_110 rfl rfl (Nat.le_of_ble_eq_true rfl) rfl ((congrFun (am_up_o (by first | decide | omega)) _).trans hs7) ?_
        refine w_iload_n dX8_put_113 rfl rfl ?_
        refine w_iast (o := 70) (n := 20) dX8_put_114 rfl rfl (Nat.le_of_ble_eq_true rfl) (by omega) (by omega) ?_
        refine w_aload_n dX8_put_115 rfl rfl (by first | decide | omega) ?_
        refine w_dup dX8_put_116 (by simp) ?_
        refine w_getIx (o := 45) (f := 60) (x := min (μ 45 60) 19) fX8_put_117 rfl rfl (Nat.le_of_ble_eq_true rfl) rfl ((congrFun (am_up_o (by first | decide | omega)) _).trans ((congrFun (am_up_o (by first | decide | omega)) _).trans hs7)) ?_
        refine w_iconst dX8_put_120 ?_
        refine w_iadd dX8_put_121 ?_
        refine w_putI (o := 45) (f := 60) fX8_put_122 rfl rfl rfl rfl rfl ?_
        refine w_aload_n dX8_put_125 rfl rfl (by first | decide | omega) ?_
        refine w_getR (o := 45) (x := 50) fX8_put_126 rfl rfl rfl rfl ?_
        refine w_iload_n dX8_put_129 rfl rfl ?_
        refine w_iload_n dX8_put_130 rfl rfl ?_
        refine w_iast (o := 50) (n := 64) dX8_put_131 rfl rfl (Nat.le_of_ble_eq_true rfl) (by omega) (by omega) ?_
        have hF_μ8 : Fr 45 50 57 70 (am_up (am_up (am_up (am_up μ7 69 (min (μ 45 60) 19) i) 70 (min (μ 45 60) 19) (μ 50 i)) 45 60 ((min (μ 45 60) 19) + 1)) 50 i q) μ := (((((hF_μ7.wd (by omega) (by omega)).up (by omega)).up (by omega)).up (by omega)).up (by omega))
        have hff8 : ∀ k : Int, (¬ k = 0 ∧ ¬ k = 60) → (am_up (am_up (am_up (am_up μ7 69 (min (μ 45 60) 19) i) 70 (min (μ 45 60) 19) (μ 50 i)) 45 60 ((min (μ 45 60) 19) + 1)) 50 i q) 45 k = μ 45 k := (fun k h1 => ((congrFun (am_up_o (by omega)) _).trans ((am_up_nk (by omega)).trans ((congrFun (am_up_o (by omega)) _).trans ((congrFun (am_up_o (by omega)) _).trans (hff7 k (by omega)))))))
        have hu8 : (am_up (am_up (am_up (am_up μ7 69 (min (μ 45 60) 19) i) 70 (min (μ 45 60) 19) (μ 50 i)) 45 60 ((min (μ 45 60) 19) + 1)) 50 i q) 45 60 = min (μ 45 60 + 1) 20 := (((congrFun (am_up_o (by first | decide | omega)) _).trans am_up_at).trans (by omega))
        have h698 : ∀ j : Int, 0 ≤ j → j < min (μ 45 60 + 1) 20 → (am_up (am_up (am_up (am_up μ7 69 (min (μ 45 60) 19) i) 70 (min (μ 45 60) 19) (μ 50 i)) 45 60 ((min (μ 45 60) 19) + 1)) 50 i q) 69 j = hsN (μ 69) (μ 45 60) i j := (fun j h1 h2 => ((congrFun (am_up_o (by omega)) _).trans ((congrFun (am_up_o (by omega)) _).trans ((congrFun (am_up_o (by omega)) _).trans (up_if.trans (by unfold hsN; by_cases e : j = min (μ 45 60) 19; (rw [if_pos e]; omega); (rw [if_neg e, h697 j h1 (by omega)]; omega)))))))
        have h708 : ∀ j : Int, 0 ≤ j → j < min (μ 45 60 + 1) 20 → (am_up (am_up (am_up (am_up μ7 69 (min (μ 45 60) 19) i) 70 (min (μ 45 60) 19) (μ 50 i)) 45 60 ((min (μ 45 60) 19) + 1)) 50 i q) 70 j = hsN (μ 70) (μ 45 60) (μ 50 i) j := (fun j h1 h2 => ((congrFun (am_up_o (by omega)) _).trans ((congrFun (am_up_o (by omega)) _).trans (up_if.trans (by unfold hsN; by_cases e : j = min (μ 45 60) 19; (rw [if_pos e]; omega); (rw [if_neg e, am_up_o (by omega), h707 j h1 (by omega)]; omega))))))
        have h508 : ∀ j : Int, (am_up (am_up (am_up (am_up μ7 69 (min (μ 45 60) 19) i) 70 (min (μ 45 60) 19) (μ 50 i)) 45 60 ((min (μ 45 60) 19) + 1)) 50 i q) 50 j = if j = i then q else μ 50 j := (fun j => up_if.trans (by rw [am_up_o (by omega), am_up_o (by omega), am_up_o (by omega), hk7 50 (by omega)]))
        have hk81 : ∀ o : Int, 46 ≤ o ∧ o ≤ 49 → (am_up (am_up (am_up (am_up μ7 69 (min (μ 45 60) 19) i) 70 (min (μ 45 60) 19) (μ 50 i)) 45 60 ((min (μ 45 60) 19) + 1)) 50 i q) o = μ o := (fun o h1 => ((am_up_o (by omega)).trans ((am_up_o (by omega)).trans ((am_up_o (by omega)).trans ((am_up_o (by omega)).trans (hF_μ7.at (by omega) (by omega)))))))
        have hk82 : ∀ o : Int, 57 ≤ o ∧ o ≤ 68 → (am_up (am_up (am_up (am_up μ7 69 (min (μ 45 60) 19) i) 70 (min (μ 45 60) 19) (μ 50 i)) 45 60 ((min (μ 45 60) 19) + 1)) 50 i q) o = μ o := (fun o h1 => ((am_up_o (by omega)).trans ((am_up_o (by omega)).trans ((am_up_o (by omega)).trans ((am_up_o (by omega)).trans (hk7 _ (by omega)))))))
        refine Wp.mu (fun μ8 hμ8 => ?_)
        rw [← hμ8] at hF_μ8 hff8 hu8 h698 h708 h508 hk81 hk82
        clear hμ8
        refine w_aload_n dX8_put_132 rfl rfl (by first | decide | omega) ?_
        refine w_callVV (o := 45) (ci := 8) (as := []) (rest := []) (k := 1) fX8_put_133 rfl rfl rfl rfl rfl rfl rfl rfl (Nat.le_of_ble_eq_true rfl) (s_X8_thinksPlainly_k X μ8) (fun μT hμT => ?_)
        obtain ⟨hFT, h56_T, h19_T, hf_T⟩ := hμT
        refine w_iload_n dX8_put_136 rfl rfl ?_
        exact w_iretI dX8_put_137 rfl ⟨((hFT.wd (by omega) (by omega)).tr (hF_μ8.wd (by omega) (by omega))), (by exact Or.inl ⟨by omega, rfl, (hf_T 60 (by omega)).trans hu8, fun j h1 h2 => (congrFun (hFT.at (by omega) (by omega)) j).trans (h698 j h1 h2), fun j h1 h2 => (congrFun (hFT.at (by omega) (by omega)) j).trans (h708 j h1 h2), fun j => (congrFun (hFT.at (by omega) (by omega)) j).trans (h508 j), fun j h1 h2 => (h56_T j h1 h2).trans (congrFun (hFT.at (by omega) (by omega)) j).symm, h19_T.trans (hff8 5 (by omega))⟩), (fun k h1 => ((hf_T k (by omega)).trans (hff8 k (by omega)))), (fun o h1 => ((hFT.at (by omega) (by omega)).trans (hk81 _ (by omega)))), (fun o h1 => ((hFT.at (by omega) (by omega)).trans (hk82 _ (by omega))))⟩
      · skip
        refine w_iconst dX8_put_36 ?_
        refine w_istore_n (ls' := [(2, 45), (0, i), (0, q), (0, 1)]) dX8_put_37 rfl (Nat.le_of_ble_eq_true rfl) rfl rfl ?_
        have hL38 : ∀ (n38 : Nat) (k : Int) (μ1 : Mu), (20 - k).toNat = n38 → Fr 45 45 57 70 μ1 μ → (1 ≤ k ∧ k ≤ 20) → (∀ j : Int, 0 ≤ j → j < k - 1 → μ1 69 j = μ 69 (j + 1)) → (∀ j : Int, k - 1 ≤ j → μ1 69 j = μ 69 j) → (∀ j : Int, 0 ≤ j → j < k - 1 → μ1 70 j = μ 70 (j + 1)) → (∀ j : Int, k - 1 ≤ j → μ1 70 j = μ 70 j) → (∀ k : Int, ¬ k = 0 → μ1 45 k = μ 45 k) → (∀ o : Int, 46 ≤ o ∧ o ≤ 68 → μ1 o = μ o) → Wp (GG X) M_X8_put 38 [(2, 45), (0, i), (0, q), (0, k)] [] μ1 (qI 0 fun z μ' => (Fr 45 50 56 70 μ' μ) ∧ (putR μ p i q z μ') ∧ (∀ k : Int, (¬ k = 0 ∧ ¬ k = 19 ∧ ¬ k = 60) → μ' 45 k = μ 45 k) ∧ (∀ o : Int, 46 ≤ o ∧ o ≤ 49 → μ' o = μ o) ∧ (∀ o : Int, 57 ≤ o ∧ o ≤ 68 → μ' o = μ o)) := by
          intro n38
          induction n38 using Nat.strongRecOn with
          | ind n38 ih38 =>
            intro k μ1 hn38 hF38 hk0 h69a h69b h70a h70b hffA hkA
            refine w_iload_n dX8_put_38 rfl rfl ?_
            refine w_bipush dX8_put_39 (by decide) ?_
            refine w_icmp_ge (tgt := 78) dX8_put_41 rfl (R32.in (by omega)) (R32.in (by decide)) (fun c41 => ?_) (fun c41 => ?_)
            · skip
              refine w_aload_n dX8_put_78 rfl rfl (by first | decide | omega) ?_
              refine w_dup dX8_put_79 (by simp) ?_
              refine w_getIx (o := 45) (f := 60) (x := μ 45 60) fX8_put_80 rfl rfl (Nat.le_of_ble_eq_true rfl) rfl (hffA _ (by omega)) ?_
              refine w_iconst dX8_put_83 ?_
              refine w_isub dX8_put_84 ?_
              refine w_putI (o := 45) (f := 60) fX8_put_85 rfl rfl rfl rfl rfl ?_
              have hF_μ7 : Fr 45 45 57 70 (am_up μ1 45 60 ((μ 45 60) - 1)) μ := (hF38.up (by omega))
              have hff7 : ∀ k : Int, (¬ k = 0 ∧ ¬ k = 60) → (am_up μ1 45 60 ((μ 45 60) - 1)) 45 k = μ 45 k := (fun k h1 => ((am_up_nk (by omega)).trans (hffA k (by omega))))
              have hs7 : (am_up μ1 45 60 ((μ 45 60) - 1)) 45 60 = min (μ 45 60) 19 := (am_up_at.trans (by omega))
              have h697 : ∀ j : Int, 0 ≤ j → j < min (μ 45 60) 19 → (am_up μ1 45 60 ((μ 45 60) - 1)) 69 j = if μ 45 60 = 20 then μ 69 (j + 1) else μ 69 j := (fun j h1 h2 => by first | exact (congrFun (am_up_o (by omega)) _).trans ((h69a j h1 (by omega)).trans (if_pos (by omega)).symm) | exact (congrFun (hk4 69 (by omega)) j).trans (if_neg (by omega)).symm)
              have h707 : ∀ j : Int, 0 ≤ j → j < min (μ 45 60) 19 → (am_up μ1 45 60 ((μ 45 60) - 1)) 70 j = if μ 45 60 = 20 then μ 70 (j + 1) else μ 70 j := (fun j h1 h2 => by first | exact (congrFun (am_up_o (by omega)) _).trans ((h70a j h1 (by omega)).trans (if_pos (by omega)).symm) | exact (congrFun (hk4 70 (by omega)) j).trans (if_neg (by omega)).symm)
              have hk7 : ∀ o : Int, 46 ≤ o ∧ o ≤ 68 → (am_up μ1 45 60 ((μ 45 60) - 1)) o = μ o := (fun o h1 => ((am_up_o (by omega)).trans (hkA _ (by omega))))
              refine Wp.mu (fun μ7 hμ7 => ?_)
              rw [← hμ7] at hF_μ7 hff7 hs7 h697 h707 hk7
              clear hμ7
              refine w_aload_n dX8_put_88 rfl rfl (by first | decide | omega) ?_
              refine w_getR (o := 45) (x := 50) fX8_put_89 rfl rfl rfl rfl ?_
              refine w_iload_n dX8_put_92 rfl rfl ?_
              refine w_ialdx (o := 50) (n := 64) (x := μ 50 i) dX8_put_93 rfl rfl (Nat.le_of_ble_eq_true rfl) (by omega) (congrFun (hF_μ7.at (by omega) (by omega)) _) ?_
              refine w_istore_n (ls' := [(2, 45), (0, i), (0, q), (0, μ 50 i)]) dX8_put_94 rfl (Nat.le_of_ble_eq_true rfl) rfl rfl ?_
              refine w_aload_n dX8_put_95 rfl rfl (by first | decide | omega) ?_
              refine w_getR (o := 45) (x := 69) fX8_put_96 rfl rfl rfl rfl ?_
              refine w_aload_n dX8_put_99 rfl rfl (by first | decide | omega) ?_
              refine w_getIx (o := 45) (f := 60) (x := min (μ 45 60) 19) fX8_put_100 rfl rfl (Nat.le_of_ble_eq_true rfl) rfl hs7 ?_
              refine w_iload_n dX8_put_103 rfl rfl ?_
              refine w_iast (o := 69) (n := 20) dX8_put_104 rfl rfl (Nat.le_of_ble_eq_true rfl) (by omega) (by omega) ?_
              refine w_aload_n dX8_put_105 rfl rfl (by first | decide | omega) ?_
              refine w_getR (o := 45) (x := 70) fX8_put_106 rfl rfl rfl rfl ?_
              refine w_aload_n dX8_put_109 rfl rfl (by first | decide | omega) ?_
              refine w_getIx (o := 45) (f := 60) (x := min (μ 45 60) 19) fX8_put_110 rfl rfl (Nat.le_of_ble_eq_true rfl) rfl ((congrFun (am_up_o (by first | decide | omega)) _).trans hs7) ?_
              refine w_iload_n dX8_put_113 rfl rfl ?_
              refine w_iast (o := 70) (n := 20) dX8_put_114 rfl rfl (Nat.le_of_ble_eq_true rfl) (by omega) (by omega) ?_
              refine w_aload_n dX8_put_115 rfl rfl (by first | decide | omega) ?_
              refine w_dup dX8_put_116 (by simp) ?_
              refine w_getIx (o := 45) (f := 60) (x := min (μ 45 60) 19) fX8_put_117 rfl rfl (Nat.le_of_ble_eq_true rfl) rfl ((congrFun (am_up_o (by first | decide | omega)) _).trans ((congrFun (am_up_o (by first | decide | omega)) _).trans hs7)) ?_
              refine w_iconst dX8_put_120 ?_
              refine w_iadd dX8_put_121 ?_
              refine w_putI (o := 45) (f := 60) fX8_put_122 rfl rfl rfl rfl rfl ?_
              refine w_aload_n dX8_put_125 rfl rfl (by first | decide | omega) ?_
              refine w_getR (o := 45) (x := 50) fX8_put_126 rfl rfl rfl rfl ?_
              refine w_iload_n dX8_put_129 rfl rfl ?_
              refine w_iload_n dX8_put_130 rfl rfl ?_
              refine w_iast (o := 50) (n := 64) dX8_put_131 rfl rfl (Nat.le_of_ble_eq_true rfl) (by omega) (by omega) ?_
              have hF_μ8 : Fr 45 50 57 70 (am_up (am_up (am_up (am_up μ7 69 (min (μ 45 60) 19) i) 70 (min (μ 45 60) 19) (μ 50 i)) 45 60 ((min (μ 45 60) 19) + 1)) 50 i q) μ := (((((hF_μ7.wd (by omega) (by omega)).up (by omega)).up (by omega)).up (by omega)).up (by omega))
              have hff8 : ∀ k : Int, (¬ k = 0 ∧ ¬ k = 60) → (am_up (am_up (am_up (am_up μ7 69 (min (μ 45 60) 19) i) 70 (min (μ 45 60) 19) (μ 50 i)) 45 60 ((min (μ 45 60) 19) + 1)) 50 i q) 45 k = μ 45 k := (fun k h1 => ((congrFun (am_up_o (by omega)) _).trans ((am_up_nk (by omega)).trans ((congrFun (am_up_o (by omega)) _).trans ((congrFun (am_up_o (by omega)) _).trans (hff7 k (by omega)))))))
              have hu8 : (am_up (am_up (am_up (am_up μ7 69 (min (μ 45 60) 19) i) 70 (min (μ 45 60) 19) (μ 50 i)) 45 60 ((min (μ 45 60) 19) + 1)) 50 i q) 45 60 = min (μ 45 60 + 1) 20 := (((congrFun (am_up_o (by first | decide | omega)) _).trans am_up_at).trans (by omega))
              have h698 : ∀ j : Int, 0 ≤ j → j < min (μ 45 60 + 1) 20 → (am_up (am_up (am_up (am_up μ7 69 (min (μ 45 60) 19) i) 70 (min (μ 45 60) 19) (μ 50 i)) 45 60 ((min (μ 45 60) 19) + 1)) 50 i q) 69 j = hsN (μ 69) (μ 45 60) i j := (fun j h1 h2 => ((congrFun (am_up_o (by omega)) _).trans ((congrFun (am_up_o (by omega)) _).trans ((congrFun (am_up_o (by omega)) _).trans (up_if.trans (by unfold hsN; by_cases e : j = min (μ 45 60) 19; (rw [if_pos e]; omega); (rw [if_neg e, h697 j h1 (by omega)]; omega)))))))
              have h708 : ∀ j : Int, 0 ≤ j → j < min (μ 45 60 + 1) 20 → (am_up (am_up (am_up (am_up μ7 69 (min (μ 45 60) 19) i) 70 (min (μ 45 60) 19) (μ 50 i)) 45 60 ((min (μ 45 60) 19) + 1)) 50 i q) 70 j = hsN (μ 70) (μ 45 60) (μ 50 i) j := (fun j h1 h2 => ((congrFun (am_up_o (by omega)) _).trans ((congrFun (am_up_o (by omega)) _).trans (up_if.trans (by unfold hsN; by_cases e : j = min (μ 45 60) 19; (rw [if_pos e]; omega); (rw [if_neg e, am_up_o (by omega), h707 j h1 (by omega)]; omega))))))
              have h508 : ∀ j : Int, (am_up (am_up (am_up (am_up μ7 69 (min (μ 45 60) 19) i) 70 (min (μ 45 60) 19) (μ 50 i)) 45 60 ((min (μ 45 60) 19) + 1)) 50 i q) 50 j = if j = i then q else μ 50 j := (fun j => up_if.trans (by rw [am_up_o (by omega), am_up_o (by omega), am_up_o (by omega), hk7 50 (by omega)]))
              have hk81 : ∀ o : Int, 46 ≤ o ∧ o ≤ 49 → (am_up (am_up (am_up (am_up μ7 69 (min (μ 45 60) 19) i) 70 (min (μ 45 60) 19) (μ 50 i)) 45 60 ((min (μ 45 60) 19) + 1)) 50 i q) o = μ o := (fun o h1 => ((am_up_o (by omega)).trans ((am_up_o (by omega)).trans ((am_up_o (by omega)).trans ((am_up_o (by omega)).trans (hF_μ7.at (by omega) (by omega)))))))
              have hk82 : ∀ o : Int, 57 ≤ o ∧ o ≤ 68 → (am_up (am_up (am_up (am_up μ7 69 (min (μ 45 60) 19) i) 70 (min (μ 45 60) 19) (μ 50 i)) 45 60 ((min (μ 45 60) 19) + 1)) 50 i q) o = μ o := (fun o h1 => ((am_up_o (by omega)).trans ((am_up_o (by omega)).trans ((am_up_o (by omega)).trans ((am_up_o (by omega)).trans (hk7 _ (by omega)))))))
              refine Wp.mu (fun μ8 hμ8 => ?_)
              rw [← hμ8] at hF_μ8 hff8 hu8 h698 h708 h508 hk81 hk82
              clear hμ8
              refine w_aload_n dX8_put_132 rfl rfl (by first | decide | omega) ?_
              refine w_callVV (o := 45) (ci := 8) (as := []) (rest := []) (k := 1) fX8_put_133 rfl rfl rfl rfl rfl rfl rfl rfl (Nat.le_of_ble_eq_true rfl) (s_X8_thinksPlainly_k X μ8) (fun μT hμT => ?_)
              obtain ⟨hFT, h56_T, h19_T, hf_T⟩ := hμT
              refine w_iload_n dX8_put_136 rfl rfl ?_
              exact w_iretI dX8_put_137 rfl ⟨((hFT.wd (by omega) (by omega)).tr (hF_μ8.wd (by omega) (by omega))), (by exact Or.inl ⟨by omega, rfl, (hf_T 60 (by omega)).trans hu8, fun j h1 h2 => (congrFun (hFT.at (by omega) (by omega)) j).trans (h698 j h1 h2), fun j h1 h2 => (congrFun (hFT.at (by omega) (by omega)) j).trans (h708 j h1 h2), fun j => (congrFun (hFT.at (by omega) (by omega)) j).trans (h508 j), fun j h1 h2 => (h56_T j h1 h2).trans (congrFun (hFT.at (by omega) (by omega)) j).symm, h19_T.trans (hff8 5 (by omega))⟩), (fun k h1 => ((hf_T k (by omega)).trans (hff8 k (by omega)))), (fun o h1 => ((hFT.at (by omega) (by omega)).trans (hk81 _ (by omega)))), (fun o h1 => ((hFT.at (by omega) (by omega)).trans (hk82 _ (by omega))))⟩
            · skip
              refine w_aload_n dX8_put_44 rfl rfl (by first | decide | omega) ?_
              refine w_getR (o := 45) (x := 69) fX8_put_45 rfl rfl rfl rfl ?_
              refine w_iload_n dX8_put_48 rfl rfl ?_
              refine w_iconst dX8_put_49 ?_
              refine w_isub dX8_put_50 ?_
              refine w_aload_n dX8_put_51 rfl rfl (by first | decide | omega) ?_
              refine w_getR (o := 45) (x := 69) fX8_put_52 rfl rfl rfl rfl ?_
              refine w_iload_n dX8_put_55 rfl rfl ?_
              refine w_ialdx (o := 69) (n := 20) (x := μ1 69 k) dX8_put_56 rfl rfl (Nat.le_of_ble_eq_true rfl) (by omega) rfl ?_
              refine w_iast (o := 69) (n := 20) dX8_put_57 rfl rfl (Nat.le_of_ble_eq_true rfl) (by omega) (by omega) ?_
              refine w_aload_n dX8_put_58 rfl rfl (by first | decide | omega) ?_
              refine w_getR (o := 45) (x := 70) fX8_put_59 rfl rfl rfl rfl ?_
              refine w_iload_n dX8_put_62 rfl rfl ?_
              refine w_iconst dX8_put_63 ?_
              refine w_isub dX8_put_64 ?_
              refine w_aload_n dX8_put_65 rfl rfl (by first | decide | omega) ?_
              refine w_getR (o := 45) (x := 70) fX8_put_66 rfl rfl rfl rfl ?_
              refine w_iload_n dX8_put_69 rfl rfl ?_
              refine w_ialdx (o := 70) (n := 20) (x := μ1 70 k) dX8_put_70 rfl rfl (Nat.le_of_ble_eq_true rfl) (by omega) (congrFun (am_up_o (by first | decide | omega)) _) ?_
              refine w_iast (o := 70) (n := 20) dX8_put_71 rfl rfl (Nat.le_of_ble_eq_true rfl) (by omega) (by omega) ?_
              refine w_iinc (ls' := [(2, 45), (0, i), (0, q), (0, k + 1)]) dX8_put_72 rfl (Nat.le_of_ble_eq_true rfl) rfl rfl ?_
              refine w_goto (tgt := 38) dX8_put_75 rfl ?_
              exact ih38 _ (by omega) (k + 1) (am_up (am_up μ1 69 (k - 1) (μ1 69 k)) 70 (k - 1) (μ1 70 k)) rfl ((hF38.up (by omega)).up (by omega)) (by first | omega | assumption) (fun j h1 h2 => ((congrFun (am_up_o (by omega)) _).trans ((mvd_s h69a h69b hk0.1).1 j h1 h2))) (fun j h1 => ((congrFun (am_up_o (by omega)) _).trans ((mvd_s h69a h69b hk0.1).2 j h1))) (mvd_s (fun j q1 q2 => (congrFun (am_up_o (by omega)) _).trans (h70a j q1 q2)) (fun j q1 => (congrFun (am_up_o (by omega)) _).trans (h70b j q1)) hk0.1).1 (mvd_s (fun j q1 q2 => (congrFun (am_up_o (by omega)) _).trans (h70a j q1 q2)) (fun j q1 => (congrFun (am_up_o (by omega)) _).trans (h70b j q1)) hk0.1).2 (fun k h1 => ((congrFun (am_up_o (by omega)) _).trans ((congrFun (am_up_o (by omega)) _).trans (hffA k (by omega))))) (fun o h1 => ((am_up_o (by omega)).trans ((am_up_o (by omega)).trans (hkA _ (by omega)))))
        exact hL38 _ 1 μ4 rfl (hF_μ4.wd (by omega) (by omega)) (by first | omega | assumption) (fun j h1 h2 => by omega) (fun j h1 => congrFun (hk4 69 (by omega)) j) (fun j h1 h2 => by omega) (fun j h1 => congrFun (hk4 70 (by omega)) j) (fun k h1 => (hff4 k (by omega))) (fun o h1 => (hk4 _ (by omega)))
    · skip
      replace c21 := am_b0 c21
      refine w_ldc (n := -1000000) dX8_put_24 k_1620 (by decide) ?_
      exact w_iretI dX8_put_26 rfl ⟨(hF_μ4.wd (by omega) (by omega)), (by exact Or.inr ⟨by omega, rfl, h4e⟩), (fun k h1 => (hff4 k (by omega))), (fun o h1 => (hF_μ4.at (by omega) (by omega))), (fun o h1 => (hk4 _ (by omega)))⟩

set_option maxRecDepth 100000 in
set_option maxHeartbeats 4000000 in
theorem s_X8_undo (X : AX) (μ : Mu) (hh : 0 ≤ μ 45 60 ∧ μ 45 60 ≤ 20) (hwr : ∀ j : Int, 0 ≤ j → j < μ 45 60 → 0 ≤ μ 69 j ∧ μ 69 j < 64) : Wp (GG X) M_X8_undo 0 [(2, 45)] [] μ (qI 0 fun z μ' => (Fr 45 50 56 56 μ' μ) ∧ (undR μ z μ') ∧ (∀ k : Int, (¬ k = 0 ∧ ¬ k = 19 ∧ ¬ k = 60) → μ' 45 k = μ 45 k) ∧ (∀ o : Int, 46 ≤ o ∧ o ≤ 49 → μ' o = μ o)) := by
  refine w_aload_n dX8_undo_0 rfl rfl (by first | decide | omega) ?_
  refine w_iconst dX8_undo_1 ?_
  refine w_putI (o := 45) (f := 0) fX8_undo_2 rfl rfl rfl rfl rfl ?_
  refine w_aload_n dX8_undo_5 rfl rfl (by first | decide | omega) ?_
  refine w_getIx (o := 45) (f := 60) (x := μ 45 60) fX8_undo_6 rfl rfl (Nat.le_of_ble_eq_true rfl) rfl (am_up_nk (by omega)) ?_
  refine w_if_ne (tgt := 14) dX8_undo_9 rfl (R32.in (by omega)) (fun c9 => ?_) (fun c9 => ?_)
  · skip
    refine w_aload_n dX8_undo_14 rfl rfl (by first | decide | omega) ?_
    refine w_dup dX8_undo_15 (by simp) ?_
    refine w_getIx (o := 45) (f := 60) (x := μ 45 60) fX8_undo_16 rfl rfl (Nat.le_of_ble_eq_true rfl) rfl (am_up_nk (by omega)) ?_
    refine w_iconst dX8_undo_19 ?_
    refine w_isub dX8_undo_20 ?_
    refine w_putI (o := 45) (f := 60) fX8_undo_21 rfl rfl rfl rfl rfl ?_
    have hwe := hwr (μ 45 60 - 1) (by omega) (by omega)
    refine w_aload_n dX8_undo_24 rfl rfl (by first | decide | omega) ?_
    refine w_getR (o := 45) (x := 50) fX8_undo_25 rfl rfl rfl rfl ?_
    refine w_aload_n dX8_undo_28 rfl rfl (by first | decide | omega) ?_
    refine w_getR (o := 45) (x := 69) fX8_undo_29 rfl rfl rfl rfl ?_
    refine w_aload_n dX8_undo_32 rfl rfl (by first | decide | omega) ?_
    refine w_getIx (o := 45) (f := 60) (x := (μ 45 60) - 1) fX8_undo_33 rfl rfl (Nat.le_of_ble_eq_true rfl) rfl am_up_at ?_
    refine w_ialdx (o := 69) (n := 20) (x := μ 69 ((μ 45 60) - 1)) dX8_undo_36 rfl rfl (Nat.le_of_ble_eq_true rfl) (by omega) ((congrFun (am_up_o (by first | decide | omega)) _).trans (congrFun (am_up_o (by first | decide | omega)) _)) ?_
    refine w_aload_n dX8_undo_37 rfl rfl (by first | decide | omega) ?_
    refine w_getR (o := 45) (x := 70) fX8_undo_38 rfl rfl rfl rfl ?_
    refine w_aload_n dX8_undo_41 rfl rfl (by first | decide | omega) ?_
    refine w_getIx (o := 45) (f := 60) (x := (μ 45 60) - 1) fX8_undo_42 rfl rfl (Nat.le_of_ble_eq_true rfl) rfl am_up_at ?_
    refine w_ialdx (o := 70) (n := 20) (x := μ 70 ((μ 45 60) - 1)) dX8_undo_45 rfl rfl (Nat.le_of_ble_eq_true rfl) (by omega) ((congrFun (am_up_o (by first | decide | omega)) _).trans (congrFun (am_up_o (by first | decide | omega)) _)) ?_
    refine w_iast (o := 50) (n := 64) dX8_undo_46 rfl rfl (Nat.le_of_ble_eq_true rfl) (by omega) (by omega) ?_
    have hF_μ8 : Fr 45 50 56 56 (am_up (am_up (am_up μ 45 0 0) 45 60 ((μ 45 60) - 1)) 50 (μ 69 ((μ 45 60) - 1)) (μ 70 ((μ 45 60) - 1))) μ := (((Fr.rf.up (by omega)).up (by omega)).up (by omega))
    have hff8 : ∀ k : Int, (¬ k = 0 ∧ ¬ k = 60) → (am_up (am_up (am_up μ 45 0 0) 45 60 ((μ 45 60) - 1)) 50 (μ 69 ((μ 45 60) - 1)) (μ 70 ((μ 45 60) - 1))) 45 k = μ 45 k := (fun k h1 => ((congrFun (am_up_o (by omega)) _).trans ((am_up_nk (by omega)).trans (am_up_nk (by omega)))))
    have hu8 : (am_up (am_up (am_up μ 45 0 0) 45 60 ((μ 45 60) - 1)) 50 (μ 69 ((μ 45 60) - 1)) (μ 70 ((μ 45 60) - 1))) 45 60 = μ 45 60 - 1 := (((congrFun (am_up_o (by first | decide | omega)) _).trans am_up_at).trans (by rfl))
    have h508 : ∀ j : Int, (am_up (am_up (am_up μ 45 0 0) 45 60 ((μ 45 60) - 1)) 50 (μ 69 ((μ 45 60) - 1)) (μ 70 ((μ 45 60) - 1))) 50 j = if j = μ 69 (μ 45 60 - 1) then μ 70 (μ 45 60 - 1) else μ 50 j := (fun j => up_if.trans (by rw [am_up_o (by omega), am_up_o (by omega)]))
    have hk81 : ∀ o : Int, 46 ≤ o ∧ o ≤ 49 → (am_up (am_up (am_up μ 45 0 0) 45 60 ((μ 45 60) - 1)) 50 (μ 69 ((μ 45 60) - 1)) (μ 70 ((μ 45 60) - 1))) o = μ o := (fun o h1 => ((am_up_o (by omega)).trans ((am_up_o (by omega)).trans (am_up_o (by omega)))))
    refine Wp.mu (fun μ8 hμ8 => ?_)
    rw [← hμ8] at hF_μ8 hff8 hu8 h508 hk81
    clear hμ8
    refine w_aload_n dX8_undo_47 rfl rfl (by first | decide | omega) ?_
    refine w_callVV (o := 45) (ci := 8) (as := []) (rest := []) (k := 1) fX8_undo_48 rfl rfl rfl rfl rfl rfl rfl rfl (Nat.le_of_ble_eq_true rfl) (s_X8_thinksPlainly_k X μ8) (fun μT hμT => ?_)
    obtain ⟨hFT, h56_T, h19_T, hf_T⟩ := hμT
    refine w_aload_n dX8_undo_51 rfl rfl (by first | decide | omega) ?_
    refine w_getIx (o := 45) (f := 60) (x := μ 45 60 - 1) fX8_undo_52 rfl rfl (Nat.le_of_ble_eq_true rfl) rfl ((hf_T _ (by omega)).trans hu8) ?_
    exact w_iretI dX8_undo_55 rfl ⟨((hFT.wd (by omega) (by omega)).tr hF_μ8), (by exact Or.inr ⟨by omega, by omega, (hf_T 60 (by omega)).trans hu8, fun j => (congrFun (hFT.at (by omega) (by omega)) j).trans (h508 j), fun j h1 h2 => (h56_T j h1 h2).trans (congrFun (hFT.at (by omega) (by omega)) j).symm, h19_T.trans (hff8 5 (by omega))⟩), (fun k h1 => ((hf_T k (by omega)).trans (hff8 k (by omega)))), (fun o h1 => ((hFT.at (by omega) (by omega)).trans (hk81 _ (by omega))))⟩
  · skip
    refine w_iconst dX8_undo_12 ?_
    exact w_iretI dX8_undo_13 rfl ⟨(Fr.rf.up (by omega)), (by exact Or.inl ⟨by omega, rfl, rfl⟩), (fun k h1 => (am_up_nk (by omega))), (fun o h1 => (am_up_o (by omega)))⟩

set_option maxRecDepth 100000 in
set_option maxHeartbeats 4000000 in
theorem s_X8_four (X : AX) (v : Int) (μ : Mu) (hv : -2147483648 ≤ v ∧ v ≤ 2147483647) (ht : 0 ≤ μ 45 35 ∧ μ 45 35 ≤ 896) : Wp (GG X) M_X8_four 0 [(2, 45), (0, v), (9, 0)] [] μ (qV fun μ' => (Fr 45 45 62 62 μ' μ) ∧ (μ' 45 35 = μ 45 35 + 4) ∧ ((fun j => μ' 62 j % 256) = apN (fun j => μ 62 j % 256) (μ 45 35) v 4) ∧ (∀ k : Int, ¬ k = 35 → μ' 45 k = μ 45 k)) := by
  refine w_bipush dX8_four_0 (by decide) ?_
  refine w_istore_n (ls' := [(2, 45), (0, v), (0, 24)]) dX8_four_2 rfl (Nat.le_of_ble_eq_true rfl) rfl rfl ?_
  have hL3 : ∀ (n3 : Nat) (s : Int) (k : Int) (μ1 : Mu), (4 - k).toNat = n3 → Fr 45 45 62 62 μ1 μ → (0 ≤ k ∧ k ≤ 4) → (s = 24 - 8 * k) → (μ1 45 35 = μ 45 35 + k) → ((fun j => μ1 62 j % 256) = apN (fun j => μ 62 j % 256) (μ 45 35) v k) → (∀ k : Int, ¬ k = 35 → μ1 45 k = μ 45 k) → Wp (GG X) M_X8_four 3 [(2, 45), (0, v), (0, s)] [] μ1 (qV fun μ' => (Fr 45 45 62 62 μ' μ) ∧ (μ' 45 35 = μ 45 35 + 4) ∧ ((fun j => μ' 62 j % 256) = apN (fun j => μ 62 j % 256) (μ 45 35) v 4) ∧ (∀ k : Int, ¬ k = 35 → μ' 45 k = μ 45 k)) := by
    intro n3
    induction n3 using Nat.strongRecOn with
    | ind n3 ih3 =>
      intro s k μ1 hn3 hF3 hk0 hs h35a hb hfA
      refine w_iload_n dX8_four_3 rfl rfl ?_
      refine w_if_lt (tgt := 36) dX8_four_4 rfl (R32.in (by omega)) (fun c4 => ?_) (fun c4 => ?_)
      · skip
        exact w_retV dX8_four_36 rfl ⟨hF3, (h35a.trans (by omega)), (by rw [show (4 : Int) = k by omega]; exact hb), (fun k h1 => (hfA k (by omega)))⟩
      · skip
        refine w_aload_n dX8_four_7 rfl rfl (by first | decide | omega) ?_
        refine w_getR (o := 45) (x := 62) fX8_four_8 rfl rfl rfl rfl ?_
        refine w_aload_n dX8_four_11 rfl rfl (by first | decide | omega) ?_
        refine w_getIx (o := 45) (f := 35) (x := μ 45 35 + k) fX8_four_12 rfl rfl (Nat.le_of_ble_eq_true rfl) rfl h35a ?_
        refine w_iload_n dX8_four_15 rfl rfl ?_
        refine w_iload_n dX8_four_16 rfl rfl ?_
        refine w_ishr dX8_four_17 ?_
        refine w_i2b dX8_four_18 ?_
        refine w_bast (o := 62) (n := 900) dX8_four_19 rfl rfl (Nat.le_of_ble_eq_true rfl) (by omega) (by omega) ?_
        refine w_aload_n dX8_four_20 rfl rfl (by first | decide | omega) ?_
        refine w_dup dX8_four_21 (by simp) ?_
        refine w_getIx (o := 45) (f := 35) (x := μ 45 35 + k) fX8_four_22 rfl rfl (Nat.le_of_ble_eq_true rfl) rfl ((congrFun (am_up_o (by first | decide | omega)) _).trans h35a) ?_
        refine w_iconst dX8_four_25 ?_
        refine w_iadd dX8_four_26 ?_
        refine w_putI (o := 45) (f := 35) fX8_four_27 rfl rfl rfl rfl rfl ?_
        refine w_iinc (ls' := [(2, 45), (0, v), (0, s + (-8))]) dX8_four_30 rfl (Nat.le_of_ble_eq_true rfl) rfl rfl ?_
        refine w_goto (tgt := 3) dX8_four_33 rfl ?_
        exact ih3 _ (by omega) (s + (-8)) (k + 1) (am_up (am_up μ1 62 (μ 45 35 + k) (am_i2b (am_i2b (am_ishr v s)))) 45 35 ((μ 45 35 + k) + 1)) rfl ((hF3.up (by omega)).up (by omega)) (by first | omega | assumption) (by first | omega | assumption) (am_up_at.trans (by omega)) (by rw [am_up_o (by omega)]; exact apR_s hb hk0.1 (by rw [i2b_m, i2b_m]; exact byt_i hv (by omega) hs)) (fun k h1 => ((am_up_nk (by omega)).trans ((congrFun (am_up_o (by omega)) _).trans (hfA k (by omega)))))
  exact hL3 _ 24 0 μ rfl Fr.rf (by first | omega | assumption) (by first | omega | assumption) ((rfl : μ 45 35 = μ 45 35).trans (by omega)) (apN_0 _ (μ 45 35) v).symm (fun k h1 => rfl)

set_option maxRecDepth 100000 in
set_option maxHeartbeats 4000000 in
theorem s_X8_feed (X : AX) (a : Int) (b : Int) (c : Int) (d : Int) (e : Int) (μ : Mu) (ha : -2147483648 ≤ a ∧ a ≤ 2147483647) (hb : -2147483648 ≤ b ∧ b ≤ 2147483647) (hc : -2147483648 ≤ c ∧ c ≤ 2147483647) (hd : -2147483648 ≤ d ∧ d ≤ 2147483647) (he : -2147483648 ≤ e ∧ e ≤ 2147483647) (ht : 0 ≤ μ 45 35 ∧ μ 45 35 ≤ 900) : Wp (GG X) M_X8_feed 0 [(2, 45), (0, a), (0, b), (0, c), (0, d), (0, e)] [] μ (qI 0 fun z μ' => (Fr 45 45 62 62 μ' μ) ∧ ((μ 45 35 + 20 ≤ 900 ∧ z = μ 45 35 + 20 ∧ μ' 45 35 = μ 45 35 + 20 ∧ (fun j => μ' 62 j % 256) = fdN (fun j => μ 62 j % 256) (μ 45 35) a b c d e) ∨ (900 < μ 45 35 + 20 ∧ z = -1 ∧ μ' = am_up μ 45 0 0)) ∧ (∀ k : Int, (¬ k = 0 ∧ ¬ k = 35) → μ' 45 k = μ 45 k)) := by
  refine w_aload_n dX8_feed_0 rfl rfl (by first | decide | omega) ?_
  refine w_iconst dX8_feed_1 ?_
  refine w_putI (o := 45) (f := 0) fX8_feed_2 rfl rfl rfl rfl rfl ?_
  refine w_aload_n dX8_feed_5 rfl rfl (by first | decide | omega) ?_
  refine w_getIx (o := 45) (f := 35) (x := μ 45 35) fX8_feed_6 rfl rfl (Nat.le_of_ble_eq_true rfl) rfl (am_up_nk (by omega)) ?_
  refine w_bipush dX8_feed_9 (by decide) ?_
  refine w_iadd dX8_feed_11 ?_
  refine w_sipush dX8_feed_12 (by decide) ?_
  refine w_icmp_le (tgt := 20) dX8_feed_15 rfl (R32.in (by omega)) (R32.in (by decide)) (fun c15 => ?_) (fun c15 => ?_)
  · skip
    refine w_aload_n dX8_feed_20 rfl rfl (by first | decide | omega) ?_
    refine w_iload_n dX8_feed_21 rfl rfl ?_
    refine w_callVV (o := 45) (ci := 8) (as := [(0, a)]) (rest := []) (k := 1) fX8_feed_22 rfl rfl rfl rfl rfl rfl rfl rfl (Nat.le_of_ble_eq_true rfl) (s_X8_four X a (am_up μ 45 0 0) (by first | omega | assumption) (by rw [am_up_nk (by omega)]; omega)) (fun μA hμA => ?_)
    obtain ⟨hFA, h35_A, hb_A, hf_A⟩ := hμA
    refine w_aload_n dX8_feed_25 rfl rfl (by first | decide | omega) ?_
    refine w_iload_n dX8_feed_26 rfl rfl ?_
    refine w_callVV (o := 45) (ci := 8) (as := [(0, b)]) (rest := []) (k := 1) fX8_feed_27 rfl rfl rfl rfl rfl rfl rfl rfl (Nat.le_of_ble_eq_true rfl) (s_X8_four X b μA (by first | omega | assumption) (by rw [h35_A, am_up_nk (by omega)]; omega)) (fun μB hμB => ?_)
    obtain ⟨hFB, h35_B, hb_B, hf_B⟩ := hμB
    refine w_aload_n dX8_feed_30 rfl rfl (by first | decide | omega) ?_
    refine w_iload_n dX8_feed_31 rfl rfl ?_
    refine w_callVV (o := 45) (ci := 8) (as := [(0, c)]) (rest := []) (k := 1) fX8_feed_32 rfl rfl rfl rfl rfl rfl rfl rfl (Nat.le_of_ble_eq_true rfl) (s_X8_four X c μB (by first | omega | assumption) (by rw [h35_B, h35_A, am_up_nk (by omega)]; omega)) (fun μC hμC => ?_)
    obtain ⟨hFC, h35_C, hb_C, hf_C⟩ := hμC
    refine w_aload_n dX8_feed_35 rfl rfl (by first | decide | omega) ?_
    refine w_iload dX8_feed_36 rfl ?_
    refine w_callVV (o := 45) (ci := 8) (as := [(0, d)]) (rest := []) (k := 1) fX8_feed_38 rfl rfl rfl rfl rfl rfl rfl rfl (Nat.le_of_ble_eq_true rfl) (s_X8_four X d μC (by first | omega | assumption) (by rw [h35_C, h35_B, h35_A, am_up_nk (by omega)]; omega)) (fun μD hμD => ?_)
    obtain ⟨hFD, h35_D, hb_D, hf_D⟩ := hμD
    refine w_aload_n dX8_feed_41 rfl rfl (by first | decide | omega) ?_
    refine w_iload dX8_feed_42 rfl ?_
    refine w_callVV (o := 45) (ci := 8) (as := [(0, e)]) (rest := []) (k := 1) fX8_feed_44 rfl rfl rfl rfl rfl rfl rfl rfl (Nat.le_of_ble_eq_true rfl) (s_X8_four X e μD (by first | omega | assumption) (by rw [h35_D, h35_C, h35_B, h35_A, am_up_nk (by omega)]; omega)) (fun μE hμE => ?_)
    obtain ⟨hFE, h35_E, hb_E, hf_E⟩ := hμE
    have h0 : am_up μ 45 0 0 45 35 = μ 45 35 := am_up_nk (by omega)
    have h62 : am_up μ 45 0 0 62 = μ 62 := am_up_o (by omega)
    refine w_aload_n dX8_feed_47 rfl rfl (by first | decide | omega) ?_
    refine w_getIx (o := 45) (f := 35) (x := μE 45 35) fX8_feed_48 rfl rfl (Nat.le_of_ble_eq_true rfl) rfl rfl ?_
    exact w_iretI dX8_feed_51 rfl ⟨((hFE.wd (by omega) (by omega)).tr ((hFD.wd (by omega) (by omega)).tr ((hFC.wd (by omega) (by omega)).tr ((hFB.wd (by omega) (by omega)).tr ((hFA.wd (by omega) (by omega)).tr (Fr.rf.up (by omega))))))), (by exact Or.inl ⟨by omega, by omega, by omega, by rw [hb_E, hb_D, hb_C, hb_B, hb_A, h35_D, h35_C, h35_B, h35_A, h0, h62]; rfl⟩), (fun k h1 => ((hf_E k (by omega)).trans ((hf_D k (by omega)).trans ((hf_C k (by omega)).trans ((hf_B k (by omega)).trans ((hf_A k (by omega)).trans (am_up_nk (by omega))))))))⟩
  · skip
    refine w_iconst dX8_feed_18 ?_
    exact w_iretI dX8_feed_19 rfl ⟨(Fr.rf.up (by omega)), (by exact Or.inr ⟨by omega, rfl, rfl⟩), (fun k h1 => (am_up_nk (by omega)))⟩
