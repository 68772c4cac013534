set_option maxRecDepth 100000 in
set_option maxHeartbeats 4000000 in
theorem s_X8_goesOn (X : AX) (p : Int) (g : Int) (i : Int) (k : Int) (μ : Mu) (hC : CJ μ p) (hJ : RJ μ p) (hg : 0 ≤ g ∧ g < μ p 14) (hi : (μ (p + 9) g) ≤ i ∧ i < (μ (p + 9) g) + μ (p + 10) g) (hk : 1 ≤ k ∧ k ≤ 3) : Wp (GG X) M_X8_goesOn 0 [(2, 45), (0, g), (0, i), (0, k)] [] μ (pP 0 (am_b (k ≤ bmr μ p i)) μ) := by
  have hI := hC.i
  have hG := hC.pg
  have hp := hI.at
  have hz := hI.sz
  have hgr := hG.gr
  have hkn := hC.kn
  have hfl := hG.fl hg
  refine w_iload_n dX8_goesOn_0 rfl rfl ?_
  refine w_iconst dX8_goesOn_1 ?_
  refine w_iadd dX8_goesOn_2 ?_
  refine w_aload_n dX8_goesOn_3 rfl rfl (by first | decide | omega) ?_
  refine w_getR (o := 45) (x := 54) fX8_goesOn_4 rfl rfl rfl rfl ?_
  refine w_iload_n dX8_goesOn_7 rfl rfl ?_
  refine w_ialdx (o := 54) (n := 33) (x := μ (p + 9) g) dX8_goesOn_8 rfl rfl (Nat.le_of_ble_eq_true rfl) (by omega) (hJ.gf (by omega)) ?_
  have hr1 := PG.fl hG (g := g) (by omega)
  refine w_aload_n dX8_goesOn_9 rfl rfl (by first | decide | omega) ?_
  refine w_getR (o := 45) (x := 55) fX8_goesOn_10 rfl rfl rfl rfl ?_
  refine w_iload_n dX8_goesOn_13 rfl rfl ?_
  refine w_ialdx (o := 55) (n := 33) (x := μ (p + 10) g) dX8_goesOn_14 rfl rfl (Nat.le_of_ble_eq_true rfl) (by omega) (hJ.gm (by omega)) ?_
  refine w_iadd dX8_goesOn_15 ?_
  refine w_icmp_ge (tgt := 50) dX8_goesOn_16 rfl (R32.in (by omega)) (R32.in (by omega)) (fun c16 => ?_) (fun c16 => ?_)
  · skip
    refine w_iconst dX8_goesOn_50 ?_
    exact w_zretP dX8_goesOn_51 rfl (Or.inl rfl) (by first | exact am_b_t (by rw [bmr_in hC hg (by omega)]; omega) | exact am_b_f (by rw [bmr_in hC hg (by omega)]; omega) | exact am_b_f (by rw [bmr_last hC hg (by omega)]; omega))
  · skip
    refine w_aload_n dX8_goesOn_19 rfl rfl (by first | decide | omega) ?_
    refine w_getR (o := 45) (x := 48) fX8_goesOn_20 rfl rfl rfl rfl ?_
    refine w_iload_n dX8_goesOn_23 rfl rfl ?_
    refine w_ialdx (o := 48) (n := 64) (x := bok (μ (p + 3) i)) dX8_goesOn_24 rfl rfl (Nat.le_of_ble_eq_true rfl) (by omega) (hJ.kd (by omega)) ?_
    have hr2 := bok_f (μ (p + 3) i)
    refine w_callSP (as := [(0, bok (μ (p + 3) i))]) (rest := []) (k := 0) fX8_goesOn_25 rfl rfl rfl rfl rfl (Nat.le_of_ble_eq_true rfl) (s_X8_beamsOf X (bok (μ (p + 3) i)) μ) ?_
    refine w_aload_n dX8_goesOn_28 rfl rfl (by first | decide | omega) ?_
    refine w_getR (o := 45) (x := 48) fX8_goesOn_29 rfl rfl rfl rfl ?_
    refine w_iload_n dX8_goesOn_32 rfl rfl ?_
    refine w_iconst dX8_goesOn_33 ?_
    refine w_iadd dX8_goesOn_34 ?_
    refine w_ialdx (o := 48) (n := 64) (x := bok (μ (p + 3) (i + 1))) dX8_goesOn_35 rfl rfl (Nat.le_of_ble_eq_true rfl) (by omega) (hJ.kd (by omega)) ?_
    have hr3 := bok_f (μ (p + 3) (i + 1))
    refine w_callSP (as := [(0, bok (μ (p + 3) (i + 1)))]) (rest := [(0, (bok (μ (p + 3) i)))]) (k := 0) fX8_goesOn_36 rfl rfl rfl rfl rfl (Nat.le_of_ble_eq_true rfl) (s_X8_beamsOf X (bok (μ (p + 3) (i + 1))) μ) ?_
    refine w_callSP (as := [(0, (bok (μ (p + 3) i))), (0, (bok (μ (p + 3) (i + 1))))]) (rest := []) (k := 0) fX8_goesOn_39 rfl rfl rfl rfl rfl (Nat.le_of_ble_eq_true rfl) (s_X8_lesser X (bok (μ (p + 3) i)) (bok (μ (p + 3) (i + 1))) μ (by first | omega | assumption) (by first | omega | assumption)) ?_
    refine w_iload_n dX8_goesOn_42 rfl rfl ?_
    refine w_icmp_lt (tgt := 50) dX8_goesOn_43 rfl (R32.in (by omega)) (R32.in (by omega)) (fun c43 => ?_) (fun c43 => ?_)
    · skip
      refine w_iconst dX8_goesOn_50 ?_
      exact w_zretP dX8_goesOn_51 rfl (Or.inl rfl) (by first | exact am_b_t (by rw [bmr_in hC hg (by omega)]; omega) | exact am_b_f (by rw [bmr_in hC hg (by omega)]; omega) | exact am_b_f (by rw [bmr_last hC hg (by omega)]; omega))
    · skip
      refine w_iconst dX8_goesOn_46 ?_
      refine w_goto (tgt := 51) dX8_goesOn_47 rfl ?_
      exact w_zretP dX8_goesOn_51 rfl (Or.inr rfl) (by first | exact am_b_t (by rw [bmr_in hC hg (by omega)]; omega) | exact am_b_f (by rw [bmr_in hC hg (by omega)]; omega) | exact am_b_f (by rw [bmr_last hC hg (by omega)]; omega))

set_option maxRecDepth 100000 in
set_option maxHeartbeats 4000000 in
theorem s_X8_stretchFrom (X : AX) (p : Int) (g : Int) (a : Int) (k : Int) (μ : Mu) (hC : CJ μ p) (hJ : RJ μ p) (hg : 0 ≤ g ∧ g < μ p 14) (ha : (μ (p + 9) g) ≤ a ∧ a ≤ (μ (p + 9) g) + μ (p + 10) g) (hk : 1 ≤ k ∧ k ≤ 3) : Wp (GG X) M_X8_stretchFrom 0 [(2, 45), (0, g), (0, a), (0, k), (9, 0), (9, 0)] [] μ (qI 0 fun z μ' => (Fr 1 0 1 0 μ' μ) ∧ (SF μ p k a ((μ (p + 9) g) + μ (p + 10) g) z)) := by
  have hI := hC.i
  have hG := hC.pg
  have hp := hI.at
  have hz := hI.sz
  have hgr := hG.gr
  have hkn := hC.kn
  have hfl := hG.fl hg
  refine w_aload_n dX8_stretchFrom_0 rfl rfl (by first | decide | omega) ?_
  refine w_getR (o := 45) (x := 54) fX8_stretchFrom_1 rfl rfl rfl rfl ?_
  refine w_iload_n dX8_stretchFrom_4 rfl rfl ?_
  refine w_ialdx (o := 54) (n := 33) (x := μ (p + 9) g) dX8_stretchFrom_5 rfl rfl (Nat.le_of_ble_eq_true rfl) (by omega) (hJ.gf (by omega)) ?_
  have hr1 := PG.fl hG (g := g) (by omega)
  refine w_aload_n dX8_stretchFrom_6 rfl rfl (by first | decide | omega) ?_
  refine w_getR (o := 45) (x := 55) fX8_stretchFrom_7 rfl rfl rfl rfl ?_
  refine w_iload_n dX8_stretchFrom_10 rfl rfl ?_
  refine w_ialdx (o := 55) (n := 33) (x := μ (p + 10) g) dX8_stretchFrom_11 rfl rfl (Nat.le_of_ble_eq_true rfl) (by omega) (hJ.gm (by omega)) ?_
  refine w_iadd dX8_stretchFrom_12 ?_
  refine w_istore (ls' := [(2, 45), (0, g), (0, a), (0, k), (0, (μ (p + 9) g) + (μ (p + 10) g)), (9, 0)]) dX8_stretchFrom_13 (Nat.le_of_ble_eq_true rfl) rfl rfl ?_
  refine w_iload_n dX8_stretchFrom_15 rfl rfl ?_
  refine w_istore (ls' := [(2, 45), (0, g), (0, a), (0, k), (0, (μ (p + 9) g) + (μ (p + 10) g)), (0, a)]) dX8_stretchFrom_16 (Nat.le_of_ble_eq_true rfl) rfl rfl ?_
  have hL18 : ∀ (n18 : Nat) (i : Int), ((μ (p + 9) g) + μ (p + 10) g - i).toNat = n18 → (a ≤ i ∧ i ≤ (μ (p + 9) g) + μ (p + 10) g) → (∀ j, a ≤ j → j < i → ¬ k ≤ bmr μ p j) → Wp (GG X) M_X8_stretchFrom 18 [(2, 45), (0, g), (0, a), (0, k), (0, (μ (p + 9) g) + (μ (p + 10) g)), (0, i)] [] μ (qI 0 fun z μ' => (Fr 1 0 1 0 μ' μ) ∧ (SF μ p k a ((μ (p + 9) g) + μ (p + 10) g) z)) := by
    intro n18
    induction n18 using Nat.strongRecOn with
    | ind n18 ih18 =>
      intro i hn18 hi0 hno
      refine w_iload dX8_stretchFrom_18 rfl ?_
      refine w_iload dX8_stretchFrom_20 rfl ?_
      refine w_icmp_ge (tgt := 42) dX8_stretchFrom_22 rfl (R32.in (by omega)) (R32.in (by omega)) (fun c22 => ?_) (fun c22 => ?_)
      · skip
        refine w_iload dX8_stretchFrom_42 rfl ?_
        refine w_iload dX8_stretchFrom_44 rfl ?_
        refine w_icmp_ge (tgt := 54) dX8_stretchFrom_46 rfl (R32.in (by omega)) (R32.in (by omega)) (fun c46 => ?_) (fun c46 => ?_)
        · skip
          refine w_iconst dX8_stretchFrom_54 ?_
          exact w_iretI dX8_stretchFrom_55 rfl ⟨Fr.rf, (by first | exact Or.inr ⟨by omega, c33, hno⟩ | exact Or.inl ⟨rfl, fun j h1 h2 => hno j h1 (by omega)⟩ | (exfalso; omega))⟩
        · skip
          refine w_iload dX8_stretchFrom_49 rfl ?_
          refine w_goto (tgt := 55) dX8_stretchFrom_51 rfl ?_
          exact w_iretI dX8_stretchFrom_55 rfl ⟨Fr.rf, (by first | exact Or.inr ⟨by omega, c33, hno⟩ | exact Or.inl ⟨rfl, fun j h1 h2 => hno j h1 (by omega)⟩ | (exfalso; omega))⟩
      · skip
        refine w_aload_n dX8_stretchFrom_25 rfl rfl (by first | decide | omega) ?_
        refine w_iload_n dX8_stretchFrom_26 rfl rfl ?_
        refine w_iload dX8_stretchFrom_27 rfl ?_
        refine w_iload_n dX8_stretchFrom_29 rfl rfl ?_
        refine w_callVP (o := 45) (ci := 8) (as := [(0, g), (0, i), (0, k)]) (rest := []) (k := 0) fX8_stretchFrom_30 rfl rfl rfl rfl rfl rfl rfl rfl (Nat.le_of_ble_eq_true rfl) (s_X8_goesOn X p g i k μ hC hJ (by first | omega | assumption) (by first | omega | assumption) (by first | omega | assumption)) ?_
        have hf2 := am_b_r (k ≤ bmr μ p i)
        refine w_if_ne (tgt := 42) dX8_stretchFrom_33 rfl (R32.in (by have := am_b_r ((k ≤ bmr μ p i)); omega)) (fun c33 => ?_) (fun c33 => ?_)
        · skip
          replace c33 := am_b1 c33
          refine w_iload dX8_stretchFrom_42 rfl ?_
          refine w_iload dX8_stretchFrom_44 rfl ?_
          refine w_icmp_ge (tgt := 54) dX8_stretchFrom_46 rfl (R32.in (by omega)) (R32.in (by omega)) (fun c46 => ?_) (fun c46 => ?_)
          · skip
            refine w_iconst dX8_stretchFrom_54 ?_
            exact w_iretI dX8_stretchFrom_55 rfl ⟨Fr.rf, (by first | exact Or.inr ⟨by omega, c33, hno⟩ | exact Or.inl ⟨rfl, fun j h1 h2 => hno j h1 (by omega)⟩ | (exfalso; omega))⟩
          · skip
            refine w_iload dX8_stretchFrom_49 rfl ?_
            refine w_goto (tgt := 55) dX8_stretchFrom_51 rfl ?_
            exact w_iretI dX8_stretchFrom_55 rfl ⟨Fr.rf, (by first | exact Or.inr ⟨by omega, c33, hno⟩ | exact Or.inl ⟨rfl, fun j h1 h2 => hno j h1 (by omega)⟩ | (exfalso; omega))⟩
        · skip
          replace c33 := am_b0 c33
          refine w_iinc (ls' := [(2, 45), (0, g), (0, a), (0, k), (0, (μ (p + 9) g) + (μ (p + 10) g)), (0, i + 1)]) dX8_stretchFrom_36 rfl (Nat.le_of_ble_eq_true rfl) rfl rfl ?_
          refine w_goto (tgt := 18) dX8_stretchFrom_39 rfl ?_
          exact ih18 _ (by omega) (i + 1) rfl (by first | omega | assumption) (fun j h1 h2 => by by_cases q : j = i; exact q ▸ c33; exact hno j h1 (by omega))
  exact hL18 _ a rfl (by first | omega | assumption) (fun j h1 h2 => by omega)

set_option maxRecDepth 100000 in
set_option maxHeartbeats 4000000 in
theorem s_X8_stretchEnd (X : AX) (p : Int) (g : Int) (b : Int) (k : Int) (μ : Mu) (hC : CJ μ p) (hJ : RJ μ p) (hg : 0 ≤ g ∧ g < μ p 14) (hb : (μ (p + 9) g) ≤ b ∧ b < (μ (p + 9) g) + μ (p + 10) g) (hk : 1 ≤ k ∧ k ≤ 3) : Wp (GG X) M_X8_stretchEnd 0 [(2, 45), (0, g), (0, b), (0, k), (9, 0)] [] μ (qI 0 fun z μ' => (Fr 1 0 1 0 μ' μ) ∧ (SE μ p k b ((μ (p + 9) g) + μ (p + 10) g) z)) := by
  have hI := hC.i
  have hG := hC.pg
  have hp := hI.at
  have hz := hI.sz
  have hgr := hG.gr
  have hkn := hC.kn
  have hfl := hG.fl hg
  refine w_iload_n dX8_stretchEnd_0 rfl rfl ?_
  refine w_istore (ls' := [(2, 45), (0, g), (0, b), (0, k), (0, b)]) dX8_stretchEnd_1 (Nat.le_of_ble_eq_true rfl) rfl rfl ?_
  have hL3 : ∀ (n3 : Nat) (i : Int), ((μ (p + 9) g) + μ (p + 10) g - i).toNat = n3 → (b ≤ i ∧ i < (μ (p + 9) g) + μ (p + 10) g) → (∀ j, b ≤ j → j < i → k ≤ bmr μ p j) → Wp (GG X) M_X8_stretchEnd 3 [(2, 45), (0, g), (0, b), (0, k), (0, i)] [] μ (qI 0 fun z μ' => (Fr 1 0 1 0 μ' μ) ∧ (SE μ p k b ((μ (p + 9) g) + μ (p + 10) g) z)) := by
    intro n3
    induction n3 using Nat.strongRecOn with
    | ind n3 ih3 =>
      intro i hn3 hi0 hno
      refine w_aload_n dX8_stretchEnd_3 rfl rfl (by first | decide | omega) ?_
      refine w_iload_n dX8_stretchEnd_4 rfl rfl ?_
      refine w_iload dX8_stretchEnd_5 rfl ?_
      refine w_iload_n dX8_stretchEnd_7 rfl rfl ?_
      refine w_callVP (o := 45) (ci := 8) (as := [(0, g), (0, i), (0, k)]) (rest := []) (k := 0) fX8_stretchEnd_8 rfl rfl rfl rfl rfl rfl rfl rfl (Nat.le_of_ble_eq_true rfl) (s_X8_goesOn X p g i k μ hC hJ (by first | omega | assumption) (by first | omega | assumption) (by first | omega | assumption)) ?_
      have hf1 := am_b_r (k ≤ bmr μ p i)
      refine w_if_eq (tgt := 20) dX8_stretchEnd_11 rfl (R32.in (by have := am_b_r ((k ≤ bmr μ p i)); omega)) (fun c11 => ?_) (fun c11 => ?_)
      · skip
        replace c11 := am_b0 c11
        refine w_iload dX8_stretchEnd_20 rfl ?_
        exact w_iretI dX8_stretchEnd_22 rfl ⟨Fr.rf, (by exact ⟨by omega, c11, hno⟩)⟩
      · skip
        replace c11 := am_b1 c11
        refine w_iinc (ls' := [(2, 45), (0, g), (0, b), (0, k), (0, i + 1)]) dX8_stretchEnd_14 rfl (Nat.le_of_ble_eq_true rfl) rfl rfl ?_
        refine w_goto (tgt := 3) dX8_stretchEnd_17 rfl ?_
        exact ih3 _ (by omega) (i + 1) rfl (by have q8 : ¬ i = (μ (p + 9) g) + μ (p + 10) g - 1 := (fun q => by rw [bmr_last hC hg q] at c11; omega); omega) (fun j h1 h2 => by by_cases q : j = i; exact q ▸ c11; exact hno j h1 (by omega))
  exact hL3 _ b rfl (by omega) (fun j h1 h2 => by omega)

set_option maxRecDepth 100000 in
set_option maxHeartbeats 4000000 in
theorem s_X8_stretchAt (X : AX) (p : Int) (g : Int) (k : Int) (n : Int) (μ : Mu) (hC : CJ μ p) (hJ : RJ μ p) (hg : 0 ≤ g ∧ g < μ p 14) (hk : 1 ≤ k ∧ k ≤ 3) (hn : 0 ≤ n ∧ n ≤ 2147483647) : Wp (GG X) M_X8_stretchAt 0 [(2, 45), (0, g), (0, k), (0, n), (9, 0), (9, 0)] [] μ (qI 0 fun z μ' => (Fr 1 0 1 0 μ' μ) ∧ (SA μ p k (μ (p + 9) g) (μ (p + 10) g) n z)) := by
  have hI := hC.i
  have hG := hC.pg
  have hp := hI.at
  have hz := hI.sz
  have hgr := hG.gr
  have hkn := hC.kn
  have hfl := hG.fl hg
  refine w_aload_n dX8_stretchAt_0 rfl rfl (by first | decide | omega) ?_
  refine w_iload_n dX8_stretchAt_1 rfl rfl ?_
  refine w_aload_n dX8_stretchAt_2 rfl rfl (by first | decide | omega) ?_
  refine w_getR (o := 45) (x := 54) fX8_stretchAt_3 rfl rfl rfl rfl ?_
  refine w_iload_n dX8_stretchAt_6 rfl rfl ?_
  refine w_ialdx (o := 54) (n := 33) (x := μ (p + 9) g) dX8_stretchAt_7 rfl rfl (Nat.le_of_ble_eq_true rfl) (by omega) (hJ.gf (by omega)) ?_
  have hr1 := PG.fl hG (g := g) (by omega)
  refine w_iload_n dX8_stretchAt_8 rfl rfl ?_
  refine w_callVI (o := 45) (ci := 8) (as := [(0, g), (0, μ (p + 9) g), (0, k)]) (rest := []) (k := 2) fX8_stretchAt_9 rfl rfl rfl rfl rfl rfl rfl rfl (Nat.le_of_ble_eq_true rfl) (s_X8_stretchFrom X p g (μ (p + 9) g) k μ hC hJ (by first | omega | assumption) (by first | omega | assumption) (by first | omega | assumption)) (fun xA μA hμA => ?_)
  obtain ⟨hFA, hz_A⟩ := hμA
  refine w_istore (ls' := [(2, 45), (0, g), (0, k), (0, n), (0, xA), (9, 0)]) dX8_stretchAt_12 (Nat.le_of_ble_eq_true rfl) rfl rfl ?_
  refine w_iconst dX8_stretchAt_14 ?_
  refine w_istore (ls' := [(2, 45), (0, g), (0, k), (0, n), (0, xA), (0, 0)]) dX8_stretchAt_15 (Nat.le_of_ble_eq_true rfl) rfl rfl ?_
  have hL17 : ∀ (n17 : Nat) (b : Int) (m : Int) (μ1 : Mu), (n - m).toNat = n17 → Fr 1 0 1 0 μ1 μ → (0 ≤ m ∧ m ≤ n) → (b = -1 ∨ ((μ (p + 9) g) ≤ b ∧ b < (μ (p + 9) g) + μ (p + 10) g)) → (SA μ p k (μ (p + 9) g) (μ (p + 10) g) m b) → Wp (GG X) M_X8_stretchAt 17 [(2, 45), (0, g), (0, k), (0, n), (0, b), (0, m)] [] μ1 (qI 0 fun z μ' => (Fr 1 0 1 0 μ' μ) ∧ (SA μ p k (μ (p + 9) g) (μ (p + 10) g) n z)) := by
    intro n17
    induction n17 using Nat.strongRecOn with
    | ind n17 ih17 =>
      intro b m μ1 hn17 hF17 hm0 hbr hs
      have em : μ1 = μ := Fr.all hF17
      refine w_iload dX8_stretchAt_17 rfl ?_
      refine w_iload_n dX8_stretchAt_19 rfl rfl ?_
      refine w_icmp_ge (tgt := 51) dX8_stretchAt_20 rfl (R32.in (by omega)) (R32.in (by omega)) (fun c20 => ?_) (fun c20 => ?_)
      · skip
        refine w_iload dX8_stretchAt_51 rfl ?_
        exact w_iretI dX8_stretchAt_53 rfl ⟨hF17, (by first | (have q8 : m = n := (by omega); exact q8 ▸ hs) | (have q7 : b = -1 := (by omega); rw [q7] at hs ⊢; exact SA_no hs hfl.1 (by omega)))⟩
      · skip
        refine w_iload dX8_stretchAt_23 rfl ?_
        refine w_iconst dX8_stretchAt_25 ?_
        refine w_icmp_eq (tgt := 51) dX8_stretchAt_26 rfl (R32.in (by omega)) (R32.in (by decide)) (fun c26 => ?_) (fun c26 => ?_)
        · skip
          refine w_iload dX8_stretchAt_51 rfl ?_
          exact w_iretI dX8_stretchAt_53 rfl ⟨hF17, (by first | (have q8 : m = n := (by omega); exact q8 ▸ hs) | (have q7 : b = -1 := (by omega); rw [q7] at hs ⊢; exact SA_no hs hfl.1 (by omega)))⟩
        · skip
          refine w_aload_n dX8_stretchAt_29 rfl rfl (by first | decide | omega) ?_
          refine w_iload_n dX8_stretchAt_30 rfl rfl ?_
          refine w_aload_n dX8_stretchAt_31 rfl rfl (by first | decide | omega) ?_
          refine w_iload_n dX8_stretchAt_32 rfl rfl ?_
          refine w_iload dX8_stretchAt_33 rfl ?_
          refine w_iload_n dX8_stretchAt_35 rfl rfl ?_
          refine w_callVI (o := 45) (ci := 8) (as := [(0, g), (0, b), (0, k)]) (rest := [(0, g), (2, 45)]) (k := 1) fX8_stretchAt_36 rfl rfl rfl rfl rfl rfl rfl rfl (Nat.le_of_ble_eq_true rfl) (s_X8_stretchEnd X p g b k μ1 (CJ.cg hC (fun o h1 => (hF17.at (by omega) (by omega)))) (RJ.cg2 hJ (fun o h1 => (hF17.at (by omega) (by omega))) (fun k h1 => (congrFun (hF17.at (by omega) (by omega)) _))) (by rw [em]; exact hg) (by rw [em]; omega) (by first | omega | assumption)) (fun xE μE hμE => ?_)
          obtain ⟨hFE, hz_E⟩ := hμE
          have emE : μE = μ := (Fr.all hFE).trans em
          rw [em] at hz_E
          refine w_iload_n dX8_stretchAt_39 rfl rfl ?_
          refine w_callVI (o := 45) (ci := 8) (as := [(0, g), (0, xE), (0, k)]) (rest := []) (k := 2) fX8_stretchAt_40 rfl rfl rfl rfl rfl rfl rfl rfl (Nat.le_of_ble_eq_true rfl) (s_X8_stretchFrom X p g xE k μE (CJ.cg hC (fun o h1 => ((hFE.at (by omega) (by omega)).trans (hF17.at (by omega) (by omega))))) (RJ.cg2 hJ (fun o h1 => ((hFE.at (by omega) (by omega)).trans (hF17.at (by omega) (by omega)))) (fun k h1 => ((congrFun (hFE.at (by omega) (by omega)) _).trans (congrFun (hF17.at (by omega) (by omega)) _)))) (by rw [emE]; exact hg) (by rw [emE]; have := hz_E.1; omega) (by first | omega | assumption)) (fun xB μB hμB => ?_)
          obtain ⟨hFB, hz_B⟩ := hμB
          rw [emE] at hz_B
          refine w_istore (ls' := [(2, 45), (0, g), (0, k), (0, n), (0, xB), (0, m)]) dX8_stretchAt_43 (Nat.le_of_ble_eq_true rfl) rfl rfl ?_
          refine w_iinc (ls' := [(2, 45), (0, g), (0, k), (0, n), (0, xB), (0, m + 1)]) dX8_stretchAt_45 rfl (Nat.le_of_ble_eq_true rfl) rfl rfl ?_
          refine w_goto (tgt := 17) dX8_stretchAt_48 rfl ?_
          exact ih17 _ (by omega) xB (m + 1) μB rfl ((hFB.wd (by omega) (by omega)).tr ((hFE.wd (by omega) (by omega)).tr hF17)) (by first | omega | assumption) (by rcases hz_B with q | q <;> have := hz_E.1 <;> omega) (SA_s hC hg hk.1 hs (by omega) hz_E hz_B)
  exact hL17 _ xA 0 μA rfl hFA (by first | omega | assumption) (by rcases hz_A with q | q <;> omega) (SA_0 hC hg hk.1 hz_A)
