set_option maxRecDepth 100000 in
set_option maxHeartbeats 4000000 in
theorem s_X0_heightOf_k (X : AX) (D : GDt) (s : Int) (l : Int) (k : Int) (a : Int) (μ : Mu) (hG : GLd D μ) (hs : inS s l) (ha : alw D s l) (hk : k = key D s l) (ha2 : 0 ≤ a ∧ a < dN D) : Wp (GG X) M_X0_heightOf 0 [(2, 6), (1, k), (9, 0), (0, a), (9, 0)] [] μ (pP 0 (l * spn D + s * dX D a) μ) := by
  have hok := hG.ok
  have hn := hok.n
  refine w_aload_n dX0_heightOf_0 rfl rfl (by first | decide | omega) ?_
  refine w_lload_n dX0_heightOf_1 rfl rfl ?_
  refine w_callVP (o := 6) (ci := 0) (as := [(1, k)]) (rest := []) (k := 0) fX0_heightOf_2 rfl rfl rfl rfl rfl rfl rfl rfl (Nat.le_of_ble_eq_true rfl) (s_X0_leftOf_k X D s l k μ hG (by first | assumption | omega) (by first | assumption | omega) (by first | omega | assumption)) ?_
  refine w_istore (ls' := [(2, 6), (1, k), (9, 0), (0, a), (0, l)]) dX0_heightOf_5 (Nat.le_of_ble_eq_true rfl) rfl rfl ?_
  refine w_iload dX0_heightOf_7 rfl ?_
  refine w_aload_n dX0_heightOf_9 rfl rfl (by first | decide | omega) ?_
  refine w_getIx (o := 6) (f := 2) (x := spn D) fX0_heightOf_10 rfl rfl (Nat.le_of_ble_eq_true rfl) rfl hG.sp ?_
  have hr1 := (hG.ok).sp
  refine w_imul dX0_heightOf_13 ?_
  refine w_aload_n dX0_heightOf_14 rfl rfl (by first | decide | omega) ?_
  refine w_lload_n dX0_heightOf_15 rfl rfl ?_
  refine w_callVP (o := 6) (ci := 0) (as := [(1, k)]) (rest := [(0, l * (spn D))]) (k := 0) fX0_heightOf_16 rfl rfl rfl rfl rfl rfl rfl rfl (Nat.le_of_ble_eq_true rfl) (s_X0_rightOf_k X D s l k μ hG (by first | assumption | omega) (by first | assumption | omega) (by first | omega | assumption)) ?_
  refine w_iload dX0_heightOf_19 rfl ?_
  refine w_isub dX0_heightOf_21 ?_
  refine w_aload_n dX0_heightOf_22 rfl rfl (by first | decide | omega) ?_
  refine w_getR (o := 6) (x := 7) fX0_heightOf_23 rfl rfl rfl rfl ?_
  refine w_iload_n dX0_heightOf_26 rfl rfl ?_
  refine w_ialdx (o := 7) (n := 64) (x := dX D a) dX0_heightOf_27 rfl rfl (Nat.le_of_ble_eq_true rfl) (by omega) (hG.x (by omega)) ?_
  have hr2 := (hG.ok).xs (i := a) (by omega)
  refine w_imul dX0_heightOf_28 ?_
  refine w_iadd dX0_heightOf_29 ?_
  exact w_iretP dX0_heightOf_30 rfl (by rw [show l + s - l = s by omega])

set_option maxRecDepth 100000 in
set_option maxHeartbeats 4000000 in
theorem s_X0_lengthOf_k (X : AX) (D : GDt) (s : Int) (l : Int) (k : Int) (a : Int) (μ : Mu) (hG : GLd D μ) (hs : inS s l) (ha : alw D s l) (hk : k = key D s l) (ha2 : 0 ≤ a ∧ a < dN D) : Wp (GG X) M_X0_lengthOf 0 [(2, 6), (1, k), (9, 0), (0, a)] [] μ (pP 0 (len D s l a) μ) := by
  have hok := hG.ok
  have hn := hok.n
  refine w_aload_n dX0_lengthOf_0 rfl rfl (by first | decide | omega) ?_
  refine w_getR (o := 6) (x := 10) fX0_lengthOf_1 rfl rfl rfl rfl ?_
  refine w_iload_n dX0_lengthOf_4 rfl rfl ?_
  refine w_ialdx (o := 10) (n := 64) (x := way D a) dX0_lengthOf_5 rfl rfl (Nat.le_of_ble_eq_true rfl) (by omega) (hG.w (by omega)) ?_
  have hr1 := way_b D a
  refine w_aload_n dX0_lengthOf_6 rfl rfl (by first | decide | omega) ?_
  refine w_lload_n dX0_lengthOf_7 rfl rfl ?_
  refine w_iload_n dX0_lengthOf_8 rfl rfl ?_
  refine w_callVP (o := 6) (ci := 0) (as := [(1, k), (0, a)]) (rest := [(0, way D a)]) (k := 1) fX0_lengthOf_9 rfl rfl rfl rfl rfl rfl rfl rfl (Nat.le_of_ble_eq_true rfl) (s_X0_heightOf_k X D s l k a μ hG (by first | assumption | omega) (by first | assumption | omega) (by first | omega | assumption) (by first | omega | assumption)) ?_
  have hf2 := hgt_f D s l a (by assumption) (by omega) (by assumption)
  refine w_iconst dX0_lengthOf_12 ?_
  refine w_aload_n dX0_lengthOf_13 rfl rfl (by first | decide | omega) ?_
  refine w_getR (o := 6) (x := 8) fX0_lengthOf_14 rfl rfl rfl rfl ?_
  refine w_iload_n dX0_lengthOf_17 rfl rfl ?_
  refine w_ialdx (o := 8) (n := 64) (x := dH D a) dX0_lengthOf_18 rfl rfl (Nat.le_of_ble_eq_true rfl) (by omega) (hG.h (by omega)) ?_
  have hr3 := (hG.ok).hr (i := a) (by omega)
  refine w_imul dX0_lengthOf_19 ?_
  refine w_aload_n dX0_lengthOf_20 rfl rfl (by first | decide | omega) ?_
  refine w_getIx (o := 6) (f := 2) (x := spn D) fX0_lengthOf_21 rfl rfl (Nat.le_of_ble_eq_true rfl) rfl hG.sp ?_
  have hr4 := (hG.ok).sp
  refine w_imul dX0_lengthOf_24 ?_
  refine w_isub dX0_lengthOf_25 ?_
  refine w_imul dX0_lengthOf_26 ?_
  exact w_iretP dX0_lengthOf_27 rfl (by exact len_h D s l a)

set_option maxRecDepth 100000 in
set_option maxHeartbeats 4000000 in
theorem s_X7_want (X : AX) (p : Int) (g : Int) (μ : Mu) (hC : CJ μ p) (hg : -2147483648 ≤ g ∧ g ≤ 2147483647) : Wp (GG X) M_X7_want 0 [(2, 0), (0, g)] [] μ (qI 0 fun z μ' => (Fr 6 14 1 0 μ' μ) ∧ (z = if (0 ≤ g ∧ g < μ p 14) then want (ddt μ p (p + 5) (μ p 3) g) else -1000000)) := by
  have hI := hC.i
  have hG := hC.pg
  have hp := hI.at
  have hz := hI.sz
  have hgr := hG.gr
  have hkn := hC.kn
  refine w_aload_n dX7_want_0 rfl rfl (by first | decide | omega) ?_
  refine w_iload_n dX7_want_1 rfl rfl ?_
  refine w_callVP (o := 0) (ci := 7) (as := [(0, g)]) (rest := []) (k := 0) fX7_want_2 rfl rfl rfl rfl rfl rfl rfl rfl (Nat.le_of_ble_eq_true rfl) (s_X7_isGroup X p g μ μ (fun o h1 => rfl) hC (by first | omega | assumption)) ?_
  have hf1 := am_b_r (0 ≤ g ∧ g < μ p 14)
  refine w_if_ne (tgt := 11) dX7_want_5 rfl (R32.in (by have := am_b_r ((0 ≤ g ∧ g < μ p 14)); omega)) (fun c5 => ?_) (fun c5 => ?_)
  · skip
    replace c5 := am_b1 c5
    refine w_aload_n dX7_want_11 rfl rfl (by first | decide | omega) ?_
    refine w_iload_n dX7_want_12 rfl rfl ?_
    refine w_callVV (o := 0) (ci := 7) (as := [(0, g)]) (rest := []) (k := 0) fX7_want_13 rfl rfl rfl rfl rfl rfl rfl rfl (Nat.le_of_ble_eq_true rfl) (s_X7_load X p g μ μ (fun o h1 => rfl) hC (by first | omega | assumption)) (fun μ_2 hμ2 => ?_)
    obtain ⟨hF2, hD_2⟩ := hμ2
    refine w_aload_n dX7_want_16 rfl rfl (by first | decide | omega) ?_
    refine w_getR (o := 0) (x := 6) fX7_want_17 rfl rfl rfl rfl ?_
    refine w_getIx (o := 6) (f := 3) (x := want (ddt μ p (p + 5) (μ p 3) g)) fX7_want_20 rfl rfl (Nat.le_of_ble_eq_true rfl) rfl hD_2.wa ?_
    have hr3 := want_r (ddt μ p (p + 5) (μ p 3) g)
    exact w_iretI dX7_want_23 rfl ⟨hF2, (by exact ifT (by omega) rfl)⟩
  · skip
    replace c5 := am_b0 c5
    refine w_ldc (n := -1000000) dX7_want_8 k_704 (by decide) ?_
    exact w_iretI dX7_want_10 rfl ⟨Fr.rf, (by exact ifF (by omega) rfl)⟩

set_option maxRecDepth 100000 in
set_option maxHeartbeats 4000000 in
theorem s_X7_direction (X : AX) (p : Int) (i : Int) (μ : Mu) (hC : CJ μ p) (hi : -2147483648 ≤ i ∧ i ≤ 2147483647) : Wp (GG X) M_X7_direction 0 [(2, 0), (0, i)] [] μ (qI 0 fun z μ' => (Fr 6 14 1 0 μ' μ) ∧ (z = if (0 ≤ i ∧ i < μ p 7) then (if 0 ≤ μ (p + 8) i then way (ddt μ p (p + 5) (μ p 3) (μ (p + 8) i)) (i - μ (p + 9) (μ (p + 8) i)) else 0) else -1000000)) := by
  have hI := hC.i
  have hG := hC.pg
  have hp := hI.at
  have hz := hI.sz
  have hgr := hG.gr
  have hkn := hC.kn
  refine w_aload_n dX7_direction_0 rfl rfl (by first | decide | omega) ?_
  refine w_iload_n dX7_direction_1 rfl rfl ?_
  refine w_callVP (o := 0) (ci := 7) (as := [(0, i)]) (rest := []) (k := 0) fX7_direction_2 rfl rfl rfl rfl rfl rfl rfl rfl (Nat.le_of_ble_eq_true rfl) (s_X7_isElement X p i μ μ (fun o h1 => rfl) hC (by first | omega | assumption)) ?_
  have hf1 := am_b_r (0 ≤ i ∧ i < μ p 7)
  refine w_if_ne (tgt := 11) dX7_direction_5 rfl (R32.in (by have := am_b_r ((0 ≤ i ∧ i < μ p 7)); omega)) (fun c5 => ?_) (fun c5 => ?_)
  · skip
    replace c5 := am_b1 c5
    refine w_aload_n dX7_direction_11 rfl rfl (by first | decide | omega) ?_
    refine w_iload_n dX7_direction_12 rfl rfl ?_
    refine w_callVP (o := 0) (ci := 7) (as := [(0, i)]) (rest := []) (k := 0) fX7_direction_13 rfl rfl rfl rfl rfl rfl rfl rfl (Nat.le_of_ble_eq_true rfl) (s_X7_isGrouped X p i μ μ (fun o h1 => rfl) hC (by first | omega | assumption)) ?_
    have hf2 := am_b_r (0 ≤ i ∧ i < μ p 7 ∧ 0 ≤ μ (p + 8) i)
    refine w_if_ne (tgt := 21) dX7_direction_16 rfl (R32.in (by have := am_b_r ((0 ≤ i ∧ i < μ p 7 ∧ 0 ≤ μ (p + 8) i)); omega)) (fun c16 => ?_) (fun c16 => ?_)
    · skip
      replace c16 := am_b1 c16
      refine w_aload_n dX7_direction_21 rfl rfl (by first | decide | omega) ?_
      refine w_getR (o := 0) (x := 6) fX7_direction_22 rfl rfl rfl rfl ?_
      refine w_getR (o := 6) (x := 10) fX7_direction_25 rfl rfl rfl rfl ?_
      refine w_aload_n dX7_direction_28 rfl rfl (by first | decide | omega) ?_
      refine w_iload_n dX7_direction_29 rfl rfl ?_
      refine w_callVI (o := 0) (ci := 7) (as := [(0, i)]) (rest := [(2, 10)]) (k := 1) fX7_direction_30 rfl rfl rfl rfl rfl rfl rfl rfl (Nat.le_of_ble_eq_true rfl) (s_X7_loadAround X p i μ μ (fun o h1 => rfl) hC (by first | omega | assumption)) (fun xA μA hμA => ?_)
      obtain ⟨hFA, hz_A, hD_A⟩ := hμA
      have hgi := hG.go2 (i := i) (by omega) (by omega)
      have hdn : dN (ddt μ p (p + 5) (μ p 3) (μ (p + 8) i)) = μ (p + 10) (μ (p + 8) i) := rfl
      have hnn := hD_A.ok.n
      refine w_ialdx (o := 10) (n := 64) (x := way (ddt μ p (p + 5) (μ p 3) (μ (p + 8) i)) xA) dX7_direction_33 rfl rfl (Nat.le_of_ble_eq_true rfl) (by omega) (hD_A.w (by omega)) ?_
      have hr4 := way_b (ddt μ p (p + 5) (μ p 3) (μ (p + 8) i)) xA
      exact w_iretI dX7_direction_34 rfl ⟨hFA, (by exact ifT (by omega) (ifT (by omega) (congrArg (way (ddt μ p (p + 5) (μ p 3) (μ (p + 8) i))) hz_A)))⟩
    · skip
      replace c16 := am_b0 c16
      refine w_iconst dX7_direction_19 ?_
      exact w_iretI dX7_direction_20 rfl ⟨Fr.rf, (by exact ifT (by omega) (ifF (by omega) rfl))⟩
  · skip
    replace c5 := am_b0 c5
    refine w_ldc (n := -1000000) dX7_direction_8 k_704 (by decide) ?_
    exact w_iretI dX7_direction_10 rfl ⟨Fr.rf, (by exact ifF (by omega) rfl)⟩

set_option maxRecDepth 100000 in
set_option maxHeartbeats 4000000 in
theorem s_X7_ideal (X : AX) (p : Int) (i : Int) (μ : Mu) (hC : CJ μ p) (hi : -2147483648 ≤ i ∧ i ≤ 2147483647) : Wp (GG X) M_X7_ideal 0 [(2, 0), (0, i)] [] μ (qI 0 fun z μ' => (Fr 6 14 1 0 μ' μ) ∧ (z = if (0 ≤ i ∧ i < μ p 7) then (if 0 ≤ μ (p + 8) i then ideal (ddt μ p (p + 5) (μ p 3) (μ (p + 8) i)) (i - μ (p + 9) (μ (p + 8) i)) else -2) else -1)) := by
  have hI := hC.i
  have hG := hC.pg
  have hp := hI.at
  have hz := hI.sz
  have hgr := hG.gr
  have hkn := hC.kn
  refine w_aload_n dX7_ideal_0 rfl rfl (by first | decide | omega) ?_
  refine w_iload_n dX7_ideal_1 rfl rfl ?_
  refine w_callVP (o := 0) (ci := 7) (as := [(0, i)]) (rest := []) (k := 0) fX7_ideal_2 rfl rfl rfl rfl rfl rfl rfl rfl (Nat.le_of_ble_eq_true rfl) (s_X7_isElement X p i μ μ (fun o h1 => rfl) hC (by first | omega | assumption)) ?_
  have hf1 := am_b_r (0 ≤ i ∧ i < μ p 7)
  refine w_if_ne (tgt := 10) dX7_ideal_5 rfl (R32.in (by have := am_b_r ((0 ≤ i ∧ i < μ p 7)); omega)) (fun c5 => ?_) (fun c5 => ?_)
  · skip
    replace c5 := am_b1 c5
    refine w_aload_n dX7_ideal_10 rfl rfl (by first | decide | omega) ?_
    refine w_iload_n dX7_ideal_11 rfl rfl ?_
    refine w_callVP (o := 0) (ci := 7) (as := [(0, i)]) (rest := []) (k := 0) fX7_ideal_12 rfl rfl rfl rfl rfl rfl rfl rfl (Nat.le_of_ble_eq_true rfl) (s_X7_isGrouped X p i μ μ (fun o h1 => rfl) hC (by first | omega | assumption)) ?_
    have hf2 := am_b_r (0 ≤ i ∧ i < μ p 7 ∧ 0 ≤ μ (p + 8) i)
    refine w_if_ne (tgt := 21) dX7_ideal_15 rfl (R32.in (by have := am_b_r ((0 ≤ i ∧ i < μ p 7 ∧ 0 ≤ μ (p + 8) i)); omega)) (fun c15 => ?_) (fun c15 => ?_)
    · skip
      replace c15 := am_b1 c15
      refine w_aload_n dX7_ideal_21 rfl rfl (by first | decide | omega) ?_
      refine w_getR (o := 0) (x := 6) fX7_ideal_22 rfl rfl rfl rfl ?_
      refine w_getR (o := 6) (x := 11) fX7_ideal_25 rfl rfl rfl rfl ?_
      refine w_aload_n dX7_ideal_28 rfl rfl (by first | decide | omega) ?_
      refine w_iload_n dX7_ideal_29 rfl rfl ?_
      refine w_callVI (o := 0) (ci := 7) (as := [(0, i)]) (rest := [(2, 11)]) (k := 1) fX7_ideal_30 rfl rfl rfl rfl rfl rfl rfl rfl (Nat.le_of_ble_eq_true rfl) (s_X7_loadAround X p i μ μ (fun o h1 => rfl) hC (by first | omega | assumption)) (fun xA μA hμA => ?_)
      obtain ⟨hFA, hz_A, hD_A⟩ := hμA
      have hgi := hG.go2 (i := i) (by omega) (by omega)
      have hdn : dN (ddt μ p (p + 5) (μ p 3) (μ (p + 8) i)) = μ (p + 10) (μ (p + 8) i) := rfl
      have hnn := hD_A.ok.n
      refine w_ialdx (o := 11) (n := 64) (x := ideal (ddt μ p (p + 5) (μ p 3) (μ (p + 8) i)) xA) dX7_ideal_33 rfl rfl (Nat.le_of_ble_eq_true rfl) (by omega) (hD_A.id (by omega)) ?_
      have hr4 := ideal_r (hD_A.ok) (i := xA) (by omega)
      exact w_iretI dX7_ideal_34 rfl ⟨hFA, (by exact ifT (by omega) (ifT (by omega) (congrArg (ideal (ddt μ p (p + 5) (μ p 3) (μ (p + 8) i))) hz_A)))⟩
    · skip
      replace c15 := am_b0 c15
      refine w_bipush dX7_ideal_18 (by decide) ?_
      exact w_iretI dX7_ideal_20 rfl ⟨Fr.rf, (by exact ifT (by omega) (ifF (by omega) rfl))⟩
  · skip
    replace c5 := am_b0 c5
    refine w_iconst dX7_ideal_8 ?_
    exact w_iretI dX7_ideal_9 rfl ⟨Fr.rf, (by exact ifF (by omega) rfl)⟩

set_option maxRecDepth 100000 in
set_option maxHeartbeats 4000000 in
theorem s_X7_ugliness (X : AX) (p : Int) (g : Int) (l : Int) (r : Int) (w : Int) (μ : Mu) (hC : CJ μ p) (hg : -2147483648 ≤ g ∧ g ≤ 2147483647) (hl : -2147483648 ≤ l ∧ l ≤ 2147483647) (hr : -2147483648 ≤ r ∧ r ≤ 2147483647) (hw : -2147483648 ≤ w ∧ w ≤ 2147483647) : Wp (GG X) M_X7_ugliness 0 [(2, 0), (0, g), (0, l), (0, r), (0, w)] [] μ (qI 0 fun z μ' => (Fr 6 14 1 0 μ' μ) ∧ (z = if (0 ≤ g ∧ g < μ p 14) ∧ ((-60 ≤ l ∧ l ≤ 60) ∧ (-60 ≤ r ∧ r ≤ 60) ∧ (-8 ≤ r - l ∧ r - l ≤ 8)) ∧ 0 ≤ w ∧ w ≤ 3 then (if alwB (ddt μ p (p + 5) (μ p 3) g) (r - l) l = true then tls (ddt μ p (p + 5) (μ p 3) g) (r - l) l (w + 2) else -2) else -1)) := by
  have hI := hC.i
  have hG := hC.pg
  have hp := hI.at
  have hz := hI.sz
  have hgr := hG.gr
  have hkn := hC.kn
  refine w_aload_n dX7_ugliness_0 rfl rfl (by first | decide | omega) ?_
  refine w_iload_n dX7_ugliness_1 rfl rfl ?_
  refine w_callVP (o := 0) (ci := 7) (as := [(0, g)]) (rest := []) (k := 0) fX7_ugliness_2 rfl rfl rfl rfl rfl rfl rfl rfl (Nat.le_of_ble_eq_true rfl) (s_X7_isGroup X p g μ μ (fun o h1 => rfl) hC (by first | omega | assumption)) ?_
  have hf1 := am_b_r (0 ≤ g ∧ g < μ p 14)
  refine w_if_eq (tgt := 27) dX7_ugliness_5 rfl (R32.in (by have := am_b_r ((0 ≤ g ∧ g < μ p 14)); omega)) (fun c5 => ?_) (fun c5 => ?_)
  · skip
    replace c5 := am_b0 c5
    refine w_iconst dX7_ugliness_27 ?_
    exact w_iretI dX7_ugliness_28 rfl ⟨Fr.rf, (by exact ifF (by omega) rfl)⟩
  · skip
    replace c5 := am_b1 c5
    refine w_iload_n dX7_ugliness_8 rfl rfl ?_
    refine w_iload_n dX7_ugliness_9 rfl rfl ?_
    refine w_callSP (as := [(0, l), (0, r)]) (rest := []) (k := 0) fX7_ugliness_10 rfl rfl rfl rfl rfl (Nat.le_of_ble_eq_true rfl) (s_X0_isSetting X l r μ (by first | omega | assumption) (by first | omega | assumption)) ?_
    refine w_if_eq (tgt := 27) dX7_ugliness_13 rfl (R32.in (by have := am_b_r (((-60 ≤ l ∧ l ≤ 60) ∧ (-60 ≤ r ∧ r ≤ 60) ∧ (-8 ≤ r - l ∧ r - l ≤ 8))); omega)) (fun c13 => ?_) (fun c13 => ?_)
    · skip
      replace c13 := am_b0 c13
      refine w_iconst dX7_ugliness_27 ?_
      exact w_iretI dX7_ugliness_28 rfl ⟨Fr.rf, (by exact ifF (by omega) rfl)⟩
    · skip
      replace c13 := am_b1 c13
      refine w_iload dX7_ugliness_16 rfl ?_
      refine w_if_lt (tgt := 27) dX7_ugliness_18 rfl (R32.in (by omega)) (fun c18 => ?_) (fun c18 => ?_)
      · skip
        refine w_iconst dX7_ugliness_27 ?_
        exact w_iretI dX7_ugliness_28 rfl ⟨Fr.rf, (by exact ifF (by omega) rfl)⟩
      · skip
        refine w_iload dX7_ugliness_21 rfl ?_
        refine w_iconst dX7_ugliness_23 ?_
        refine w_icmp_le (tgt := 29) dX7_ugliness_24 rfl (R32.in (by omega)) (R32.in (by decide)) (fun c24 => ?_) (fun c24 => ?_)
        · skip
          refine w_aload_n dX7_ugliness_29 rfl rfl (by first | decide | omega) ?_
          refine w_iload_n dX7_ugliness_30 rfl rfl ?_
          refine w_callVV (o := 0) (ci := 7) (as := [(0, g)]) (rest := []) (k := 0) fX7_ugliness_31 rfl rfl rfl rfl rfl rfl rfl rfl (Nat.le_of_ble_eq_true rfl) (s_X7_load X p g μ μ (fun o h1 => rfl) hC (by first | omega | assumption)) (fun μL hμL => ?_)
          obtain ⟨hFL, hD_L⟩ := hμL
          have hok := (hD_L).ok
          have hmr := mnK_r hok
          have hnn : 0 ≤ dN (ddt μ p (p + 5) (μ p 3) g) := by have := hok.n; omega
          refine w_aload_n dX7_ugliness_34 rfl rfl (by first | decide | omega) ?_
          refine w_getR (o := 0) (x := 6) fX7_ugliness_35 rfl rfl rfl rfl ?_
          refine w_iload_n dX7_ugliness_38 rfl rfl ?_
          refine w_iload_n dX7_ugliness_39 rfl rfl ?_
          refine w_callVI (o := 6) (ci := 0) (as := [(0, l), (0, r)]) (rest := []) (k := 0) fX7_ugliness_40 rfl rfl rfl rfl rfl rfl rfl rfl (Nat.le_of_ble_eq_true rfl) (s_X0_allows X (ddt μ p (p + 5) (μ p 3) g) l r μL hD_L (by first | omega | assumption)) (fun xA μA hμA => ?_)
          obtain ⟨hFA, hz_A, hD_A, hT_A, hf_A⟩ := hμA
          refine w_if_eq (tgt := 62) dX7_ugliness_43 rfl (R32.in (by omega)) (fun c43 => ?_) (fun c43 => ?_)
          · skip
            refine w_bipush dX7_ugliness_62 (by decide) ?_
            exact w_iretI dX7_ugliness_64 rfl ⟨((hFA.wd (by omega) (by omega)).tr hFL), (by first | exact ifT (by omega) (ifT ((alwB_iff hnn).mpr (hz_A.2.mp (by omega))) hz_T) | exact ifT (by omega) (ifF (fun q => by have := hz_A.2.mpr ((alwB_iff hnn).mp q); omega) rfl))⟩
          · skip
            refine w_aload_n dX7_ugliness_46 rfl rfl (by first | decide | omega) ?_
            refine w_getR (o := 0) (x := 6) fX7_ugliness_47 rfl rfl rfl rfl ?_
            refine w_iload_n dX7_ugliness_50 rfl rfl ?_
            refine w_iload_n dX7_ugliness_51 rfl rfl ?_
            refine w_iload dX7_ugliness_52 rfl ?_
            refine w_iconst dX7_ugliness_54 ?_
            refine w_iadd dX7_ugliness_55 ?_
            refine w_callVI (o := 6) (ci := 0) (as := [(0, l), (0, r), (0, w + 2)]) (rest := []) (k := 1) fX7_ugliness_56 rfl rfl rfl rfl rfl rfl rfl rfl (Nat.le_of_ble_eq_true rfl) (s_X0_tellSetting X (ddt μ p (p + 5) (μ p 3) g) l r (w + 2) μA hD_A (by first | omega | assumption) (by first | omega | assumption)) (fun xT μT hμT => ?_)
            obtain ⟨hFT, hz_T, hD_T, hf_T⟩ := hμT
            refine w_goto (tgt := 64) dX7_ugliness_59 rfl ?_
            exact w_iretI dX7_ugliness_64 rfl ⟨((hFT.wd (by omega) (by omega)).tr ((hFA.wd (by omega) (by omega)).tr hFL)), (by first | exact ifT (by omega) (ifT ((alwB_iff hnn).mpr (hz_A.2.mp (by omega))) hz_T) | exact ifT (by omega) (ifF (fun q => by have := hz_A.2.mpr ((alwB_iff hnn).mp q); omega) rfl))⟩
        · skip
          refine w_iconst dX7_ugliness_27 ?_
          exact w_iretI dX7_ugliness_28 rfl ⟨Fr.rf, (by exact ifF (by omega) rfl)⟩

set_option maxRecDepth 100000 in
set_option maxHeartbeats 4000000 in
theorem s_X7_best (X : AX) (p : Int) (g : Int) (w : Int) (μ : Mu) (hC : CJ μ p) (hg : -2147483648 ≤ g ∧ g ≤ 2147483647) (hw : -2147483648 ≤ w ∧ w ≤ 2147483647) : Wp (GG X) M_X7_best 0 [(2, 0), (0, g), (0, w)] [] μ (qI 0 fun z μ' => (Fr 6 14 1 0 μ' μ) ∧ (z = if (0 ≤ g ∧ g < μ p 14) ∧ 0 ≤ w ∧ w ≤ 5 then ansB (ddt μ p (p + 5) (μ p 3) g) w else -1000000)) := by
  have hI := hC.i
  have hG := hC.pg
  have hp := hI.at
  have hz := hI.sz
  have hgr := hG.gr
  have hkn := hC.kn
  refine w_aload_n dX7_best_0 rfl rfl (by first | decide | omega) ?_
  refine w_iload_n dX7_best_1 rfl rfl ?_
  refine w_callVP (o := 0) (ci := 7) (as := [(0, g)]) (rest := []) (k := 0) fX7_best_2 rfl rfl rfl rfl rfl rfl rfl rfl (Nat.le_of_ble_eq_true rfl) (s_X7_isGroup X p g μ μ (fun o h1 => rfl) hC (by first | omega | assumption)) ?_
  have hf1 := am_b_r (0 ≤ g ∧ g < μ p 14)
  refine w_if_ne (tgt := 11) dX7_best_5 rfl (R32.in (by have := am_b_r ((0 ≤ g ∧ g < μ p 14)); omega)) (fun c5 => ?_) (fun c5 => ?_)
  · skip
    replace c5 := am_b1 c5
    refine w_aload_n dX7_best_11 rfl rfl (by first | decide | omega) ?_
    refine w_iload_n dX7_best_12 rfl rfl ?_
    refine w_callVV (o := 0) (ci := 7) (as := [(0, g)]) (rest := []) (k := 0) fX7_best_13 rfl rfl rfl rfl rfl rfl rfl rfl (Nat.le_of_ble_eq_true rfl) (s_X7_load X p g μ μ (fun o h1 => rfl) hC (by first | omega | assumption)) (fun μL hμL => ?_)
    obtain ⟨hFL, hD_L⟩ := hμL
    refine w_aload_n dX7_best_16 rfl rfl (by first | decide | omega) ?_
    refine w_iload_n dX7_best_17 rfl rfl ?_
    refine w_callVI (o := 0) (ci := 7) (as := [(0, w)]) (rest := []) (k := 2) fX7_best_18 rfl rfl rfl rfl rfl rfl rfl rfl (Nat.le_of_ble_eq_true rfl) (s_X7_tellBest X (ddt μ p (p + 5) (μ p 3) g) w μL hD_L (by first | omega | assumption)) (fun xT μT hμT => ?_)
    obtain ⟨hFT, hz_T, hD_T, hf_T⟩ := hμT
    exact w_iretI dX7_best_21 rfl ⟨((hFT.wd (by omega) (by omega)).tr hFL), (by exact hz_T.trans (ifA (by omega)))⟩
  · skip
    replace c5 := am_b0 c5
    refine w_ldc (n := -1000000) dX7_best_8 k_704 (by decide) ?_
    exact w_iretI dX7_best_10 rfl ⟨Fr.rf, (by exact ifF (by omega) rfl)⟩

set_option maxRecDepth 100000 in
set_option maxHeartbeats 4000000 in
theorem s_X7_ranked (X : AX) (p : Int) (g : Int) (k : Int) (w : Int) (μ : Mu) (hC : CJ μ p) (hg : -2147483648 ≤ g ∧ g ≤ 2147483647) (hk : -2147483648 ≤ k ∧ k ≤ 2147483647) (hw : -2147483648 ≤ w ∧ w ≤ 2147483647) : Wp (GG X) M_X7_ranked 0 [(2, 0), (0, g), (0, k), (0, w)] [] μ (qI 0 fun z μ' => (Fr 6 14 1 0 μ' μ) ∧ (rnkP (ddt μ p (p + 5) (μ p 3) g) (0 ≤ g ∧ g < μ p 14) k w z)) := by
  have hI := hC.i
  have hG := hC.pg
  have hp := hI.at
  have hz := hI.sz
  have hgr := hG.gr
  have hkn := hC.kn
  refine w_aload_n dX7_ranked_0 rfl rfl (by first | decide | omega) ?_
  refine w_iload_n dX7_ranked_1 rfl rfl ?_
  refine w_callVP (o := 0) (ci := 7) (as := [(0, g)]) (rest := []) (k := 0) fX7_ranked_2 rfl rfl rfl rfl rfl rfl rfl rfl (Nat.le_of_ble_eq_true rfl) (s_X7_isGroup X p g μ μ (fun o h1 => rfl) hC (by first | omega | assumption)) ?_
  have hf1 := am_b_r (0 ≤ g ∧ g < μ p 14)
  refine w_if_eq (tgt := 21) dX7_ranked_5 rfl (R32.in (by have := am_b_r ((0 ≤ g ∧ g < μ p 14)); omega)) (fun c5 => ?_) (fun c5 => ?_)
  · skip
    replace c5 := am_b0 c5
    refine w_ldc (n := -1000000) dX7_ranked_21 k_704 (by decide) ?_
    exact w_iretI dX7_ranked_23 rfl ⟨Fr.rf, (by exact rnkP_no (by omega))⟩
  · skip
    replace c5 := am_b1 c5
    refine w_iload_n dX7_ranked_8 rfl rfl ?_
    refine w_if_lt (tgt := 21) dX7_ranked_9 rfl (R32.in (by omega)) (fun c9 => ?_) (fun c9 => ?_)
    · skip
      refine w_ldc (n := -1000000) dX7_ranked_21 k_704 (by decide) ?_
      exact w_iretI dX7_ranked_23 rfl ⟨Fr.rf, (by exact rnkP_no (by omega))⟩
    · skip
      refine w_iload_n dX7_ranked_12 rfl rfl ?_
      refine w_if_lt (tgt := 21) dX7_ranked_13 rfl (R32.in (by omega)) (fun c13 => ?_) (fun c13 => ?_)
      · skip
        refine w_ldc (n := -1000000) dX7_ranked_21 k_704 (by decide) ?_
        exact w_iretI dX7_ranked_23 rfl ⟨Fr.rf, (by exact rnkP_no (by omega))⟩
      · skip
        refine w_iload_n dX7_ranked_16 rfl rfl ?_
        refine w_iconst dX7_ranked_17 ?_
        refine w_icmp_le (tgt := 24) dX7_ranked_18 rfl (R32.in (by omega)) (R32.in (by decide)) (fun c18 => ?_) (fun c18 => ?_)
        · skip
          refine w_aload_n dX7_ranked_24 rfl rfl (by first | decide | omega) ?_
          refine w_iload_n dX7_ranked_25 rfl rfl ?_
          refine w_callVV (o := 0) (ci := 7) (as := [(0, g)]) (rest := []) (k := 0) fX7_ranked_26 rfl rfl rfl rfl rfl rfl rfl rfl (Nat.le_of_ble_eq_true rfl) (s_X7_load X p g μ μ (fun o h1 => rfl) hC (by first | omega | assumption)) (fun μL hμL => ?_)
          obtain ⟨hFL, hD_L⟩ := hμL
          have hok := (hD_L).ok
          have hmr := mnK_r hok
          refine w_iload_n dX7_ranked_29 rfl rfl ?_
          refine w_aload_n dX7_ranked_30 rfl rfl (by first | decide | omega) ?_
          refine w_getR (o := 0) (x := 6) fX7_ranked_31 rfl rfl rfl rfl ?_
          refine w_callVI (o := 6) (ci := 0) (as := []) (rest := [(0, k)]) (k := 3) fX7_ranked_34 rfl rfl rfl rfl rfl rfl rfl rfl (Nat.le_of_ble_eq_true rfl) (s_X0_gather X (ddt μ p (p + 5) (μ p 3) g) μL hD_L) (fun xG μG hμG => ?_)
          obtain ⟨hFG, hz_G, hK_G, hD_G⟩ := hμG
          have hcr0 := hK_G.c
          have hcn0 := hK_G.cn
          refine w_icmp_lt (tgt := 43) dX7_ranked_37 rfl (R32.in (by omega)) (R32.in (by omega)) (fun c37 => ?_) (fun c37 => ?_)
          · skip
            refine w_aload_n dX7_ranked_43 rfl rfl (by first | decide | omega) ?_
            refine w_getR (o := 0) (x := 6) fX7_ranked_44 rfl rfl rfl rfl ?_
            refine w_callVV (o := 6) (ci := 0) (as := []) (rest := []) (k := 5) fX7_ranked_47 rfl rfl rfl rfl rfl rfl rfl rfl (Nat.le_of_ble_eq_true rfl) (s_X0_sortKeys X (ddt μ p (p + 5) (μ p 3) g) μG hK_G) (fun μS hμS => ?_)
            obtain ⟨hFS, hp_S, hs_S⟩ := hμS
            obtain ⟨s, l, hS_1, hS_2, hS_3, hS_4⟩ := srt_rk hK_G hp_S hs_S (k := k) (by have := hK_G.cn; omega)
            have hcr := hK_G.c
            have hcn := hK_G.cn
            refine w_aload_n dX7_ranked_50 rfl rfl (by first | decide | omega) ?_
            refine w_getR (o := 0) (x := 6) fX7_ranked_51 rfl rfl rfl rfl ?_
            refine w_aload_n dX7_ranked_54 rfl rfl (by first | decide | omega) ?_
            refine w_getR (o := 0) (x := 6) fX7_ranked_55 rfl rfl rfl rfl ?_
            refine w_getR (o := 6) (x := 12) fX7_ranked_58 rfl rfl rfl rfl ?_
            refine w_iload_n dX7_ranked_61 rfl rfl ?_
            refine w_laldx (o := 12) (n := 595) (x := μS 12 k) dX7_ranked_62 rfl rfl (Nat.le_of_ble_eq_true rfl) (by omega) rfl ?_
            refine w_iload_n dX7_ranked_63 rfl rfl ?_
            refine w_callVI (o := 6) (ci := 0) (as := [(1, μS 12 k), (0, w)]) (rest := []) (k := 0) fX7_ranked_64 rfl rfl rfl rfl rfl rfl rfl rfl (Nat.le_of_ble_eq_true rfl) (s_X0_tell X (ddt μ p (p + 5) (μ p 3) g) s l (μS 12 k) w μS (GLd.cg2 hD_G (fun o h1 => (hFS.at (by omega) (by omega))) (fun k h1 => (congrFun (hFS.at (by omega) (by omega)) _))) hS_1 hS_2 hS_3 (by first | omega | assumption)) (fun xT μT hμT => ?_)
            obtain ⟨hFT, hz_T, hD_T, hf_T⟩ := hμT
            exact w_iretI dX7_ranked_67 rfl ⟨((hFT.wd (by omega) (by omega)).tr ((hFS.wd (by omega) (by omega)).tr ((hFG.wd (by omega) (by omega)).tr hFL))), (by exact rnkP_in (by omega) hS_1 hS_2 hS_4 hz_T)⟩
          · skip
            refine w_ldc (n := -1000000) dX7_ranked_40 k_704 (by decide) ?_
            exact w_iretI dX7_ranked_42 rfl ⟨((hFG.wd (by omega) (by omega)).tr hFL), (by exact rnkP_out hz_G (by omega))⟩
        · skip
          refine w_ldc (n := -1000000) dX7_ranked_21 k_704 (by decide) ?_
          exact w_iretI dX7_ranked_23 rfl ⟨Fr.rf, (by exact rnkP_no (by omega))⟩

set_option maxRecDepth 100000 in
set_option maxHeartbeats 4000000 in
theorem s_X7_rank (X : AX) (p : Int) (g : Int) (l : Int) (r : Int) (μ : Mu) (hC : CJ μ p) (hg : -2147483648 ≤ g ∧ g ≤ 2147483647) (hl : -2147483648 ≤ l ∧ l ≤ 2147483647) (hr : -2147483648 ≤ r ∧ r ≤ 2147483647) : Wp (GG X) M_X7_rank 0 [(2, 0), (0, g), (0, l), (0, r)] [] μ (qI 0 fun z μ' => (Fr 6 14 1 0 μ' μ) ∧ (z = if (0 ≤ g ∧ g < μ p 14) ∧ ((-60 ≤ l ∧ l ≤ 60) ∧ (-60 ≤ r ∧ r ≤ 60) ∧ (-8 ≤ r - l ∧ r - l ≤ 8)) then (if alwB (ddt μ p (p + 5) (μ p 3) g) (r - l) l = true then rkD (ddt μ p (p + 5) (μ p 3) g) (key (ddt μ p (p + 5) (μ p 3) g) (r - l) l) else -2) else -1)) := by
  have hI := hC.i
  have hG := hC.pg
  have hp := hI.at
  have hz := hI.sz
  have hgr := hG.gr
  have hkn := hC.kn
  refine w_aload_n dX7_rank_0 rfl rfl (by first | decide | omega) ?_
  refine w_iload_n dX7_rank_1 rfl rfl ?_
  refine w_callVP (o := 0) (ci := 7) (as := [(0, g)]) (rest := []) (k := 0) fX7_rank_2 rfl rfl rfl rfl rfl rfl rfl rfl (Nat.le_of_ble_eq_true rfl) (s_X7_isGroup X p g μ μ (fun o h1 => rfl) hC (by first | omega | assumption)) ?_
  have hf1 := am_b_r (0 ≤ g ∧ g < μ p 14)
  refine w_if_eq (tgt := 16) dX7_rank_5 rfl (R32.in (by have := am_b_r ((0 ≤ g ∧ g < μ p 14)); omega)) (fun c5 => ?_) (fun c5 => ?_)
  · skip
    replace c5 := am_b0 c5
    refine w_iconst dX7_rank_16 ?_
    exact w_iretI dX7_rank_17 rfl ⟨Fr.rf, (by exact ifF (by omega) rfl)⟩
  · skip
    replace c5 := am_b1 c5
    refine w_iload_n dX7_rank_8 rfl rfl ?_
    refine w_iload_n dX7_rank_9 rfl rfl ?_
    refine w_callSP (as := [(0, l), (0, r)]) (rest := []) (k := 0) fX7_rank_10 rfl rfl rfl rfl rfl (Nat.le_of_ble_eq_true rfl) (s_X0_isSetting X l r μ (by first | omega | assumption) (by first | omega | assumption)) ?_
    refine w_if_ne (tgt := 18) dX7_rank_13 rfl (R32.in (by have := am_b_r (((-60 ≤ l ∧ l ≤ 60) ∧ (-60 ≤ r ∧ r ≤ 60) ∧ (-8 ≤ r - l ∧ r - l ≤ 8))); omega)) (fun c13 => ?_) (fun c13 => ?_)
    · skip
      replace c13 := am_b1 c13
      refine w_aload_n dX7_rank_18 rfl rfl (by first | decide | omega) ?_
      refine w_iload_n dX7_rank_19 rfl rfl ?_
      refine w_callVV (o := 0) (ci := 7) (as := [(0, g)]) (rest := []) (k := 0) fX7_rank_20 rfl rfl rfl rfl rfl rfl rfl rfl (Nat.le_of_ble_eq_true rfl) (s_X7_load X p g μ μ (fun o h1 => rfl) hC (by first | omega | assumption)) (fun μL hμL => ?_)
      obtain ⟨hFL, hD_L⟩ := hμL
      have hok := (hD_L).ok
      have hmr := mnK_r hok
      have hnn : 0 ≤ dN (ddt μ p (p + 5) (μ p 3) g) := by have := hok.n; omega
      refine w_aload_n dX7_rank_23 rfl rfl (by first | decide | omega) ?_
      refine w_getR (o := 0) (x := 6) fX7_rank_24 rfl rfl rfl rfl ?_
      refine w_iload_n dX7_rank_27 rfl rfl ?_
      refine w_iload_n dX7_rank_28 rfl rfl ?_
      refine w_callVI (o := 6) (ci := 0) (as := [(0, l), (0, r)]) (rest := []) (k := 0) fX7_rank_29 rfl rfl rfl rfl rfl rfl rfl rfl (Nat.le_of_ble_eq_true rfl) (s_X0_allows X (ddt μ p (p + 5) (μ p 3) g) l r μL hD_L (by first | omega | assumption)) (fun xA μA hμA => ?_)
      obtain ⟨hFA, hz_A, hD_A, hT_A, hf_A⟩ := hμA
      refine w_if_eq (tgt := 54) dX7_rank_32 rfl (R32.in (by omega)) (fun c32 => ?_) (fun c32 => ?_)
      · skip
        refine w_bipush dX7_rank_54 (by decide) ?_
        exact w_iretI dX7_rank_56 rfl ⟨((hFA.wd (by omega) (by omega)).tr hFL), (by first | exact ifT (by omega) (ifT ((alwB_iff hnn).mpr (hz_A.2.mp (by omega))) (by rw [← hz_K]; exact hz_R)) | exact ifT (by omega) (ifF (fun q => by have := hz_A.2.mpr ((alwB_iff hnn).mp q); omega) rfl))⟩
      · skip
        refine w_aload_n dX7_rank_35 rfl rfl (by first | decide | omega) ?_
        refine w_getR (o := 0) (x := 6) fX7_rank_36 rfl rfl rfl rfl ?_
        refine w_aload_n dX7_rank_39 rfl rfl (by first | decide | omega) ?_
        refine w_getR (o := 0) (x := 6) fX7_rank_40 rfl rfl rfl rfl ?_
        refine w_iload_n dX7_rank_43 rfl rfl ?_
        refine w_iload_n dX7_rank_44 rfl rfl ?_
        refine w_callVI (o := 6) (ci := 0) (as := [(0, l), (0, r)]) (rest := [(2, 6)]) (k := 0) fX7_rank_45 rfl rfl rfl rfl rfl rfl rfl rfl (Nat.le_of_ble_eq_true rfl) (s_X0_keyOfSetting X (ddt μ p (p + 5) (μ p 3) g) l r μA hD_A (by first | omega | assumption)) (fun xK μK hμK => ?_)
        obtain ⟨hFK, hz_K, hD_K, hT_K, hf_K⟩ := hμK
        have hkr := key_r hok (hz_A.2.mp (by omega)) ⟨⟨by omega, by omega⟩, by omega⟩
        refine w_callVI (o := 6) (ci := 0) (as := [(1, xK)]) (rest := []) (k := 3) fX7_rank_48 rfl rfl rfl rfl rfl rfl rfl rfl (Nat.le_of_ble_eq_true rfl) (s_X0_rankOf X (ddt μ p (p + 5) (μ p 3) g) xK μK hD_K (by first | omega | assumption)) (fun xR μR hμR => ?_)
        obtain ⟨hFR, hz_R, hD_R⟩ := hμR
        refine w_goto (tgt := 56) dX7_rank_51 rfl ?_
        exact w_iretI dX7_rank_56 rfl ⟨((hFR.wd (by omega) (by omega)).tr ((hFK.wd (by omega) (by omega)).tr ((hFA.wd (by omega) (by omega)).tr hFL))), (by first | exact ifT (by omega) (ifT ((alwB_iff hnn).mpr (hz_A.2.mp (by omega))) (by rw [← hz_K]; exact hz_R)) | exact ifT (by omega) (ifF (fun q => by have := hz_A.2.mpr ((alwB_iff hnn).mp q); omega) rfl))⟩
    · skip
      replace c13 := am_b0 c13
      refine w_iconst dX7_rank_16 ?_
      exact w_iretI dX7_rank_17 rfl ⟨Fr.rf, (by exact ifF (by omega) rfl)⟩

set_option maxRecDepth 100000 in
set_option maxHeartbeats 4000000 in
theorem s_X7_greatestDivisor (X : AX) (a : Int) (b : Int) (μ : Mu) (ha : 0 ≤ a ∧ a ≤ 2147483647) (hb : 0 ≤ b ∧ b ≤ 2147483647) : Wp (GG X) M_X7_greatestDivisor 0 [(0, a), (0, b), (9, 0), (9, 0), (9, 0), (9, 0)] [] μ (pP 0 (gdS 0 a b) μ) := by
  refine w_iload_n dX7_greatestDivisor_0 rfl rfl ?_
  refine w_istore_n (ls' := [(0, a), (0, b), (0, a), (9, 0), (9, 0), (9, 0)]) dX7_greatestDivisor_1 rfl (Nat.le_of_ble_eq_true rfl) rfl rfl ?_
  refine w_iload_n dX7_greatestDivisor_2 rfl rfl ?_
  refine w_istore_n (ls' := [(0, a), (0, b), (0, a), (0, b), (9, 0), (9, 0)]) dX7_greatestDivisor_3 rfl (Nat.le_of_ble_eq_true rfl) rfl rfl ?_
  refine w_iconst dX7_greatestDivisor_4 ?_
  refine w_istore (ls' := [(0, a), (0, b), (0, a), (0, b), (0, 0), (9, 0)]) dX7_greatestDivisor_5 (Nat.le_of_ble_eq_true rfl) rfl rfl ?_
  have hL7 : ∀ (n7 : Nat) (x : Int) (y : Int) (s : Int), (100 - s).toNat = n7 → (0 ≤ s ∧ s ≤ 100) → ((0 ≤ x ∧ x ≤ 2147483647) ∧ (0 ≤ y ∧ y ≤ 2147483647)) → (gdS s x y = gdS 0 a b) → Wp (GG X) M_X7_greatestDivisor 7 [(9, 0), (9, 0), (0, x), (0, y), (0, s), (9, 0)] [] μ (pP 0 (gdS 0 a b) μ) := by
    intro n7
    induction n7 using Nat.strongRecOn with
    | ind n7 ih7 =>
      intro x y s hn7 hs0 hx hv
      have hmr := fun (h : 0 < y) => (Int.emod_lt_of_pos x h)
      have hmr2 := fun (h : 0 < y) => (Int.emod_nonneg x (show y ≠ 0 by omega))
      refine w_iload dX7_greatestDivisor_7 rfl ?_
      refine w_bipush dX7_greatestDivisor_9 (by decide) ?_
      refine w_icmp_ge (tgt := 34) dX7_greatestDivisor_11 rfl (R32.in (by omega)) (R32.in (by decide)) (fun c11 => ?_) (fun c11 => ?_)
      · skip
        refine w_iload_n dX7_greatestDivisor_34 rfl rfl ?_
        exact w_iretP dX7_greatestDivisor_35 rfl (by rw [← hv, gdS_0 (by omega)])
      · skip
        refine w_iload_n dX7_greatestDivisor_14 rfl rfl ?_
        refine w_if_eq (tgt := 34) dX7_greatestDivisor_15 rfl (R32.in (by omega)) (fun c15 => ?_) (fun c15 => ?_)
        · skip
          refine w_iload_n dX7_greatestDivisor_34 rfl rfl ?_
          exact w_iretP dX7_greatestDivisor_35 rfl (by rw [← hv, gdS_0 (by omega)])
        · skip
          refine w_iload_n dX7_greatestDivisor_18 rfl rfl ?_
          refine w_iload_n dX7_greatestDivisor_19 rfl rfl ?_
          refine w_iremP dX7_greatestDivisor_20 (by omega) ?_
          refine w_istore (ls' := [(9, 0), (9, 0), (0, x), (0, y), (0, s), (0, x % y)]) dX7_greatestDivisor_21 (Nat.le_of_ble_eq_true rfl) rfl rfl ?_
          refine w_iload_n dX7_greatestDivisor_23 rfl rfl ?_
          refine w_istore_n (ls' := [(9, 0), (9, 0), (0, y), (0, y), (0, s), (0, x % y)]) dX7_greatestDivisor_24 rfl (Nat.le_of_ble_eq_true rfl) rfl rfl ?_
          refine w_iload dX7_greatestDivisor_25 rfl ?_
          refine w_istore_n (ls' := [(9, 0), (9, 0), (0, y), (0, x % y), (0, s), (0, x % y)]) dX7_greatestDivisor_27 rfl (Nat.le_of_ble_eq_true rfl) rfl rfl ?_
          refine w_iinc (ls' := [(9, 0), (9, 0), (0, y), (0, x % y), (0, s + 1), (0, x % y)]) dX7_greatestDivisor_28 rfl (Nat.le_of_ble_eq_true rfl) rfl rfl ?_
          refine w_goto (tgt := 7) dX7_greatestDivisor_31 rfl ?_
          refine Wp.fgl (ls' := [(9, 0), (9, 0), (0, y), (0, x % y), (0, s + 1), (9, 0)]) 5 rfl ?_
          exact ih7 _ (by omega) y (x % y) (s + 1) rfl (by first | omega | assumption) (by first | omega | assumption) (by rw [← gdS_go (by omega) (by omega)]; exact hv)
  refine Wp.fgl (ls' := [(9, 0), (0, b), (0, a), (0, b), (0, 0), (9, 0)]) 0 rfl ?_
  refine Wp.fgl (ls' := [(9, 0), (9, 0), (0, a), (0, b), (0, 0), (9, 0)]) 1 rfl ?_
  exact hL7 _ a b 0 rfl (by first | omega | assumption) (by first | omega | assumption) rfl

set_option maxRecDepth 100000 in
set_option maxHeartbeats 4000000 in
theorem s_X7_stem (X : AX) (p : Int) (i : Int) (w : Int) (μ : Mu) (hC : CJ μ p) (hi : -2147483648 ≤ i ∧ i ≤ 2147483647) (hw : -2147483648 ≤ w ∧ w ≤ 2147483647) : Wp (GG X) M_X7_stem 0 [(2, 0), (0, i), (0, w), (9, 0), (9, 0), (9, 0), (9, 0), (9, 0)] [] μ (qI 0 fun z μ' => (Fr 6 14 1 0 μ' μ) ∧ (z = if (0 ≤ i ∧ i < μ p 7 ∧ 0 ≤ μ (p + 8) i) ∧ 0 ≤ w ∧ w ≤ 3 then stmA (ddt μ p (p + 5) (μ p 3) (μ (p + 8) i)) (i - μ (p + 9) (μ (p + 8) i)) w else -1000000)) := by
  have hI := hC.i
  have hG := hC.pg
  have hp := hI.at
  have hz := hI.sz
  have hgr := hG.gr
  have hkn := hC.kn
  refine w_aload_n dX7_stem_0 rfl rfl (by first | decide | omega) ?_
  refine w_iload_n dX7_stem_1 rfl rfl ?_
  refine w_callVP (o := 0) (ci := 7) (as := [(0, i)]) (rest := []) (k := 0) fX7_stem_2 rfl rfl rfl rfl rfl rfl rfl rfl (Nat.le_of_ble_eq_true rfl) (s_X7_isGrouped X p i μ μ (fun o h1 => rfl) hC (by first | omega | assumption)) ?_
  have hf1 := am_b_r (0 ≤ i ∧ i < μ p 7 ∧ 0 ≤ μ (p + 8) i)
  refine w_if_eq (tgt := 17) dX7_stem_5 rfl (R32.in (by have := am_b_r ((0 ≤ i ∧ i < μ p 7 ∧ 0 ≤ μ (p + 8) i)); omega)) (fun c5 => ?_) (fun c5 => ?_)
  · skip
    replace c5 := am_b0 c5
    refine w_ldc (n := -1000000) dX7_stem_17 k_704 (by decide) ?_
    exact w_iretI dX7_stem_19 rfl ⟨Fr.rf, (by exact ifF (by omega) rfl)⟩
  · skip
    replace c5 := am_b1 c5
    refine w_iload_n dX7_stem_8 rfl rfl ?_
    refine w_if_lt (tgt := 17) dX7_stem_9 rfl (R32.in (by omega)) (fun c9 => ?_) (fun c9 => ?_)
    · skip
      refine w_ldc (n := -1000000) dX7_stem_17 k_704 (by decide) ?_
      exact w_iretI dX7_stem_19 rfl ⟨Fr.rf, (by exact ifF (by omega) rfl)⟩
    · skip
      refine w_iload_n dX7_stem_12 rfl rfl ?_
      refine w_iconst dX7_stem_13 ?_
      refine w_icmp_le (tgt := 20) dX7_stem_14 rfl (R32.in (by omega)) (R32.in (by decide)) (fun c14 => ?_) (fun c14 => ?_)
      · skip
        refine w_aload_n dX7_stem_20 rfl rfl (by first | decide | omega) ?_
        refine w_iload_n dX7_stem_21 rfl rfl ?_
        refine w_callVI (o := 0) (ci := 7) (as := [(0, i)]) (rest := []) (k := 1) fX7_stem_22 rfl rfl rfl rfl rfl rfl rfl rfl (Nat.le_of_ble_eq_true rfl) (s_X7_loadAround X p i μ μ (fun o h1 => rfl) hC (by first | omega | assumption)) (fun xA μA hμA => ?_)
        obtain ⟨hFA, hz_A, hD_A⟩ := hμA
        have hgi := hG.go2 (i := i) (by omega) (by omega)
        have hdn : dN (ddt μ p (p + 5) (μ p 3) (μ (p + 8) i)) = μ (p + 10) (μ (p + 8) i) := rfl
        have hok := hD_A.ok
        have hmr := mnK_r hok
        have hsp := hok.sp
        have hnn := hok.n
        refine w_istore_n (ls' := [(2, 0), (0, i), (0, w), (0, xA), (9, 0), (9, 0), (9, 0), (9, 0)]) dX7_stem_25 rfl (Nat.le_of_ble_eq_true rfl) rfl rfl ?_
        refine w_aload_n dX7_stem_26 rfl rfl (by first | decide | omega) ?_
        refine w_getR (o := 0) (x := 6) fX7_stem_27 rfl rfl rfl rfl ?_
        refine w_callVI (o := 6) (ci := 0) (as := []) (rest := []) (k := 3) fX7_stem_30 rfl rfl rfl rfl rfl rfl rfl rfl (Nat.le_of_ble_eq_true rfl) (s_X0_findBest X (ddt μ p (p + 5) (μ p 3) (μ (p + 8) i)) μA hD_A) (fun xB μB hμB => ?_)
        obtain ⟨hFB, hz_B, hD_B, hf_B⟩ := hμB
        refine w_lstore (ls' := [(2, 0), (0, i), (0, w), (0, xA), (1, xB), (9, 0), (9, 0), (9, 0)]) dX7_stem_33 (Nat.le_of_ble_eq_true rfl) rfl rfl ?_
        refine w_lload dX7_stem_35 rfl ?_
        refine w_ldc2 (n := 9223372036854775807) dX7_stem_37 k_871 (by decide) ?_
        refine w_lc_ne (tgt := 47) dX7_stem_40 dX7_stem_41 rfl (R64.in (by omega)) (R64.in (by omega)) (fun c41 => ?_) (fun c41 => ?_)
        · skip
          have hw := mnK_w hok (fun q => c41 (hz_B.trans q))
          have hwS := hw.1
          have hsv := stmV_r (w := w) hok (fun q => c41 (hz_B.trans q)) (show 0 ≤ i - μ (p + 9) (μ (p + 8) i) ∧ i - μ (p + 9) (μ (p + 8) i) < dN (ddt μ p (p + 5) (μ p 3) (μ (p + 8) i)) by omega)
          refine w_iload_n dX7_stem_47 rfl rfl ?_
          refine w_iconst dX7_stem_48 ?_
          have hJ49_1 : ∀ z1_0 : Int, z1_0 = (if 2 ≤ w then (bL (ddt μ p (p + 5) (μ p 3) (μ (p + 8) i))) * spn (ddt μ p (p + 5) (μ p 3) (μ (p + 8) i)) + (bR (ddt μ p (p + 5) (μ p 3) (μ (p + 8) i)) - bL (ddt μ p (p + 5) (μ p 3) (μ (p + 8) i))) * dX (ddt μ p (p + 5) (μ p 3) (μ (p + 8) i)) xA else len (ddt μ p (p + 5) (μ p 3) (μ (p + 8) i)) (bR (ddt μ p (p + 5) (μ p 3) (μ (p + 8) i)) - bL (ddt μ p (p + 5) (μ p 3) (μ (p + 8) i))) (bL (ddt μ p (p + 5) (μ p 3) (μ (p + 8) i))) xA) → Wp (GG X) M_X7_stem 75 [(2, 0), (0, i), (0, w), (0, xA), (1, xB), (9, 0), (9, 0), (9, 0)] [(0, z1_0)] μB (qI 0 fun z μ' => (Fr 6 14 1 0 μ' μ) ∧ (z = if (0 ≤ i ∧ i < μ p 7 ∧ 0 ≤ μ (p + 8) i) ∧ 0 ≤ w ∧ w ≤ 3 then stmA (ddt μ p (p + 5) (μ p 3) (μ (p + 8) i)) (i - μ (p + 9) (μ (p + 8) i)) w else -1000000)) := by
            intro z1_0 hz1_0
            refine Wp.topE (b := (stmV (ddt μ p (p + 5) (μ p 3) (μ (p + 8) i)) (i - μ (p + 9) (μ (p + 8) i)) w)) (by unfold stmV; rw [← hz_A]; omega) ?_
            refine w_istore (ls' := [(2, 0), (0, i), (0, w), (0, xA), (1, xB), (9, 0), (0, (stmV (ddt μ p (p + 5) (μ p 3) (μ (p + 8) i)) (i - μ (p + 9) (μ (p + 8) i)) w)), (9, 0)]) dX7_stem_75 (Nat.le_of_ble_eq_true rfl) rfl rfl ?_
            refine w_iload dX7_stem_77 rfl ?_
            refine w_abs fX7_stem_79 (R32.in (by omega)) (Nat.le_of_ble_eq_true rfl) ?_
            refine w_aload_n dX7_stem_82 rfl rfl (by first | decide | omega) ?_
            refine w_getR (o := 0) (x := 6) fX7_stem_83 rfl rfl rfl rfl ?_
            refine w_getIx (o := 6) (f := 2) (x := spn (ddt μ p (p + 5) (μ p 3) (μ (p + 8) i))) fX7_stem_86 rfl rfl (Nat.le_of_ble_eq_true rfl) rfl hD_B.sp ?_
            have hr4 := (hD_B.ok).sp
            have hr5 := (hD_A.ok).sp
            refine w_callSP (as := [(0, if 0 ≤ (stmV (ddt μ p (p + 5) (μ p 3) (μ (p + 8) i)) (i - μ (p + 9) (μ (p + 8) i)) w) then (stmV (ddt μ p (p + 5) (μ p 3) (μ (p + 8) i)) (i - μ (p + 9) (μ (p + 8) i)) w) else -(stmV (ddt μ p (p + 5) (μ p 3) (μ (p + 8) i)) (i - μ (p + 9) (μ (p + 8) i)) w)), (0, spn (ddt μ p (p + 5) (μ p 3) (μ (p + 8) i)))]) (rest := []) (k := 4) fX7_stem_89 rfl rfl rfl rfl rfl (Nat.le_of_ble_eq_true rfl) (s_X7_greatestDivisor X (if 0 ≤ (stmV (ddt μ p (p + 5) (μ p 3) (μ (p + 8) i)) (i - μ (p + 9) (μ (p + 8) i)) w) then (stmV (ddt μ p (p + 5) (μ p 3) (μ (p + 8) i)) (i - μ (p + 9) (μ (p + 8) i)) w) else -(stmV (ddt μ p (p + 5) (μ p 3) (μ (p + 8) i)) (i - μ (p + 9) (μ (p + 8) i)) w)) (spn (ddt μ p (p + 5) (μ p 3) (μ (p + 8) i))) μB (by first | omega | assumption) (by first | omega | assumption)) ?_
            have hf6 := gdS_f (if 0 ≤ (stmV (ddt μ p (p + 5) (μ p 3) (μ (p + 8) i)) (i - μ (p + 9) (μ (p + 8) i)) w) then (stmV (ddt μ p (p + 5) (μ p 3) (μ (p + 8) i)) (i - μ (p + 9) (μ (p + 8) i)) w) else -(stmV (ddt μ p (p + 5) (μ p 3) (μ (p + 8) i)) (i - μ (p + 9) (μ (p + 8) i)) w)) (spn (ddt μ p (p + 5) (μ p 3) (μ (p + 8) i))) (by omega) (by omega)
            refine w_istore (ls' := [(2, 0), (0, i), (0, w), (0, xA), (1, xB), (9, 0), (0, (stmV (ddt μ p (p + 5) (μ p 3) (μ (p + 8) i)) (i - μ (p + 9) (μ (p + 8) i)) w)), (0, gdS 0 (if 0 ≤ (stmV (ddt μ p (p + 5) (μ p 3) (μ (p + 8) i)) (i - μ (p + 9) (μ (p + 8) i)) w) then (stmV (ddt μ p (p + 5) (μ p 3) (μ (p + 8) i)) (i - μ (p + 9) (μ (p + 8) i)) w) else -(stmV (ddt μ p (p + 5) (μ p 3) (μ (p + 8) i)) (i - μ (p + 9) (μ (p + 8) i)) w)) (spn (ddt μ p (p + 5) (μ p 3) (μ (p + 8) i))))]) dX7_stem_92 (Nat.le_of_ble_eq_true rfl) rfl rfl ?_
            refine w_iload_n dX7_stem_94 rfl rfl ?_
            refine w_iconst dX7_stem_95 ?_
            refine w_iremP dX7_stem_96 (by omega) ?_
            have hJ97_2 : ∀ z2_0 : Int, z2_0 = (if ¬ (w % 2) = 0 then spn (ddt μ p (p + 5) (μ p 3) (μ (p + 8) i)) else (stmV (ddt μ p (p + 5) (μ p 3) (μ (p + 8) i)) (i - μ (p + 9) (μ (p + 8) i)) w)) → Wp (GG X) M_X7_stem 112 [(2, 0), (0, i), (0, w), (0, xA), (1, xB), (9, 0), (0, (stmV (ddt μ p (p + 5) (μ p 3) (μ (p + 8) i)) (i - μ (p + 9) (μ (p + 8) i)) w)), (0, gdS 0 (if 0 ≤ (stmV (ddt μ p (p + 5) (μ p 3) (μ (p + 8) i)) (i - μ (p + 9) (μ (p + 8) i)) w) then (stmV (ddt μ p (p + 5) (μ p 3) (μ (p + 8) i)) (i - μ (p + 9) (μ (p + 8) i)) w) else -(stmV (ddt μ p (p + 5) (μ p 3) (μ (p + 8) i)) (i - μ (p + 9) (μ (p + 8) i)) w)) (spn (ddt μ p (p + 5) (μ p 3) (μ (p + 8) i))))] [(0, z2_0)] μB (qI 0 fun z μ' => (Fr 6 14 1 0 μ' μ) ∧ (z = if (0 ≤ i ∧ i < μ p 7 ∧ 0 ≤ μ (p + 8) i) ∧ 0 ≤ w ∧ w ≤ 3 then stmA (ddt μ p (p + 5) (μ p 3) (μ (p + 8) i)) (i - μ (p + 9) (μ (p + 8) i)) w else -1000000)) := by
              intro z2_0 hz2_0
              refine Wp.topE (b := if w % 2 = 0 then (stmV (ddt μ p (p + 5) (μ p 3) (μ (p + 8) i)) (i - μ (p + 9) (μ (p + 8) i)) w) else spn (ddt μ p (p + 5) (μ p 3) (μ (p + 8) i))) (by omega) ?_
              refine w_iconst dX7_stem_112 ?_
              refine w_iload dX7_stem_113 rfl ?_
              refine w_max fX7_stem_115 (R32.in (by decide)) (R32.in (by omega)) (Nat.le_of_ble_eq_true rfl) ?_
              refine w_idiv dX7_stem_118 (R32.in (by omega)) (R32.in (by omega)) (by omega) ?_
              exact w_iretI dX7_stem_119 rfl ⟨((hFB.wd (by omega) (by omega)).tr hFA), (by exact ifT (by omega) (by unfold stmA; rw [if_neg (fun q => c41 (hz_B.trans q))]; rfl))⟩
            refine w_if_ne (tgt := 105) dX7_stem_97 rfl (R32.in (by omega)) (fun c97 => ?_) (fun c97 => ?_)
            · skip
              refine w_aload_n dX7_stem_105 rfl rfl (by first | decide | omega) ?_
              refine w_getR (o := 0) (x := 6) fX7_stem_106 rfl rfl rfl rfl ?_
              refine w_getIx (o := 6) (f := 2) (x := spn (ddt μ p (p + 5) (μ p 3) (μ (p + 8) i))) fX7_stem_109 rfl rfl (Nat.le_of_ble_eq_true rfl) rfl hD_B.sp ?_
              exact hJ97_2 _ (by first | omega | simp [*])
            · skip
              refine w_iload dX7_stem_100 rfl ?_
              refine w_goto (tgt := 112) dX7_stem_102 rfl ?_
              exact hJ97_2 _ (by first | omega | simp [*])
          refine w_icmp_ge (tgt := 65) dX7_stem_49 rfl (R32.in (by omega)) (R32.in (by decide)) (fun c49 => ?_) (fun c49 => ?_)
          · skip
            refine w_aload_n dX7_stem_65 rfl rfl (by first | decide | omega) ?_
            refine w_getR (o := 0) (x := 6) fX7_stem_66 rfl rfl rfl rfl ?_
            refine w_lload dX7_stem_69 rfl ?_
            refine w_iload_n dX7_stem_71 rfl rfl ?_
            refine w_callVP (o := 6) (ci := 0) (as := [(1, xB), (0, xA)]) (rest := []) (k := 1) fX7_stem_72 rfl rfl rfl rfl rfl rfl rfl rfl (Nat.le_of_ble_eq_true rfl) (s_X0_heightOf_k X (ddt μ p (p + 5) (μ p 3) (μ (p + 8) i)) (bR (ddt μ p (p + 5) (μ p 3) (μ (p + 8) i)) - bL (ddt μ p (p + 5) (μ p 3) (μ (p + 8) i))) (bL (ddt μ p (p + 5) (μ p 3) (μ (p + 8) i))) xB xA μB hD_B (mnK_w hok (fun q => c41 (hz_B.trans q))).1 (mnK_w hok (fun q => c41 (hz_B.trans q))).2.1 (hz_B.trans (mnK_w hok (fun q => c41 (hz_B.trans q))).2.2.1) (by first | omega | assumption)) ?_
            have hf7 := hgt_f (ddt μ p (p + 5) (μ p 3) (μ (p + 8) i)) (bR (ddt μ p (p + 5) (μ p 3) (μ (p + 8) i)) - bL (ddt μ p (p + 5) (μ p 3) (μ (p + 8) i))) (bL (ddt μ p (p + 5) (μ p 3) (μ (p + 8) i))) xA (by assumption) (by omega) (by assumption)
            exact hJ49_1 _ (by first | omega | simp [*])
          · skip
            refine w_aload_n dX7_stem_52 rfl rfl (by first | decide | omega) ?_
            refine w_getR (o := 0) (x := 6) fX7_stem_53 rfl rfl rfl rfl ?_
            refine w_lload dX7_stem_56 rfl ?_
            refine w_iload_n dX7_stem_58 rfl rfl ?_
            refine w_callVP (o := 6) (ci := 0) (as := [(1, xB), (0, xA)]) (rest := []) (k := 0) fX7_stem_59 rfl rfl rfl rfl rfl rfl rfl rfl (Nat.le_of_ble_eq_true rfl) (s_X0_lengthOf_k X (ddt μ p (p + 5) (μ p 3) (μ (p + 8) i)) (bR (ddt μ p (p + 5) (μ p 3) (μ (p + 8) i)) - bL (ddt μ p (p + 5) (μ p 3) (μ (p + 8) i))) (bL (ddt μ p (p + 5) (μ p 3) (μ (p + 8) i))) xB xA μB hD_B (mnK_w hok (fun q => c41 (hz_B.trans q))).1 (mnK_w hok (fun q => c41 (hz_B.trans q))).2.1 (hz_B.trans (mnK_w hok (fun q => c41 (hz_B.trans q))).2.2.1) (by first | omega | assumption)) ?_
            have hf8 := len_f (ddt μ p (p + 5) (μ p 3) (μ (p + 8) i)) (bR (ddt μ p (p + 5) (μ p 3) (μ (p + 8) i)) - bL (ddt μ p (p + 5) (μ p 3) (μ (p + 8) i))) (bL (ddt μ p (p + 5) (μ p 3) (μ (p + 8) i))) xA (by assumption) (by omega) (by assumption)
            refine w_goto (tgt := 75) dX7_stem_62 rfl ?_
            exact hJ49_1 _ (by first | omega | simp [*])
        · skip
          refine w_ldc (n := -1000000) dX7_stem_44 k_704 (by decide) ?_
          exact w_iretI dX7_stem_46 rfl ⟨((hFB.wd (by omega) (by omega)).tr hFA), (by exact ifT (by omega) (if_pos (hz_B.symm.trans c41)).symm)⟩
      · skip
        refine w_ldc (n := -1000000) dX7_stem_17 k_704 (by decide) ?_
        exact w_iretI dX7_stem_19 rfl ⟨Fr.rf, (by exact ifF (by omega) rfl)⟩
