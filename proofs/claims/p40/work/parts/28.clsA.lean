set_option maxRecDepth 100000 in
set_option maxHeartbeats 4000000 in
theorem s_X7_isElement (X : AX) (p : Int) (i : Int) (μ ν : Mu) (hA9 : ∀ o : Int, (0 ≤ o ∧ o ≤ 0) ∨ (p ≤ o ∧ o ≤ p + 10) → ν o = μ o) (hC : CJ μ p) (hi : -2147483648 ≤ i ∧ i ≤ 2147483647) : Wp (GG X) M_X7_isElement 0 [(2, 0), (0, i)] [] ν (pP 0 (am_b (0 ≤ i ∧ i < μ p 7)) ν) := by
  have hI := hC.i
  have hG := hC.pg
  have hp := hI.at
  have hz := hI.sz
  have hgr := hG.gr
  have hkn := hC.kn
  refine w_iload_n dX7_isElement_0 rfl rfl ?_
  refine w_if_lt (tgt := 19) dX7_isElement_1 rfl (R32.in (by omega)) (fun c1 => ?_) (fun c1 => ?_)
  · skip
    refine w_iconst dX7_isElement_19 ?_
    exact w_zretP dX7_isElement_20 rfl (Or.inl rfl) (by first | exact am_b_t (by omega) | exact am_b_f (by omega))
  · skip
    refine w_iload_n dX7_isElement_4 rfl rfl ?_
    refine w_aload_n dX7_isElement_5 rfl rfl (by first | decide | omega) ?_
    refine w_getDx (o := 0) (f := 7) (x := p) fX7_isElement_6 rfl rfl rfl rfl ((congrFun (hA9 _ (by omega)) _).trans hC.p7) ?_
    refine w_getIx (o := (p).toNat) (f := 7) (x := μ p 7) fX7_isElement_9 (by omega) (pSh0 rfl rfl (by assumption)) (Nat.le_of_ble_eq_true rfl) rfl (congrFun (hA9 _ (by omega)) _) ?_
    have hr1 := PI.sz hC.i
    have hr2 := PI.sz hI
    refine w_icmp_ge (tgt := 19) dX7_isElement_12 rfl (R32.in (by omega)) (R32.in (by omega)) (fun c12 => ?_) (fun c12 => ?_)
    · skip
      refine w_iconst dX7_isElement_19 ?_
      exact w_zretP dX7_isElement_20 rfl (Or.inl rfl) (by first | exact am_b_t (by omega) | exact am_b_f (by omega))
    · skip
      refine w_iconst dX7_isElement_15 ?_
      refine w_goto (tgt := 20) dX7_isElement_16 rfl ?_
      exact w_zretP dX7_isElement_20 rfl (Or.inr rfl) (by first | exact am_b_t (by omega) | exact am_b_f (by omega))

set_option maxRecDepth 100000 in
set_option maxHeartbeats 4000000 in
theorem s_X7_isNote (X : AX) (p : Int) (i : Int) (μ ν : Mu) (hA9 : ∀ o : Int, (0 ≤ o ∧ o ≤ 0) ∨ (p ≤ o ∧ o ≤ p + 10) → ν o = μ o) (hC : CJ μ p) (hi : -2147483648 ≤ i ∧ i ≤ 2147483647) : Wp (GG X) M_X7_isNote 0 [(2, 0), (0, i)] [] ν (pP 0 (am_b (0 ≤ i ∧ i < μ p 7 ∧ μ (p + 4) i = 1)) ν) := by
  have hI := hC.i
  have hG := hC.pg
  have hp := hI.at
  have hz := hI.sz
  have hgr := hG.gr
  have hkn := hC.kn
  refine w_aload_n dX7_isNote_0 rfl rfl (by first | decide | omega) ?_
  refine w_iload_n dX7_isNote_1 rfl rfl ?_
  refine w_callVP (o := 0) (ci := 7) (as := [(0, i)]) (rest := []) (k := 0) fX7_isNote_2 rfl rfl rfl rfl rfl rfl rfl rfl (Nat.le_of_ble_eq_true rfl) (s_X7_isElement X p i μ ν (fun o h1 => (hA9 _ (by omega))) hC (by first | omega | assumption)) ?_
  have hf1 := am_b_r (0 ≤ i ∧ i < μ p 7)
  refine w_if_eq (tgt := 24) dX7_isNote_5 rfl (R32.in (by have := am_b_r ((0 ≤ i ∧ i < μ p 7)); omega)) (fun c5 => ?_) (fun c5 => ?_)
  · skip
    replace c5 := am_b0 c5
    refine w_iconst dX7_isNote_24 ?_
    exact w_zretP dX7_isNote_25 rfl (Or.inl rfl) (by first | exact am_b_t (by omega) | exact am_b_f (by omega))
  · skip
    replace c5 := am_b1 c5
    refine w_aload_n dX7_isNote_8 rfl rfl (by first | decide | omega) ?_
    refine w_getDx (o := 0) (f := 7) (x := p) fX7_isNote_9 rfl rfl rfl rfl ((congrFun (hA9 _ (by omega)) _).trans hC.p7) ?_
    refine w_getR (o := (p).toNat) (x := p + 4) fX7_isNote_12 (by omega) (pSh0 rfl rfl (by assumption)) rfl (pRf 9 4 rfl rfl (by assumption)) ?_
    refine w_iload_n dX7_isNote_15 rfl rfl ?_
    refine w_zaldx (o := (p + 4).toNat) (n := 64) (x := μ (p + 4) i) dX7_isNote_16 (by omega) (pSh 4 rfl rfl (by assumption)) (Nat.le_of_ble_eq_true rfl) (by omega) (congrFun (hA9 _ (by omega)) _) ?_
    have hr2 := PI.so hC.i (q := p + 4) (i := i) rfl (by omega)
    have hr3 := PI.so hI (q := p + 4) (i := i) rfl (by omega)
    refine w_if_eq (tgt := 24) dX7_isNote_17 rfl (R32.in (by omega)) (fun c17 => ?_) (fun c17 => ?_)
    · skip
      refine w_iconst dX7_isNote_24 ?_
      exact w_zretP dX7_isNote_25 rfl (Or.inl rfl) (by first | exact am_b_t (by omega) | exact am_b_f (by omega))
    · skip
      refine w_iconst dX7_isNote_20 ?_
      refine w_goto (tgt := 25) dX7_isNote_21 rfl ?_
      exact w_zretP dX7_isNote_25 rfl (Or.inr rfl) (by first | exact am_b_t (by omega) | exact am_b_f (by omega))

set_option maxRecDepth 100000 in
set_option maxHeartbeats 4000000 in
theorem s_X7_isGrouped (X : AX) (p : Int) (i : Int) (μ ν : Mu) (hA9 : ∀ o : Int, (0 ≤ o ∧ o ≤ 0) ∨ (p ≤ o ∧ o ≤ p + 10) → ν o = μ o) (hC : CJ μ p) (hi : -2147483648 ≤ i ∧ i ≤ 2147483647) : Wp (GG X) M_X7_isGrouped 0 [(2, 0), (0, i)] [] ν (pP 0 (am_b (0 ≤ i ∧ i < μ p 7 ∧ 0 ≤ μ (p + 8) i)) ν) := by
  have hI := hC.i
  have hG := hC.pg
  have hp := hI.at
  have hz := hI.sz
  have hgr := hG.gr
  have hkn := hC.kn
  refine w_aload_n dX7_isGrouped_0 rfl rfl (by first | decide | omega) ?_
  refine w_iload_n dX7_isGrouped_1 rfl rfl ?_
  refine w_callVP (o := 0) (ci := 7) (as := [(0, i)]) (rest := []) (k := 0) fX7_isGrouped_2 rfl rfl rfl rfl rfl rfl rfl rfl (Nat.le_of_ble_eq_true rfl) (s_X7_isElement X p i μ ν (fun o h1 => (hA9 _ (by omega))) hC (by first | omega | assumption)) ?_
  have hf1 := am_b_r (0 ≤ i ∧ i < μ p 7)
  refine w_if_eq (tgt := 24) dX7_isGrouped_5 rfl (R32.in (by have := am_b_r ((0 ≤ i ∧ i < μ p 7)); omega)) (fun c5 => ?_) (fun c5 => ?_)
  · skip
    replace c5 := am_b0 c5
    refine w_iconst dX7_isGrouped_24 ?_
    exact w_zretP dX7_isGrouped_25 rfl (Or.inl rfl) (by first | exact am_b_t (by omega) | exact am_b_f (by omega))
  · skip
    replace c5 := am_b1 c5
    refine w_aload_n dX7_isGrouped_8 rfl rfl (by first | decide | omega) ?_
    refine w_getDx (o := 0) (f := 7) (x := p) fX7_isGrouped_9 rfl rfl rfl rfl ((congrFun (hA9 _ (by omega)) _).trans hC.p7) ?_
    refine w_getR (o := (p).toNat) (x := p + 8) fX7_isGrouped_12 (by omega) (pSh0 rfl rfl (by assumption)) rfl (pRf 13 8 rfl rfl (by assumption)) ?_
    refine w_iload_n dX7_isGrouped_15 rfl rfl ?_
    refine w_ialdx (o := (p + 8).toNat) (n := 64) (x := μ (p + 8) i) dX7_isGrouped_16 (by omega) (pSh 8 rfl rfl (by assumption)) (Nat.le_of_ble_eq_true rfl) (by omega) (congrFun (hA9 _ (by omega)) _) ?_
    have hr2 := PG.go hC.pg (i := i) (by omega)
    have hr3 := PG.go hG (i := i) (by omega)
    refine w_if_lt (tgt := 24) dX7_isGrouped_17 rfl (R32.in (by omega)) (fun c17 => ?_) (fun c17 => ?_)
    · skip
      refine w_iconst dX7_isGrouped_24 ?_
      exact w_zretP dX7_isGrouped_25 rfl (Or.inl rfl) (by first | exact am_b_t (by omega) | exact am_b_f (by omega))
    · skip
      refine w_iconst dX7_isGrouped_20 ?_
      refine w_goto (tgt := 25) dX7_isGrouped_21 rfl ?_
      exact w_zretP dX7_isGrouped_25 rfl (Or.inr rfl) (by first | exact am_b_t (by omega) | exact am_b_f (by omega))

set_option maxRecDepth 100000 in
set_option maxHeartbeats 4000000 in
theorem s_X7_isGroup (X : AX) (p : Int) (g : Int) (μ ν : Mu) (hA9 : ∀ o : Int, (0 ≤ o ∧ o ≤ 0) ∨ (p ≤ o ∧ o ≤ p + 10) → ν o = μ o) (hC : CJ μ p) (hg : -2147483648 ≤ g ∧ g ≤ 2147483647) : Wp (GG X) M_X7_isGroup 0 [(2, 0), (0, g)] [] ν (pP 0 (am_b (0 ≤ g ∧ g < μ p 14)) ν) := by
  have hI := hC.i
  have hG := hC.pg
  have hp := hI.at
  have hz := hI.sz
  have hgr := hG.gr
  have hkn := hC.kn
  refine w_iload_n dX7_isGroup_0 rfl rfl ?_
  refine w_if_lt (tgt := 19) dX7_isGroup_1 rfl (R32.in (by omega)) (fun c1 => ?_) (fun c1 => ?_)
  · skip
    refine w_iconst dX7_isGroup_19 ?_
    exact w_zretP dX7_isGroup_20 rfl (Or.inl rfl) (by first | exact am_b_t (by omega) | exact am_b_f (by omega))
  · skip
    refine w_iload_n dX7_isGroup_4 rfl rfl ?_
    refine w_aload_n dX7_isGroup_5 rfl rfl (by first | decide | omega) ?_
    refine w_getDx (o := 0) (f := 7) (x := p) fX7_isGroup_6 rfl rfl rfl rfl ((congrFun (hA9 _ (by omega)) _).trans hC.p7) ?_
    refine w_getIx (o := (p).toNat) (f := 14) (x := μ p 14) fX7_isGroup_9 (by omega) (pSh0 rfl rfl (by assumption)) (Nat.le_of_ble_eq_true rfl) rfl (congrFun (hA9 _ (by omega)) _) ?_
    have hr1 := PG.gr hC.pg
    have hr2 := PG.gr hG
    refine w_icmp_ge (tgt := 19) dX7_isGroup_12 rfl (R32.in (by omega)) (R32.in (by omega)) (fun c12 => ?_) (fun c12 => ?_)
    · skip
      refine w_iconst dX7_isGroup_19 ?_
      exact w_zretP dX7_isGroup_20 rfl (Or.inl rfl) (by first | exact am_b_t (by omega) | exact am_b_f (by omega))
    · skip
      refine w_iconst dX7_isGroup_15 ?_
      refine w_goto (tgt := 20) dX7_isGroup_16 rfl ?_
      exact w_zretP dX7_isGroup_20 rfl (Or.inr rfl) (by first | exact am_b_t (by omega) | exact am_b_f (by omega))

set_option maxRecDepth 100000 in
set_option maxHeartbeats 4000000 in
theorem s_X7_isPosition (X : AX) (q : Int) (μ : Mu) (hq : -2147483648 ≤ q ∧ q ≤ 2147483647) : Wp (GG X) M_X7_isPosition 0 [(0, q)] [] μ (pP 0 (am_b (-12 ≤ q ∧ q ≤ 12)) μ) := by
  refine w_iload_n dX7_isPosition_0 rfl rfl ?_
  refine w_bipush dX7_isPosition_1 (by decide) ?_
  refine w_icmp_lt (tgt := 16) dX7_isPosition_3 rfl (R32.in (by omega)) (R32.in (by decide)) (fun c3 => ?_) (fun c3 => ?_)
  · skip
    refine w_iconst dX7_isPosition_16 ?_
    exact w_zretP dX7_isPosition_17 rfl (Or.inl rfl) (by first | exact am_b_t (by omega) | exact am_b_f (by omega))
  · skip
    refine w_iload_n dX7_isPosition_6 rfl rfl ?_
    refine w_bipush dX7_isPosition_7 (by decide) ?_
    refine w_icmp_gt (tgt := 16) dX7_isPosition_9 rfl (R32.in (by omega)) (R32.in (by decide)) (fun c9 => ?_) (fun c9 => ?_)
    · skip
      refine w_iconst dX7_isPosition_16 ?_
      exact w_zretP dX7_isPosition_17 rfl (Or.inl rfl) (by first | exact am_b_t (by omega) | exact am_b_f (by omega))
    · skip
      refine w_iconst dX7_isPosition_12 ?_
      refine w_goto (tgt := 17) dX7_isPosition_13 rfl ?_
      exact w_zretP dX7_isPosition_17 rfl (Or.inr rfl) (by first | exact am_b_t (by omega) | exact am_b_f (by omega))


set_option maxRecDepth 100000 in
set_option maxHeartbeats 4000000 in
theorem s_X7_load (X : AX) (p : Int) (g : Int) (μ ν : Mu) (hA9 : ∀ o : Int, (0 ≤ o ∧ o ≤ 0) ∨ (p ≤ o ∧ o ≤ p + 10) → ν o = μ o) (hC : CJ μ p) (hg : 0 ≤ g ∧ g < μ p 14) : Wp (GG X) M_X7_load 0 [(2, 0), (0, g)] [] ν (qV fun μ' => (Fr 6 14 1 0 μ' ν) ∧ (GLd (ddt μ p (p + 5) (μ p 3) g) μ')) := by
  have hI := hC.i
  have hG := hC.pg
  have hp := hI.at
  have hz := hI.sz
  have hgr := hG.gr
  have hkn := hC.kn
  refine w_aload_n dX7_load_0 rfl rfl (by first | decide | omega) ?_
  refine w_getR (o := 0) (x := 6) fX7_load_1 rfl rfl rfl rfl ?_
  refine w_aload_n dX7_load_4 rfl rfl (by first | decide | omega) ?_
  refine w_getDx (o := 0) (f := 7) (x := p) fX7_load_5 rfl rfl rfl rfl ((congrFun (hA9 _ (by omega)) _).trans hC.p7) ?_
  refine w_aload_n dX7_load_8 rfl rfl (by first | decide | omega) ?_
  refine w_getDx (o := 0) (f := 7) (x := p) fX7_load_9 rfl rfl rfl rfl ((congrFun (hA9 _ (by omega)) _).trans hC.p7) ?_
  refine w_getR (o := (p).toNat) (x := p + 5) fX7_load_12 (by omega) (pSh0 rfl rfl (by assumption)) rfl (pRf 10 5 rfl rfl (by assumption)) ?_
  refine w_aload_n dX7_load_15 rfl rfl (by first | decide | omega) ?_
  refine w_getDx (o := 0) (f := 7) (x := p) fX7_load_16 rfl rfl rfl rfl ((congrFun (hA9 _ (by omega)) _).trans hC.p7) ?_
  refine w_getR (o := (p).toNat) (x := p + 9) fX7_load_19 (by omega) (pSh0 rfl rfl (by assumption)) rfl (pRf 15 9 rfl rfl (by assumption)) ?_
  refine w_iload_n dX7_load_22 rfl rfl ?_
  refine w_ialdx (o := (p + 9).toNat) (n := 32) (x := μ (p + 9) g) dX7_load_23 (by omega) (pSh 9 rfl rfl (by assumption)) (Nat.le_of_ble_eq_true rfl) (by omega) (congrFun (hA9 _ (by omega)) _) ?_
  have hr1 := PG.fl hC.pg (g := g) (by omega)
  have hr2 := PG.fl hG (g := g) (by omega)
  refine w_aload_n dX7_load_24 rfl rfl (by first | decide | omega) ?_
  refine w_getDx (o := 0) (f := 7) (x := p) fX7_load_25 rfl rfl rfl rfl ((congrFun (hA9 _ (by omega)) _).trans hC.p7) ?_
  refine w_getR (o := (p).toNat) (x := p + 10) fX7_load_28 (by omega) (pSh0 rfl rfl (by assumption)) rfl (pRf 16 10 rfl rfl (by assumption)) ?_
  refine w_iload_n dX7_load_31 rfl rfl ?_
  refine w_ialdx (o := (p + 10).toNat) (n := 32) (x := μ (p + 10) g) dX7_load_32 (by omega) (pSh 10 rfl rfl (by assumption)) (Nat.le_of_ble_eq_true rfl) (by omega) (congrFun (hA9 _ (by omega)) _) ?_
  refine w_aload_n dX7_load_33 rfl rfl (by first | decide | omega) ?_
  refine w_getDx (o := 0) (f := 7) (x := p) fX7_load_34 rfl rfl rfl rfl ((congrFun (hA9 _ (by omega)) _).trans hC.p7) ?_
  refine w_getIx (o := (p).toNat) (f := 3) (x := μ p 3) fX7_load_37 (by omega) (pSh0 rfl rfl (by assumption)) (Nat.le_of_ble_eq_true rfl) rfl (congrFun (hA9 _ (by omega)) _) ?_
  have hr3 := hC.kn
  refine w_callVV (o := 6) (ci := 0) (as := [(2, p), (2, p + 5), (0, μ (p + 9) g), (0, μ (p + 10) g), (0, μ p 3)]) (rest := []) (k := 1) fX7_load_40 rfl rfl rfl rfl rfl rfl rfl rfl (Nat.le_of_ble_eq_true rfl) (s_X0_load X p (μ (p + 9) g) (μ (p + 10) g) (μ p 3) μ ν (fun o h1 => (hA9 _ (by omega))) hI hG (hC.ld5 hg hkn)) (fun μL hμL => ?_)
  obtain ⟨hFL, hD_L⟩ := hμL
  have hD2 : GLd (ddt μ p (p + 5) (μ p 3) g) μL := hD_L
  exact w_retV dX7_load_43 rfl ⟨hFL, hD2⟩

set_option maxRecDepth 100000 in
set_option maxHeartbeats 4000000 in
theorem s_X7_loadTried (X : AX) (p : Int) (g : Int) (μ ν : Mu) (hA9 : ∀ o : Int, (0 ≤ o ∧ o ≤ 0) ∨ (p ≤ o ∧ o ≤ p + 10) ∨ (19 ≤ o ∧ o ≤ 19) → ν o = μ o) (hC : CJ μ p) (hg : 0 ≤ g ∧ g < μ p 14) (hq : ∀ i, μ (p + 9) g ≤ i → i < μ (p + 9) g + μ (p + 10) g → -12 ≤ μ 19 i ∧ μ 19 i ≤ 12) : Wp (GG X) M_X7_loadTried 0 [(2, 0), (0, g)] [] ν (qV fun μ' => (Fr 6 14 1 0 μ' ν) ∧ (GLd (ddt μ p 19 (μ p 3) g) μ')) := by
  have hI := hC.i
  have hG := hC.pg
  have hp := hI.at
  have hz := hI.sz
  have hgr := hG.gr
  have hkn := hC.kn
  refine w_aload_n dX7_loadTried_0 rfl rfl (by first | decide | omega) ?_
  refine w_getR (o := 0) (x := 6) fX7_loadTried_1 rfl rfl rfl rfl ?_
  refine w_aload_n dX7_loadTried_4 rfl rfl (by first | decide | omega) ?_
  refine w_getDx (o := 0) (f := 7) (x := p) fX7_loadTried_5 rfl rfl rfl rfl ((congrFun (hA9 _ (by omega)) _).trans hC.p7) ?_
  refine w_aload_n dX7_loadTried_8 rfl rfl (by first | decide | omega) ?_
  refine w_getR (o := 0) (x := 19) fX7_loadTried_9 rfl rfl rfl rfl ?_
  refine w_aload_n dX7_loadTried_12 rfl rfl (by first | decide | omega) ?_
  refine w_getDx (o := 0) (f := 7) (x := p) fX7_loadTried_13 rfl rfl rfl rfl ((congrFun (hA9 _ (by omega)) _).trans hC.p7) ?_
  refine w_getR (o := (p).toNat) (x := p + 9) fX7_loadTried_16 (by omega) (pSh0 rfl rfl (by assumption)) rfl (pRf 15 9 rfl rfl (by assumption)) ?_
  refine w_iload_n dX7_loadTried_19 rfl rfl ?_
  refine w_ialdx (o := (p + 9).toNat) (n := 32) (x := μ (p + 9) g) dX7_loadTried_20 (by omega) (pSh 9 rfl rfl (by assumption)) (Nat.le_of_ble_eq_true rfl) (by omega) (congrFun (hA9 _ (by omega)) _) ?_
  have hr1 := PG.fl hC.pg (g := g) (by omega)
  have hr2 := PG.fl hG (g := g) (by omega)
  refine w_aload_n dX7_loadTried_21 rfl rfl (by first | decide | omega) ?_
  refine w_getDx (o := 0) (f := 7) (x := p) fX7_loadTried_22 rfl rfl rfl rfl ((congrFun (hA9 _ (by omega)) _).trans hC.p7) ?_
  refine w_getR (o := (p).toNat) (x := p + 10) fX7_loadTried_25 (by omega) (pSh0 rfl rfl (by assumption)) rfl (pRf 16 10 rfl rfl (by assumption)) ?_
  refine w_iload_n dX7_loadTried_28 rfl rfl ?_
  refine w_ialdx (o := (p + 10).toNat) (n := 32) (x := μ (p + 10) g) dX7_loadTried_29 (by omega) (pSh 10 rfl rfl (by assumption)) (Nat.le_of_ble_eq_true rfl) (by omega) (congrFun (hA9 _ (by omega)) _) ?_
  refine w_aload_n dX7_loadTried_30 rfl rfl (by first | decide | omega) ?_
  refine w_getDx (o := 0) (f := 7) (x := p) fX7_loadTried_31 rfl rfl rfl rfl ((congrFun (hA9 _ (by omega)) _).trans hC.p7) ?_
  refine w_getIx (o := (p).toNat) (f := 3) (x := μ p 3) fX7_loadTried_34 (by omega) (pSh0 rfl rfl (by assumption)) (Nat.le_of_ble_eq_true rfl) rfl (congrFun (hA9 _ (by omega)) _) ?_
  have hr3 := hC.kn
  refine w_callVV (o := 6) (ci := 0) (as := [(2, p), (2, 19), (0, μ (p + 9) g), (0, μ (p + 10) g), (0, μ p 3)]) (rest := []) (k := 1) fX7_loadTried_37 rfl rfl rfl rfl rfl rfl rfl rfl (Nat.le_of_ble_eq_true rfl) (s_X0_load_t X p (μ (p + 9) g) (μ (p + 10) g) (μ p 3) μ ν (fun o h1 => (hA9 _ (by omega))) hI hG (hC.ldq hg hkn hq)) (fun μL hμL => ?_)
  obtain ⟨hFL, hD_L⟩ := hμL
  have hD2 : GLd (ddt μ p 19 (μ p 3) g) μL := hD_L
  exact w_retV dX7_loadTried_40 rfl ⟨hFL, hD2⟩

set_option maxRecDepth 100000 in
set_option maxHeartbeats 4000000 in
theorem s_X7_loadAround (X : AX) (p : Int) (i : Int) (μ ν : Mu) (hA9 : ∀ o : Int, (0 ≤ o ∧ o ≤ 0) ∨ (p ≤ o ∧ o ≤ p + 10) → ν o = μ o) (hC : CJ μ p) (hi : 0 ≤ i ∧ i < μ p 7 ∧ 0 ≤ μ (p + 8) i) : Wp (GG X) M_X7_loadAround 0 [(2, 0), (0, i), (9, 0)] [] ν (qI 0 fun z μ' => (Fr 6 14 1 0 μ' ν) ∧ (z = i - μ (p + 9) (μ (p + 8) i)) ∧ (GLd (ddt μ p (p + 5) (μ p 3) (μ (p + 8) i)) μ')) := by
  have hI := hC.i
  have hG := hC.pg
  have hp := hI.at
  have hz := hI.sz
  have hgr := hG.gr
  have hkn := hC.kn
  have hgo := hG.go ⟨hi.1, hi.2.1⟩
  refine w_aload_n dX7_loadAround_0 rfl rfl (by first | decide | omega) ?_
  refine w_getDx (o := 0) (f := 7) (x := p) fX7_loadAround_1 rfl rfl rfl rfl ((congrFun (hA9 _ (by omega)) _).trans hC.p7) ?_
  refine w_getR (o := (p).toNat) (x := p + 8) fX7_loadAround_4 (by omega) (pSh0 rfl rfl (by assumption)) rfl (pRf 13 8 rfl rfl (by assumption)) ?_
  refine w_iload_n dX7_loadAround_7 rfl rfl ?_
  refine w_ialdx (o := (p + 8).toNat) (n := 64) (x := μ (p + 8) i) dX7_loadAround_8 (by omega) (pSh 8 rfl rfl (by assumption)) (Nat.le_of_ble_eq_true rfl) (by omega) (congrFun (hA9 _ (by omega)) _) ?_
  have hr1 := PG.go hC.pg (i := i) (by omega)
  have hr2 := PG.go hG (i := i) (by omega)
  refine w_istore_n (ls' := [(2, 0), (0, i), (0, μ (p + 8) i)]) dX7_loadAround_9 rfl (Nat.le_of_ble_eq_true rfl) rfl rfl ?_
  refine w_aload_n dX7_loadAround_10 rfl rfl (by first | decide | omega) ?_
  refine w_iload_n dX7_loadAround_11 rfl rfl ?_
  refine w_callVV (o := 0) (ci := 7) (as := [(0, μ (p + 8) i)]) (rest := []) (k := 0) fX7_loadAround_12 rfl rfl rfl rfl rfl rfl rfl rfl (Nat.le_of_ble_eq_true rfl) (s_X7_load X p (μ (p + 8) i) μ ν (fun o h1 => (hA9 _ (by omega))) hC (by first | omega | assumption)) (fun μ_3 hμ3 => ?_)
  obtain ⟨hF3, hD_3⟩ := hμ3
  refine w_iload_n dX7_loadAround_15 rfl rfl ?_
  refine w_aload_n dX7_loadAround_16 rfl rfl (by first | decide | omega) ?_
  refine w_getDx (o := 0) (f := 7) (x := p) fX7_loadAround_17 rfl rfl rfl rfl ((congrFun (hF3.at (by omega) (by omega)) _).trans ((congrFun (hA9 _ (by omega)) _).trans hC.p7)) ?_
  refine w_getR (o := (p).toNat) (x := p + 9) fX7_loadAround_20 (by omega) (pSh0 rfl rfl (by assumption)) rfl (pRf 15 9 rfl rfl (by assumption)) ?_
  refine w_iload_n dX7_loadAround_23 rfl rfl ?_
  refine w_ialdx (o := (p + 9).toNat) (n := 32) (x := μ (p + 9) (μ (p + 8) i)) dX7_loadAround_24 (by omega) (pSh 9 rfl rfl (by assumption)) (Nat.le_of_ble_eq_true rfl) (by omega) ((congrFun (hF3.at (by omega) (by omega)) _).trans (congrFun (hA9 _ (by omega)) _)) ?_
  have hr4 := PG.fl hC.pg (g := (μ (p + 8) i)) (by omega)
  have hr5 := PG.fl hG (g := (μ (p + 8) i)) (by omega)
  refine w_isub dX7_loadAround_25 ?_
  exact w_iretI dX7_loadAround_26 rfl ⟨hF3, (by rfl), hD_3⟩

set_option maxRecDepth 100000 in
set_option maxHeartbeats 4000000 in
theorem s_X7_tellBest (X : AX) (D : GDt) (w : Int) (μ : Mu) (hD : GLd D μ) (hw : -2147483648 ≤ w ∧ w ≤ 2147483647) : Wp (GG X) M_X7_tellBest 0 [(2, 0), (0, w), (9, 0), (9, 0)] [] μ (qI 0 fun z μ' => (Fr 6 6 14 14 μ' μ) ∧ (z = if 0 ≤ w ∧ w ≤ 5 then ansB D w else -1000000) ∧ (GLd D μ') ∧ (∀ k : Int, k ≤ 13 ∨ k = 15 → μ' 6 k = μ 6 k)) := by
  have hok := hD.ok
  have hmr := mnK_r hok
  refine w_iload_n dX7_tellBest_0 rfl rfl ?_
  refine w_if_lt (tgt := 9) dX7_tellBest_1 rfl (R32.in (by omega)) (fun c1 => ?_) (fun c1 => ?_)
  · skip
    refine w_ldc (n := -1000000) dX7_tellBest_9 k_597 (by decide) ?_
    exact w_iretI dX7_tellBest_11 rfl ⟨Fr.rf, (by first | (rw [if_neg (by omega)]) | (rw [if_pos (by omega)]; unfold ansB; rw [if_pos (hz_B.symm.trans c25)]) | (rw [if_pos (by omega)]; unfold ansB; rw [if_neg (fun q => c25 (hz_B.trans q))]; exact hz_T)), hD, (fun k h1 => rfl)⟩
  · skip
    refine w_iload_n dX7_tellBest_4 rfl rfl ?_
    refine w_iconst dX7_tellBest_5 ?_
    refine w_icmp_le (tgt := 12) dX7_tellBest_6 rfl (R32.in (by omega)) (R32.in (by decide)) (fun c6 => ?_) (fun c6 => ?_)
    · skip
      refine w_aload_n dX7_tellBest_12 rfl rfl (by first | decide | omega) ?_
      refine w_getR (o := 0) (x := 6) fX7_tellBest_13 rfl rfl rfl rfl ?_
      refine w_callVI (o := 6) (ci := 0) (as := []) (rest := []) (k := 3) fX7_tellBest_16 rfl rfl rfl rfl rfl rfl rfl rfl (Nat.le_of_ble_eq_true rfl) (s_X0_findBest X D μ hD) (fun xB μB hμB => ?_)
      obtain ⟨hFB, hz_B, hD_B, hf_B⟩ := hμB
      refine w_lstore_n (ls' := [(2, 0), (0, w), (1, xB), (9, 0)]) dX7_tellBest_19 rfl (Nat.le_of_ble_eq_true rfl) rfl rfl ?_
      refine w_lload_n dX7_tellBest_20 rfl rfl ?_
      refine w_ldc2 (n := 9223372036854775807) dX7_tellBest_21 k_729 (by decide) ?_
      refine w_lc_ne (tgt := 33) dX7_tellBest_24 dX7_tellBest_25 rfl (R64.in (by omega)) (R64.in (by omega)) (fun c25 => ?_) (fun c25 => ?_)
      · skip
        refine w_aload_n dX7_tellBest_33 rfl rfl (by first | decide | omega) ?_
        refine w_getR (o := 0) (x := 6) fX7_tellBest_34 rfl rfl rfl rfl ?_
        refine w_lload_n dX7_tellBest_37 rfl rfl ?_
        refine w_iload_n dX7_tellBest_38 rfl rfl ?_
        refine w_callVI (o := 6) (ci := 0) (as := [(1, xB), (0, w)]) (rest := []) (k := 0) fX7_tellBest_39 rfl rfl rfl rfl rfl rfl rfl rfl (Nat.le_of_ble_eq_true rfl) (s_X0_tell X D (bR D - bL D) (bL D) xB w μB hD_B (mnK_w hok (fun q => c25 (hz_B.trans q))).1 (mnK_w hok (fun q => c25 (hz_B.trans q))).2.1 (hz_B.trans (mnK_w hok (fun q => c25 (hz_B.trans q))).2.2.1) (by first | omega | assumption)) (fun xT μT hμT => ?_)
        obtain ⟨hFT, hz_T, hD_T, hf_T⟩ := hμT
        exact w_iretI dX7_tellBest_42 rfl ⟨((hFT.wd (by omega) (by omega)).tr hFB), (by first | (rw [if_neg (by omega)]) | (rw [if_pos (by omega)]; unfold ansB; rw [if_pos (hz_B.symm.trans c25)]) | (rw [if_pos (by omega)]; unfold ansB; rw [if_neg (fun q => c25 (hz_B.trans q))]; exact hz_T)), hD_T, (fun k h1 => ((hf_T k (by omega)).trans (hf_B k (by omega))))⟩
      · skip
        refine w_ldc (n := -1000000) dX7_tellBest_28 k_597 (by decide) ?_
        refine w_goto (tgt := 42) dX7_tellBest_30 rfl ?_
        exact w_iretI dX7_tellBest_42 rfl ⟨hFB, (by first | (rw [if_neg (by omega)]) | (rw [if_pos (by omega)]; unfold ansB; rw [if_pos (hz_B.symm.trans c25)]) | (rw [if_pos (by omega)]; unfold ansB; rw [if_neg (fun q => c25 (hz_B.trans q))]; exact hz_T)), hD_B, (fun k h1 => (hf_B k (by omega)))⟩
    · skip
      refine w_ldc (n := -1000000) dX7_tellBest_9 k_597 (by decide) ?_
      exact w_iretI dX7_tellBest_11 rfl ⟨Fr.rf, (by first | (rw [if_neg (by omega)]) | (rw [if_pos (by omega)]; unfold ansB; rw [if_pos (hz_B.symm.trans c25)]) | (rw [if_pos (by omega)]; unfold ansB; rw [if_neg (fun q => c25 (hz_B.trans q))]; exact hz_T)), hD, (fun k h1 => rfl)⟩

