set_option maxRecDepth 100000 in
set_option maxHeartbeats 4000000 in
theorem s_X8_isElement (X : AX) (p : Int) (i : Int) (μ : Mu) (hC : CJ μ p) (hJ : RJ μ p) (hi : -2147483648 ≤ i ∧ i ≤ 2147483647) : Wp (GG X) M_X8_isElement 0 [(2, 45), (0, i)] [] μ (pP 0 (am_b (0 ≤ i ∧ i < μ p 7)) μ) := by
  have hI := hC.i
  have hG := hC.pg
  have hp := hI.at
  have hz := hI.sz
  have hgr := hG.gr
  have hkn := hC.kn
  refine w_iload_n dX8_isElement_0 rfl rfl ?_
  refine w_iconst dX8_isElement_1 ?_
  refine w_aload_n dX8_isElement_2 rfl rfl (by first | decide | omega) ?_
  refine w_getIx (o := 45) (f := 7) (x := μ p 7) fX8_isElement_3 rfl rfl (Nat.le_of_ble_eq_true rfl) rfl hJ.f7 ?_
  refine w_iconst dX8_isElement_6 ?_
  refine w_isub dX8_isElement_7 ?_
  refine w_callSP (as := [(0, i), (0, 0), (0, (μ p 7) - 1)]) (rest := []) (k := 0) fX8_isElement_8 rfl rfl rfl rfl rfl (Nat.le_of_ble_eq_true rfl) (s_X8_isIn X i 0 ((μ p 7) - 1) μ (by first | omega | assumption) (by first | omega | assumption) (by first | omega | assumption)) ?_
  have hf1 := am_b_r (0 ≤ i ∧ i ≤ ((μ p 7) - 1))
  exact w_zretP dX8_isElement_11 rfl (am_b_01 _) (by exact am_b_iff (by omega))

set_option maxRecDepth 100000 in
set_option maxHeartbeats 4000000 in
theorem s_X8_isGroup (X : AX) (p : Int) (g : Int) (μ : Mu) (hC : CJ μ p) (hJ : RJ μ p) (hg : -2147483648 ≤ g ∧ g ≤ 2147483647) : Wp (GG X) M_X8_isGroup 0 [(2, 45), (0, g)] [] μ (pP 0 (am_b (0 ≤ g ∧ g < μ p 14)) μ) := by
  have hI := hC.i
  have hG := hC.pg
  have hp := hI.at
  have hz := hI.sz
  have hgr := hG.gr
  have hkn := hC.kn
  refine w_iload_n dX8_isGroup_0 rfl rfl ?_
  refine w_iconst dX8_isGroup_1 ?_
  refine w_aload_n dX8_isGroup_2 rfl rfl (by first | decide | omega) ?_
  refine w_getIx (o := 45) (f := 17) (x := μ p 14) fX8_isGroup_3 rfl rfl (Nat.le_of_ble_eq_true rfl) rfl hJ.f17 ?_
  refine w_iconst dX8_isGroup_6 ?_
  refine w_isub dX8_isGroup_7 ?_
  refine w_callSP (as := [(0, g), (0, 0), (0, (μ p 14) - 1)]) (rest := []) (k := 0) fX8_isGroup_8 rfl rfl rfl rfl rfl (Nat.le_of_ble_eq_true rfl) (s_X8_isIn X g 0 ((μ p 14) - 1) μ (by first | omega | assumption) (by first | omega | assumption) (by first | omega | assumption)) ?_
  have hf1 := am_b_r (0 ≤ g ∧ g ≤ ((μ p 14) - 1))
  exact w_zretP dX8_isGroup_11 rfl (am_b_01 _) (by exact am_b_iff (by omega))

set_option maxRecDepth 100000 in
set_option maxHeartbeats 4000000 in
theorem s_X8_isOfGroup (X : AX) (p : Int) (i : Int) (μ : Mu) (hC : CJ μ p) (hJ : RJ μ p) (hi : -2147483648 ≤ i ∧ i ≤ 2147483647) : Wp (GG X) M_X8_isOfGroup 0 [(2, 45), (0, i)] [] μ (pP 0 (am_b (0 ≤ i ∧ i < μ p 7 ∧ 0 ≤ μ (p + 8) i)) μ) := by
  have hI := hC.i
  have hG := hC.pg
  have hp := hI.at
  have hz := hI.sz
  have hgr := hG.gr
  have hkn := hC.kn
  refine w_aload_n dX8_isOfGroup_0 rfl rfl (by first | decide | omega) ?_
  refine w_iload_n dX8_isOfGroup_1 rfl rfl ?_
  refine w_callVP (o := 45) (ci := 8) (as := [(0, i)]) (rest := []) (k := 0) fX8_isOfGroup_2 rfl rfl rfl rfl rfl rfl rfl rfl (Nat.le_of_ble_eq_true rfl) (s_X8_isElement X p i μ hC hJ (by first | omega | assumption)) ?_
  have hf1 := am_b_r (0 ≤ i ∧ i < μ p 7)
  refine w_if_eq (tgt := 21) dX8_isOfGroup_5 rfl (R32.in (by have := am_b_r ((0 ≤ i ∧ i < μ p 7)); omega)) (fun c5 => ?_) (fun c5 => ?_)
  · skip
    replace c5 := am_b0 c5
    refine w_iconst dX8_isOfGroup_21 ?_
    exact w_zretP dX8_isOfGroup_22 rfl (Or.inl rfl) (by first | exact am_b_t (by omega) | exact am_b_f (by omega))
  · skip
    replace c5 := am_b1 c5
    refine w_aload_n dX8_isOfGroup_8 rfl rfl (by first | decide | omega) ?_
    refine w_getR (o := 45) (x := 53) fX8_isOfGroup_9 rfl rfl rfl rfl ?_
    refine w_iload_n dX8_isOfGroup_12 rfl rfl ?_
    refine w_ialdx (o := 53) (n := 64) (x := goR (μ (p + 8) i)) dX8_isOfGroup_13 rfl rfl (Nat.le_of_ble_eq_true rfl) (by omega) (hJ.go (by omega)) ?_
    have hr2 := goR_f (μ (p + 8) i)
    have hr3 := PG.go hG (i := i) (by omega)
    refine w_if_lt (tgt := 21) dX8_isOfGroup_14 rfl (R32.in (by omega)) (fun c14 => ?_) (fun c14 => ?_)
    · skip
      refine w_iconst dX8_isOfGroup_21 ?_
      exact w_zretP dX8_isOfGroup_22 rfl (Or.inl rfl) (by first | exact am_b_t (by omega) | exact am_b_f (by omega))
    · skip
      refine w_iconst dX8_isOfGroup_17 ?_
      refine w_goto (tgt := 22) dX8_isOfGroup_18 rfl ?_
      exact w_zretP dX8_isOfGroup_22 rfl (Or.inr rfl) (by first | exact am_b_t (by omega) | exact am_b_f (by omega))

set_option maxRecDepth 100000 in
set_option maxHeartbeats 4000000 in
theorem s_X8_isNoteAt (X : AX) (p : Int) (i : Int) (μ : Mu) (hC : CJ μ p) (hJ : RJ μ p) (hi : -2147483648 ≤ i ∧ i ≤ 2147483647) : Wp (GG X) M_X8_isNoteAt 0 [(2, 45), (0, i)] [] μ (pP 0 (am_b (0 ≤ i ∧ i < μ p 7 ∧ μ (p + 4) i = 1)) μ) := by
  have hI := hC.i
  have hG := hC.pg
  have hp := hI.at
  have hz := hI.sz
  have hgr := hG.gr
  have hkn := hC.kn
  refine w_aload_n dX8_isNoteAt_0 rfl rfl (by first | decide | omega) ?_
  refine w_iload_n dX8_isNoteAt_1 rfl rfl ?_
  refine w_callVP (o := 45) (ci := 8) (as := [(0, i)]) (rest := []) (k := 0) fX8_isNoteAt_2 rfl rfl rfl rfl rfl rfl rfl rfl (Nat.le_of_ble_eq_true rfl) (s_X8_isElement X p i μ hC hJ (by first | omega | assumption)) ?_
  have hf1 := am_b_r (0 ≤ i ∧ i < μ p 7)
  refine w_if_eq (tgt := 21) dX8_isNoteAt_5 rfl (R32.in (by have := am_b_r ((0 ≤ i ∧ i < μ p 7)); omega)) (fun c5 => ?_) (fun c5 => ?_)
  · skip
    replace c5 := am_b0 c5
    refine w_iconst dX8_isNoteAt_21 ?_
    exact w_zretP dX8_isNoteAt_22 rfl (Or.inl rfl) (by first | exact am_b_t (by omega) | exact am_b_f (by omega))
  · skip
    replace c5 := am_b1 c5
    refine w_aload_n dX8_isNoteAt_8 rfl rfl (by first | decide | omega) ?_
    refine w_getR (o := 45) (x := 49) fX8_isNoteAt_9 rfl rfl rfl rfl ?_
    refine w_iload_n dX8_isNoteAt_12 rfl rfl ?_
    refine w_zaldx (o := 49) (n := 64) (x := μ (p + 4) i) dX8_isNoteAt_13 rfl rfl (Nat.le_of_ble_eq_true rfl) (by omega) (hJ.nt (by omega)) ?_
    have hr2 := PI.so hI (q := p + 4) (i := i) rfl (by omega)
    refine w_if_eq (tgt := 21) dX8_isNoteAt_14 rfl (R32.in (by omega)) (fun c14 => ?_) (fun c14 => ?_)
    · skip
      refine w_iconst dX8_isNoteAt_21 ?_
      exact w_zretP dX8_isNoteAt_22 rfl (Or.inl rfl) (by first | exact am_b_t (by omega) | exact am_b_f (by omega))
    · skip
      refine w_iconst dX8_isNoteAt_17 ?_
      refine w_goto (tgt := 22) dX8_isNoteAt_18 rfl ?_
      exact w_zretP dX8_isNoteAt_22 rfl (Or.inr rfl) (by first | exact am_b_t (by omega) | exact am_b_f (by omega))

set_option maxRecDepth 100000 in
set_option maxHeartbeats 4000000 in
theorem s_X8_isSetting (X : AX) (l : Int) (r : Int) (μ : Mu) (hl : -2147483648 ≤ l ∧ l ≤ 2147483647) (hr : -2147483648 ≤ r ∧ r ≤ 2147483647) : Wp (GG X) M_X8_isSetting 0 [(0, l), (0, r)] [] μ (pP 0 (am_b ((-60 ≤ l ∧ l ≤ 60) ∧ (-60 ≤ r ∧ r ≤ 60) ∧ (-8 ≤ r - l ∧ r - l ≤ 8))) μ) := by
  refine w_iload_n dX8_isSetting_0 rfl rfl ?_
  refine w_bipush dX8_isSetting_1 (by decide) ?_
  refine w_bipush dX8_isSetting_3 (by decide) ?_
  refine w_callSP (as := [(0, l), (0, -60), (0, 60)]) (rest := []) (k := 0) fX8_isSetting_5 rfl rfl rfl rfl rfl (Nat.le_of_ble_eq_true rfl) (s_X8_isIn X l (-60) 60 μ (by first | omega | assumption) (by first | omega | assumption) (by first | omega | assumption)) ?_
  have hf1 := am_b_r ((-60) ≤ l ∧ l ≤ 60)
  refine w_if_eq (tgt := 37) dX8_isSetting_8 rfl (R32.in (by have := am_b_r (((-60) ≤ l ∧ l ≤ 60)); omega)) (fun c8 => ?_) (fun c8 => ?_)
  · skip
    replace c8 := am_b0 c8
    refine w_iconst dX8_isSetting_37 ?_
    exact w_zretP dX8_isSetting_38 rfl (Or.inl rfl) (by first | exact am_b_t (by (try unfold ab at *); omega) | exact am_b_f (by (try unfold ab at *); omega))
  · skip
    replace c8 := am_b1 c8
    refine w_iload_n dX8_isSetting_11 rfl rfl ?_
    refine w_bipush dX8_isSetting_12 (by decide) ?_
    refine w_bipush dX8_isSetting_14 (by decide) ?_
    refine w_callSP (as := [(0, r), (0, -60), (0, 60)]) (rest := []) (k := 0) fX8_isSetting_16 rfl rfl rfl rfl rfl (Nat.le_of_ble_eq_true rfl) (s_X8_isIn X r (-60) 60 μ (by first | omega | assumption) (by first | omega | assumption) (by first | omega | assumption)) ?_
    have hf2 := am_b_r ((-60) ≤ r ∧ r ≤ 60)
    refine w_if_eq (tgt := 37) dX8_isSetting_19 rfl (R32.in (by have := am_b_r (((-60) ≤ r ∧ r ≤ 60)); omega)) (fun c19 => ?_) (fun c19 => ?_)
    · skip
      replace c19 := am_b0 c19
      refine w_iconst dX8_isSetting_37 ?_
      exact w_zretP dX8_isSetting_38 rfl (Or.inl rfl) (by first | exact am_b_t (by (try unfold ab at *); omega) | exact am_b_f (by (try unfold ab at *); omega))
    · skip
      replace c19 := am_b1 c19
      refine w_iload_n dX8_isSetting_22 rfl rfl ?_
      refine w_iload_n dX8_isSetting_23 rfl rfl ?_
      refine w_isub dX8_isSetting_24 ?_
      refine w_callSP (as := [(0, r - l)]) (rest := []) (k := 0) fX8_isSetting_25 rfl rfl rfl rfl rfl (Nat.le_of_ble_eq_true rfl) (s_X8_far X (r - l) μ (by first | omega | assumption)) ?_
      have hf3 := ab_f (r - l)
      refine w_bipush dX8_isSetting_28 (by decide) ?_
      refine w_icmp_gt (tgt := 37) dX8_isSetting_30 rfl (R32.in (by omega)) (R32.in (by decide)) (fun c30 => ?_) (fun c30 => ?_)
      · skip
        refine w_iconst dX8_isSetting_37 ?_
        exact w_zretP dX8_isSetting_38 rfl (Or.inl rfl) (by first | exact am_b_t (by (try unfold ab at *); omega) | exact am_b_f (by (try unfold ab at *); omega))
      · skip
        refine w_iconst dX8_isSetting_33 ?_
        refine w_goto (tgt := 38) dX8_isSetting_34 rfl ?_
        exact w_zretP dX8_isSetting_38 rfl (Or.inr rfl) (by first | exact am_b_t (by (try unfold ab at *); omega) | exact am_b_f (by (try unfold ab at *); omega))

set_option maxRecDepth 100000 in
set_option maxHeartbeats 4000000 in
theorem s_X8_idealOf_w (X : AX) (D : GDt) (f : Int) (i : Int) (μ : Mu) (hG : RW D f μ) (hi : 0 ≤ i ∧ i < dN D) : Wp (GG X) M_X8_idealOf 0 [(2, 45), (0, f + i), (9, 0), (9, 0)] [] μ (pP 0 (ideal D i) μ) := by
  have hok := hG.ok
  have hn := hok.n
  have hfr := hG.r
  have hhr := hok.hr hi
  have hbr := hok.br hi
  have hm := am_mul_b (a := -2 * dH D i) (b := way D i) (A := 24) (B := 1) (by omega) (way_b D i)
  refine w_aload_n dX8_idealOf_0 rfl rfl (by first | decide | omega) ?_
  refine w_getR (o := 45) (x := 48) fX8_idealOf_1 rfl rfl rfl rfl ?_
  refine w_iload_n dX8_idealOf_4 rfl rfl ?_
  refine w_ialdx (o := 48) (n := 64) (x := dB D i) dX8_idealOf_5 rfl rfl (Nat.le_of_ble_eq_true rfl) (by omega) (hG.b (by omega)) ?_
  have hr1 := (hG.ok).br (i := i) (by omega)
  refine w_iconst dX8_idealOf_6 ?_
  refine w_icmp_ne (tgt := 15) dX8_idealOf_7 rfl (R32.in (by omega)) (R32.in (by decide)) (fun c7 => ?_) (fun c7 => ?_)
  · skip
    refine w_aload_n dX8_idealOf_15 rfl rfl (by first | decide | omega) ?_
    refine w_getR (o := 45) (x := 48) fX8_idealOf_16 rfl rfl rfl rfl ?_
    refine w_iload_n dX8_idealOf_19 rfl rfl ?_
    refine w_ialdx (o := 48) (n := 64) (x := dB D i) dX8_idealOf_20 rfl rfl (Nat.le_of_ble_eq_true rfl) (by omega) (hG.b (by omega)) ?_
    refine w_iconst dX8_idealOf_21 ?_
    refine w_icmp_ne (tgt := 30) dX8_idealOf_22 rfl (R32.in (by omega)) (R32.in (by decide)) (fun c22 => ?_) (fun c22 => ?_)
    · skip
      refine w_bipush dX8_idealOf_30 (by decide) ?_
      refine w_istore_n (ls' := [(2, 45), (0, f + i), (0, 17), (9, 0)]) dX8_idealOf_32 rfl (Nat.le_of_ble_eq_true rfl) rfl rfl ?_
      refine w_bipush dX8_idealOf_33 (by decide) ?_
      refine w_aload_n dX8_idealOf_35 rfl rfl (by first | decide | omega) ?_
      refine w_getR (o := 45) (x := 56) fX8_idealOf_36 rfl rfl rfl rfl ?_
      refine w_iload_n dX8_idealOf_39 rfl rfl ?_
      refine w_ialdx (o := 56) (n := 64) (x := dH D i) dX8_idealOf_40 rfl rfl (Nat.le_of_ble_eq_true rfl) (by omega) (hG.h (by omega)) ?_
      have hr2 := (hG.ok).hr (i := i) (by omega)
      refine w_imul dX8_idealOf_41 ?_
      refine w_aload_n dX8_idealOf_42 rfl rfl (by first | decide | omega) ?_
      refine w_getR (o := 45) (x := 57) fX8_idealOf_43 rfl rfl rfl rfl ?_
      refine w_iload_n dX8_idealOf_46 rfl rfl ?_
      refine w_ialdx (o := 57) (n := 64) (x := way D i) dX8_idealOf_47 rfl rfl (Nat.le_of_ble_eq_true rfl) (by omega) (hG.w (by omega)) ?_
      have hr3 := way_b D i
      refine w_imul dX8_idealOf_48 ?_
      refine w_istore_n (ls' := [(2, 45), (0, f + i), (0, 17), (0, ((-2) * (dH D i)) * (way D i))]) dX8_idealOf_49 rfl (Nat.le_of_ble_eq_true rfl) rfl rfl ?_
      refine w_iload_n dX8_idealOf_50 rfl rfl ?_
      refine w_iload_n dX8_idealOf_51 rfl rfl ?_
      refine w_icmp_le (tgt := 59) dX8_idealOf_52 rfl (R32.in (by omega)) (R32.in (by decide)) (fun c52 => ?_) (fun c52 => ?_)
      · skip
        refine w_iload_n dX8_idealOf_59 rfl rfl ?_
        exact w_iretP dX8_idealOf_60 rfl (by have q := way_r D i; unfold ideal idl usu ab; generalize way D i = w at *; rcases q with q | q <;> subst q <;> omega)
      · skip
        refine w_iload_n dX8_idealOf_55 rfl rfl ?_
        refine w_goto (tgt := 60) dX8_idealOf_56 rfl ?_
        exact w_iretP dX8_idealOf_60 rfl (by have q := way_r D i; unfold ideal idl usu ab; generalize way D i = w at *; rcases q with q | q <;> subst q <;> omega)
    · skip
      refine w_bipush dX8_idealOf_25 (by decide) ?_
      refine w_goto (tgt := 32) dX8_idealOf_27 rfl ?_
      refine w_istore_n (ls' := [(2, 45), (0, f + i), (0, 15), (9, 0)]) dX8_idealOf_32 rfl (Nat.le_of_ble_eq_true rfl) rfl rfl ?_
      refine w_bipush dX8_idealOf_33 (by decide) ?_
      refine w_aload_n dX8_idealOf_35 rfl rfl (by first | decide | omega) ?_
      refine w_getR (o := 45) (x := 56) fX8_idealOf_36 rfl rfl rfl rfl ?_
      refine w_iload_n dX8_idealOf_39 rfl rfl ?_
      refine w_ialdx (o := 56) (n := 64) (x := dH D i) dX8_idealOf_40 rfl rfl (Nat.le_of_ble_eq_true rfl) (by omega) (hG.h (by omega)) ?_
      have hr4 := (hG.ok).hr (i := i) (by omega)
      refine w_imul dX8_idealOf_41 ?_
      refine w_aload_n dX8_idealOf_42 rfl rfl (by first | decide | omega) ?_
      refine w_getR (o := 45) (x := 57) fX8_idealOf_43 rfl rfl rfl rfl ?_
      refine w_iload_n dX8_idealOf_46 rfl rfl ?_
      refine w_ialdx (o := 57) (n := 64) (x := way D i) dX8_idealOf_47 rfl rfl (Nat.le_of_ble_eq_true rfl) (by omega) (hG.w (by omega)) ?_
      have hr5 := way_b D i
      refine w_imul dX8_idealOf_48 ?_
      refine w_istore_n (ls' := [(2, 45), (0, f + i), (0, 15), (0, ((-2) * (dH D i)) * (way D i))]) dX8_idealOf_49 rfl (Nat.le_of_ble_eq_true rfl) rfl rfl ?_
      refine w_iload_n dX8_idealOf_50 rfl rfl ?_
      refine w_iload_n dX8_idealOf_51 rfl rfl ?_
      refine w_icmp_le (tgt := 59) dX8_idealOf_52 rfl (R32.in (by omega)) (R32.in (by decide)) (fun c52 => ?_) (fun c52 => ?_)
      · skip
        refine w_iload_n dX8_idealOf_59 rfl rfl ?_
        exact w_iretP dX8_idealOf_60 rfl (by have q := way_r D i; unfold ideal idl usu ab; generalize way D i = w at *; rcases q with q | q <;> subst q <;> omega)
      · skip
        refine w_iload_n dX8_idealOf_55 rfl rfl ?_
        refine w_goto (tgt := 60) dX8_idealOf_56 rfl ?_
        exact w_iretP dX8_idealOf_60 rfl (by have q := way_r D i; unfold ideal idl usu ab; generalize way D i = w at *; rcases q with q | q <;> subst q <;> omega)
  · skip
    refine w_bipush dX8_idealOf_10 (by decide) ?_
    refine w_goto (tgt := 32) dX8_idealOf_12 rfl ?_
    refine w_istore_n (ls' := [(2, 45), (0, f + i), (0, 14), (9, 0)]) dX8_idealOf_32 rfl (Nat.le_of_ble_eq_true rfl) rfl rfl ?_
    refine w_bipush dX8_idealOf_33 (by decide) ?_
    refine w_aload_n dX8_idealOf_35 rfl rfl (by first | decide | omega) ?_
    refine w_getR (o := 45) (x := 56) fX8_idealOf_36 rfl rfl rfl rfl ?_
    refine w_iload_n dX8_idealOf_39 rfl rfl ?_
    refine w_ialdx (o := 56) (n := 64) (x := dH D i) dX8_idealOf_40 rfl rfl (Nat.le_of_ble_eq_true rfl) (by omega) (hG.h (by omega)) ?_
    have hr6 := (hG.ok).hr (i := i) (by omega)
    refine w_imul dX8_idealOf_41 ?_
    refine w_aload_n dX8_idealOf_42 rfl rfl (by first | decide | omega) ?_
    refine w_getR (o := 45) (x := 57) fX8_idealOf_43 rfl rfl rfl rfl ?_
    refine w_iload_n dX8_idealOf_46 rfl rfl ?_
    refine w_ialdx (o := 57) (n := 64) (x := way D i) dX8_idealOf_47 rfl rfl (Nat.le_of_ble_eq_true rfl) (by omega) (hG.w (by omega)) ?_
    have hr7 := way_b D i
    refine w_imul dX8_idealOf_48 ?_
    refine w_istore_n (ls' := [(2, 45), (0, f + i), (0, 14), (0, ((-2) * (dH D i)) * (way D i))]) dX8_idealOf_49 rfl (Nat.le_of_ble_eq_true rfl) rfl rfl ?_
    refine w_iload_n dX8_idealOf_50 rfl rfl ?_
    refine w_iload_n dX8_idealOf_51 rfl rfl ?_
    refine w_icmp_le (tgt := 59) dX8_idealOf_52 rfl (R32.in (by omega)) (R32.in (by decide)) (fun c52 => ?_) (fun c52 => ?_)
    · skip
      refine w_iload_n dX8_idealOf_59 rfl rfl ?_
      exact w_iretP dX8_idealOf_60 rfl (by have q := way_r D i; unfold ideal idl usu ab; generalize way D i = w at *; rcases q with q | q <;> subst q <;> omega)
    · skip
      refine w_iload_n dX8_idealOf_55 rfl rfl ?_
      refine w_goto (tgt := 60) dX8_idealOf_56 rfl ?_
      exact w_iretP dX8_idealOf_60 rfl (by have q := way_r D i; unfold ideal idl usu ab; generalize way D i = w at *; rcases q with q | q <;> subst q <;> omega)

set_option maxRecDepth 100000 in
set_option maxHeartbeats 4000000 in
theorem s_X8_want (X : AX) (p : Int) (g : Int) (μ : Mu) (hC : CJ μ p) (hJ : RJ μ p) (hg : -2147483648 ≤ g ∧ g ≤ 2147483647) : Wp (GG X) M_X8_want 0 [(2, 45), (0, g)] [] μ (qI 0 fun z μ' => (Fr 45 45 57 61 μ' μ) ∧ (z = if (0 ≤ g ∧ g < μ p 14) then want (ddt μ p (p + 5) (μ p 3) g) else -1000000) ∧ (RJ μ' p) ∧ (∀ k : Int, (¬ k = 0 ∧ ¬ (21 ≤ k ∧ k ≤ 24) ∧ ¬ (29 ≤ k ∧ k ≤ 33)) → μ' 45 k = μ 45 k)) := by
  have hI := hC.i
  have hG := hC.pg
  have hp := hI.at
  have hz := hI.sz
  have hgr := hG.gr
  have hkn := hC.kn
  have hRA := hJ.rag hC
  refine w_aload_n dX8_want_0 rfl rfl (by first | decide | omega) ?_
  refine w_iconst dX8_want_1 ?_
  refine w_putI (o := 45) (f := 0) fX8_want_2 rfl rfl rfl rfl rfl ?_
  have hF_μ4 : Fr 45 45 57 61 (am_up μ 45 0 0) μ := (Fr.rf.up (by omega))
  have hA4 : RAg (ddt μ p (p + 5) (μ p 3)) (μ (p + 9)) (μ p 14) (am_up μ 45 0 0) := (RAg.cg2 hRA (fun o h1 => (am_up_o (by omega))) (fun k h1 => (am_up_nk (by omega))))
  have hJ4 : RJ (am_up μ 45 0 0) p := (RJ.cg2 hJ (fun o h1 => (am_up_o (by omega))) (fun k h1 => (am_up_nk (by omega))))
  have hC4 : CJ (am_up μ 45 0 0) p := (CJ.cg hC (fun o h1 => (am_up_o (by omega))))
  have hff4 : ∀ k : Int, ¬ k = 0 → (am_up μ 45 0 0) 45 k = μ 45 k := (fun k h1 => (am_up_nk (by omega)))
  refine Wp.mu (fun μ4 hμ4 => ?_)
  rw [← hμ4] at hF_μ4 hA4 hJ4 hC4 hff4
  clear hμ4
  have e4 : ∀ o : Int, p ≤ o ∧ o ≤ p + 10 → μ4 o = μ o := fun o h1 => hF_μ4.at (by omega) (by omega)
  have e47 : μ4 p 7 = μ p 7 := congrFun (e4 p (by omega)) _
  have e414 : μ4 p 14 = μ p 14 := congrFun (e4 p (by omega)) _
  refine w_aload_n dX8_want_5 rfl rfl (by first | decide | omega) ?_
  refine w_iload_n dX8_want_6 rfl rfl ?_
  refine w_callVP (o := 45) (ci := 8) (as := [(0, g)]) (rest := []) (k := 0) fX8_want_7 rfl rfl rfl rfl rfl rfl rfl rfl (Nat.le_of_ble_eq_true rfl) (s_X8_isGroup X p g μ4 hC4 hJ4 (by first | omega | assumption)) ?_
  have hf1 := am_b_r (0 ≤ g ∧ g < μ4 p 14)
  refine w_if_ne (tgt := 16) dX8_want_10 rfl (R32.in (by have := am_b_r ((0 ≤ g ∧ g < μ4 p 14)); omega)) (fun c10 => ?_) (fun c10 => ?_)
  · skip
    replace c10 := am_b1 c10
    refine w_aload_n dX8_want_16 rfl rfl (by first | decide | omega) ?_
    refine w_iload_n dX8_want_17 rfl rfl ?_
    refine w_callVV (o := 45) (ci := 8) (as := [(0, g)]) (rest := []) (k := 0) fX8_want_18 rfl rfl rfl rfl rfl rfl rfl rfl (Nat.le_of_ble_eq_true rfl) (s_X8_opens X (ddt μ p (p + 5) (μ p 3) g) (μ (p + 9) g) g μ4 (hA4.gp (by omega))) (fun μO hμO => ?_)
    obtain ⟨hFO, hO_O, hf_O⟩ := hμO
    refine w_aload_n dX8_want_21 rfl rfl (by first | decide | omega) ?_
    refine w_callVP (o := 45) (ci := 8) (as := []) (rest := []) (k := 1) fX8_want_22 rfl rfl rfl rfl rfl rfl rfl rfl (Nat.le_of_ble_eq_true rfl) (s_X8_wantOf X (ddt μ p (p + 5) (μ p 3) g) (μ (p + 9) g) μO hO_O) ?_
    have hf3 := want_r (ddt μ p (p + 5) (μ p 3) g)
    exact w_iretI dX8_want_25 rfl ⟨((hFO.wd (by omega) (by omega)).tr hF_μ4), (by exact ifT (by omega) rfl), (RJ.cg2 hJ4 (fun o h1 => (hFO.at (by omega) (by omega))) (fun k h1 => (hf_O _ (by omega)))), (fun k h1 => ((hf_O k (by omega)).trans (hff4 k (by omega))))⟩
  · skip
    replace c10 := am_b0 c10
    refine w_ldc (n := -1000000) dX8_want_13 k_1620 (by decide) ?_
    exact w_iretI dX8_want_15 rfl ⟨hF_μ4, (by exact ifF (by omega) rfl), hJ4, (fun k h1 => (hff4 k (by omega)))⟩

set_option maxRecDepth 100000 in
set_option maxHeartbeats 4000000 in
theorem s_X8_best (X : AX) (p : Int) (g : Int) (w : Int) (μ : Mu) (hC : CJ μ p) (hJ : RJ μ p) (hg : -2147483648 ≤ g ∧ g ≤ 2147483647) (hw : -2147483648 ≤ w ∧ w ≤ 2147483647) : Wp (GG X) M_X8_best 0 [(2, 45), (0, g), (0, w)] [] μ (qI 0 fun z μ' => (Fr 45 45 57 61 μ' μ) ∧ (z = if (0 ≤ g ∧ g < μ p 14) ∧ 0 ≤ w ∧ w ≤ 5 then ansB (ddt μ p (p + 5) (μ p 3) g) w else -1000000) ∧ (RJ μ' p) ∧ (∀ k : Int, (¬ k = 0 ∧ ¬ (21 ≤ k ∧ k ≤ 24) ∧ ¬ (29 ≤ k ∧ k ≤ 33)) → μ' 45 k = μ 45 k)) := by
  have hI := hC.i
  have hG := hC.pg
  have hp := hI.at
  have hz := hI.sz
  have hgr := hG.gr
  have hkn := hC.kn
  have hRA := hJ.rag hC
  refine w_aload_n dX8_best_0 rfl rfl (by first | decide | omega) ?_
  refine w_iconst dX8_best_1 ?_
  refine w_putI (o := 45) (f := 0) fX8_best_2 rfl rfl rfl rfl rfl ?_
  have hF_μ4 : Fr 45 45 57 61 (am_up μ 45 0 0) μ := (Fr.rf.up (by omega))
  have hA4 : RAg (ddt μ p (p + 5) (μ p 3)) (μ (p + 9)) (μ p 14) (am_up μ 45 0 0) := (RAg.cg2 hRA (fun o h1 => (am_up_o (by omega))) (fun k h1 => (am_up_nk (by omega))))
  have hJ4 : RJ (am_up μ 45 0 0) p := (RJ.cg2 hJ (fun o h1 => (am_up_o (by omega))) (fun k h1 => (am_up_nk (by omega))))
  have hC4 : CJ (am_up μ 45 0 0) p := (CJ.cg hC (fun o h1 => (am_up_o (by omega))))
  have hff4 : ∀ k : Int, ¬ k = 0 → (am_up μ 45 0 0) 45 k = μ 45 k := (fun k h1 => (am_up_nk (by omega)))
  refine Wp.mu (fun μ4 hμ4 => ?_)
  rw [← hμ4] at hF_μ4 hA4 hJ4 hC4 hff4
  clear hμ4
  have e4 : ∀ o : Int, p ≤ o ∧ o ≤ p + 10 → μ4 o = μ o := fun o h1 => hF_μ4.at (by omega) (by omega)
  have e47 : μ4 p 7 = μ p 7 := congrFun (e4 p (by omega)) _
  have e414 : μ4 p 14 = μ p 14 := congrFun (e4 p (by omega)) _
  refine w_aload_n dX8_best_5 rfl rfl (by first | decide | omega) ?_
  refine w_iload_n dX8_best_6 rfl rfl ?_
  refine w_callVP (o := 45) (ci := 8) (as := [(0, g)]) (rest := []) (k := 0) fX8_best_7 rfl rfl rfl rfl rfl rfl rfl rfl (Nat.le_of_ble_eq_true rfl) (s_X8_isGroup X p g μ4 hC4 hJ4 (by first | omega | assumption)) ?_
  have hf1 := am_b_r (0 ≤ g ∧ g < μ4 p 14)
  refine w_if_eq (tgt := 31) dX8_best_10 rfl (R32.in (by have := am_b_r ((0 ≤ g ∧ g < μ4 p 14)); omega)) (fun c10 => ?_) (fun c10 => ?_)
  · skip
    replace c10 := am_b0 c10
    refine w_ldc (n := -1000000) dX8_best_31 k_1620 (by decide) ?_
    exact w_iretI dX8_best_33 rfl ⟨hF_μ4, (by first | exact ifF (by omega) rfl | exact ifT (by omega) hz_B), hJ4, (fun k h1 => (hff4 k (by omega)))⟩
  · skip
    replace c10 := am_b1 c10
    refine w_iload_n dX8_best_13 rfl rfl ?_
    refine w_iconst dX8_best_14 ?_
    refine w_iconst dX8_best_15 ?_
    refine w_callSP (as := [(0, w), (0, 0), (0, 5)]) (rest := []) (k := 0) fX8_best_16 rfl rfl rfl rfl rfl (Nat.le_of_ble_eq_true rfl) (s_X8_isIn X w 0 5 μ4 (by first | omega | assumption) (by first | omega | assumption) (by first | omega | assumption)) ?_
    have hf2 := am_b_r (0 ≤ w ∧ w ≤ 5)
    refine w_if_eq (tgt := 31) dX8_best_19 rfl (R32.in (by have := am_b_r ((0 ≤ w ∧ w ≤ 5)); omega)) (fun c19 => ?_) (fun c19 => ?_)
    · skip
      replace c19 := am_b0 c19
      refine w_ldc (n := -1000000) dX8_best_31 k_1620 (by decide) ?_
      exact w_iretI dX8_best_33 rfl ⟨hF_μ4, (by first | exact ifF (by omega) rfl | exact ifT (by omega) hz_B), hJ4, (fun k h1 => (hff4 k (by omega)))⟩
    · skip
      replace c19 := am_b1 c19
      refine w_aload_n dX8_best_22 rfl rfl (by first | decide | omega) ?_
      refine w_iload_n dX8_best_23 rfl rfl ?_
      refine w_iload_n dX8_best_24 rfl rfl ?_
      refine w_callVI (o := 45) (ci := 8) (as := [(0, g), (0, w)]) (rest := []) (k := 1) fX8_best_25 rfl rfl rfl rfl rfl rfl rfl rfl (Nat.le_of_ble_eq_true rfl) (s_X8_bestOf X (ddt μ p (p + 5) (μ p 3) g) (μ (p + 9) g) g w μ4 (hA4.gp (by omega)) (by first | omega | assumption)) (fun xB μB hμB => ?_)
      obtain ⟨hFB, hz_B, hS_B, hf_B⟩ := hμB
      refine w_goto (tgt := 33) dX8_best_28 rfl ?_
      exact w_iretI dX8_best_33 rfl ⟨((hFB.wd (by omega) (by omega)).tr hF_μ4), (by first | exact ifF (by omega) rfl | exact ifT (by omega) hz_B), (RJ.cg2 hJ4 (fun o h1 => (hFB.at (by omega) (by omega))) (fun k h1 => (hf_B _ (by omega)))), (fun k h1 => ((hf_B k (by omega)).trans (hff4 k (by omega))))⟩

set_option maxRecDepth 100000 in
set_option maxHeartbeats 4000000 in
theorem s_X8_direction (X : AX) (p : Int) (i : Int) (μ : Mu) (hC : CJ μ p) (hJ : RJ μ p) (hi : -2147483648 ≤ i ∧ i ≤ 2147483647) : Wp (GG X) M_X8_direction 0 [(2, 45), (0, i)] [] μ (qI 0 fun z μ' => (Fr 45 45 57 61 μ' μ) ∧ (z = if (0 ≤ i ∧ i < μ p 7) then (if 0 ≤ μ (p + 8) i then way (ddt μ p (p + 5) (μ p 3) (μ (p + 8) i)) (i - (μ (p + 9) (μ (p + 8) i))) else 0) else -1000000) ∧ (RJ μ' p) ∧ (∀ k : Int, (¬ k = 0 ∧ ¬ (21 ≤ k ∧ k ≤ 24) ∧ ¬ (29 ≤ k ∧ k ≤ 33)) → μ' 45 k = μ 45 k)) := by
  have hI := hC.i
  have hG := hC.pg
  have hp := hI.at
  have hz := hI.sz
  have hgr := hG.gr
  have hkn := hC.kn
  have hRA := hJ.rag hC
  refine w_aload_n dX8_direction_0 rfl rfl (by first | decide | omega) ?_
  refine w_iconst dX8_direction_1 ?_
  refine w_putI (o := 45) (f := 0) fX8_direction_2 rfl rfl rfl rfl rfl ?_
  have hF_μ4 : Fr 45 45 57 61 (am_up μ 45 0 0) μ := (Fr.rf.up (by omega))
  have hA4 : RAg (ddt μ p (p + 5) (μ p 3)) (μ (p + 9)) (μ p 14) (am_up μ 45 0 0) := (RAg.cg2 hRA (fun o h1 => (am_up_o (by omega))) (fun k h1 => (am_up_nk (by omega))))
  have hJ4 : RJ (am_up μ 45 0 0) p := (RJ.cg2 hJ (fun o h1 => (am_up_o (by omega))) (fun k h1 => (am_up_nk (by omega))))
  have hC4 : CJ (am_up μ 45 0 0) p := (CJ.cg hC (fun o h1 => (am_up_o (by omega))))
  have hff4 : ∀ k : Int, ¬ k = 0 → (am_up μ 45 0 0) 45 k = μ 45 k := (fun k h1 => (am_up_nk (by omega)))
  refine Wp.mu (fun μ4 hμ4 => ?_)
  rw [← hμ4] at hF_μ4 hA4 hJ4 hC4 hff4
  clear hμ4
  have e4 : ∀ o : Int, p ≤ o ∧ o ≤ p + 10 → μ4 o = μ o := fun o h1 => hF_μ4.at (by omega) (by omega)
  have e47 : μ4 p 7 = μ p 7 := congrFun (e4 p (by omega)) _
  have e414 : μ4 p 14 = μ p 14 := congrFun (e4 p (by omega)) _
  have e48 : μ4 (p + 8) i = μ (p + 8) i := congrFun (e4 (p + 8) (by omega)) _
  have e44 : μ4 (p + 4) i = μ (p + 4) i := congrFun (e4 (p + 4) (by omega)) _
  refine w_aload_n dX8_direction_5 rfl rfl (by first | decide | omega) ?_
  refine w_iload_n dX8_direction_6 rfl rfl ?_
  refine w_callVP (o := 45) (ci := 8) (as := [(0, i)]) (rest := []) (k := 0) fX8_direction_7 rfl rfl rfl rfl rfl rfl rfl rfl (Nat.le_of_ble_eq_true rfl) (s_X8_isElement X p i μ4 hC4 hJ4 (by first | omega | assumption)) ?_
  have hf1 := am_b_r (0 ≤ i ∧ i < μ4 p 7)
  refine w_if_ne (tgt := 16) dX8_direction_10 rfl (R32.in (by have := am_b_r ((0 ≤ i ∧ i < μ4 p 7)); omega)) (fun c10 => ?_) (fun c10 => ?_)
  · skip
    replace c10 := am_b1 c10
    refine w_aload_n dX8_direction_16 rfl rfl (by first | decide | omega) ?_
    refine w_getR (o := 45) (x := 53) fX8_direction_17 rfl rfl rfl rfl ?_
    refine w_iload_n dX8_direction_20 rfl rfl ?_
    refine w_ialdx (o := 53) (n := 64) (x := goR (μ (p + 8) i)) dX8_direction_21 rfl rfl (Nat.le_of_ble_eq_true rfl) (by omega) ((congrFun (hF_μ4.at (by omega) (by omega)) _).trans (hJ.go (by omega))) ?_
    have hr2 := goR_f (μ (p + 8) i)
    have hr3 := PG.go hG (i := i) (by omega)
    refine w_if_ge (tgt := 27) dX8_direction_22 rfl (R32.in (by omega)) (fun c22 => ?_) (fun c22 => ?_)
    · skip
      refine w_aload_n dX8_direction_27 rfl rfl (by first | decide | omega) ?_
      refine w_aload_n dX8_direction_28 rfl rfl (by first | decide | omega) ?_
      refine w_getR (o := 45) (x := 53) fX8_direction_29 rfl rfl rfl rfl ?_
      refine w_iload_n dX8_direction_32 rfl rfl ?_
      refine w_ialdx (o := 53) (n := 64) (x := goR (μ (p + 8) i)) dX8_direction_33 rfl rfl (Nat.le_of_ble_eq_true rfl) (by omega) ((congrFun (hF_μ4.at (by omega) (by omega)) _).trans (hJ.go (by omega))) ?_
      have hgo2 := hG.go2 (i := i) ⟨by omega, by omega⟩ (by omega)
      have hdn : dN (ddt μ p (p + 5) (μ p 3) (μ (p + 8) i)) = μ (p + 10) (μ (p + 8) i) := rfl
      refine Wp.topE (b := μ (p + 8) i) (by omega) ?_
      refine w_callVV (o := 45) (ci := 8) (as := [(0, μ (p + 8) i)]) (rest := []) (k := 4) fX8_direction_34 rfl rfl rfl rfl rfl rfl rfl rfl (Nat.le_of_ble_eq_true rfl) (s_X8_laysWays X (ddt μ p (p + 5) (μ p 3) (μ (p + 8) i)) (μ (p + 9) (μ (p + 8) i)) (μ (p + 8) i) μ4 (hA4.gp (by omega))) (fun μW hμW => ?_)
      obtain ⟨hFW, hW_W, hf_W⟩ := hμW
      refine w_aload_n dX8_direction_37 rfl rfl (by first | decide | omega) ?_
      refine w_getR (o := 45) (x := 57) fX8_direction_38 rfl rfl rfl rfl ?_
      refine w_iload_n dX8_direction_41 rfl rfl ?_
      refine Wp.topE (b := (μ (p + 9) (μ (p + 8) i)) + (i - (μ (p + 9) (μ (p + 8) i)))) (by omega) ?_
      refine w_ialdx (o := 57) (n := 64) (x := way (ddt μ p (p + 5) (μ p 3) (μ (p + 8) i)) (i - (μ (p + 9) (μ (p + 8) i)))) dX8_direction_42 rfl rfl (Nat.le_of_ble_eq_true rfl) (by omega) (hW_W.w (by omega)) ?_
      have hr5 := way_b (ddt μ p (p + 5) (μ p 3) (μ (p + 8) i)) (i - (μ (p + 9) (μ (p + 8) i)))
      exact w_iretI dX8_direction_43 rfl ⟨((hFW.wd (by omega) (by omega)).tr hF_μ4), (by exact ifT (by omega) (ifT (by omega) rfl)), (RJ.cg2 hJ4 (fun o h1 => (hFW.at (by omega) (by omega))) (fun k h1 => (hf_W _ (by omega)))), (fun k h1 => ((hf_W k (by omega)).trans (hff4 k (by omega))))⟩
    · skip
      refine w_iconst dX8_direction_25 ?_
      exact w_iretI dX8_direction_26 rfl ⟨hF_μ4, (by exact ifT (by omega) (ifF (by omega) rfl)), hJ4, (fun k h1 => (hff4 k (by omega)))⟩
  · skip
    replace c10 := am_b0 c10
    refine w_ldc (n := -1000000) dX8_direction_13 k_1620 (by decide) ?_
    exact w_iretI dX8_direction_15 rfl ⟨hF_μ4, (by exact ifF (by omega) rfl), hJ4, (fun k h1 => (hff4 k (by omega)))⟩

set_option maxRecDepth 100000 in
set_option maxHeartbeats 4000000 in
theorem s_X8_ideal (X : AX) (p : Int) (i : Int) (μ : Mu) (hC : CJ μ p) (hJ : RJ μ p) (hi : -2147483648 ≤ i ∧ i ≤ 2147483647) : Wp (GG X) M_X8_ideal 0 [(2, 45), (0, i)] [] μ (qI 0 fun z μ' => (Fr 45 45 57 61 μ' μ) ∧ (z = if (0 ≤ i ∧ i < μ p 7) then (if 0 ≤ μ (p + 8) i then ideal (ddt μ p (p + 5) (μ p 3) (μ (p + 8) i)) (i - (μ (p + 9) (μ (p + 8) i))) else -2) else -1) ∧ (RJ μ' p) ∧ (∀ k : Int, (¬ k = 0 ∧ ¬ (21 ≤ k ∧ k ≤ 24) ∧ ¬ (29 ≤ k ∧ k ≤ 33)) → μ' 45 k = μ 45 k)) := by
  have hI := hC.i
  have hG := hC.pg
  have hp := hI.at
  have hz := hI.sz
  have hgr := hG.gr
  have hkn := hC.kn
  have hRA := hJ.rag hC
  refine w_aload_n dX8_ideal_0 rfl rfl (by first | decide | omega) ?_
  refine w_iconst dX8_ideal_1 ?_
  refine w_putI (o := 45) (f := 0) fX8_ideal_2 rfl rfl rfl rfl rfl ?_
  have hF_μ4 : Fr 45 45 57 61 (am_up μ 45 0 0) μ := (Fr.rf.up (by omega))
  have hA4 : RAg (ddt μ p (p + 5) (μ p 3)) (μ (p + 9)) (μ p 14) (am_up μ 45 0 0) := (RAg.cg2 hRA (fun o h1 => (am_up_o (by omega))) (fun k h1 => (am_up_nk (by omega))))
  have hJ4 : RJ (am_up μ 45 0 0) p := (RJ.cg2 hJ (fun o h1 => (am_up_o (by omega))) (fun k h1 => (am_up_nk (by omega))))
  have hC4 : CJ (am_up μ 45 0 0) p := (CJ.cg hC (fun o h1 => (am_up_o (by omega))))
  have hff4 : ∀ k : Int, ¬ k = 0 → (am_up μ 45 0 0) 45 k = μ 45 k := (fun k h1 => (am_up_nk (by omega)))
  refine Wp.mu (fun μ4 hμ4 => ?_)
  rw [← hμ4] at hF_μ4 hA4 hJ4 hC4 hff4
  clear hμ4
  have e4 : ∀ o : Int, p ≤ o ∧ o ≤ p + 10 → μ4 o = μ o := fun o h1 => hF_μ4.at (by omega) (by omega)
  have e47 : μ4 p 7 = μ p 7 := congrFun (e4 p (by omega)) _
  have e414 : μ4 p 14 = μ p 14 := congrFun (e4 p (by omega)) _
  have e48 : μ4 (p + 8) i = μ (p + 8) i := congrFun (e4 (p + 8) (by omega)) _
  have e44 : μ4 (p + 4) i = μ (p + 4) i := congrFun (e4 (p + 4) (by omega)) _
  refine w_aload_n dX8_ideal_5 rfl rfl (by first | decide | omega) ?_
  refine w_iload_n dX8_ideal_6 rfl rfl ?_
  refine w_callVP (o := 45) (ci := 8) (as := [(0, i)]) (rest := []) (k := 0) fX8_ideal_7 rfl rfl rfl rfl rfl rfl rfl rfl (Nat.le_of_ble_eq_true rfl) (s_X8_isElement X p i μ4 hC4 hJ4 (by first | omega | assumption)) ?_
  have hf1 := am_b_r (0 ≤ i ∧ i < μ4 p 7)
  refine w_if_ne (tgt := 15) dX8_ideal_10 rfl (R32.in (by have := am_b_r ((0 ≤ i ∧ i < μ4 p 7)); omega)) (fun c10 => ?_) (fun c10 => ?_)
  · skip
    replace c10 := am_b1 c10
    refine w_aload_n dX8_ideal_15 rfl rfl (by first | decide | omega) ?_
    refine w_getR (o := 45) (x := 53) fX8_ideal_16 rfl rfl rfl rfl ?_
    refine w_iload_n dX8_ideal_19 rfl rfl ?_
    refine w_ialdx (o := 53) (n := 64) (x := goR (μ (p + 8) i)) dX8_ideal_20 rfl rfl (Nat.le_of_ble_eq_true rfl) (by omega) ((congrFun (hF_μ4.at (by omega) (by omega)) _).trans (hJ.go (by omega))) ?_
    have hr2 := goR_f (μ (p + 8) i)
    have hr3 := PG.go hG (i := i) (by omega)
    refine w_if_ge (tgt := 27) dX8_ideal_21 rfl (R32.in (by omega)) (fun c21 => ?_) (fun c21 => ?_)
    · skip
      refine w_aload_n dX8_ideal_27 rfl rfl (by first | decide | omega) ?_
      refine w_aload_n dX8_ideal_28 rfl rfl (by first | decide | omega) ?_
      refine w_getR (o := 45) (x := 53) fX8_ideal_29 rfl rfl rfl rfl ?_
      refine w_iload_n dX8_ideal_32 rfl rfl ?_
      refine w_ialdx (o := 53) (n := 64) (x := goR (μ (p + 8) i)) dX8_ideal_33 rfl rfl (Nat.le_of_ble_eq_true rfl) (by omega) ((congrFun (hF_μ4.at (by omega) (by omega)) _).trans (hJ.go (by omega))) ?_
      have hgo2 := hG.go2 (i := i) ⟨by omega, by omega⟩ (by omega)
      have hdn : dN (ddt μ p (p + 5) (μ p 3) (μ (p + 8) i)) = μ (p + 10) (μ (p + 8) i) := rfl
      refine Wp.topE (b := μ (p + 8) i) (by omega) ?_
      refine w_callVV (o := 45) (ci := 8) (as := [(0, μ (p + 8) i)]) (rest := []) (k := 4) fX8_ideal_34 rfl rfl rfl rfl rfl rfl rfl rfl (Nat.le_of_ble_eq_true rfl) (s_X8_laysWays X (ddt μ p (p + 5) (μ p 3) (μ (p + 8) i)) (μ (p + 9) (μ (p + 8) i)) (μ (p + 8) i) μ4 (hA4.gp (by omega))) (fun μW hμW => ?_)
      obtain ⟨hFW, hW_W, hf_W⟩ := hμW
      have hok := hW_W.ok
      refine w_aload_n dX8_ideal_37 rfl rfl (by first | decide | omega) ?_
      refine w_iload_n dX8_ideal_38 rfl rfl ?_
      refine Wp.topE (b := (μ (p + 9) (μ (p + 8) i)) + (i - (μ (p + 9) (μ (p + 8) i)))) (by omega) ?_
      refine w_callVP (o := 45) (ci := 8) (as := [(0, (μ (p + 9) (μ (p + 8) i)) + (i - (μ (p + 9) (μ (p + 8) i))))]) (rest := []) (k := 2) fX8_ideal_39 rfl rfl rfl rfl rfl rfl rfl rfl (Nat.le_of_ble_eq_true rfl) (s_X8_idealOf_w X (ddt μ p (p + 5) (μ p 3) (μ (p + 8) i)) (μ (p + 9) (μ (p + 8) i)) (i - (μ (p + 9) (μ (p + 8) i))) μW hW_W (by first | omega | assumption)) ?_
      have hf5 := ideal_f (ddt μ p (p + 5) (μ p 3) (μ (p + 8) i)) (i - (μ (p + 9) (μ (p + 8) i))) (by assumption) (by omega)
      exact w_iretI dX8_ideal_42 rfl ⟨((hFW.wd (by omega) (by omega)).tr hF_μ4), (by exact ifT (by omega) (ifT (by omega) rfl)), (RJ.cg2 hJ4 (fun o h1 => (hFW.at (by omega) (by omega))) (fun k h1 => (hf_W _ (by omega)))), (fun k h1 => ((hf_W k (by omega)).trans (hff4 k (by omega))))⟩
    · skip
      refine w_bipush dX8_ideal_24 (by decide) ?_
      exact w_iretI dX8_ideal_26 rfl ⟨hF_μ4, (by exact ifT (by omega) (ifF (by omega) rfl)), hJ4, (fun k h1 => (hff4 k (by omega)))⟩
  · skip
    replace c10 := am_b0 c10
    refine w_iconst dX8_ideal_13 ?_
    exact w_iretI dX8_ideal_14 rfl ⟨hF_μ4, (by exact ifF (by omega) rfl), hJ4, (fun k h1 => (hff4 k (by omega)))⟩

set_option maxRecDepth 100000 in
set_option maxHeartbeats 4000000 in
theorem s_X8_ugliness (X : AX) (p : Int) (g : Int) (l : Int) (r : Int) (w : Int) (μ : Mu) (hC : CJ μ p) (hJ : RJ μ p) (hg : -2147483648 ≤ g ∧ g ≤ 2147483647) (hl : -2147483648 ≤ l ∧ l ≤ 2147483647) (hr : -2147483648 ≤ r ∧ r ≤ 2147483647) (hw : -2147483648 ≤ w ∧ w ≤ 2147483647) : Wp (GG X) M_X8_ugliness 0 [(2, 45), (0, g), (0, l), (0, r), (0, w)] [] μ (qI 0 fun z μ' => (Fr 45 45 57 61 μ' μ) ∧ (z = if (0 ≤ g ∧ g < μ p 14) ∧ ((-60 ≤ l ∧ l ≤ 60) ∧ (-60 ≤ r ∧ r ≤ 60) ∧ (-8 ≤ r - l ∧ r - l ≤ 8)) ∧ 0 ≤ w ∧ w ≤ 3 then (if alwB (ddt μ p (p + 5) (μ p 3) g) (r - l) l = true then tls (ddt μ p (p + 5) (μ p 3) g) (r - l) l (w + 2) else -2) else -1) ∧ (RJ μ' p) ∧ (∀ k : Int, (¬ k = 0 ∧ ¬ (21 ≤ k ∧ k ≤ 24) ∧ ¬ (29 ≤ k ∧ k ≤ 33)) → μ' 45 k = μ 45 k)) := by
  have hI := hC.i
  have hG := hC.pg
  have hp := hI.at
  have hz := hI.sz
  have hgr := hG.gr
  have hkn := hC.kn
  have hRA := hJ.rag hC
  refine w_aload_n dX8_ugliness_0 rfl rfl (by first | decide | omega) ?_
  refine w_iconst dX8_ugliness_1 ?_
  refine w_putI (o := 45) (f := 0) fX8_ugliness_2 rfl rfl rfl rfl rfl ?_
  have hF_μ4 : Fr 45 45 57 61 (am_up μ 45 0 0) μ := (Fr.rf.up (by omega))
  have hA4 : RAg (ddt μ p (p + 5) (μ p 3)) (μ (p + 9)) (μ p 14) (am_up μ 45 0 0) := (RAg.cg2 hRA (fun o h1 => (am_up_o (by omega))) (fun k h1 => (am_up_nk (by omega))))
  have hJ4 : RJ (am_up μ 45 0 0) p := (RJ.cg2 hJ (fun o h1 => (am_up_o (by omega))) (fun k h1 => (am_up_nk (by omega))))
  have hC4 : CJ (am_up μ 45 0 0) p := (CJ.cg hC (fun o h1 => (am_up_o (by omega))))
  have hff4 : ∀ k : Int, ¬ k = 0 → (am_up μ 45 0 0) 45 k = μ 45 k := (fun k h1 => (am_up_nk (by omega)))
  refine Wp.mu (fun μ4 hμ4 => ?_)
  rw [← hμ4] at hF_μ4 hA4 hJ4 hC4 hff4
  clear hμ4
  have e4 : ∀ o : Int, p ≤ o ∧ o ≤ p + 10 → μ4 o = μ o := fun o h1 => hF_μ4.at (by omega) (by omega)
  have e47 : μ4 p 7 = μ p 7 := congrFun (e4 p (by omega)) _
  have e414 : μ4 p 14 = μ p 14 := congrFun (e4 p (by omega)) _
  refine w_aload_n dX8_ugliness_5 rfl rfl (by first | decide | omega) ?_
  refine w_iload_n dX8_ugliness_6 rfl rfl ?_
  refine w_callVP (o := 45) (ci := 8) (as := [(0, g)]) (rest := []) (k := 0) fX8_ugliness_7 rfl rfl rfl rfl rfl rfl rfl rfl (Nat.le_of_ble_eq_true rfl) (s_X8_isGroup X p g μ4 hC4 hJ4 (by first | omega | assumption)) ?_
  have hf1 := am_b_r (0 ≤ g ∧ g < μ4 p 14)
  refine w_if_eq (tgt := 31) dX8_ugliness_10 rfl (R32.in (by have := am_b_r ((0 ≤ g ∧ g < μ4 p 14)); omega)) (fun c10 => ?_) (fun c10 => ?_)
  · skip
    replace c10 := am_b0 c10
    refine w_iconst dX8_ugliness_31 ?_
    exact w_iretI dX8_ugliness_32 rfl ⟨hF_μ4, (by exact ifF (by omega) rfl), hJ4, (fun k h1 => (hff4 k (by omega)))⟩
  · skip
    replace c10 := am_b1 c10
    refine w_iload_n dX8_ugliness_13 rfl rfl ?_
    refine w_iload_n dX8_ugliness_14 rfl rfl ?_
    refine w_callSP (as := [(0, l), (0, r)]) (rest := []) (k := 0) fX8_ugliness_15 rfl rfl rfl rfl rfl (Nat.le_of_ble_eq_true rfl) (s_X8_isSetting X l r μ4 (by first | omega | assumption) (by first | omega | assumption)) ?_
    have hf2 := am_b_r ((-60 ≤ l ∧ l ≤ 60) ∧ (-60 ≤ r ∧ r ≤ 60) ∧ (-8 ≤ r - l ∧ r - l ≤ 8))
    refine w_if_eq (tgt := 31) dX8_ugliness_18 rfl (R32.in (by have := am_b_r (((-60 ≤ l ∧ l ≤ 60) ∧ (-60 ≤ r ∧ r ≤ 60) ∧ (-8 ≤ r - l ∧ r - l ≤ 8))); omega)) (fun c18 => ?_) (fun c18 => ?_)
    · skip
      replace c18 := am_b0 c18
      refine w_iconst dX8_ugliness_31 ?_
      exact w_iretI dX8_ugliness_32 rfl ⟨hF_μ4, (by exact ifF (by omega) rfl), hJ4, (fun k h1 => (hff4 k (by omega)))⟩
    · skip
      replace c18 := am_b1 c18
      refine w_iload dX8_ugliness_21 rfl ?_
      refine w_iconst dX8_ugliness_23 ?_
      refine w_iconst dX8_ugliness_24 ?_
      refine w_callSP (as := [(0, w), (0, 0), (0, 3)]) (rest := []) (k := 0) fX8_ugliness_25 rfl rfl rfl rfl rfl (Nat.le_of_ble_eq_true rfl) (s_X8_isIn X w 0 3 μ4 (by first | omega | assumption) (by first | omega | assumption) (by first | omega | assumption)) ?_
      have hf3 := am_b_r (0 ≤ w ∧ w ≤ 3)
      refine w_if_ne (tgt := 33) dX8_ugliness_28 rfl (R32.in (by have := am_b_r ((0 ≤ w ∧ w ≤ 3)); omega)) (fun c28 => ?_) (fun c28 => ?_)
      · skip
        replace c28 := am_b1 c28
        refine w_aload_n dX8_ugliness_33 rfl rfl (by first | decide | omega) ?_
        refine w_iload_n dX8_ugliness_34 rfl rfl ?_
        refine w_callVV (o := 45) (ci := 8) (as := [(0, g)]) (rest := []) (k := 0) fX8_ugliness_35 rfl rfl rfl rfl rfl rfl rfl rfl (Nat.le_of_ble_eq_true rfl) (s_X8_opens X (ddt μ p (p + 5) (μ p 3) g) (μ (p + 9) g) g μ4 (hA4.gp (by omega))) (fun μO hμO => ?_)
        obtain ⟨hFO, hO_O, hf_O⟩ := hμO
        have hok := hO_O.ok
        refine w_aload_n dX8_ugliness_38 rfl rfl (by first | decide | omega) ?_
        refine w_iload_n dX8_ugliness_39 rfl rfl ?_
        refine w_iload_n dX8_ugliness_40 rfl rfl ?_
        refine w_callVP (o := 45) (ci := 8) (as := [(0, l), (0, r)]) (rest := []) (k := 2) fX8_ugliness_41 rfl rfl rfl rfl rfl rfl rfl rfl (Nat.le_of_ble_eq_true rfl) (s_X8_isAllowed X (ddt μ p (p + 5) (μ p 3) g) (μ (p + 9) g) l r μO hO_O (by first | omega | assumption)) ?_
        have hf5 := am_b_r (alwB (ddt μ p (p + 5) (μ p 3) g) (r - l) l = true)
        refine w_if_ne (tgt := 50) dX8_ugliness_44 rfl (R32.in (by have := am_b_r ((alwB (ddt μ p (p + 5) (μ p 3) g) (r - l) l = true)); omega)) (fun c44 => ?_) (fun c44 => ?_)
        · skip
          replace c44 := am_b1 c44
          refine w_iload dX8_ugliness_50 rfl ?_
          refine w_if_ne (tgt := 64) dX8_ugliness_52 rfl (R32.in (by omega)) (fun c52 => ?_) (fun c52 => ?_)
          · skip
            refine w_iload dX8_ugliness_64 rfl ?_
            refine w_iconst dX8_ugliness_66 ?_
            refine w_icmp_ne (tgt := 79) dX8_ugliness_67 rfl (R32.in (by omega)) (R32.in (by decide)) (fun c67 => ?_) (fun c67 => ?_)
            · skip
              refine w_iload dX8_ugliness_79 rfl ?_
              refine w_iconst dX8_ugliness_81 ?_
              refine w_icmp_ne (tgt := 94) dX8_ugliness_82 rfl (R32.in (by omega)) (R32.in (by decide)) (fun c82 => ?_) (fun c82 => ?_)
              · skip
                refine w_aload_n dX8_ugliness_94 rfl rfl (by first | decide | omega) ?_
                refine w_iload_n dX8_ugliness_95 rfl rfl ?_
                refine w_iload_n dX8_ugliness_96 rfl rfl ?_
                refine w_callVP (o := 45) (ci := 8) (as := [(0, l), (0, r)]) (rest := []) (k := 0) fX8_ugliness_97 rfl rfl rfl rfl rfl rfl rfl rfl (Nat.le_of_ble_eq_true rfl) (s_X8_staffOf X (ddt μ p (p + 5) (μ p 3) g) (μ (p + 9) g) l r μO hO_O (by first | omega | assumption)) ?_
                have hf6 := stf_f (ddt μ p (p + 5) (μ p 3) g) (r - l) l (by assumption)
                exact w_iretI dX8_ugliness_100 rfl ⟨((hFO.wd (by omega) (by omega)).tr hF_μ4), (by exact ifT (by omega) (ifT c44 (by unfold tls; omega))), (RJ.cg2 hJ4 (fun o h1 => (hFO.at (by omega) (by omega))) (fun k h1 => (hf_O _ (by omega)))), (fun k h1 => ((hf_O k (by omega)).trans (hff4 k (by omega))))⟩
              · skip
                refine w_aload_n dX8_ugliness_85 rfl rfl (by first | decide | omega) ?_
                refine w_iload_n dX8_ugliness_86 rfl rfl ?_
                refine w_iload_n dX8_ugliness_87 rfl rfl ?_
                refine w_callVP (o := 45) (ci := 8) (as := [(0, l), (0, r)]) (rest := []) (k := 3) fX8_ugliness_88 rfl rfl rfl rfl rfl rfl rfl rfl (Nat.le_of_ble_eq_true rfl) (s_X8_slopeOf X (ddt μ p (p + 5) (μ p 3) g) (μ (p + 9) g) l r μO hO_O (by first | omega | assumption)) ?_
                have hf7 := slp_f (ddt μ p (p + 5) (μ p 3) g) (r - l) (by omega)
                refine w_goto (tgt := 100) dX8_ugliness_91 rfl ?_
                exact w_iretI dX8_ugliness_100 rfl ⟨((hFO.wd (by omega) (by omega)).tr hF_μ4), (by exact ifT (by omega) (ifT c44 (by unfold tls; omega))), (RJ.cg2 hJ4 (fun o h1 => (hFO.at (by omega) (by omega))) (fun k h1 => (hf_O _ (by omega)))), (fun k h1 => ((hf_O k (by omega)).trans (hff4 k (by omega))))⟩
            · skip
              refine w_aload_n dX8_ugliness_70 rfl rfl (by first | decide | omega) ?_
              refine w_iload_n dX8_ugliness_71 rfl rfl ?_
              refine w_iload_n dX8_ugliness_72 rfl rfl ?_
              refine w_callVP (o := 45) (ci := 8) (as := [(0, l), (0, r)]) (rest := []) (k := 3) fX8_ugliness_73 rfl rfl rfl rfl rfl rfl rfl rfl (Nat.le_of_ble_eq_true rfl) (s_X8_stemsOf X (ddt μ p (p + 5) (μ p 3) g) (μ (p + 9) g) l r μO hO_O (by first | omega | assumption)) ?_
              have hf8 := stm_f (ddt μ p (p + 5) (μ p 3) g) (r - l) l (by assumption) (by omega) (by omega)
              refine w_goto (tgt := 100) dX8_ugliness_76 rfl ?_
              exact w_iretI dX8_ugliness_100 rfl ⟨((hFO.wd (by omega) (by omega)).tr hF_μ4), (by exact ifT (by omega) (ifT c44 (by unfold tls; omega))), (RJ.cg2 hJ4 (fun o h1 => (hFO.at (by omega) (by omega))) (fun k h1 => (hf_O _ (by omega)))), (fun k h1 => ((hf_O k (by omega)).trans (hff4 k (by omega))))⟩
          · skip
            refine w_aload_n dX8_ugliness_55 rfl rfl (by first | decide | omega) ?_
            refine w_iload_n dX8_ugliness_56 rfl rfl ?_
            refine w_iload_n dX8_ugliness_57 rfl rfl ?_
            refine w_callVP (o := 45) (ci := 8) (as := [(0, l), (0, r)]) (rest := []) (k := 0) fX8_ugliness_58 rfl rfl rfl rfl rfl rfl rfl rfl (Nat.le_of_ble_eq_true rfl) (s_X8_uglinessOf X (ddt μ p (p + 5) (μ p 3) g) (μ (p + 9) g) l r μO hO_O (by first | omega | assumption)) ?_
            have hf9 := ugl_fr (ddt μ p (p + 5) (μ p 3) g) l r (by assumption) (by omega)
            refine w_goto (tgt := 100) dX8_ugliness_61 rfl ?_
            exact w_iretI dX8_ugliness_100 rfl ⟨((hFO.wd (by omega) (by omega)).tr hF_μ4), (by exact ifT (by omega) (ifT c44 (by unfold tls; omega))), (RJ.cg2 hJ4 (fun o h1 => (hFO.at (by omega) (by omega))) (fun k h1 => (hf_O _ (by omega)))), (fun k h1 => ((hf_O k (by omega)).trans (hff4 k (by omega))))⟩
        · skip
          replace c44 := am_b0 c44
          refine w_bipush dX8_ugliness_47 (by decide) ?_
          exact w_iretI dX8_ugliness_49 rfl ⟨((hFO.wd (by omega) (by omega)).tr hF_μ4), (by exact ifT (by omega) (ifF c44 rfl)), (RJ.cg2 hJ4 (fun o h1 => (hFO.at (by omega) (by omega))) (fun k h1 => (hf_O _ (by omega)))), (fun k h1 => ((hf_O k (by omega)).trans (hff4 k (by omega))))⟩
      · skip
        replace c28 := am_b0 c28
        refine w_iconst dX8_ugliness_31 ?_
        exact w_iretI dX8_ugliness_32 rfl ⟨hF_μ4, (by exact ifF (by omega) rfl), hJ4, (fun k h1 => (hff4 k (by omega)))⟩

set_option maxRecDepth 100000 in
set_option maxHeartbeats 4000000 in
theorem s_X8_ranked (X : AX) (p : Int) (g : Int) (k : Int) (w : Int) (μ : Mu) (hC : CJ μ p) (hJ : RJ μ p) (hg : -2147483648 ≤ g ∧ g ≤ 2147483647) (hk : -2147483648 ≤ k ∧ k ≤ 2147483647) (hw : -2147483648 ≤ w ∧ w ≤ 2147483647) : Wp (GG X) M_X8_ranked 0 [(2, 45), (0, g), (0, k), (0, w), (9, 0)] [] μ (qI 0 fun z μ' => (Fr 45 45 57 61 μ' μ) ∧ (rnkP (ddt μ p (p + 5) (μ p 3) g) (0 ≤ g ∧ g < μ p 14) k w z) ∧ (RJ μ' p) ∧ (∀ k : Int, (¬ k = 0 ∧ ¬ (21 ≤ k ∧ k ≤ 24) ∧ ¬ (29 ≤ k ∧ k ≤ 33)) → μ' 45 k = μ 45 k)) := by
  have hI := hC.i
  have hG := hC.pg
  have hp := hI.at
  have hz := hI.sz
  have hgr := hG.gr
  have hkn := hC.kn
  have hRA := hJ.rag hC
  refine w_aload_n dX8_ranked_0 rfl rfl (by first | decide | omega) ?_
  refine w_iconst dX8_ranked_1 ?_
  refine w_putI (o := 45) (f := 0) fX8_ranked_2 rfl rfl rfl rfl rfl ?_
  have hF_μ4 : Fr 45 45 57 61 (am_up μ 45 0 0) μ := (Fr.rf.up (by omega))
  have hA4 : RAg (ddt μ p (p + 5) (μ p 3)) (μ (p + 9)) (μ p 14) (am_up μ 45 0 0) := (RAg.cg2 hRA (fun o h1 => (am_up_o (by omega))) (fun k h1 => (am_up_nk (by omega))))
  have hJ4 : RJ (am_up μ 45 0 0) p := (RJ.cg2 hJ (fun o h1 => (am_up_o (by omega))) (fun k h1 => (am_up_nk (by omega))))
  have hC4 : CJ (am_up μ 45 0 0) p := (CJ.cg hC (fun o h1 => (am_up_o (by omega))))
  have hff4 : ∀ k : Int, ¬ k = 0 → (am_up μ 45 0 0) 45 k = μ 45 k := (fun k h1 => (am_up_nk (by omega)))
  refine Wp.mu (fun μ4 hμ4 => ?_)
  rw [← hμ4] at hF_μ4 hA4 hJ4 hC4 hff4
  clear hμ4
  have e4 : ∀ o : Int, p ≤ o ∧ o ≤ p + 10 → μ4 o = μ o := fun o h1 => hF_μ4.at (by omega) (by omega)
  have e47 : μ4 p 7 = μ p 7 := congrFun (e4 p (by omega)) _
  have e414 : μ4 p 14 = μ p 14 := congrFun (e4 p (by omega)) _
  refine w_aload_n dX8_ranked_5 rfl rfl (by first | decide | omega) ?_
  refine w_iload_n dX8_ranked_6 rfl rfl ?_
  refine w_callVP (o := 45) (ci := 8) (as := [(0, g)]) (rest := []) (k := 0) fX8_ranked_7 rfl rfl rfl rfl rfl rfl rfl rfl (Nat.le_of_ble_eq_true rfl) (s_X8_isGroup X p g μ4 hC4 hJ4 (by first | omega | assumption)) ?_
  have hf1 := am_b_r (0 ≤ g ∧ g < μ4 p 14)
  refine w_if_eq (tgt := 26) dX8_ranked_10 rfl (R32.in (by have := am_b_r ((0 ≤ g ∧ g < μ4 p 14)); omega)) (fun c10 => ?_) (fun c10 => ?_)
  · skip
    replace c10 := am_b0 c10
    refine w_ldc (n := -1000000) dX8_ranked_26 k_1620 (by decide) ?_
    exact w_iretI dX8_ranked_28 rfl ⟨hF_μ4, (by exact rnkP_no (by omega)), hJ4, (fun k h1 => (hff4 k (by omega)))⟩
  · skip
    replace c10 := am_b1 c10
    refine w_iload_n dX8_ranked_13 rfl rfl ?_
    refine w_iconst dX8_ranked_14 ?_
    refine w_iconst dX8_ranked_15 ?_
    refine w_callSP (as := [(0, w), (0, 0), (0, 5)]) (rest := []) (k := 0) fX8_ranked_16 rfl rfl rfl rfl rfl (Nat.le_of_ble_eq_true rfl) (s_X8_isIn X w 0 5 μ4 (by first | omega | assumption) (by first | omega | assumption) (by first | omega | assumption)) ?_
    have hf2 := am_b_r (0 ≤ w ∧ w ≤ 5)
    refine w_if_eq (tgt := 26) dX8_ranked_19 rfl (R32.in (by have := am_b_r ((0 ≤ w ∧ w ≤ 5)); omega)) (fun c19 => ?_) (fun c19 => ?_)
    · skip
      replace c19 := am_b0 c19
      refine w_ldc (n := -1000000) dX8_ranked_26 k_1620 (by decide) ?_
      exact w_iretI dX8_ranked_28 rfl ⟨hF_μ4, (by exact rnkP_no (by omega)), hJ4, (fun k h1 => (hff4 k (by omega)))⟩
    · skip
      replace c19 := am_b1 c19
      refine w_iload_n dX8_ranked_22 rfl rfl ?_
      refine w_if_ge (tgt := 29) dX8_ranked_23 rfl (R32.in (by omega)) (fun c23 => ?_) (fun c23 => ?_)
      · skip
        refine w_aload_n dX8_ranked_29 rfl rfl (by first | decide | omega) ?_
        refine w_iload_n dX8_ranked_30 rfl rfl ?_
        refine w_callVV (o := 45) (ci := 8) (as := [(0, g)]) (rest := []) (k := 2) fX8_ranked_31 rfl rfl rfl rfl rfl rfl rfl rfl (Nat.le_of_ble_eq_true rfl) (s_X8_laysSets X (ddt μ p (p + 5) (μ p 3) g) (μ (p + 9) g) g μ4 (hA4.gp (by omega))) (fun μS hμS => ?_)
        obtain ⟨hFS, hS_S, hf_S⟩ := hμS
        have hok := hS_S.ok
        have hcc := hS_S.c
        refine w_iconst dX8_ranked_34 ?_
        refine w_istore (ls' := [(2, 45), (0, g), (0, k), (0, w), (0, 0)]) dX8_ranked_35 (Nat.le_of_ble_eq_true rfl) rfl rfl ?_
        have hL37 : ∀ (n37 : Nat) (s : Int), (nS (ddt μ p (p + 5) (μ p 3) g) - s).toNat = n37 → (0 ≤ s ∧ s ≤ nS (ddt μ p (p + 5) (μ p 3) g)) → (∀ j, 0 ≤ j → j < s → ¬ rkI (ddt μ p (p + 5) (μ p 3) g) j (nS (ddt μ p (p + 5) (μ p 3) g)) = k) → Wp (GG X) M_X8_ranked 37 [(2, 45), (0, g), (0, k), (0, w), (0, s)] [] μS (qI 0 fun z μ' => (Fr 45 45 57 61 μ' μ) ∧ (rnkP (ddt μ p (p + 5) (μ p 3) g) (0 ≤ g ∧ g < μ p 14) k w z) ∧ (RJ μ' p) ∧ (∀ k : Int, (¬ k = 0 ∧ ¬ (21 ≤ k ∧ k ≤ 24) ∧ ¬ (29 ≤ k ∧ k ≤ 33)) → μ' 45 k = μ 45 k)) := by
          intro n37
          induction n37 using Nat.strongRecOn with
          | ind n37 ih37 =>
            intro s hn37 hs0 hno
            refine w_iload dX8_ranked_37 rfl ?_
            refine w_aload_n dX8_ranked_39 rfl rfl (by first | decide | omega) ?_
            refine w_getIx (o := 45) (f := 29) (x := nS (ddt μ p (p + 5) (μ p 3) g)) fX8_ranked_40 rfl rfl (Nat.le_of_ble_eq_true rfl) rfl hS_S.2.1.1 ?_
            have hr4 := hS_S.c
            refine w_icmp_ge (tgt := 78) dX8_ranked_43 rfl (R32.in (by omega)) (R32.in (by omega)) (fun c43 => ?_) (fun c43 => ?_)
            · skip
              refine w_ldc (n := -1000000) dX8_ranked_78 k_1620 (by decide) ?_
              exact w_iretI dX8_ranked_80 rfl ⟨((hFS.wd (by omega) (by omega)).tr hF_μ4), (by by_cases hk9 : k < nS (ddt μ p (p + 5) (μ p 3) g); obtain ⟨j, hj, e⟩ := rk_ex hok (k := k) ⟨by omega, hk9⟩; exact absurd e (hno j hj.1 (by omega)); exact rnkP_out (nS_kl _) (by omega)), (RJ.cg2 hJ4 (fun o h1 => (hFS.at (by omega) (by omega))) (fun k h1 => (hf_S _ (by omega)))), (fun k h1 => ((hf_S k (by omega)).trans (hff4 k (by omega))))⟩
            · skip
              refine w_iload_n dX8_ranked_46 rfl rfl ?_
              refine w_aload_n dX8_ranked_47 rfl rfl (by first | decide | omega) ?_
              refine w_getIx (o := 45) (f := 29) (x := nS (ddt μ p (p + 5) (μ p 3) g)) fX8_ranked_48 rfl rfl (Nat.le_of_ble_eq_true rfl) rfl hS_S.2.1.1 ?_
              refine w_icmp_ge (tgt := 78) dX8_ranked_51 rfl (R32.in (by omega)) (R32.in (by omega)) (fun c51 => ?_) (fun c51 => ?_)
              · skip
                refine w_ldc (n := -1000000) dX8_ranked_78 k_1620 (by decide) ?_
                exact w_iretI dX8_ranked_80 rfl ⟨((hFS.wd (by omega) (by omega)).tr hF_μ4), (by by_cases hk9 : k < nS (ddt μ p (p + 5) (μ p 3) g); obtain ⟨j, hj, e⟩ := rk_ex hok (k := k) ⟨by omega, hk9⟩; exact absurd e (hno j hj.1 (by omega)); exact rnkP_out (nS_kl _) (by omega)), (RJ.cg2 hJ4 (fun o h1 => (hFS.at (by omega) (by omega))) (fun k h1 => (hf_S _ (by omega)))), (fun k h1 => ((hf_S k (by omega)).trans (hff4 k (by omega))))⟩
              · skip
                refine w_aload_n dX8_ranked_54 rfl rfl (by first | decide | omega) ?_
                refine w_iload dX8_ranked_55 rfl ?_
                refine w_callVP (o := 45) (ci := 8) (as := [(0, s)]) (rest := []) (k := 2) fX8_ranked_57 rfl rfl rfl rfl rfl rfl rfl rfl (Nat.le_of_ble_eq_true rfl) (s_X8_rankOf X (ddt μ p (p + 5) (μ p 3) g) (μ (p + 9) g) s μS hS_S (by first | omega | assumption)) ?_
                have hf5 := rkI_r (ddt μ p (p + 5) (μ p 3) g) s (nS (ddt μ p (p + 5) (μ p 3) g)) (nS_0 (ddt μ p (p + 5) (μ p 3) g))
                refine w_iload_n dX8_ranked_60 rfl rfl ?_
                refine w_icmp_ne (tgt := 72) dX8_ranked_61 rfl (R32.in (by omega)) (R32.in (by omega)) (fun c61 => ?_) (fun c61 => ?_)
                · skip
                  refine w_iinc (ls' := [(2, 45), (0, g), (0, k), (0, w), (0, s + 1)]) dX8_ranked_72 rfl (Nat.le_of_ble_eq_true rfl) rfl rfl ?_
                  refine w_goto (tgt := 37) dX8_ranked_75 rfl ?_
                  exact ih37 _ (by omega) (s + 1) rfl (by first | omega | assumption) (fun j h1 h2 => by by_cases q : j = s; exact q ▸ c61; exact hno j h1 (by omega))
                · skip
                  refine w_aload_n dX8_ranked_64 rfl rfl (by first | decide | omega) ?_
                  refine w_iload dX8_ranked_65 rfl ?_
                  refine w_iload_n dX8_ranked_67 rfl rfl ?_
                  refine w_callVP (o := 45) (ci := 8) (as := [(0, s), (0, w)]) (rest := []) (k := 2) fX8_ranked_68 rfl rfl rfl rfl rfl rfl rfl rfl (Nat.le_of_ble_eq_true rfl) (s_X8_told X (ddt μ p (p + 5) (μ p 3) g) (μ (p + 9) g) s w μS hS_S (by first | omega | assumption) (by first | omega | assumption)) ?_
                  exact w_iretI dX8_ranked_71 rfl ⟨((hFS.wd (by omega) (by omega)).tr hF_μ4), (by exact rnkP_in ⟨by omega, by omega, by rw [← nS_kl]; omega, by omega, by omega⟩ (sq_in hok (j := s) ⟨by omega, by omega⟩).1 (sq_in hok (j := s) ⟨by omega, by omega⟩).2 ((rkI_eq (ddt μ p (p + 5) (μ p 3) g) s).symm.trans c61) rfl), (RJ.cg2 hJ4 (fun o h1 => (hFS.at (by omega) (by omega))) (fun k h1 => (hf_S _ (by omega)))), (fun k h1 => ((hf_S k (by omega)).trans (hff4 k (by omega))))⟩
        exact hL37 _ 0 rfl (by first | omega | assumption) (fun j h1 h2 => by omega)
      · skip
        refine w_ldc (n := -1000000) dX8_ranked_26 k_1620 (by decide) ?_
        exact w_iretI dX8_ranked_28 rfl ⟨hF_μ4, (by exact rnkP_no (by omega)), hJ4, (fun k h1 => (hff4 k (by omega)))⟩

set_option maxRecDepth 100000 in
set_option maxHeartbeats 4000000 in
theorem s_X8_rank (X : AX) (p : Int) (g : Int) (l : Int) (r : Int) (μ : Mu) (hC : CJ μ p) (hJ : RJ μ p) (hg : -2147483648 ≤ g ∧ g ≤ 2147483647) (hl : -2147483648 ≤ l ∧ l ≤ 2147483647) (hr : -2147483648 ≤ r ∧ r ≤ 2147483647) : Wp (GG X) M_X8_rank 0 [(2, 45), (0, g), (0, l), (0, r), (9, 0)] [] μ (qI 0 fun z μ' => (Fr 45 45 57 61 μ' μ) ∧ (z = if (0 ≤ g ∧ g < μ p 14) ∧ ((-60 ≤ l ∧ l ≤ 60) ∧ (-60 ≤ r ∧ r ≤ 60) ∧ (-8 ≤ r - l ∧ r - l ≤ 8)) then (if alwB (ddt μ p (p + 5) (μ p 3) g) (r - l) l = true then rkD (ddt μ p (p + 5) (μ p 3) g) (key (ddt μ p (p + 5) (μ p 3) g) (r - l) l) else -2) else -1) ∧ (RJ μ' p) ∧ (∀ k : Int, (¬ k = 0 ∧ ¬ (21 ≤ k ∧ k ≤ 24) ∧ ¬ (29 ≤ k ∧ k ≤ 33)) → μ' 45 k = μ 45 k)) := by
  have hI := hC.i
  have hG := hC.pg
  have hp := hI.at
  have hz := hI.sz
  have hgr := hG.gr
  have hkn := hC.kn
  have hRA := hJ.rag hC
  refine w_aload_n dX8_rank_0 rfl rfl (by first | decide | omega) ?_
  refine w_iconst dX8_rank_1 ?_
  refine w_putI (o := 45) (f := 0) fX8_rank_2 rfl rfl rfl rfl rfl ?_
  have hF_μ4 : Fr 45 45 57 61 (am_up μ 45 0 0) μ := (Fr.rf.up (by omega))
  have hA4 : RAg (ddt μ p (p + 5) (μ p 3)) (μ (p + 9)) (μ p 14) (am_up μ 45 0 0) := (RAg.cg2 hRA (fun o h1 => (am_up_o (by omega))) (fun k h1 => (am_up_nk (by omega))))
  have hJ4 : RJ (am_up μ 45 0 0) p := (RJ.cg2 hJ (fun o h1 => (am_up_o (by omega))) (fun k h1 => (am_up_nk (by omega))))
  have hC4 : CJ (am_up μ 45 0 0) p := (CJ.cg hC (fun o h1 => (am_up_o (by omega))))
  have hff4 : ∀ k : Int, ¬ k = 0 → (am_up μ 45 0 0) 45 k = μ 45 k := (fun k h1 => (am_up_nk (by omega)))
  refine Wp.mu (fun μ4 hμ4 => ?_)
  rw [← hμ4] at hF_μ4 hA4 hJ4 hC4 hff4
  clear hμ4
  have e4 : ∀ o : Int, p ≤ o ∧ o ≤ p + 10 → μ4 o = μ o := fun o h1 => hF_μ4.at (by omega) (by omega)
  have e47 : μ4 p 7 = μ p 7 := congrFun (e4 p (by omega)) _
  have e414 : μ4 p 14 = μ p 14 := congrFun (e4 p (by omega)) _
  refine w_aload_n dX8_rank_5 rfl rfl (by first | decide | omega) ?_
  refine w_iload_n dX8_rank_6 rfl rfl ?_
  refine w_callVP (o := 45) (ci := 8) (as := [(0, g)]) (rest := []) (k := 0) fX8_rank_7 rfl rfl rfl rfl rfl rfl rfl rfl (Nat.le_of_ble_eq_true rfl) (s_X8_isGroup X p g μ4 hC4 hJ4 (by first | omega | assumption)) ?_
  have hf1 := am_b_r (0 ≤ g ∧ g < μ4 p 14)
  refine w_if_eq (tgt := 21) dX8_rank_10 rfl (R32.in (by have := am_b_r ((0 ≤ g ∧ g < μ4 p 14)); omega)) (fun c10 => ?_) (fun c10 => ?_)
  · skip
    replace c10 := am_b0 c10
    refine w_iconst dX8_rank_21 ?_
    exact w_iretI dX8_rank_22 rfl ⟨hF_μ4, (by exact ifF (by omega) rfl), hJ4, (fun k h1 => (hff4 k (by omega)))⟩
  · skip
    replace c10 := am_b1 c10
    refine w_iload_n dX8_rank_13 rfl rfl ?_
    refine w_iload_n dX8_rank_14 rfl rfl ?_
    refine w_callSP (as := [(0, l), (0, r)]) (rest := []) (k := 0) fX8_rank_15 rfl rfl rfl rfl rfl (Nat.le_of_ble_eq_true rfl) (s_X8_isSetting X l r μ4 (by first | omega | assumption) (by first | omega | assumption)) ?_
    have hf2 := am_b_r ((-60 ≤ l ∧ l ≤ 60) ∧ (-60 ≤ r ∧ r ≤ 60) ∧ (-8 ≤ r - l ∧ r - l ≤ 8))
    refine w_if_ne (tgt := 23) dX8_rank_18 rfl (R32.in (by have := am_b_r (((-60 ≤ l ∧ l ≤ 60) ∧ (-60 ≤ r ∧ r ≤ 60) ∧ (-8 ≤ r - l ∧ r - l ≤ 8))); omega)) (fun c18 => ?_) (fun c18 => ?_)
    · skip
      replace c18 := am_b1 c18
      refine w_aload_n dX8_rank_23 rfl rfl (by first | decide | omega) ?_
      refine w_iload_n dX8_rank_24 rfl rfl ?_
      refine w_callVV (o := 45) (ci := 8) (as := [(0, g)]) (rest := []) (k := 2) fX8_rank_25 rfl rfl rfl rfl rfl rfl rfl rfl (Nat.le_of_ble_eq_true rfl) (s_X8_laysSets X (ddt μ p (p + 5) (μ p 3) g) (μ (p + 9) g) g μ4 (hA4.gp (by omega))) (fun μS hμS => ?_)
      obtain ⟨hFS, hS_S, hf_S⟩ := hμS
      have hok := hS_S.ok
      have hcc := hS_S.c
      refine w_iconst dX8_rank_28 ?_
      refine w_istore (ls' := [(2, 45), (0, g), (0, l), (0, r), (0, 0)]) dX8_rank_29 (Nat.le_of_ble_eq_true rfl) rfl rfl ?_
      have hL31 : ∀ (n31 : Nat) (s : Int), (nS (ddt μ p (p + 5) (μ p 3) g) - s).toNat = n31 → (0 ≤ s ∧ s ≤ nS (ddt μ p (p + 5) (μ p 3) g)) → (∀ j, 0 ≤ j → j < s → ¬ sq (ddt μ p (p + 5) (μ p 3) g) j = (l, r)) → Wp (GG X) M_X8_rank 31 [(2, 45), (0, g), (0, l), (0, r), (0, s)] [] μS (qI 0 fun z μ' => (Fr 45 45 57 61 μ' μ) ∧ (z = if (0 ≤ g ∧ g < μ p 14) ∧ ((-60 ≤ l ∧ l ≤ 60) ∧ (-60 ≤ r ∧ r ≤ 60) ∧ (-8 ≤ r - l ∧ r - l ≤ 8)) then (if alwB (ddt μ p (p + 5) (μ p 3) g) (r - l) l = true then rkD (ddt μ p (p + 5) (μ p 3) g) (key (ddt μ p (p + 5) (μ p 3) g) (r - l) l) else -2) else -1) ∧ (RJ μ' p) ∧ (∀ k : Int, (¬ k = 0 ∧ ¬ (21 ≤ k ∧ k ≤ 24) ∧ ¬ (29 ≤ k ∧ k ≤ 33)) → μ' 45 k = μ 45 k)) := by
        intro n31
        induction n31 using Nat.strongRecOn with
        | ind n31 ih31 =>
          intro s hn31 hs0 hno
          refine w_iload dX8_rank_31 rfl ?_
          refine w_aload_n dX8_rank_33 rfl rfl (by first | decide | omega) ?_
          refine w_getIx (o := 45) (f := 29) (x := nS (ddt μ p (p + 5) (μ p 3) g)) fX8_rank_34 rfl rfl (Nat.le_of_ble_eq_true rfl) rfl hS_S.2.1.1 ?_
          have hr4 := hS_S.c
          refine w_icmp_ge (tgt := 75) dX8_rank_37 rfl (R32.in (by omega)) (R32.in (by omega)) (fun c37 => ?_) (fun c37 => ?_)
          · skip
            refine w_bipush dX8_rank_75 (by decide) ?_
            exact w_iretI dX8_rank_77 rfl ⟨((hFS.wd (by omega) (by omega)).tr hF_μ4), (by exact ifT (by omega) (ifF (fun q => by obtain ⟨j, hj, e⟩ := sq_of hok (by omega) (by omega) (by omega) q; exact hno j hj.1 (by omega) e) rfl)), (RJ.cg2 hJ4 (fun o h1 => (hFS.at (by omega) (by omega))) (fun k h1 => (hf_S _ (by omega)))), (fun k h1 => ((hf_S k (by omega)).trans (hff4 k (by omega))))⟩
          · skip
            refine w_aload_n dX8_rank_40 rfl rfl (by first | decide | omega) ?_
            refine w_getR (o := 45) (x := 58) fX8_rank_41 rfl rfl rfl rfl ?_
            refine w_iload dX8_rank_44 rfl ?_
            refine w_ialdx (o := 58) (n := 2100) (x := (sq (ddt μ p (p + 5) (μ p 3) g) s).1) dX8_rank_46 rfl rfl (Nat.le_of_ble_eq_true rfl) (by omega) (hS_S.2.2.1 _ (by omega) (by omega)) ?_
            have hr5 := (sq_r (hS_S.ok) (j := s) (by omega)).1
            refine w_iload_n dX8_rank_47 rfl rfl ?_
            refine w_icmp_ne (tgt := 69) dX8_rank_48 rfl (R32.in (by omega)) (R32.in (by omega)) (fun c48 => ?_) (fun c48 => ?_)
            · skip
              refine w_iinc (ls' := [(2, 45), (0, g), (0, l), (0, r), (0, s + 1)]) dX8_rank_69 rfl (Nat.le_of_ble_eq_true rfl) rfl rfl ?_
              refine w_goto (tgt := 31) dX8_rank_72 rfl ?_
              exact ih31 _ (by omega) (s + 1) rfl (by first | omega | assumption) (fun j h1 h2 e => by by_cases q : j = s; (subst q; first | exact c48 (by rw [e]) | exact c59 (by rw [e])); exact hno j h1 (by omega) e)
            · skip
              refine w_aload_n dX8_rank_51 rfl rfl (by first | decide | omega) ?_
              refine w_getR (o := 45) (x := 59) fX8_rank_52 rfl rfl rfl rfl ?_
              refine w_iload dX8_rank_55 rfl ?_
              refine w_ialdx (o := 59) (n := 2100) (x := (sq (ddt μ p (p + 5) (μ p 3) g) s).2) dX8_rank_57 rfl rfl (Nat.le_of_ble_eq_true rfl) (by omega) (hS_S.2.2.2.1 _ (by omega) (by omega)) ?_
              have hr6 := (sq_r (hS_S.ok) (j := s) (by omega)).2
              refine w_iload_n dX8_rank_58 rfl rfl ?_
              refine w_icmp_ne (tgt := 69) dX8_rank_59 rfl (R32.in (by omega)) (R32.in (by omega)) (fun c59 => ?_) (fun c59 => ?_)
              · skip
                refine w_iinc (ls' := [(2, 45), (0, g), (0, l), (0, r), (0, s + 1)]) dX8_rank_69 rfl (Nat.le_of_ble_eq_true rfl) rfl rfl ?_
                refine w_goto (tgt := 31) dX8_rank_72 rfl ?_
                exact ih31 _ (by omega) (s + 1) rfl (by first | omega | assumption) (fun j h1 h2 e => by by_cases q : j = s; (subst q; first | exact c48 (by rw [e]) | exact c59 (by rw [e])); exact hno j h1 (by omega) e)
              · skip
                refine w_aload_n dX8_rank_62 rfl rfl (by first | decide | omega) ?_
                refine w_iload dX8_rank_63 rfl ?_
                refine w_callVP (o := 45) (ci := 8) (as := [(0, s)]) (rest := []) (k := 2) fX8_rank_65 rfl rfl rfl rfl rfl rfl rfl rfl (Nat.le_of_ble_eq_true rfl) (s_X8_rankOf X (ddt μ p (p + 5) (μ p 3) g) (μ (p + 9) g) s μS hS_S (by first | omega | assumption)) ?_
                have hf7 := rkI_r (ddt μ p (p + 5) (μ p 3) g) s (nS (ddt μ p (p + 5) (μ p 3) g)) (nS_0 (ddt μ p (p + 5) (μ p 3) g))
                exact w_iretI dX8_rank_68 rfl ⟨((hFS.wd (by omega) (by omega)).tr hF_μ4), (by have hq9 : sq (ddt μ p (p + 5) (μ p 3) g) s = (l, r) := Prod.ext c48 c59; have ha9 := sq_alw hok (j := s) ⟨by omega, by omega⟩ hq9; exact ifT (by omega) (ifT ha9.1 ((rkI_eq (ddt μ p (p + 5) (μ p 3) g) s).trans (by rw [ha9.2])))), (RJ.cg2 hJ4 (fun o h1 => (hFS.at (by omega) (by omega))) (fun k h1 => (hf_S _ (by omega)))), (fun k h1 => ((hf_S k (by omega)).trans (hff4 k (by omega))))⟩
      exact hL31 _ 0 rfl (by first | omega | assumption) (fun j h1 h2 => by omega)
    · skip
      replace c18 := am_b0 c18
      refine w_iconst dX8_rank_21 ?_
      exact w_iretI dX8_rank_22 rfl ⟨hF_μ4, (by exact ifF (by omega) rfl), hJ4, (fun k h1 => (hff4 k (by omega)))⟩

set_option maxRecDepth 100000 in
set_option maxHeartbeats 4000000 in
theorem s_X8_dividing (X : AX) (a : Int) (b : Int) (μ : Mu) (ha : -2147483647 ≤ a ∧ a ≤ 2147483647) (hb : -2147483647 ≤ b ∧ b ≤ 2147483647) : Wp (GG X) M_X8_dividing 0 [(0, a), (0, b), (9, 0), (9, 0), (9, 0)] [] μ (pP 0 (gcI (ab a) (ab b)) μ) := by
  have h1 := ab_0 a
  have h2 := ab_0 b
  have h3 := ab_f a
  have h4 := ab_f b
  refine w_iload_n dX8_dividing_0 rfl rfl ?_
  refine w_callSP (as := [(0, a)]) (rest := []) (k := 0) fX8_dividing_1 rfl rfl rfl rfl rfl (Nat.le_of_ble_eq_true rfl) (s_X8_far X a μ (by first | omega | assumption)) ?_
  have hf1 := ab_f a
  refine w_istore_n (ls' := [(0, a), (0, b), (0, ab a), (9, 0), (9, 0)]) dX8_dividing_4 rfl (Nat.le_of_ble_eq_true rfl) rfl rfl ?_
  refine w_iload_n dX8_dividing_5 rfl rfl ?_
  refine w_callSP (as := [(0, b)]) (rest := []) (k := 0) fX8_dividing_6 rfl rfl rfl rfl rfl (Nat.le_of_ble_eq_true rfl) (s_X8_far X b μ (by first | omega | assumption)) ?_
  have hf2 := ab_f b
  refine w_istore_n (ls' := [(0, a), (0, b), (0, ab a), (0, ab b), (9, 0)]) dX8_dividing_9 rfl (Nat.le_of_ble_eq_true rfl) rfl rfl ?_
  have hL10 : ∀ (n10 : Nat) (x : Int) (y : Int), (y).toNat = n10 → (0 ≤ x ∧ x ≤ 2147483647) → (0 ≤ y ∧ y ≤ 2147483647) → (gcI x y = gcI (ab a) (ab b)) → Wp (GG X) M_X8_dividing 10 [(0, a), (0, b), (0, x), (0, y), (9, 0)] [] μ (pP 0 (gcI (ab a) (ab b)) μ) := by
    intro n10
    induction n10 using Nat.strongRecOn with
    | ind n10 ih10 =>
      intro x y hn10 hx0 hy0 hxy
      refine w_iload_n dX8_dividing_10 rfl rfl ?_
      refine w_if_le (tgt := 27) dX8_dividing_11 rfl (R32.in (by omega)) (fun c11 => ?_) (fun c11 => ?_)
      · skip
        refine w_iload_n dX8_dividing_27 rfl rfl ?_
        exact w_iretP dX8_dividing_28 rfl (by have he : y = 0 := (by omega); rw [← hxy, he, gcI_0 (by omega)])
      · skip
        have hm1 := Int.emod_nonneg x (show y ≠ 0 by omega)
        have hm2 := Int.emod_lt_of_pos x (show 0 < y by omega)
        refine w_iload_n dX8_dividing_14 rfl rfl ?_
        refine w_iload_n dX8_dividing_15 rfl rfl ?_
        refine w_iremP dX8_dividing_16 (by omega) ?_
        refine w_istore (ls' := [(0, a), (0, b), (0, x), (0, y), (0, x % y)]) dX8_dividing_17 (Nat.le_of_ble_eq_true rfl) rfl rfl ?_
        refine w_iload_n dX8_dividing_19 rfl rfl ?_
        refine w_istore_n (ls' := [(0, a), (0, b), (0, y), (0, y), (0, x % y)]) dX8_dividing_20 rfl (Nat.le_of_ble_eq_true rfl) rfl rfl ?_
        refine w_iload dX8_dividing_21 rfl ?_
        refine w_istore_n (ls' := [(0, a), (0, b), (0, y), (0, x % y), (0, x % y)]) dX8_dividing_23 rfl (Nat.le_of_ble_eq_true rfl) rfl rfl ?_
        refine w_goto (tgt := 10) dX8_dividing_24 rfl ?_
        refine Wp.fgl (ls' := [(0, a), (0, b), (0, y), (0, x % y), (9, 0)]) 4 rfl ?_
        exact ih10 _ (by omega) y (x % y) rfl (by first | omega | assumption) (by have := Int.emod_nonneg x (show y ≠ 0 by omega); have := Int.emod_lt_of_pos x (show 0 < y by omega); omega) ((gcI_s hx0.1 hy0.1).trans hxy)
  exact hL10 _ (ab a) (ab b) rfl (by first | omega | assumption) (by omega) rfl

set_option maxRecDepth 100000 in
set_option maxHeartbeats 4000000 in
theorem s_X8_stem (X : AX) (p : Int) (i : Int) (w : Int) (μ : Mu) (hC : CJ μ p) (hJ : RJ μ p) (hi : -2147483648 ≤ i ∧ i ≤ 2147483647) (hw : -2147483648 ≤ w ∧ w ≤ 2147483647) : Wp (GG X) M_X8_stem 0 [(2, 45), (0, i), (0, w), (9, 0), (9, 0), (9, 0)] [] μ (qI 0 fun z μ' => (Fr 45 45 57 61 μ' μ) ∧ (z = if (0 ≤ i ∧ i < μ p 7 ∧ 0 ≤ μ (p + 8) i) ∧ 0 ≤ w ∧ w ≤ 3 then stmA (ddt μ p (p + 5) (μ p 3) (μ (p + 8) i)) (i - (μ (p + 9) (μ (p + 8) i))) w else -1000000) ∧ (RJ μ' p) ∧ (∀ k : Int, (¬ k = 0 ∧ ¬ (21 ≤ k ∧ k ≤ 24) ∧ ¬ (29 ≤ k ∧ k ≤ 33)) → μ' 45 k = μ 45 k)) := by
  have hI := hC.i
  have hG := hC.pg
  have hp := hI.at
  have hz := hI.sz
  have hgr := hG.gr
  have hkn := hC.kn
  have hRA := hJ.rag hC
  refine w_aload_n dX8_stem_0 rfl rfl (by first | decide | omega) ?_
  refine w_iconst dX8_stem_1 ?_
  refine w_putI (o := 45) (f := 0) fX8_stem_2 rfl rfl rfl rfl rfl ?_
  have hF_μ4 : Fr 45 45 57 61 (am_up μ 45 0 0) μ := (Fr.rf.up (by omega))
  have hA4 : RAg (ddt μ p (p + 5) (μ p 3)) (μ (p + 9)) (μ p 14) (am_up μ 45 0 0) := (RAg.cg2 hRA (fun o h1 => (am_up_o (by omega))) (fun k h1 => (am_up_nk (by omega))))
  have hJ4 : RJ (am_up μ 45 0 0) p := (RJ.cg2 hJ (fun o h1 => (am_up_o (by omega))) (fun k h1 => (am_up_nk (by omega))))
  have hC4 : CJ (am_up μ 45 0 0) p := (CJ.cg hC (fun o h1 => (am_up_o (by omega))))
  have hff4 : ∀ k : Int, ¬ k = 0 → (am_up μ 45 0 0) 45 k = μ 45 k := (fun k h1 => (am_up_nk (by omega)))
  refine Wp.mu (fun μ4 hμ4 => ?_)
  rw [← hμ4] at hF_μ4 hA4 hJ4 hC4 hff4
  clear hμ4
  have e4 : ∀ o : Int, p ≤ o ∧ o ≤ p + 10 → μ4 o = μ o := fun o h1 => hF_μ4.at (by omega) (by omega)
  have e47 : μ4 p 7 = μ p 7 := congrFun (e4 p (by omega)) _
  have e414 : μ4 p 14 = μ p 14 := congrFun (e4 p (by omega)) _
  have e48 : μ4 (p + 8) i = μ (p + 8) i := congrFun (e4 (p + 8) (by omega)) _
  have e44 : μ4 (p + 4) i = μ (p + 4) i := congrFun (e4 (p + 4) (by omega)) _
  refine w_aload_n dX8_stem_5 rfl rfl (by first | decide | omega) ?_
  refine w_iload_n dX8_stem_6 rfl rfl ?_
  refine w_callVP (o := 45) (ci := 8) (as := [(0, i)]) (rest := []) (k := 0) fX8_stem_7 rfl rfl rfl rfl rfl rfl rfl rfl (Nat.le_of_ble_eq_true rfl) (s_X8_isOfGroup X p i μ4 hC4 hJ4 (by first | omega | assumption)) ?_
  have hf1 := am_b_r (0 ≤ i ∧ i < μ4 p 7 ∧ 0 ≤ μ4 (p + 8) i)
  refine w_if_eq (tgt := 22) dX8_stem_10 rfl (R32.in (by have := am_b_r ((0 ≤ i ∧ i < μ4 p 7 ∧ 0 ≤ μ4 (p + 8) i)); omega)) (fun c10 => ?_) (fun c10 => ?_)
  · skip
    replace c10 := am_b0 c10
    refine w_ldc (n := -1000000) dX8_stem_22 k_1620 (by decide) ?_
    exact w_iretI dX8_stem_24 rfl ⟨hF_μ4, (by exact ifF (by omega) rfl), hJ4, (fun k h1 => (hff4 k (by omega)))⟩
  · skip
    replace c10 := am_b1 c10
    refine w_iload_n dX8_stem_13 rfl rfl ?_
    refine w_iconst dX8_stem_14 ?_
    refine w_iconst dX8_stem_15 ?_
    refine w_callSP (as := [(0, w), (0, 0), (0, 3)]) (rest := []) (k := 0) fX8_stem_16 rfl rfl rfl rfl rfl (Nat.le_of_ble_eq_true rfl) (s_X8_isIn X w 0 3 μ4 (by first | omega | assumption) (by first | omega | assumption) (by first | omega | assumption)) ?_
    have hf2 := am_b_r (0 ≤ w ∧ w ≤ 3)
    refine w_if_ne (tgt := 25) dX8_stem_19 rfl (R32.in (by have := am_b_r ((0 ≤ w ∧ w ≤ 3)); omega)) (fun c19 => ?_) (fun c19 => ?_)
    · skip
      replace c19 := am_b1 c19
      refine w_aload_n dX8_stem_25 rfl rfl (by first | decide | omega) ?_
      refine w_aload_n dX8_stem_26 rfl rfl (by first | decide | omega) ?_
      refine w_getR (o := 45) (x := 53) fX8_stem_27 rfl rfl rfl rfl ?_
      refine w_iload_n dX8_stem_30 rfl rfl ?_
      refine w_ialdx (o := 53) (n := 64) (x := goR (μ (p + 8) i)) dX8_stem_31 rfl rfl (Nat.le_of_ble_eq_true rfl) (by omega) ((congrFun (hF_μ4.at (by omega) (by omega)) _).trans (hJ.go (by omega))) ?_
      have hr3 := goR_f (μ (p + 8) i)
      have hr4 := PG.go hG (i := i) (by omega)
      have hgo2 := hG.go2 (i := i) ⟨by omega, by omega⟩ (by omega)
      have hdn : dN (ddt μ p (p + 5) (μ p 3) (μ (p + 8) i)) = μ (p + 10) (μ (p + 8) i) := rfl
      refine Wp.topE (b := μ (p + 8) i) (by omega) ?_
      refine w_callVV (o := 45) (ci := 8) (as := [(0, μ (p + 8) i)]) (rest := []) (k := 2) fX8_stem_32 rfl rfl rfl rfl rfl rfl rfl rfl (Nat.le_of_ble_eq_true rfl) (s_X8_laysSets X (ddt μ p (p + 5) (μ p 3) (μ (p + 8) i)) (μ (p + 9) (μ (p + 8) i)) (μ (p + 8) i) μ4 (hA4.gp (by omega))) (fun μS hμS => ?_)
      obtain ⟨hFS, hS_S, hf_S⟩ := hμS
      have hok := hS_S.ok
      have hcc := hS_S.c
      have hsp := hok.sp
      refine w_aload_n dX8_stem_35 rfl rfl (by first | decide | omega) ?_
      refine w_callVP (o := 45) (ci := 8) (as := []) (rest := []) (k := 2) fX8_stem_36 rfl rfl rfl rfl rfl rfl rfl rfl (Nat.le_of_ble_eq_true rfl) (s_X8_bestSet X (ddt μ p (p + 5) (μ p 3) (μ (p + 8) i)) (μ (p + 9) (μ (p + 8) i)) μS hS_S) ?_
      have hf6 := bstI_r (ddt μ p (p + 5) (μ p 3) (μ (p + 8) i)) (nS (ddt μ p (p + 5) (μ p 3) (μ (p + 8) i))) (nS_0 (ddt μ p (p + 5) (μ p 3) (μ (p + 8) i)))
      refine w_istore_n (ls' := [(2, 45), (0, i), (0, w), (0, bstI (ddt μ p (p + 5) (μ p 3) (μ (p + 8) i)) (nS (ddt μ p (p + 5) (μ p 3) (μ (p + 8) i)))), (9, 0), (9, 0)]) dX8_stem_39 rfl (Nat.le_of_ble_eq_true rfl) rfl rfl ?_
      refine w_iload_n dX8_stem_40 rfl rfl ?_
      refine w_iconst dX8_stem_41 ?_
      refine w_icmp_ne (tgt := 48) dX8_stem_42 rfl (R32.in (by omega)) (R32.in (by decide)) (fun c42 => ?_) (fun c42 => ?_)
      · skip
        have hbb := bst_lr hok c42
        refine w_iload_n dX8_stem_48 rfl rfl ?_
        refine w_iconst dX8_stem_49 ?_
        refine w_icmp_ge (tgt := 73) dX8_stem_50 rfl (R32.in (by omega)) (R32.in (by decide)) (fun c50 => ?_) (fun c50 => ?_)
        · skip
          refine w_aload_n dX8_stem_73 rfl rfl (by first | decide | omega) ?_
          refine w_iload_n dX8_stem_74 rfl rfl ?_
          refine Wp.topE (b := (μ (p + 9) (μ (p + 8) i)) + (i - (μ (p + 9) (μ (p + 8) i)))) (by omega) ?_
          refine w_aload_n dX8_stem_75 rfl rfl (by first | decide | omega) ?_
          refine w_getR (o := 45) (x := 58) fX8_stem_76 rfl rfl rfl rfl ?_
          refine w_iload_n dX8_stem_79 rfl rfl ?_
          refine w_ialdx (o := 58) (n := 2100) (x := (sq (ddt μ p (p + 5) (μ p 3) (μ (p + 8) i)) (bstI (ddt μ p (p + 5) (μ p 3) (μ (p + 8) i)) (nS (ddt μ p (p + 5) (μ p 3) (μ (p + 8) i))))).1) dX8_stem_80 rfl rfl (Nat.le_of_ble_eq_true rfl) (by omega) (hS_S.2.2.1 _ (by omega) (by omega)) ?_
          have hr7 := (sq_r (hS_S.ok) (j := (bstI (ddt μ p (p + 5) (μ p 3) (μ (p + 8) i)) (nS (ddt μ p (p + 5) (μ p 3) (μ (p + 8) i))))) (by omega)).1
          refine w_aload_n dX8_stem_81 rfl rfl (by first | decide | omega) ?_
          refine w_getR (o := 45) (x := 59) fX8_stem_82 rfl rfl rfl rfl ?_
          refine w_iload_n dX8_stem_85 rfl rfl ?_
          refine w_ialdx (o := 59) (n := 2100) (x := (sq (ddt μ p (p + 5) (μ p 3) (μ (p + 8) i)) (bstI (ddt μ p (p + 5) (μ p 3) (μ (p + 8) i)) (nS (ddt μ p (p + 5) (μ p 3) (μ (p + 8) i))))).2) dX8_stem_86 rfl rfl (Nat.le_of_ble_eq_true rfl) (by omega) (hS_S.2.2.2.1 _ (by omega) (by omega)) ?_
          have hr8 := (sq_r (hS_S.ok) (j := (bstI (ddt μ p (p + 5) (μ p 3) (μ (p + 8) i)) (nS (ddt μ p (p + 5) (μ p 3) (μ (p + 8) i))))) (by omega)).2
          refine w_callVP (o := 45) (ci := 8) (as := [(0, (μ (p + 9) (μ (p + 8) i)) + (i - (μ (p + 9) (μ (p + 8) i)))), (0, (sq (ddt μ p (p + 5) (μ p 3) (μ (p + 8) i)) (bstI (ddt μ p (p + 5) (μ p 3) (μ (p + 8) i)) (nS (ddt μ p (p + 5) (μ p 3) (μ (p + 8) i))))).1), (0, (sq (ddt μ p (p + 5) (μ p 3) (μ (p + 8) i)) (bstI (ddt μ p (p + 5) (μ p 3) (μ (p + 8) i)) (nS (ddt μ p (p + 5) (μ p 3) (μ (p + 8) i))))).2)]) (rest := []) (k := 1) fX8_stem_87 rfl rfl rfl rfl rfl rfl rfl rfl (Nat.le_of_ble_eq_true rfl) (s_X8_heightAt X (ddt μ p (p + 5) (μ p 3) (μ (p + 8) i)) (μ (p + 9) (μ (p + 8) i)) (i - (μ (p + 9) (μ (p + 8) i))) ((sq (ddt μ p (p + 5) (μ p 3) (μ (p + 8) i)) (bstI (ddt μ p (p + 5) (μ p 3) (μ (p + 8) i)) (nS (ddt μ p (p + 5) (μ p 3) (μ (p + 8) i))))).1) ((sq (ddt μ p (p + 5) (μ p 3) (μ (p + 8) i)) (bstI (ddt μ p (p + 5) (μ p 3) (μ (p + 8) i)) (nS (ddt μ p (p + 5) (μ p 3) (μ (p + 8) i))))).2) μS hS_S.1 (by first | omega | assumption) (sq_r hok hbb.1)) ?_
          refine Wp.top (fun v hv => ?_)
          have hv2 : v = stmV (ddt μ p (p + 5) (μ p 3) (μ (p + 8) i)) (i - (μ (p + 9) (μ (p + 8) i))) w := by unfold stmV; first | (rw [if_pos (by omega), hv, hbb.2.2.1, hbb.2.2.2.1]) | (rw [if_neg (by omega), hv, hgt_lr, hbb.2.2.1, hbb.2.2.2.1])
          have hvr := stmV_r (a := i - (μ (p + 9) (μ (p + 8) i))) (w := w) hok hbb.2.1 (by omega)
          refine w_istore (ls' := [(2, 45), (0, i), (0, w), (0, bstI (ddt μ p (p + 5) (μ p 3) (μ (p + 8) i)) (nS (ddt μ p (p + 5) (μ p 3) (μ (p + 8) i)))), (0, v), (9, 0)]) dX8_stem_90 (Nat.le_of_ble_eq_true rfl) rfl rfl ?_
          refine w_iload dX8_stem_92 rfl ?_
          refine w_aload_n dX8_stem_94 rfl rfl (by first | decide | omega) ?_
          refine w_getIx (o := 45) (f := 24) (x := spn (ddt μ p (p + 5) (μ p 3) (μ (p + 8) i))) fX8_stem_95 rfl rfl (Nat.le_of_ble_eq_true rfl) rfl hS_S.1.sp ?_
          have hr9 := (hS_S.1.ok).sp
          refine w_callSP (as := [(0, v), (0, spn (ddt μ p (p + 5) (μ p 3) (μ (p + 8) i)))]) (rest := []) (k := 3) fX8_stem_98 rfl rfl rfl rfl rfl (Nat.le_of_ble_eq_true rfl) (s_X8_dividing X v (spn (ddt μ p (p + 5) (μ p 3) (μ (p + 8) i))) μS (by first | omega | assumption) (by first | omega | assumption)) ?_
          refine Wp.top (fun bq hbq => ?_)
          have hgp := gcI_f (ab v) (ab (spn (ddt μ p (p + 5) (μ p 3) (μ (p + 8) i)))) (by unfold ab; omega)
          have hgl := gcI_le (x := ab v) (y := ab (spn (ddt μ p (p + 5) (μ p 3) (μ (p + 8) i)))) (by unfold ab; omega)
          have hab := ab_f (spn (ddt μ p (p + 5) (μ p 3) (μ (p + 8) i)))
          refine w_istore (ls' := [(2, 45), (0, i), (0, w), (0, bstI (ddt μ p (p + 5) (μ p 3) (μ (p + 8) i)) (nS (ddt μ p (p + 5) (μ p 3) (μ (p + 8) i)))), (0, v), (0, bq)]) dX8_stem_101 (Nat.le_of_ble_eq_true rfl) rfl rfl ?_
          refine w_iload_n dX8_stem_103 rfl rfl ?_
          refine w_iconst dX8_stem_104 ?_
          refine w_iremP dX8_stem_105 (by omega) ?_
          refine w_if_ne (tgt := 117) dX8_stem_106 rfl (R32.in (by omega)) (fun c106 => ?_) (fun c106 => ?_)
          · skip
            refine w_aload_n dX8_stem_117 rfl rfl (by first | decide | omega) ?_
            refine w_getIx (o := 45) (f := 24) (x := spn (ddt μ p (p + 5) (μ p 3) (μ (p + 8) i))) fX8_stem_118 rfl rfl (Nat.le_of_ble_eq_true rfl) rfl hS_S.1.sp ?_
            refine w_iload dX8_stem_121 rfl ?_
            refine w_idiv dX8_stem_123 (R32.in (by omega)) (R32.in (by omega)) (by omega) ?_
            exact w_iretI dX8_stem_124 rfl ⟨((hFS.wd (by omega) (by omega)).tr hF_μ4), (by exact ifT (by omega) (stmA_r hok hbb.2.1 hv2 hbq _ (by first | rw [if_pos c106] | rw [if_neg c106]))), (RJ.cg2 hJ4 (fun o h1 => (hFS.at (by omega) (by omega))) (fun k h1 => (hf_S _ (by omega)))), (fun k h1 => ((hf_S k (by omega)).trans (hff4 k (by omega))))⟩
          · skip
            refine w_iload dX8_stem_109 rfl ?_
            refine w_iload dX8_stem_111 rfl ?_
            refine w_idiv dX8_stem_113 (R32.in (by omega)) (R32.in (by omega)) (by omega) ?_
            refine w_goto (tgt := 124) dX8_stem_114 rfl ?_
            exact w_iretI dX8_stem_124 rfl ⟨((hFS.wd (by omega) (by omega)).tr hF_μ4), (by exact ifT (by omega) (stmA_r hok hbb.2.1 hv2 hbq _ (by first | rw [if_pos c106] | rw [if_neg c106]))), (RJ.cg2 hJ4 (fun o h1 => (hFS.at (by omega) (by omega))) (fun k h1 => (hf_S _ (by omega)))), (fun k h1 => ((hf_S k (by omega)).trans (hff4 k (by omega))))⟩
        · skip
          refine w_aload_n dX8_stem_53 rfl rfl (by first | decide | omega) ?_
          refine w_iload_n dX8_stem_54 rfl rfl ?_
          refine Wp.topE (b := (μ (p + 9) (μ (p + 8) i)) + (i - (μ (p + 9) (μ (p + 8) i)))) (by omega) ?_
          refine w_aload_n dX8_stem_55 rfl rfl (by first | decide | omega) ?_
          refine w_getR (o := 45) (x := 58) fX8_stem_56 rfl rfl rfl rfl ?_
          refine w_iload_n dX8_stem_59 rfl rfl ?_
          refine w_ialdx (o := 58) (n := 2100) (x := (sq (ddt μ p (p + 5) (μ p 3) (μ (p + 8) i)) (bstI (ddt μ p (p + 5) (μ p 3) (μ (p + 8) i)) (nS (ddt μ p (p + 5) (μ p 3) (μ (p + 8) i))))).1) dX8_stem_60 rfl rfl (Nat.le_of_ble_eq_true rfl) (by omega) (hS_S.2.2.1 _ (by omega) (by omega)) ?_
          have hr10 := (sq_r (hS_S.ok) (j := (bstI (ddt μ p (p + 5) (μ p 3) (μ (p + 8) i)) (nS (ddt μ p (p + 5) (μ p 3) (μ (p + 8) i))))) (by omega)).1
          refine w_aload_n dX8_stem_61 rfl rfl (by first | decide | omega) ?_
          refine w_getR (o := 45) (x := 59) fX8_stem_62 rfl rfl rfl rfl ?_
          refine w_iload_n dX8_stem_65 rfl rfl ?_
          refine w_ialdx (o := 59) (n := 2100) (x := (sq (ddt μ p (p + 5) (μ p 3) (μ (p + 8) i)) (bstI (ddt μ p (p + 5) (μ p 3) (μ (p + 8) i)) (nS (ddt μ p (p + 5) (μ p 3) (μ (p + 8) i))))).2) dX8_stem_66 rfl rfl (Nat.le_of_ble_eq_true rfl) (by omega) (hS_S.2.2.2.1 _ (by omega) (by omega)) ?_
          have hr11 := (sq_r (hS_S.ok) (j := (bstI (ddt μ p (p + 5) (μ p 3) (μ (p + 8) i)) (nS (ddt μ p (p + 5) (μ p 3) (μ (p + 8) i))))) (by omega)).2
          refine w_callVP (o := 45) (ci := 8) (as := [(0, (μ (p + 9) (μ (p + 8) i)) + (i - (μ (p + 9) (μ (p + 8) i)))), (0, (sq (ddt μ p (p + 5) (μ p 3) (μ (p + 8) i)) (bstI (ddt μ p (p + 5) (μ p 3) (μ (p + 8) i)) (nS (ddt μ p (p + 5) (μ p 3) (μ (p + 8) i))))).1), (0, (sq (ddt μ p (p + 5) (μ p 3) (μ (p + 8) i)) (bstI (ddt μ p (p + 5) (μ p 3) (μ (p + 8) i)) (nS (ddt μ p (p + 5) (μ p 3) (μ (p + 8) i))))).2)]) (rest := []) (k := 1) fX8_stem_67 rfl rfl rfl rfl rfl rfl rfl rfl (Nat.le_of_ble_eq_true rfl) (s_X8_lengthAt X (ddt μ p (p + 5) (μ p 3) (μ (p + 8) i)) (μ (p + 9) (μ (p + 8) i)) (i - (μ (p + 9) (μ (p + 8) i))) ((sq (ddt μ p (p + 5) (μ p 3) (μ (p + 8) i)) (bstI (ddt μ p (p + 5) (μ p 3) (μ (p + 8) i)) (nS (ddt μ p (p + 5) (μ p 3) (μ (p + 8) i))))).1) ((sq (ddt μ p (p + 5) (μ p 3) (μ (p + 8) i)) (bstI (ddt μ p (p + 5) (μ p 3) (μ (p + 8) i)) (nS (ddt μ p (p + 5) (μ p 3) (μ (p + 8) i))))).2) μS hS_S.1 (by first | omega | assumption) (sq_r hok hbb.1)) ?_
          have hf12 := len_fr (ddt μ p (p + 5) (μ p 3) (μ (p + 8) i)) ((sq (ddt μ p (p + 5) (μ p 3) (μ (p + 8) i)) (bstI (ddt μ p (p + 5) (μ p 3) (μ (p + 8) i)) (nS (ddt μ p (p + 5) (μ p 3) (μ (p + 8) i))))).1) ((sq (ddt μ p (p + 5) (μ p 3) (μ (p + 8) i)) (bstI (ddt μ p (p + 5) (μ p 3) (μ (p + 8) i)) (nS (ddt μ p (p + 5) (μ p 3) (μ (p + 8) i))))).2) (i - (μ (p + 9) (μ (p + 8) i))) (by assumption) (by omega) (by omega)
          refine w_goto (tgt := 90) dX8_stem_70 rfl ?_
          refine Wp.top (fun v hv => ?_)
          have hv2 : v = stmV (ddt μ p (p + 5) (μ p 3) (μ (p + 8) i)) (i - (μ (p + 9) (μ (p + 8) i))) w := by unfold stmV; first | (rw [if_pos (by omega), hv, hbb.2.2.1, hbb.2.2.2.1]) | (rw [if_neg (by omega), hv, hgt_lr, hbb.2.2.1, hbb.2.2.2.1])
          have hvr := stmV_r (a := i - (μ (p + 9) (μ (p + 8) i))) (w := w) hok hbb.2.1 (by omega)
          refine w_istore (ls' := [(2, 45), (0, i), (0, w), (0, bstI (ddt μ p (p + 5) (μ p 3) (μ (p + 8) i)) (nS (ddt μ p (p + 5) (μ p 3) (μ (p + 8) i)))), (0, v), (9, 0)]) dX8_stem_90 (Nat.le_of_ble_eq_true rfl) rfl rfl ?_
          refine w_iload dX8_stem_92 rfl ?_
          refine w_aload_n dX8_stem_94 rfl rfl (by first | decide | omega) ?_
          refine w_getIx (o := 45) (f := 24) (x := spn (ddt μ p (p + 5) (μ p 3) (μ (p + 8) i))) fX8_stem_95 rfl rfl (Nat.le_of_ble_eq_true rfl) rfl hS_S.1.sp ?_
          have hr13 := (hS_S.1.ok).sp
          refine w_callSP (as := [(0, v), (0, spn (ddt μ p (p + 5) (μ p 3) (μ (p + 8) i)))]) (rest := []) (k := 3) fX8_stem_98 rfl rfl rfl rfl rfl (Nat.le_of_ble_eq_true rfl) (s_X8_dividing X v (spn (ddt μ p (p + 5) (μ p 3) (μ (p + 8) i))) μS (by first | omega | assumption) (by first | omega | assumption)) ?_
          refine Wp.top (fun bq hbq => ?_)
          have hgp := gcI_f (ab v) (ab (spn (ddt μ p (p + 5) (μ p 3) (μ (p + 8) i)))) (by unfold ab; omega)
          have hgl := gcI_le (x := ab v) (y := ab (spn (ddt μ p (p + 5) (μ p 3) (μ (p + 8) i)))) (by unfold ab; omega)
          have hab := ab_f (spn (ddt μ p (p + 5) (μ p 3) (μ (p + 8) i)))
          refine w_istore (ls' := [(2, 45), (0, i), (0, w), (0, bstI (ddt μ p (p + 5) (μ p 3) (μ (p + 8) i)) (nS (ddt μ p (p + 5) (μ p 3) (μ (p + 8) i)))), (0, v), (0, bq)]) dX8_stem_101 (Nat.le_of_ble_eq_true rfl) rfl rfl ?_
          refine w_iload_n dX8_stem_103 rfl rfl ?_
          refine w_iconst dX8_stem_104 ?_
          refine w_iremP dX8_stem_105 (by omega) ?_
          refine w_if_ne (tgt := 117) dX8_stem_106 rfl (R32.in (by omega)) (fun c106 => ?_) (fun c106 => ?_)
          · skip
            refine w_aload_n dX8_stem_117 rfl rfl (by first | decide | omega) ?_
            refine w_getIx (o := 45) (f := 24) (x := spn (ddt μ p (p + 5) (μ p 3) (μ (p + 8) i))) fX8_stem_118 rfl rfl (Nat.le_of_ble_eq_true rfl) rfl hS_S.1.sp ?_
            refine w_iload dX8_stem_121 rfl ?_
            refine w_idiv dX8_stem_123 (R32.in (by omega)) (R32.in (by omega)) (by omega) ?_
            exact w_iretI dX8_stem_124 rfl ⟨((hFS.wd (by omega) (by omega)).tr hF_μ4), (by exact ifT (by omega) (stmA_r hok hbb.2.1 hv2 hbq _ (by first | rw [if_pos c106] | rw [if_neg c106]))), (RJ.cg2 hJ4 (fun o h1 => (hFS.at (by omega) (by omega))) (fun k h1 => (hf_S _ (by omega)))), (fun k h1 => ((hf_S k (by omega)).trans (hff4 k (by omega))))⟩
          · skip
            refine w_iload dX8_stem_109 rfl ?_
            refine w_iload dX8_stem_111 rfl ?_
            refine w_idiv dX8_stem_113 (R32.in (by omega)) (R32.in (by omega)) (by omega) ?_
            refine w_goto (tgt := 124) dX8_stem_114 rfl ?_
            exact w_iretI dX8_stem_124 rfl ⟨((hFS.wd (by omega) (by omega)).tr hF_μ4), (by exact ifT (by omega) (stmA_r hok hbb.2.1 hv2 hbq _ (by first | rw [if_pos c106] | rw [if_neg c106]))), (RJ.cg2 hJ4 (fun o h1 => (hFS.at (by omega) (by omega))) (fun k h1 => (hf_S _ (by omega)))), (fun k h1 => ((hf_S k (by omega)).trans (hff4 k (by omega))))⟩
      · skip
        refine w_ldc (n := -1000000) dX8_stem_45 k_1620 (by decide) ?_
        exact w_iretI dX8_stem_47 rfl ⟨((hFS.wd (by omega) (by omega)).tr hF_μ4), (by exact ifT (by omega) (by unfold stmA; rw [if_pos (bst_no hok c42)])), (RJ.cg2 hJ4 (fun o h1 => (hFS.at (by omega) (by omega))) (fun k h1 => (hf_S _ (by omega)))), (fun k h1 => ((hf_S k (by omega)).trans (hff4 k (by omega))))⟩
    · skip
      replace c19 := am_b0 c19
      refine w_ldc (n := -1000000) dX8_stem_22 k_1620 (by decide) ?_
      exact w_iretI dX8_stem_24 rfl ⟨hF_μ4, (by exact ifF (by omega) rfl), hJ4, (fun k h1 => (hff4 k (by omega)))⟩

set_option maxRecDepth 100000 in
set_option maxHeartbeats 4000000 in
theorem s_X8_touch (X : AX) (p : Int) (g : Int) (e : Int) (k : Int) (μ : Mu) (hC : CJ μ p) (hJ : RJ μ p) (hg : -2147483648 ≤ g ∧ g ≤ 2147483647) (he : -2147483648 ≤ e ∧ e ≤ 2147483647) (hk : -2147483648 ≤ k ∧ k ≤ 2147483647) : Wp (GG X) M_X8_touch 0 [(2, 45), (0, g), (0, e), (0, k), (9, 0), (9, 0), (9, 0)] [] μ (qI 0 fun z μ' => (Fr 45 45 57 61 μ' μ) ∧ (z = if (0 ≤ g ∧ g < μ p 14) ∧ (0 ≤ e ∧ e ≤ 1) ∧ 0 ≤ k ∧ k < dB (ddt μ p (p + 5) (μ p 3) g) (if e = 0 then 0 else dN (ddt μ p (p + 5) (μ p 3) g) - 1) then tchA (ddt μ p (p + 5) (μ p 3) g) e k else -1) ∧ (RJ μ' p) ∧ (∀ k : Int, (¬ k = 0 ∧ ¬ (21 ≤ k ∧ k ≤ 24) ∧ ¬ (29 ≤ k ∧ k ≤ 33)) → μ' 45 k = μ 45 k)) := by
  have hI := hC.i
  have hG := hC.pg
  have hp := hI.at
  have hz := hI.sz
  have hgr := hG.gr
  have hkn := hC.kn
  have hRA := hJ.rag hC
  refine w_aload_n dX8_touch_0 rfl rfl (by first | decide | omega) ?_
  refine w_iconst dX8_touch_1 ?_
  refine w_putI (o := 45) (f := 0) fX8_touch_2 rfl rfl rfl rfl rfl ?_
  have hF_μ4 : Fr 45 45 57 61 (am_up μ 45 0 0) μ := (Fr.rf.up (by omega))
  have hA4 : RAg (ddt μ p (p + 5) (μ p 3)) (μ (p + 9)) (μ p 14) (am_up μ 45 0 0) := (RAg.cg2 hRA (fun o h1 => (am_up_o (by omega))) (fun k h1 => (am_up_nk (by omega))))
  have hJ4 : RJ (am_up μ 45 0 0) p := (RJ.cg2 hJ (fun o h1 => (am_up_o (by omega))) (fun k h1 => (am_up_nk (by omega))))
  have hC4 : CJ (am_up μ 45 0 0) p := (CJ.cg hC (fun o h1 => (am_up_o (by omega))))
  have hff4 : ∀ k : Int, ¬ k = 0 → (am_up μ 45 0 0) 45 k = μ 45 k := (fun k h1 => (am_up_nk (by omega)))
  refine Wp.mu (fun μ4 hμ4 => ?_)
  rw [← hμ4] at hF_μ4 hA4 hJ4 hC4 hff4
  clear hμ4
  have e4 : ∀ o : Int, p ≤ o ∧ o ≤ p + 10 → μ4 o = μ o := fun o h1 => hF_μ4.at (by omega) (by omega)
  have e47 : μ4 p 7 = μ p 7 := congrFun (e4 p (by omega)) _
  have e414 : μ4 p 14 = μ p 14 := congrFun (e4 p (by omega)) _
  refine w_aload_n dX8_touch_5 rfl rfl (by first | decide | omega) ?_
  refine w_iload_n dX8_touch_6 rfl rfl ?_
  refine w_callVP (o := 45) (ci := 8) (as := [(0, g)]) (rest := []) (k := 0) fX8_touch_7 rfl rfl rfl rfl rfl rfl rfl rfl (Nat.le_of_ble_eq_true rfl) (s_X8_isGroup X p g μ4 hC4 hJ4 (by first | omega | assumption)) ?_
  have hf1 := am_b_r (0 ≤ g ∧ g < μ4 p 14)
  refine w_if_eq (tgt := 26) dX8_touch_10 rfl (R32.in (by have := am_b_r ((0 ≤ g ∧ g < μ4 p 14)); omega)) (fun c10 => ?_) (fun c10 => ?_)
  · skip
    replace c10 := am_b0 c10
    refine w_iconst dX8_touch_26 ?_
    exact w_iretI dX8_touch_27 rfl ⟨hF_μ4, (by exact ifF (by omega) rfl), hJ4, (fun k h1 => (hff4 k (by omega)))⟩
  · skip
    replace c10 := am_b1 c10
    refine w_iload_n dX8_touch_13 rfl rfl ?_
    refine w_iconst dX8_touch_14 ?_
    refine w_iconst dX8_touch_15 ?_
    refine w_callSP (as := [(0, e), (0, 0), (0, 1)]) (rest := []) (k := 0) fX8_touch_16 rfl rfl rfl rfl rfl (Nat.le_of_ble_eq_true rfl) (s_X8_isIn X e 0 1 μ4 (by first | omega | assumption) (by first | omega | assumption) (by first | omega | assumption)) ?_
    have hf2 := am_b_r (0 ≤ e ∧ e ≤ 1)
    refine w_if_eq (tgt := 26) dX8_touch_19 rfl (R32.in (by have := am_b_r ((0 ≤ e ∧ e ≤ 1)); omega)) (fun c19 => ?_) (fun c19 => ?_)
    · skip
      replace c19 := am_b0 c19
      refine w_iconst dX8_touch_26 ?_
      exact w_iretI dX8_touch_27 rfl ⟨hF_μ4, (by exact ifF (by omega) rfl), hJ4, (fun k h1 => (hff4 k (by omega)))⟩
    · skip
      replace c19 := am_b1 c19
      refine w_iload_n dX8_touch_22 rfl rfl ?_
      refine w_if_ge (tgt := 28) dX8_touch_23 rfl (R32.in (by omega)) (fun c23 => ?_) (fun c23 => ?_)
      · skip
        refine w_aload_n dX8_touch_28 rfl rfl (by first | decide | omega) ?_
        refine w_getR (o := 45) (x := 54) fX8_touch_29 rfl rfl rfl rfl ?_
        refine w_iload_n dX8_touch_32 rfl rfl ?_
        refine w_ialdx (o := 54) (n := 33) (x := μ (p + 9) g) dX8_touch_33 rfl rfl (Nat.le_of_ble_eq_true rfl) (by omega) ((congrFun (hF_μ4.at (by omega) (by omega)) _).trans (hJ.gf (by omega))) ?_
        have hr3 := PG.fl hG (g := g) (by omega)
        refine w_iload_n dX8_touch_34 rfl rfl ?_
        have hJ35_1 : ∀ z1_0 : Int, z1_0 = (if ¬ e = 0 then (μ (p + 10) g) - 1 else 0) → Wp (GG X) M_X8_touch 50 [(2, 45), (0, g), (0, e), (0, k), (9, 0), (9, 0), (9, 0)] [(0, z1_0), (0, μ (p + 9) g)] μ4 (qI 0 fun z μ' => (Fr 45 45 57 61 μ' μ) ∧ (z = if (0 ≤ g ∧ g < μ p 14) ∧ (0 ≤ e ∧ e ≤ 1) ∧ 0 ≤ k ∧ k < dB (ddt μ p (p + 5) (μ p 3) g) (if e = 0 then 0 else dN (ddt μ p (p + 5) (μ p 3) g) - 1) then tchA (ddt μ p (p + 5) (μ p 3) g) e k else -1) ∧ (RJ μ' p) ∧ (∀ k : Int, (¬ k = 0 ∧ ¬ (21 ≤ k ∧ k ≤ 24) ∧ ¬ (29 ≤ k ∧ k ≤ 33)) → μ' 45 k = μ 45 k)) := by
          intro z1_0 hz1_0
          have hdn : dN (ddt μ p (p + 5) (μ p 3) g) = μ (p + 10) g := rfl
          have hz1d : z1_0 = if e = 0 then 0 else dN (ddt μ p (p + 5) (μ p 3) g) - 1 := by omega
          have hfl := hG.fl (g := g) (by omega)
          have hdb := dB_k (kn := μ p 3) hC (g := g) (j := z1_0) (by omega) (by omega)
          have hbk := bok_f (μ (p + 3) (μ (p + 9) g + z1_0))
          refine w_iadd dX8_touch_50 ?_
          refine w_istore (ls' := [(2, 45), (0, g), (0, e), (0, k), (0, (μ (p + 9) g) + z1_0), (9, 0), (9, 0)]) dX8_touch_51 (Nat.le_of_ble_eq_true rfl) rfl rfl ?_
          refine w_iload_n dX8_touch_53 rfl rfl ?_
          refine w_aload_n dX8_touch_54 rfl rfl (by first | decide | omega) ?_
          refine w_getR (o := 45) (x := 48) fX8_touch_55 rfl rfl rfl rfl ?_
          refine w_iload dX8_touch_58 rfl ?_
          refine w_ialdx (o := 48) (n := 64) (x := bok (μ (p + 3) ((μ (p + 9) g) + z1_0))) dX8_touch_60 rfl rfl (Nat.le_of_ble_eq_true rfl) (by omega) ((congrFun (hF_μ4.at (by omega) (by omega)) _).trans (hJ.kd (by omega))) ?_
          have hr4 := bok_f (μ (p + 3) ((μ (p + 9) g) + z1_0))
          refine w_callSP (as := [(0, bok (μ (p + 3) ((μ (p + 9) g) + z1_0)))]) (rest := [(0, k)]) (k := 0) fX8_touch_61 rfl rfl rfl rfl rfl (Nat.le_of_ble_eq_true rfl) (s_X8_beamsOf X (bok (μ (p + 3) ((μ (p + 9) g) + z1_0))) μ4) ?_
          refine w_icmp_lt (tgt := 69) dX8_touch_64 rfl (R32.in (by omega)) (R32.in (by omega)) (fun c64 => ?_) (fun c64 => ?_)
          · skip
            refine w_aload_n dX8_touch_69 rfl rfl (by first | decide | omega) ?_
            refine w_iload_n dX8_touch_70 rfl rfl ?_
            refine w_callVV (o := 45) (ci := 8) (as := [(0, g)]) (rest := []) (k := 2) fX8_touch_71 rfl rfl rfl rfl rfl rfl rfl rfl (Nat.le_of_ble_eq_true rfl) (s_X8_laysSets X (ddt μ p (p + 5) (μ p 3) g) (μ (p + 9) g) g μ4 (hA4.gp (by omega))) (fun μS hμS => ?_)
            obtain ⟨hFS, hS_S, hf_S⟩ := hμS
            have hok := hS_S.ok
            have hcc := hS_S.c
            refine w_aload_n dX8_touch_74 rfl rfl (by first | decide | omega) ?_
            refine w_callVP (o := 45) (ci := 8) (as := []) (rest := []) (k := 2) fX8_touch_75 rfl rfl rfl rfl rfl rfl rfl rfl (Nat.le_of_ble_eq_true rfl) (s_X8_bestSet X (ddt μ p (p + 5) (μ p 3) g) (μ (p + 9) g) μS hS_S) ?_
            have hf6 := bstI_r (ddt μ p (p + 5) (μ p 3) g) (nS (ddt μ p (p + 5) (μ p 3) g)) (nS_0 (ddt μ p (p + 5) (μ p 3) g))
            refine w_istore (ls' := [(2, 45), (0, g), (0, e), (0, k), (0, (μ (p + 9) g) + z1_0), (0, bstI (ddt μ p (p + 5) (μ p 3) g) (nS (ddt μ p (p + 5) (μ p 3) g))), (9, 0)]) dX8_touch_78 (Nat.le_of_ble_eq_true rfl) rfl rfl ?_
            refine w_iload dX8_touch_80 rfl ?_
            refine w_iconst dX8_touch_82 ?_
            refine w_icmp_ne (tgt := 89) dX8_touch_83 rfl (R32.in (by omega)) (R32.in (by decide)) (fun c83 => ?_) (fun c83 => ?_)
            · skip
              have hbb := bst_lr hok c83
              have hqr := sq_r hok hbb.1
              refine w_aload_n dX8_touch_89 rfl rfl (by first | decide | omega) ?_
              refine w_iload dX8_touch_90 rfl ?_
              refine w_iload_n dX8_touch_92 rfl rfl ?_
              have hJ93_2 : ∀ z2_0 : Int, z2_0 = (if ¬ e = 0 then (sq (ddt μ p (p + 5) (μ p 3) g) (bstI (ddt μ p (p + 5) (μ p 3) g) (nS (ddt μ p (p + 5) (μ p 3) g)))).2 else (sq (ddt μ p (p + 5) (μ p 3) g) (bstI (ddt μ p (p + 5) (μ p 3) g) (nS (ddt μ p (p + 5) (μ p 3) g)))).1) → Wp (GG X) M_X8_touch 113 [(2, 45), (0, g), (0, e), (0, k), (0, (μ (p + 9) g) + z1_0), (0, bstI (ddt μ p (p + 5) (μ p 3) g) (nS (ddt μ p (p + 5) (μ p 3) g))), (9, 0)] [(0, z2_0), (0, (μ (p + 9) g) + z1_0), (2, 45)] μS (qI 0 fun z μ' => (Fr 45 45 57 61 μ' μ) ∧ (z = if (0 ≤ g ∧ g < μ p 14) ∧ (0 ≤ e ∧ e ≤ 1) ∧ 0 ≤ k ∧ k < dB (ddt μ p (p + 5) (μ p 3) g) (if e = 0 then 0 else dN (ddt μ p (p + 5) (μ p 3) g) - 1) then tchA (ddt μ p (p + 5) (μ p 3) g) e k else -1) ∧ (RJ μ' p) ∧ (∀ k : Int, (¬ k = 0 ∧ ¬ (21 ≤ k ∧ k ≤ 24) ∧ ¬ (29 ≤ k ∧ k ≤ 33)) → μ' 45 k = μ 45 k)) := by
                intro z2_0 hz2_0
                have hz2d : z2_0 = if e = 0 then bL (ddt μ p (p + 5) (μ p 3) g) else bR (ddt μ p (p + 5) (μ p 3) g) := by rw [← hbb.2.2.1, ← hbb.2.2.2.1]; omega
                refine w_iload_n dX8_touch_113 rfl rfl ?_
                refine w_callVP (o := 45) (ci := 8) (as := [(0, (μ (p + 9) g) + z1_0), (0, z2_0), (0, k)]) (rest := []) (k := 0) fX8_touch_114 rfl rfl rfl rfl rfl rfl rfl rfl (Nat.le_of_ble_eq_true rfl) (s_X8_beamAt X (ddt μ p (p + 5) (μ p 3) g) (μ (p + 9) g) z1_0 z2_0 k μS hS_S.1 (by first | omega | assumption) (by first | omega | assumption) (by first | omega | assumption)) ?_
                have hwk := wk3_r (ddt μ p (p + 5) (μ p 3) g) z1_0 k (by omega)
                refine w_callSP (as := [(0, z2_0 - way (ddt μ p (p + 5) (μ p 3) g) z1_0 * 3 * k)]) (rest := []) (k := 0) fX8_touch_117 rfl rfl rfl rfl rfl (Nat.le_of_ble_eq_true rfl) (s_X8_touchAt X (z2_0 - way (ddt μ p (p + 5) (μ p 3) g) z1_0 * 3 * k) μS (by first | omega | assumption)) ?_
                have hf7 := tat_f (z2_0 - way (ddt μ p (p + 5) (μ p 3) g) z1_0 * 3 * k)
                refine w_istore (ls' := [(2, 45), (0, g), (0, e), (0, k), (0, (μ (p + 9) g) + z1_0), (0, bstI (ddt μ p (p + 5) (μ p 3) g) (nS (ddt μ p (p + 5) (μ p 3) g))), (0, tat (z2_0 - way (ddt μ p (p + 5) (μ p 3) g) z1_0 * 3 * k))]) dX8_touch_120 (Nat.le_of_ble_eq_true rfl) rfl rfl ?_
                refine w_iload dX8_touch_122 rfl ?_
                refine w_iconst dX8_touch_124 ?_
                refine w_icmp_ne (tgt := 133) dX8_touch_125 rfl (R32.in (by omega)) (R32.in (by decide)) (fun c125 => ?_) (fun c125 => ?_)
                · skip
                  refine w_iload dX8_touch_133 rfl ?_
                  exact w_iretI dX8_touch_135 rfl ⟨((hFS.wd (by omega) (by omega)).tr hF_μ4), (by exact ifT (by rw [← hz1d, hdb]; omega) (tchA_r hbb.2.1 hz1d hz2d (by first | rw [if_pos c125] | rw [if_neg c125]))), (RJ.cg2 hJ4 (fun o h1 => (hFS.at (by omega) (by omega))) (fun k h1 => (hf_S _ (by omega)))), (fun k h1 => ((hf_S k (by omega)).trans (hff4 k (by omega))))⟩
                · skip
                  refine w_bipush dX8_touch_128 (by decide) ?_
                  refine w_goto (tgt := 135) dX8_touch_130 rfl ?_
                  exact w_iretI dX8_touch_135 rfl ⟨((hFS.wd (by omega) (by omega)).tr hF_μ4), (by exact ifT (by rw [← hz1d, hdb]; omega) (tchA_r hbb.2.1 hz1d hz2d (by first | rw [if_pos c125] | rw [if_neg c125]))), (RJ.cg2 hJ4 (fun o h1 => (hFS.at (by omega) (by omega))) (fun k h1 => (hf_S _ (by omega)))), (fun k h1 => ((hf_S k (by omega)).trans (hff4 k (by omega))))⟩
              refine w_if_ne (tgt := 106) dX8_touch_93 rfl (R32.in (by omega)) (fun c93 => ?_) (fun c93 => ?_)
              · skip
                refine w_aload_n dX8_touch_106 rfl rfl (by first | decide | omega) ?_
                refine w_getR (o := 45) (x := 59) fX8_touch_107 rfl rfl rfl rfl ?_
                refine w_iload dX8_touch_110 rfl ?_
                refine w_ialdx (o := 59) (n := 2100) (x := (sq (ddt μ p (p + 5) (μ p 3) g) (bstI (ddt μ p (p + 5) (μ p 3) g) (nS (ddt μ p (p + 5) (μ p 3) g)))).2) dX8_touch_112 rfl rfl (Nat.le_of_ble_eq_true rfl) (by omega) (hS_S.2.2.2.1 _ (by omega) (by omega)) ?_
                have hr8 := (sq_r (hS_S.ok) (j := (bstI (ddt μ p (p + 5) (μ p 3) g) (nS (ddt μ p (p + 5) (μ p 3) g)))) (by omega)).2
                exact hJ93_2 _ (by first | omega | simp [*])
              · skip
                refine w_aload_n dX8_touch_96 rfl rfl (by first | decide | omega) ?_
                refine w_getR (o := 45) (x := 58) fX8_touch_97 rfl rfl rfl rfl ?_
                refine w_iload dX8_touch_100 rfl ?_
                refine w_ialdx (o := 58) (n := 2100) (x := (sq (ddt μ p (p + 5) (μ p 3) g) (bstI (ddt μ p (p + 5) (μ p 3) g) (nS (ddt μ p (p + 5) (μ p 3) g)))).1) dX8_touch_102 rfl rfl (Nat.le_of_ble_eq_true rfl) (by omega) (hS_S.2.2.1 _ (by omega) (by omega)) ?_
                have hr9 := (sq_r (hS_S.ok) (j := (bstI (ddt μ p (p + 5) (μ p 3) g) (nS (ddt μ p (p + 5) (μ p 3) g)))) (by omega)).1
                refine w_goto (tgt := 113) dX8_touch_103 rfl ?_
                exact hJ93_2 _ (by first | omega | simp [*])
            · skip
              refine w_bipush dX8_touch_86 (by decide) ?_
              exact w_iretI dX8_touch_88 rfl ⟨((hFS.wd (by omega) (by omega)).tr hF_μ4), (by exact ifT (by rw [← hz1d, hdb]; omega) (by unfold tchA; rw [if_pos (bst_no hok c83)])), (RJ.cg2 hJ4 (fun o h1 => (hFS.at (by omega) (by omega))) (fun k h1 => (hf_S _ (by omega)))), (fun k h1 => ((hf_S k (by omega)).trans (hff4 k (by omega))))⟩
          · skip
            refine w_iconst dX8_touch_67 ?_
            exact w_iretI dX8_touch_68 rfl ⟨hF_μ4, (by exact ifF (by rw [← hz1d, hdb]; omega) rfl), hJ4, (fun k h1 => (hff4 k (by omega)))⟩
        refine w_if_ne (tgt := 42) dX8_touch_35 rfl (R32.in (by omega)) (fun c35 => ?_) (fun c35 => ?_)
        · skip
          refine w_aload_n dX8_touch_42 rfl rfl (by first | decide | omega) ?_
          refine w_getR (o := 45) (x := 55) fX8_touch_43 rfl rfl rfl rfl ?_
          refine w_iload_n dX8_touch_46 rfl rfl ?_
          refine w_ialdx (o := 55) (n := 33) (x := μ (p + 10) g) dX8_touch_47 rfl rfl (Nat.le_of_ble_eq_true rfl) (by omega) ((congrFun (hF_μ4.at (by omega) (by omega)) _).trans (hJ.gm (by omega))) ?_
          refine w_iconst dX8_touch_48 ?_
          refine w_isub dX8_touch_49 ?_
          exact hJ35_1 _ (by first | omega | simp [*])
        · skip
          refine w_iconst dX8_touch_38 ?_
          refine w_goto (tgt := 50) dX8_touch_39 rfl ?_
          exact hJ35_1 _ (by first | omega | simp [*])
      · skip
        refine w_iconst dX8_touch_26 ?_
        exact w_iretI dX8_touch_27 rfl ⟨hF_μ4, (by exact ifF (by omega) rfl), hJ4, (fun k h1 => (hff4 k (by omega)))⟩
