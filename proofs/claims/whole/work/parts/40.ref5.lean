set_option maxRecDepth 100000 in
set_option maxHeartbeats 4000000 in
theorem s_X8_steep (X : AX) (D : GDt) (f : Int) (i : Int) (μ : Mu) (hG : RS D f μ) (hi : 0 ≤ i ∧ i < nS D) : Wp (GG X) M_X8_steep 0 [(2, 45), (0, i)] [] μ (pP 0 (ab ((sq D i).2 - (sq D i).1)) μ) := by
  have hok := hG.ok
  have hn := hok.n
  have hfr := hG.r
  have hc := hG.c
  refine w_aload_n dX8_steep_0 rfl rfl (by first | decide | omega) ?_
  refine w_getR (o := 45) (x := 59) fX8_steep_1 rfl rfl rfl rfl ?_
  refine w_iload_n dX8_steep_4 rfl rfl ?_
  refine w_ialdx (o := 59) (n := 2100) (x := (sq D i).2) dX8_steep_5 rfl rfl (Nat.le_of_ble_eq_true rfl) (by omega) (hG.2.2.2.1 _ (by omega) (by omega)) ?_
  have hr1 := (sq_r (hG.ok) (j := i) (by omega)).2
  refine w_aload_n dX8_steep_6 rfl rfl (by first | decide | omega) ?_
  refine w_getR (o := 45) (x := 58) fX8_steep_7 rfl rfl rfl rfl ?_
  refine w_iload_n dX8_steep_10 rfl rfl ?_
  refine w_ialdx (o := 58) (n := 2100) (x := (sq D i).1) dX8_steep_11 rfl rfl (Nat.le_of_ble_eq_true rfl) (by omega) (hG.2.2.1 _ (by omega) (by omega)) ?_
  have hr2 := (sq_r (hG.ok) (j := i) (by omega)).1
  refine w_isub dX8_steep_12 ?_
  refine w_callSP (as := [(0, ((sq D i).2) - ((sq D i).1))]) (rest := []) (k := 0) fX8_steep_13 rfl rfl rfl rfl rfl (Nat.le_of_ble_eq_true rfl) (s_X8_far X (((sq D i).2) - ((sq D i).1)) μ (by first | omega | assumption)) ?_
  have hf3 := ab_f (((sq D i).2) - ((sq D i).1))
  exact w_iretP dX8_steep_16 rfl (by rfl)

set_option maxRecDepth 100000 in
set_option maxHeartbeats 4000000 in
theorem s_X8_isBefore (X : AX) (D : GDt) (f : Int) (i : Int) (j : Int) (μ : Mu) (hG : RS D f μ) (hi : 0 ≤ i ∧ i < nS D) (hj : 0 ≤ j ∧ j < nS D) : Wp (GG X) M_X8_isBefore 0 [(2, 45), (0, i), (0, j), (9, 0)] [] μ (pP 0 (am_b (keyq D (sq D i) < keyq D (sq D j))) μ) := by
  have hok := hG.ok
  have hn := hok.n
  have hfr := hG.r
  have hc := hG.c
  have hmi := am_mul_b (A := 1) (B := 60) (way_b D 0) (sq_r hok hi).1; have hni := am_mul_b (A := 1) (B := 60) (way_b D 0) (sq_r hok hi).2.1
  have hmj := am_mul_b (A := 1) (B := 60) (way_b D 0) (sq_r hok hj).1; have hnj := am_mul_b (A := 1) (B := 60) (way_b D 0) (sq_r hok hj).2.1
  refine w_aload_n dX8_isBefore_0 rfl rfl (by first | decide | omega) ?_
  refine w_getR (o := 45) (x := 60) fX8_isBefore_1 rfl rfl rfl rfl ?_
  refine w_iload_n dX8_isBefore_4 rfl rfl ?_
  refine w_ialdx (o := 60) (n := 2100) (x := squ D i) dX8_isBefore_5 rfl rfl (Nat.le_of_ble_eq_true rfl) (by omega) (hG.2.2.2.2.1 _ (by omega) (by omega)) ?_
  have hr1 := (squ_r (hG.ok) (j := i) (by omega))
  refine w_aload_n dX8_isBefore_6 rfl rfl (by first | decide | omega) ?_
  refine w_getR (o := 45) (x := 60) fX8_isBefore_7 rfl rfl rfl rfl ?_
  refine w_iload_n dX8_isBefore_10 rfl rfl ?_
  refine w_ialdx (o := 60) (n := 2100) (x := squ D j) dX8_isBefore_11 rfl rfl (Nat.le_of_ble_eq_true rfl) (by omega) (hG.2.2.2.2.1 _ (by omega) (by omega)) ?_
  have hr2 := (squ_r (hG.ok) (j := j) (by omega))
  refine w_icmp_eq (tgt := 36) dX8_isBefore_12 rfl (R32.in (by omega)) (R32.in (by omega)) (fun c12 => ?_) (fun c12 => ?_)
  · skip
    refine w_aload_n dX8_isBefore_36 rfl rfl (by first | decide | omega) ?_
    refine w_iload_n dX8_isBefore_37 rfl rfl ?_
    refine w_callVP (o := 45) (ci := 8) (as := [(0, i)]) (rest := []) (k := 0) fX8_isBefore_38 rfl rfl rfl rfl rfl rfl rfl rfl (Nat.le_of_ble_eq_true rfl) (s_X8_steep X D f i μ hG (by first | omega | assumption)) ?_
    have hf3 := ab_f ((sq D i).2 - (sq D i).1)
    have hf4 := (sq_r (j := i) (by assumption) (by omega)).2.2
    refine w_aload_n dX8_isBefore_41 rfl rfl (by first | decide | omega) ?_
    refine w_iload_n dX8_isBefore_42 rfl rfl ?_
    refine w_callVP (o := 45) (ci := 8) (as := [(0, j)]) (rest := [(0, ab ((sq D i).2 - (sq D i).1))]) (k := 0) fX8_isBefore_43 rfl rfl rfl rfl rfl rfl rfl rfl (Nat.le_of_ble_eq_true rfl) (s_X8_steep X D f j μ hG (by first | omega | assumption)) ?_
    have hf5 := ab_f ((sq D j).2 - (sq D j).1)
    have hf6 := (sq_r (j := j) (by assumption) (by omega)).2.2
    refine w_icmp_eq (tgt := 68) dX8_isBefore_46 rfl (R32.in (by omega)) (R32.in (by omega)) (fun c46 => ?_) (fun c46 => ?_)
    · skip
      refine w_aload_n dX8_isBefore_68 rfl rfl (by first | decide | omega) ?_
      refine w_getR (o := 45) (x := 61) fX8_isBefore_69 rfl rfl rfl rfl ?_
      refine w_iload_n dX8_isBefore_72 rfl rfl ?_
      refine w_ialdx (o := 61) (n := 2100) (x := sqn D i) dX8_isBefore_73 rfl rfl (Nat.le_of_ble_eq_true rfl) (by omega) (hG.2.2.2.2.2 _ (by omega) (by omega)) ?_
      have hr7 := (sqn_r (hG.ok) (j := i) (by omega))
      refine w_aload_n dX8_isBefore_74 rfl rfl (by first | decide | omega) ?_
      refine w_getR (o := 45) (x := 61) fX8_isBefore_75 rfl rfl rfl rfl ?_
      refine w_iload_n dX8_isBefore_78 rfl rfl ?_
      refine w_ialdx (o := 61) (n := 2100) (x := sqn D j) dX8_isBefore_79 rfl rfl (Nat.le_of_ble_eq_true rfl) (by omega) (hG.2.2.2.2.2 _ (by omega) (by omega)) ?_
      have hr8 := (sqn_r (hG.ok) (j := j) (by omega))
      refine w_icmp_eq (tgt := 104) dX8_isBefore_80 rfl (R32.in (by omega)) (R32.in (by omega)) (fun c80 => ?_) (fun c80 => ?_)
      · skip
        refine w_aload_n dX8_isBefore_104 rfl rfl (by first | decide | omega) ?_
        refine w_getR (o := 45) (x := 57) fX8_isBefore_105 rfl rfl rfl rfl ?_
        refine w_aload_n dX8_isBefore_108 rfl rfl (by first | decide | omega) ?_
        refine w_getIx (o := 45) (f := 22) (x := f) fX8_isBefore_109 rfl rfl (Nat.le_of_ble_eq_true rfl) rfl hG.1.fi ?_
        refine w_ialdx (o := 57) (n := 64) (x := way D 0) dX8_isBefore_112 rfl rfl (Nat.le_of_ble_eq_true rfl) (by omega) (hG.1.rw.w0 (by omega)) ?_
        have hr9 := way_b D 0
        refine w_istore_n (ls' := [(2, 45), (0, i), (0, j), (0, way D 0)]) dX8_isBefore_113 rfl (Nat.le_of_ble_eq_true rfl) rfl rfl ?_
        refine w_aload_n dX8_isBefore_114 rfl rfl (by first | decide | omega) ?_
        refine w_getR (o := 45) (x := 58) fX8_isBefore_115 rfl rfl rfl rfl ?_
        refine w_iload_n dX8_isBefore_118 rfl rfl ?_
        refine w_ialdx (o := 58) (n := 2100) (x := (sq D i).1) dX8_isBefore_119 rfl rfl (Nat.le_of_ble_eq_true rfl) (by omega) (hG.2.2.1 _ (by omega) (by omega)) ?_
        have hr10 := (sq_r (hG.ok) (j := i) (by omega)).1
        refine w_aload_n dX8_isBefore_120 rfl rfl (by first | decide | omega) ?_
        refine w_getR (o := 45) (x := 58) fX8_isBefore_121 rfl rfl rfl rfl ?_
        refine w_iload_n dX8_isBefore_124 rfl rfl ?_
        refine w_ialdx (o := 58) (n := 2100) (x := (sq D j).1) dX8_isBefore_125 rfl rfl (Nat.le_of_ble_eq_true rfl) (by omega) (hG.2.2.1 _ (by omega) (by omega)) ?_
        have hr11 := (sq_r (hG.ok) (j := j) (by omega)).1
        refine w_icmp_eq (tgt := 154) dX8_isBefore_126 rfl (R32.in (by omega)) (R32.in (by omega)) (fun c126 => ?_) (fun c126 => ?_)
        · skip
          refine w_iload_n dX8_isBefore_154 rfl rfl ?_
          refine w_aload_n dX8_isBefore_155 rfl rfl (by first | decide | omega) ?_
          refine w_getR (o := 45) (x := 59) fX8_isBefore_156 rfl rfl rfl rfl ?_
          refine w_iload_n dX8_isBefore_159 rfl rfl ?_
          refine w_ialdx (o := 59) (n := 2100) (x := (sq D i).2) dX8_isBefore_160 rfl rfl (Nat.le_of_ble_eq_true rfl) (by omega) (hG.2.2.2.1 _ (by omega) (by omega)) ?_
          have hr12 := (sq_r (hG.ok) (j := i) (by omega)).2
          refine w_imul dX8_isBefore_161 ?_
          refine w_iload_n dX8_isBefore_162 rfl rfl ?_
          refine w_aload_n dX8_isBefore_163 rfl rfl (by first | decide | omega) ?_
          refine w_getR (o := 45) (x := 59) fX8_isBefore_164 rfl rfl rfl rfl ?_
          refine w_iload_n dX8_isBefore_167 rfl rfl ?_
          refine w_ialdx (o := 59) (n := 2100) (x := (sq D j).2) dX8_isBefore_168 rfl rfl (Nat.le_of_ble_eq_true rfl) (by omega) (hG.2.2.2.1 _ (by omega) (by omega)) ?_
          have hr13 := (sq_r (hG.ok) (j := j) (by omega)).2
          refine w_imul dX8_isBefore_169 ?_
          refine w_icmp_ge (tgt := 177) dX8_isBefore_170 rfl (R32.in (by omega)) (R32.in (by omega)) (fun c170 => ?_) (fun c170 => ?_)
          · skip
            refine w_iconst dX8_isBefore_177 ?_
            exact w_zretP dX8_isBefore_178 rfl (Or.inl rfl) (by first | exact am_b_t (by rw [key_lex hok hi hj]; repeat' split <;> omega) | exact am_b_f (by rw [key_lex hok hi hj]; repeat' split <;> omega))
          · skip
            refine w_iconst dX8_isBefore_173 ?_
            refine w_goto (tgt := 178) dX8_isBefore_174 rfl ?_
            exact w_zretP dX8_isBefore_178 rfl (Or.inr rfl) (by first | exact am_b_t (by rw [key_lex hok hi hj]; repeat' split <;> omega) | exact am_b_f (by rw [key_lex hok hi hj]; repeat' split <;> omega))
        · skip
          refine w_iload_n dX8_isBefore_129 rfl rfl ?_
          refine w_aload_n dX8_isBefore_130 rfl rfl (by first | decide | omega) ?_
          refine w_getR (o := 45) (x := 58) fX8_isBefore_131 rfl rfl rfl rfl ?_
          refine w_iload_n dX8_isBefore_134 rfl rfl ?_
          refine w_ialdx (o := 58) (n := 2100) (x := (sq D i).1) dX8_isBefore_135 rfl rfl (Nat.le_of_ble_eq_true rfl) (by omega) (hG.2.2.1 _ (by omega) (by omega)) ?_
          refine w_imul dX8_isBefore_136 ?_
          refine w_iload_n dX8_isBefore_137 rfl rfl ?_
          refine w_aload_n dX8_isBefore_138 rfl rfl (by first | decide | omega) ?_
          refine w_getR (o := 45) (x := 58) fX8_isBefore_139 rfl rfl rfl rfl ?_
          refine w_iload_n dX8_isBefore_142 rfl rfl ?_
          refine w_ialdx (o := 58) (n := 2100) (x := (sq D j).1) dX8_isBefore_143 rfl rfl (Nat.le_of_ble_eq_true rfl) (by omega) (hG.2.2.1 _ (by omega) (by omega)) ?_
          refine w_imul dX8_isBefore_144 ?_
          refine w_icmp_ge (tgt := 152) dX8_isBefore_145 rfl (R32.in (by omega)) (R32.in (by omega)) (fun c145 => ?_) (fun c145 => ?_)
          · skip
            refine w_iconst dX8_isBefore_152 ?_
            exact w_zretP dX8_isBefore_153 rfl (Or.inl rfl) (by first | exact am_b_t (by rw [key_lex hok hi hj]; repeat' split <;> omega) | exact am_b_f (by rw [key_lex hok hi hj]; repeat' split <;> omega))
          · skip
            refine w_iconst dX8_isBefore_148 ?_
            refine w_goto (tgt := 153) dX8_isBefore_149 rfl ?_
            exact w_zretP dX8_isBefore_153 rfl (Or.inr rfl) (by first | exact am_b_t (by rw [key_lex hok hi hj]; repeat' split <;> omega) | exact am_b_f (by rw [key_lex hok hi hj]; repeat' split <;> omega))
      · skip
        refine w_aload_n dX8_isBefore_83 rfl rfl (by first | decide | omega) ?_
        refine w_getR (o := 45) (x := 61) fX8_isBefore_84 rfl rfl rfl rfl ?_
        refine w_iload_n dX8_isBefore_87 rfl rfl ?_
        refine w_ialdx (o := 61) (n := 2100) (x := sqn D i) dX8_isBefore_88 rfl rfl (Nat.le_of_ble_eq_true rfl) (by omega) (hG.2.2.2.2.2 _ (by omega) (by omega)) ?_
        refine w_aload_n dX8_isBefore_89 rfl rfl (by first | decide | omega) ?_
        refine w_getR (o := 45) (x := 61) fX8_isBefore_90 rfl rfl rfl rfl ?_
        refine w_iload_n dX8_isBefore_93 rfl rfl ?_
        refine w_ialdx (o := 61) (n := 2100) (x := sqn D j) dX8_isBefore_94 rfl rfl (Nat.le_of_ble_eq_true rfl) (by omega) (hG.2.2.2.2.2 _ (by omega) (by omega)) ?_
        refine w_icmp_ge (tgt := 102) dX8_isBefore_95 rfl (R32.in (by omega)) (R32.in (by omega)) (fun c95 => ?_) (fun c95 => ?_)
        · skip
          refine w_iconst dX8_isBefore_102 ?_
          exact w_zretP dX8_isBefore_103 rfl (Or.inl rfl) (by first | exact am_b_t (by rw [key_lex hok hi hj]; repeat' split <;> omega) | exact am_b_f (by rw [key_lex hok hi hj]; repeat' split <;> omega))
        · skip
          refine w_iconst dX8_isBefore_98 ?_
          refine w_goto (tgt := 103) dX8_isBefore_99 rfl ?_
          exact w_zretP dX8_isBefore_103 rfl (Or.inr rfl) (by first | exact am_b_t (by rw [key_lex hok hi hj]; repeat' split <;> omega) | exact am_b_f (by rw [key_lex hok hi hj]; repeat' split <;> omega))
    · skip
      refine w_aload_n dX8_isBefore_49 rfl rfl (by first | decide | omega) ?_
      refine w_iload_n dX8_isBefore_50 rfl rfl ?_
      refine w_callVP (o := 45) (ci := 8) (as := [(0, i)]) (rest := []) (k := 0) fX8_isBefore_51 rfl rfl rfl rfl rfl rfl rfl rfl (Nat.le_of_ble_eq_true rfl) (s_X8_steep X D f i μ hG (by first | omega | assumption)) ?_
      have hf14 := ab_f ((sq D i).2 - (sq D i).1)
      have hf15 := (sq_r (j := i) (by assumption) (by omega)).2.2
      refine w_aload_n dX8_isBefore_54 rfl rfl (by first | decide | omega) ?_
      refine w_iload_n dX8_isBefore_55 rfl rfl ?_
      refine w_callVP (o := 45) (ci := 8) (as := [(0, j)]) (rest := [(0, ab ((sq D i).2 - (sq D i).1))]) (k := 0) fX8_isBefore_56 rfl rfl rfl rfl rfl rfl rfl rfl (Nat.le_of_ble_eq_true rfl) (s_X8_steep X D f j μ hG (by first | omega | assumption)) ?_
      have hf16 := ab_f ((sq D j).2 - (sq D j).1)
      have hf17 := (sq_r (j := j) (by assumption) (by omega)).2.2
      refine w_icmp_ge (tgt := 66) dX8_isBefore_59 rfl (R32.in (by omega)) (R32.in (by omega)) (fun c59 => ?_) (fun c59 => ?_)
      · skip
        refine w_iconst dX8_isBefore_66 ?_
        exact w_zretP dX8_isBefore_67 rfl (Or.inl rfl) (by first | exact am_b_t (by rw [key_lex hok hi hj]; repeat' split <;> omega) | exact am_b_f (by rw [key_lex hok hi hj]; repeat' split <;> omega))
      · skip
        refine w_iconst dX8_isBefore_62 ?_
        refine w_goto (tgt := 67) dX8_isBefore_63 rfl ?_
        exact w_zretP dX8_isBefore_67 rfl (Or.inr rfl) (by first | exact am_b_t (by rw [key_lex hok hi hj]; repeat' split <;> omega) | exact am_b_f (by rw [key_lex hok hi hj]; repeat' split <;> omega))
  · skip
    refine w_aload_n dX8_isBefore_15 rfl rfl (by first | decide | omega) ?_
    refine w_getR (o := 45) (x := 60) fX8_isBefore_16 rfl rfl rfl rfl ?_
    refine w_iload_n dX8_isBefore_19 rfl rfl ?_
    refine w_ialdx (o := 60) (n := 2100) (x := squ D i) dX8_isBefore_20 rfl rfl (Nat.le_of_ble_eq_true rfl) (by omega) (hG.2.2.2.2.1 _ (by omega) (by omega)) ?_
    refine w_aload_n dX8_isBefore_21 rfl rfl (by first | decide | omega) ?_
    refine w_getR (o := 45) (x := 60) fX8_isBefore_22 rfl rfl rfl rfl ?_
    refine w_iload_n dX8_isBefore_25 rfl rfl ?_
    refine w_ialdx (o := 60) (n := 2100) (x := squ D j) dX8_isBefore_26 rfl rfl (Nat.le_of_ble_eq_true rfl) (by omega) (hG.2.2.2.2.1 _ (by omega) (by omega)) ?_
    refine w_icmp_ge (tgt := 34) dX8_isBefore_27 rfl (R32.in (by omega)) (R32.in (by omega)) (fun c27 => ?_) (fun c27 => ?_)
    · skip
      refine w_iconst dX8_isBefore_34 ?_
      exact w_zretP dX8_isBefore_35 rfl (Or.inl rfl) (by first | exact am_b_t (by rw [key_lex hok hi hj]; repeat' split <;> omega) | exact am_b_f (by rw [key_lex hok hi hj]; repeat' split <;> omega))
    · skip
      refine w_iconst dX8_isBefore_30 ?_
      refine w_goto (tgt := 35) dX8_isBefore_31 rfl ?_
      exact w_zretP dX8_isBefore_35 rfl (Or.inr rfl) (by first | exact am_b_t (by rw [key_lex hok hi hj]; repeat' split <;> omega) | exact am_b_f (by rw [key_lex hok hi hj]; repeat' split <;> omega))

set_option maxRecDepth 100000 in
set_option maxHeartbeats 4000000 in
theorem s_X8_bestSet (X : AX) (D : GDt) (f : Int) (μ : Mu) (hG : RS D f μ) : Wp (GG X) M_X8_bestSet 0 [(2, 45), (9, 0), (9, 0)] [] μ (pP 0 (bstI D (nS D)) μ) := by
  have hok := hG.ok
  have hn := hok.n
  have hfr := hG.r
  have hc := hG.c
  refine w_iconst dX8_bestSet_0 ?_
  refine w_istore_n (ls' := [(2, 45), (0, -1), (9, 0)]) dX8_bestSet_1 rfl (Nat.le_of_ble_eq_true rfl) rfl rfl ?_
  refine w_iconst dX8_bestSet_2 ?_
  refine w_istore_n (ls' := [(2, 45), (0, -1), (0, 0)]) dX8_bestSet_3 rfl (Nat.le_of_ble_eq_true rfl) rfl rfl ?_
  have hL4 : ∀ (n4 : Nat) (b : Int) (i : Int), (nS D - i).toNat = n4 → (0 ≤ i ∧ i ≤ nS D) → (-1 ≤ b ∧ b < i ∨ (i = 0 ∧ b = -1)) → (b = bstI D i) → Wp (GG X) M_X8_bestSet 4 [(2, 45), (0, b), (0, i)] [] μ (pP 0 (bstI D (nS D)) μ) := by
    intro n4
    induction n4 using Nat.strongRecOn with
    | ind n4 ih4 =>
      intro b i hn4 hi0 hbr hb
      refine w_iload_n dX8_bestSet_4 rfl rfl ?_
      refine w_aload_n dX8_bestSet_5 rfl rfl (by first | decide | omega) ?_
      refine w_getIx (o := 45) (f := 29) (x := nS D) fX8_bestSet_6 rfl rfl (Nat.le_of_ble_eq_true rfl) rfl hG.2.1.1 ?_
      have hr1 := hG.c
      refine w_icmp_ge (tgt := 38) dX8_bestSet_9 rfl (R32.in (by omega)) (R32.in (by omega)) (fun c9 => ?_) (fun c9 => ?_)
      · skip
        refine w_iload_n dX8_bestSet_38 rfl rfl ?_
        exact w_iretP dX8_bestSet_39 rfl (by rw [show nS D = i by omega]; exact hb)
      · skip
        refine w_iload_n dX8_bestSet_12 rfl rfl ?_
        refine w_iconst dX8_bestSet_13 ?_
        refine w_icmp_eq (tgt := 26) dX8_bestSet_14 rfl (R32.in (by omega)) (R32.in (by decide)) (fun c14 => ?_) (fun c14 => ?_)
        · skip
          refine w_iload_n dX8_bestSet_26 rfl rfl ?_
          refine w_goto (tgt := 31) dX8_bestSet_27 rfl ?_
          refine w_istore_n (ls' := [(2, 45), (0, i), (0, i)]) dX8_bestSet_31 rfl (Nat.le_of_ble_eq_true rfl) rfl rfl ?_
          refine w_iinc (ls' := [(2, 45), (0, i), (0, i + 1)]) dX8_bestSet_32 rfl (Nat.le_of_ble_eq_true rfl) rfl rfl ?_
          refine w_goto (tgt := 4) dX8_bestSet_35 rfl ?_
          exact ih4 _ (by omega) i (i + 1) rfl (by first | omega | assumption) (by omega) (by rw [bstI_s hi0.1, ← hb]; omega)
        · skip
          refine w_aload_n dX8_bestSet_17 rfl rfl (by first | decide | omega) ?_
          refine w_iload_n dX8_bestSet_18 rfl rfl ?_
          refine w_iload_n dX8_bestSet_19 rfl rfl ?_
          refine w_callVP (o := 45) (ci := 8) (as := [(0, i), (0, b)]) (rest := []) (k := 1) fX8_bestSet_20 rfl rfl rfl rfl rfl rfl rfl rfl (Nat.le_of_ble_eq_true rfl) (s_X8_isBefore X D f i b μ hG (by first | omega | assumption) (by first | omega | assumption)) ?_
          have hf2 := am_b_r (keyq D (sq D i) < keyq D (sq D b))
          refine w_if_eq (tgt := 30) dX8_bestSet_23 rfl (R32.in (by have := am_b_r ((keyq D (sq D i) < keyq D (sq D b))); omega)) (fun c23 => ?_) (fun c23 => ?_)
          · skip
            replace c23 := am_b0 c23
            refine w_iload_n dX8_bestSet_30 rfl rfl ?_
            refine w_istore_n (ls' := [(2, 45), (0, b), (0, i)]) dX8_bestSet_31 rfl (Nat.le_of_ble_eq_true rfl) rfl rfl ?_
            refine w_iinc (ls' := [(2, 45), (0, b), (0, i + 1)]) dX8_bestSet_32 rfl (Nat.le_of_ble_eq_true rfl) rfl rfl ?_
            refine w_goto (tgt := 4) dX8_bestSet_35 rfl ?_
            exact ih4 _ (by omega) b (i + 1) rfl (by first | omega | assumption) (by omega) (by rw [bstI_s hi0.1, ← hb]; omega)
          · skip
            replace c23 := am_b1 c23
            refine w_iload_n dX8_bestSet_26 rfl rfl ?_
            refine w_goto (tgt := 31) dX8_bestSet_27 rfl ?_
            refine w_istore_n (ls' := [(2, 45), (0, i), (0, i)]) dX8_bestSet_31 rfl (Nat.le_of_ble_eq_true rfl) rfl rfl ?_
            refine w_iinc (ls' := [(2, 45), (0, i), (0, i + 1)]) dX8_bestSet_32 rfl (Nat.le_of_ble_eq_true rfl) rfl rfl ?_
            refine w_goto (tgt := 4) dX8_bestSet_35 rfl ?_
            exact ih4 _ (by omega) i (i + 1) rfl (by first | omega | assumption) (by omega) (by rw [bstI_s hi0.1, ← hb]; omega)
  exact hL4 _ (-1) 0 rfl (by first | omega | assumption) (by first | omega | assumption) rfl

set_option maxRecDepth 100000 in
set_option maxHeartbeats 4000000 in
theorem s_X8_rankOf (X : AX) (D : GDt) (f : Int) (k : Int) (μ : Mu) (hG : RS D f μ) (hk : 0 ≤ k ∧ k < nS D) : Wp (GG X) M_X8_rankOf 0 [(2, 45), (0, k), (9, 0), (9, 0)] [] μ (pP 0 (rkI D k (nS D)) μ) := by
  have hok := hG.ok
  have hn := hok.n
  have hfr := hG.r
  have hc := hG.c
  refine w_iconst dX8_rankOf_0 ?_
  refine w_istore_n (ls' := [(2, 45), (0, k), (0, 0), (9, 0)]) dX8_rankOf_1 rfl (Nat.le_of_ble_eq_true rfl) rfl rfl ?_
  refine w_iconst dX8_rankOf_2 ?_
  refine w_istore_n (ls' := [(2, 45), (0, k), (0, 0), (0, 0)]) dX8_rankOf_3 rfl (Nat.le_of_ble_eq_true rfl) rfl rfl ?_
  have hL4 : ∀ (n4 : Nat) (b : Int) (i : Int), (nS D - i).toNat = n4 → (0 ≤ i ∧ i ≤ nS D) → (0 ≤ b ∧ b ≤ i) → (b = rkI D k i) → Wp (GG X) M_X8_rankOf 4 [(2, 45), (0, k), (0, b), (0, i)] [] μ (pP 0 (rkI D k (nS D)) μ) := by
    intro n4
    induction n4 using Nat.strongRecOn with
    | ind n4 ih4 =>
      intro b i hn4 hi0 hbr hb
      refine w_iload_n dX8_rankOf_4 rfl rfl ?_
      refine w_aload_n dX8_rankOf_5 rfl rfl (by first | decide | omega) ?_
      refine w_getIx (o := 45) (f := 29) (x := nS D) fX8_rankOf_6 rfl rfl (Nat.le_of_ble_eq_true rfl) rfl hG.2.1.1 ?_
      have hr1 := hG.c
      refine w_icmp_ge (tgt := 40) dX8_rankOf_9 rfl (R32.in (by omega)) (R32.in (by omega)) (fun c9 => ?_) (fun c9 => ?_)
      · skip
        refine w_iload_n dX8_rankOf_40 rfl rfl ?_
        exact w_iretP dX8_rankOf_41 rfl (by rw [show nS D = i by omega]; exact hb)
      · skip
        refine w_iload_n dX8_rankOf_12 rfl rfl ?_
        refine w_iload_n dX8_rankOf_13 rfl rfl ?_
        refine w_iload_n dX8_rankOf_14 rfl rfl ?_
        refine w_icmp_eq (tgt := 31) dX8_rankOf_15 rfl (R32.in (by omega)) (R32.in (by omega)) (fun c15 => ?_) (fun c15 => ?_)
        · skip
          refine w_iconst dX8_rankOf_31 ?_
          refine w_iadd dX8_rankOf_32 ?_
          refine w_istore_n (ls' := [(2, 45), (0, k), (0, b + 0), (0, i)]) dX8_rankOf_33 rfl (Nat.le_of_ble_eq_true rfl) rfl rfl ?_
          refine w_iinc (ls' := [(2, 45), (0, k), (0, b + 0), (0, i + 1)]) dX8_rankOf_34 rfl (Nat.le_of_ble_eq_true rfl) rfl rfl ?_
          refine w_goto (tgt := 4) dX8_rankOf_37 rfl ?_
          exact ih4 _ (by omega) (b + 0) (i + 1) rfl (by first | omega | assumption) (by first | omega | assumption) (by rw [rkI_s hi0.1, ← hb]; omega)
        · skip
          refine w_aload_n dX8_rankOf_18 rfl rfl (by first | decide | omega) ?_
          refine w_iload_n dX8_rankOf_19 rfl rfl ?_
          refine w_iload_n dX8_rankOf_20 rfl rfl ?_
          refine w_callVP (o := 45) (ci := 8) (as := [(0, i), (0, k)]) (rest := [(0, b)]) (k := 1) fX8_rankOf_21 rfl rfl rfl rfl rfl rfl rfl rfl (Nat.le_of_ble_eq_true rfl) (s_X8_isBefore X D f i k μ hG (by first | omega | assumption) (by first | omega | assumption)) ?_
          have hf2 := am_b_r (keyq D (sq D i) < keyq D (sq D k))
          refine w_if_eq (tgt := 31) dX8_rankOf_24 rfl (R32.in (by have := am_b_r ((keyq D (sq D i) < keyq D (sq D k))); omega)) (fun c24 => ?_) (fun c24 => ?_)
          · skip
            replace c24 := am_b0 c24
            refine w_iconst dX8_rankOf_31 ?_
            refine w_iadd dX8_rankOf_32 ?_
            refine w_istore_n (ls' := [(2, 45), (0, k), (0, b + 0), (0, i)]) dX8_rankOf_33 rfl (Nat.le_of_ble_eq_true rfl) rfl rfl ?_
            refine w_iinc (ls' := [(2, 45), (0, k), (0, b + 0), (0, i + 1)]) dX8_rankOf_34 rfl (Nat.le_of_ble_eq_true rfl) rfl rfl ?_
            refine w_goto (tgt := 4) dX8_rankOf_37 rfl ?_
            exact ih4 _ (by omega) (b + 0) (i + 1) rfl (by first | omega | assumption) (by first | omega | assumption) (by rw [rkI_s hi0.1, ← hb]; omega)
          · skip
            replace c24 := am_b1 c24
            refine w_iconst dX8_rankOf_27 ?_
            refine w_goto (tgt := 32) dX8_rankOf_28 rfl ?_
            refine w_iadd dX8_rankOf_32 ?_
            refine w_istore_n (ls' := [(2, 45), (0, k), (0, b + 1), (0, i)]) dX8_rankOf_33 rfl (Nat.le_of_ble_eq_true rfl) rfl rfl ?_
            refine w_iinc (ls' := [(2, 45), (0, k), (0, b + 1), (0, i + 1)]) dX8_rankOf_34 rfl (Nat.le_of_ble_eq_true rfl) rfl rfl ?_
            refine w_goto (tgt := 4) dX8_rankOf_37 rfl ?_
            exact ih4 _ (by omega) (b + 1) (i + 1) rfl (by first | omega | assumption) (by first | omega | assumption) (by rw [rkI_s hi0.1, ← hb]; omega)
  exact hL4 _ 0 0 rfl (by first | omega | assumption) (by first | omega | assumption) rfl

set_option maxRecDepth 100000 in
set_option maxHeartbeats 4000000 in
theorem s_X8_told (X : AX) (D : GDt) (f : Int) (i : Int) (w : Int) (μ : Mu) (hG : RS D f μ) (hi : 0 ≤ i ∧ i < nS D) (hw : 0 ≤ w ∧ w ≤ 5) : Wp (GG X) M_X8_told 0 [(2, 45), (0, i), (0, w), (9, 0), (9, 0)] [] μ (pP 0 (tlv D ((sq D i).2 - (sq D i).1) (sq D i).1 w) μ) := by
  have hok := hG.ok
  have hn := hok.n
  have hfr := hG.r
  have hc := hG.c
  have hsr := sq_r hok hi
  refine w_aload_n dX8_told_0 rfl rfl (by first | decide | omega) ?_
  refine w_getR (o := 45) (x := 58) fX8_told_1 rfl rfl rfl rfl ?_
  refine w_iload_n dX8_told_4 rfl rfl ?_
  refine w_ialdx (o := 58) (n := 2100) (x := (sq D i).1) dX8_told_5 rfl rfl (Nat.le_of_ble_eq_true rfl) (by omega) (hG.2.2.1 _ (by omega) (by omega)) ?_
  have hr1 := (sq_r (hG.ok) (j := i) (by omega)).1
  refine w_istore_n (ls' := [(2, 45), (0, i), (0, w), (0, (sq D i).1), (9, 0)]) dX8_told_6 rfl (Nat.le_of_ble_eq_true rfl) rfl rfl ?_
  refine w_aload_n dX8_told_7 rfl rfl (by first | decide | omega) ?_
  refine w_getR (o := 45) (x := 59) fX8_told_8 rfl rfl rfl rfl ?_
  refine w_iload_n dX8_told_11 rfl rfl ?_
  refine w_ialdx (o := 59) (n := 2100) (x := (sq D i).2) dX8_told_12 rfl rfl (Nat.le_of_ble_eq_true rfl) (by omega) (hG.2.2.2.1 _ (by omega) (by omega)) ?_
  have hr2 := (sq_r (hG.ok) (j := i) (by omega)).2
  refine w_istore (ls' := [(2, 45), (0, i), (0, w), (0, (sq D i).1), (0, (sq D i).2)]) dX8_told_13 (Nat.le_of_ble_eq_true rfl) rfl rfl ?_
  refine w_iload_n dX8_told_15 rfl rfl ?_
  rcases (show (w < 0 ∨ 4 < w) ∨ w = 0 ∨ w = 1 ∨ w = 2 ∨ w = 3 ∨ w = 4 by omega) with q16 | q16 | q16 | q16 | q16 | q16
  · refine w_tableOut (tgt := 80) dX8_told_16 (R32.in (by omega)) q16 rfl ?_
    refine w_aload_n dX8_told_80 rfl rfl (by first | decide | omega) ?_
    refine w_iload_n dX8_told_81 rfl rfl ?_
    refine w_iload dX8_told_82 rfl ?_
    refine w_callVP (o := 45) (ci := 8) (as := [(0, (sq D i).1), (0, (sq D i).2)]) (rest := []) (k := 0) fX8_told_84 rfl rfl rfl rfl rfl rfl rfl rfl (Nat.le_of_ble_eq_true rfl) (s_X8_staffOf X D f ((sq D i).1) ((sq D i).2) μ hG.1 (by first | omega | assumption)) ?_
    have hf3 := stf_f D (((sq D i).2) - ((sq D i).1)) ((sq D i).1) (by assumption)
    exact w_iretP dX8_told_87 rfl (by unfold tlv tls; (try unfold squ); omega)
  · refine w_tableIn (off := 36) (tgt := 52) dX8_told_16 (R32.in (by omega)) (by omega) (by omega) (by rw [q16]; rfl) rfl ?_
    refine w_iload_n dX8_told_52 rfl rfl ?_
    exact w_iretP dX8_told_53 rfl (by unfold tlv tls; (try unfold squ); omega)
  · refine w_tableIn (off := 38) (tgt := 54) dX8_told_16 (R32.in (by omega)) (by omega) (by omega) (by rw [q16]; rfl) rfl ?_
    refine w_iload dX8_told_54 rfl ?_
    exact w_iretP dX8_told_56 rfl (by unfold tlv tls; (try unfold squ); omega)
  · refine w_tableIn (off := 41) (tgt := 57) dX8_told_16 (R32.in (by omega)) (by omega) (by omega) (by rw [q16]; rfl) rfl ?_
    refine w_aload_n dX8_told_57 rfl rfl (by first | decide | omega) ?_
    refine w_getR (o := 45) (x := 60) fX8_told_58 rfl rfl rfl rfl ?_
    refine w_iload_n dX8_told_61 rfl rfl ?_
    refine w_ialdx (o := 60) (n := 2100) (x := squ D i) dX8_told_62 rfl rfl (Nat.le_of_ble_eq_true rfl) (by omega) (hG.2.2.2.2.1 _ (by omega) (by omega)) ?_
    have hr4 := (squ_r (hG.ok) (j := i) (by omega))
    exact w_iretP dX8_told_63 rfl (by unfold tlv tls; (try unfold squ); omega)
  · refine w_tableIn (off := 48) (tgt := 64) dX8_told_16 (R32.in (by omega)) (by omega) (by omega) (by rw [q16]; rfl) rfl ?_
    refine w_aload_n dX8_told_64 rfl rfl (by first | decide | omega) ?_
    refine w_iload_n dX8_told_65 rfl rfl ?_
    refine w_iload dX8_told_66 rfl ?_
    refine w_callVP (o := 45) (ci := 8) (as := [(0, (sq D i).1), (0, (sq D i).2)]) (rest := []) (k := 3) fX8_told_68 rfl rfl rfl rfl rfl rfl rfl rfl (Nat.le_of_ble_eq_true rfl) (s_X8_stemsOf X D f ((sq D i).1) ((sq D i).2) μ hG.1 (by first | omega | assumption)) ?_
    have hf5 := stm_f D (((sq D i).2) - ((sq D i).1)) ((sq D i).1) (by assumption) (by omega) (by omega)
    exact w_iretP dX8_told_71 rfl (by unfold tlv tls; (try unfold squ); omega)
  · refine w_tableIn (off := 56) (tgt := 72) dX8_told_16 (R32.in (by omega)) (by omega) (by omega) (by rw [q16]; rfl) rfl ?_
    refine w_aload_n dX8_told_72 rfl rfl (by first | decide | omega) ?_
    refine w_iload_n dX8_told_73 rfl rfl ?_
    refine w_iload dX8_told_74 rfl ?_
    refine w_callVP (o := 45) (ci := 8) (as := [(0, (sq D i).1), (0, (sq D i).2)]) (rest := []) (k := 3) fX8_told_76 rfl rfl rfl rfl rfl rfl rfl rfl (Nat.le_of_ble_eq_true rfl) (s_X8_slopeOf X D f ((sq D i).1) ((sq D i).2) μ hG.1 (by first | omega | assumption)) ?_
    have hf6 := slp_f D (((sq D i).2) - ((sq D i).1)) (by omega)
    exact w_iretP dX8_told_79 rfl (by unfold tlv tls; (try unfold squ); omega)

set_option maxRecDepth 100000 in
set_option maxHeartbeats 4000000 in
theorem s_X8_bestOf (X : AX) (D : GDt) (f : Int) (g : Int) (w : Int) (μ : Mu) (hG : RGs D f g μ) (hw : 0 ≤ w ∧ w ≤ 5) : Wp (GG X) M_X8_bestOf 0 [(2, 45), (0, g), (0, w), (9, 0)] [] μ (qI 0 fun z μ' => (Fr 45 45 57 61 μ' μ) ∧ (z = ansB D w) ∧ (RS D f μ') ∧ (∀ k : Int, (¬ k = 21 ∧ ¬ k = 22 ∧ ¬ k = 23 ∧ ¬ k = 24 ∧ ¬ k = 29) → μ' 45 k = μ 45 k)) := by
  have hok := hG.ok
  have hn := hok.n
  have hfr := hG.r
  refine w_aload_n dX8_bestOf_0 rfl rfl (by first | decide | omega) ?_
  refine w_iload_n dX8_bestOf_1 rfl rfl ?_
  refine w_callVV (o := 45) (ci := 8) (as := [(0, g)]) (rest := []) (k := 2) fX8_bestOf_2 rfl rfl rfl rfl rfl rfl rfl rfl (Nat.le_of_ble_eq_true rfl) (s_X8_laysSets X D f g μ hG) (fun μS hμS => ?_)
  obtain ⟨hFS, hS_S, hf_S⟩ := hμS
  refine w_aload_n dX8_bestOf_5 rfl rfl (by first | decide | omega) ?_
  refine w_callVP (o := 45) (ci := 8) (as := []) (rest := []) (k := 2) fX8_bestOf_6 rfl rfl rfl rfl rfl rfl rfl rfl (Nat.le_of_ble_eq_true rfl) (s_X8_bestSet X D f μS hS_S) ?_
  have hf2 := bstI_r D (nS D) (nS_0 D)
  have hcS := hS_S.c
  refine w_istore_n (ls' := [(2, 45), (0, g), (0, w), (0, bstI D (nS D))]) dX8_bestOf_9 rfl (Nat.le_of_ble_eq_true rfl) rfl rfl ?_
  refine w_iload_n dX8_bestOf_10 rfl rfl ?_
  refine w_iconst dX8_bestOf_11 ?_
  refine w_icmp_ne (tgt := 20) dX8_bestOf_12 rfl (R32.in (by omega)) (R32.in (by decide)) (fun c12 => ?_) (fun c12 => ?_)
  · skip
    refine w_aload_n dX8_bestOf_20 rfl rfl (by first | decide | omega) ?_
    refine w_iload_n dX8_bestOf_21 rfl rfl ?_
    refine w_iload_n dX8_bestOf_22 rfl rfl ?_
    refine w_callVP (o := 45) (ci := 8) (as := [(0, bstI D (nS D)), (0, w)]) (rest := []) (k := 2) fX8_bestOf_23 rfl rfl rfl rfl rfl rfl rfl rfl (Nat.le_of_ble_eq_true rfl) (s_X8_told X D f (bstI D (nS D)) w μS hS_S (by omega) (by first | omega | assumption)) ?_
    exact w_iretI dX8_bestOf_26 rfl ⟨hFS, (by rw [← ansR_eq hok]; unfold ansR; first | exact (if_pos c12).symm | exact (if_neg c12).symm), hS_S, (fun k h1 => (hf_S k (by omega)))⟩
  · skip
    refine w_ldc (n := -1000000) dX8_bestOf_15 k_1620 (by decide) ?_
    refine w_goto (tgt := 26) dX8_bestOf_17 rfl ?_
    exact w_iretI dX8_bestOf_26 rfl ⟨hFS, (by rw [← ansR_eq hok]; unfold ansR; first | exact (if_pos c12).symm | exact (if_neg c12).symm), hS_S, (fun k h1 => (hf_S k (by omega)))⟩
