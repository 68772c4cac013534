/-! ===== The law's methods over rows ===== -/
/-- what the law holds of a group: positions (45), X (46), and what the script gives -/
def LH (G : AG) (D : GDt) (nn : Nat) (μ : Mu) : Prop := GOK D ∧ ((nn : Int) = dN D ∧ nn ≤ 8) ∧ (dK D = lkn G ∧ (gK G 14 : Int) ≤ 260) ∧ ∀ i : Int, 0 ≤ i → i < dN D → μ 45 i = dH D i
def LD (G : AG) (D : GDt) (nn : Nat) (μ : Mu) : Prop := LH G D nn μ ∧ ∀ i : Int, 0 ≤ i → i < dN D → μ 46 i = dX D i ∧ lkd G i = dB D i
def LW (D : GDt) (μ : Mu) : Prop := ∀ i : Int, 0 ≤ i → i < dN D → μ 47 i = way D i
section LDs
variable {G : AG} {D : GDt} {nn : Nat} {μ μ1 : Mu} {i : Int}
theorem LH.ok (h : LH G D nn μ) : GOK D := h.1
theorem LH.n_n (h : LH G D nn μ) : (nn : Int) = dN D ∧ nn ≤ 8 := h.2.1
theorem LH.kn (h : LH G D nn μ) : dK D = lkn G ∧ (gK G 14 : Int) ≤ 260 := h.2.2.1
theorem LH.p (h : LH G D nn μ) (hi : 0 ≤ i ∧ i < dN D) : μ 45 i = dH D i := h.2.2.2 i hi.1 hi.2
theorem LD.ok (h : LD G D nn μ) : GOK D := h.1.1
theorem LD.n_n (h : LD G D nn μ) : (nn : Int) = dN D ∧ nn ≤ 8 := h.1.2.1
theorem LD.kn (h : LD G D nn μ) : dK D = lkn G ∧ (gK G 14 : Int) ≤ 260 := h.1.2.2.1
theorem LD.p (h : LD G D nn μ) (hi : 0 ≤ i ∧ i < dN D) : μ 45 i = dH D i := h.1.2.2.2 i hi.1 hi.2
theorem LD.x (h : LD G D nn μ) (hi : 0 ≤ i ∧ i < dN D) : μ 46 i = dX D i := (h.2 i hi.1 hi.2).1
theorem LD.b (h : LD G D nn μ) (hi : 0 ≤ i ∧ i < dN D) : lkd G i = dB D i := (h.2 i hi.1 hi.2).2
theorem LH.cg (h : LH G D nn μ) (e : ∀ o : Int, 45 ≤ o ∧ o ≤ 45 → μ1 o = μ o) : LH G D nn μ1 := ⟨h.1, h.2.1, h.2.2.1, fun i h0 h1 => (congrFun (e 45 (by decide)) i).trans (h.2.2.2 i h0 h1)⟩
theorem LD.cg (h : LD G D nn μ) (e : ∀ o : Int, 45 ≤ o ∧ o ≤ 46 → μ1 o = μ o) : LD G D nn μ1 := ⟨h.1.cg (fun o h1 => e o (by omega)), fun i h0 h1 => ⟨(congrFun (e 46 (by decide)) i).trans (h.2 i h0 h1).1, (h.2 i h0 h1).2⟩⟩
theorem LW.cg (h : LW D μ) (e : ∀ o : Int, 47 ≤ o ∧ o ≤ 47 → μ1 o = μ o) : LW D μ1 := fun i h0 h1 => (congrFun (e 47 (by decide)) i).trans (h i h0 h1)
end LDs

set_option maxRecDepth 100000 in
set_option maxHeartbeats 4000000 in
theorem s_L_isKneed (G : AG) (nn : Nat) (μ : Mu) (hs47 : (gS G)[47]? = some (20, nn)) (hnn : 1 ≤ nn ∧ nn ≤ 64) (hb : ∀ i : Int, 0 ≤ i → i < nn → -1 ≤ μ 47 i ∧ μ 47 i ≤ 1) : Wp G M_L_isKneed 0 [(2, 47), (9, 0), (9, 0), (9, 0), (9, 0)] [] μ (pP 0 (isk (μ 47) nn) μ) := by
  refine w_aload_n dL_isKneed_0 rfl rfl (by first | decide | omega) ?_
  refine w_astore_n (ls' := [(2, 47), (2, 47), (9, 0), (9, 0), (9, 0)]) dL_isKneed_1 rfl (Nat.le_of_ble_eq_true rfl) rfl (by first | decide | omega) rfl ?_
  refine w_aload_n dL_isKneed_2 rfl rfl (by first | decide | omega) ?_
  refine w_alen (o := 47) (n := nn) (t := 0) (f := nn) dL_isKneed_3 rfl hs47 (Nat.le_of_ble_eq_true rfl) rfl ?_
  refine w_istore_n (ls' := [(2, 47), (2, 47), (0, (nn : Int)), (9, 0), (9, 0)]) dL_isKneed_4 rfl (Nat.le_of_ble_eq_true rfl) rfl rfl ?_
  refine w_iconst dL_isKneed_5 ?_
  refine w_istore_n (ls' := [(2, 47), (2, 47), (0, (nn : Int)), (0, 0), (9, 0)]) dL_isKneed_6 rfl (Nat.le_of_ble_eq_true rfl) rfl rfl ?_
  have hL7 : ∀ (n7 : Nat) (i : Int), ((nn : Int) - i).toNat = n7 → (0 ≤ i ∧ i ≤ nn) → (isk (μ 47) i = 0) → Wp G M_L_isKneed 7 [(2, 47), (2, 47), (0, (nn : Int)), (0, i), (9, 0)] [] μ (pP 0 (isk (μ 47) nn) μ) := by
    intro n7
    induction n7 using Nat.strongRecOn with
    | ind n7 ih7 =>
      intro i hn7 hi0 hk
      refine w_iload_n dL_isKneed_7 rfl rfl ?_
      refine w_iload_n dL_isKneed_8 rfl rfl ?_
      refine w_icmp_ge (tgt := 33) dL_isKneed_9 rfl (R32.in (by omega)) (R32.in (by omega)) (fun c9 => ?_) (fun c9 => ?_)
      · skip
        refine w_iconst dL_isKneed_33 ?_
        exact w_zretP dL_isKneed_34 rfl (Or.inl rfl) (by have he : i = (nn : Int) := (by omega); subst he; exact hk.symm)
      · skip
        refine w_aload_n dL_isKneed_12 rfl rfl (by first | decide | omega) ?_
        refine w_iload_n dL_isKneed_13 rfl rfl ?_
        refine w_ialdx (o := 47) (n := nn) (x := μ 47 i) dL_isKneed_14 rfl hs47 (by omega) (by omega) rfl ?_
        have hr1 := hb i (by omega) (by omega)
        refine w_istore (ls' := [(2, 47), (2, 47), (0, (nn : Int)), (0, i), (0, μ 47 i)]) dL_isKneed_15 (Nat.le_of_ble_eq_true rfl) rfl rfl ?_
        refine w_iload dL_isKneed_17 rfl ?_
        refine w_aload_n dL_isKneed_19 rfl rfl (by first | decide | omega) ?_
        refine w_iconst dL_isKneed_20 ?_
        refine w_ialdx (o := 47) (n := nn) (x := μ 47 0) dL_isKneed_21 rfl hs47 (by omega) (by omega) rfl ?_
        have hr2 := hb 0 (by omega) (by omega)
        refine w_icmp_eq (tgt := 27) dL_isKneed_22 rfl (R32.in (by omega)) (R32.in (by omega)) (fun c22 => ?_) (fun c22 => ?_)
        · skip
          refine w_iinc (ls' := [(2, 47), (2, 47), (0, (nn : Int)), (0, i + 1), (0, μ 47 i)]) dL_isKneed_27 rfl (Nat.le_of_ble_eq_true rfl) rfl rfl ?_
          refine w_goto (tgt := 7) dL_isKneed_30 rfl ?_
          refine Wp.fgl (ls' := [(2, 47), (2, 47), (0, (nn : Int)), (0, i + 1), (9, 0)]) 4 rfl ?_
          exact ih7 _ (by omega) (i + 1) rfl (by first | omega | assumption) (by rw [isk_s hi0.1, if_neg (by omega)])
        · skip
          refine w_iconst dL_isKneed_25 ?_
          exact w_zretP dL_isKneed_26 rfl (Or.inr rfl) (by exact (isk_up (by omega) c22).symm)
  exact hL7 _ 0 rfl (by first | omega | assumption) rfl

theorem s_L_isKneedD (G : AG) (D : GDt) (nn : Nat) (μ : Mu) (hs47 : (gS G)[47]? = some (20, nn)) (hnn : (nn : Int) = dN D) (hok : GOK D) (hW : LW D μ) : Wp G M_L_isKneed 0 [(2, 47), (9, 0), (9, 0), (9, 0), (9, 0)] [] μ (pP 0 (am_b (¬ klow D = 99)) μ) := by
  have hn := hok.n
  refine (s_L_isKneed G nn μ hs47 (by omega) (fun i h0 h1 => ?_)).toP ?_
  · rw [hW i h0 (by omega)]; exact way_b D i
  · rw [hnn]; exact isk_k hok hW

set_option maxRecDepth 100000 in
set_option maxHeartbeats 4000000 in
theorem s_L_isAhead49 (G : AG) (l : Int) (r : Int) (l2 : Int) (r2 : Int) (up : Int) (μ : Mu) (hsa : (gS G)[49]? = some (23, 4)) (hsb : (gS G)[48]? = some (23, 4)) (ha : ((0 ≤ μ 49 0 ∧ μ 49 0 ≤ 100000000) ∧ (0 ≤ μ 49 1 ∧ μ 49 1 ≤ 100000000)) ∧ ((0 ≤ μ 49 2 ∧ μ 49 2 ≤ 100000000) ∧ (-100000000 ≤ μ 49 3 ∧ μ 49 3 ≤ 100000000))) (hb : ((0 ≤ μ 48 0 ∧ μ 48 0 ≤ 100000000) ∧ (0 ≤ μ 48 1 ∧ μ 48 1 ≤ 100000000)) ∧ ((0 ≤ μ 48 2 ∧ μ 48 2 ≤ 100000000) ∧ (-100000000 ≤ μ 48 3 ∧ μ 48 3 ≤ 100000000))) (hl : (-60 ≤ l ∧ l ≤ 60) ∧ (-60 ≤ r ∧ r ≤ 60)) (hl2 : (-60 ≤ l2 ∧ l2 ≤ 60) ∧ (-60 ≤ r2 ∧ r2 ≤ 60)) (hup : -1 ≤ up ∧ up ≤ 1) : Wp G M_L_isAhead 0 [(2, 49), (0, l), (0, r), (2, 48), (0, l2), (0, r2), (0, up), (9, 0), (9, 0), (9, 0), (9, 0)] [] μ (pP 0 (ahI (μ 49 0 + μ 49 1 + μ 49 2) l r (μ 49 3) (μ 48 0 + μ 48 1 + μ 48 2) l2 r2 (μ 48 3) up) μ) := by
  have m1 := am_mul_b (a := up) (b := l) (A := 1) (B := 60) (by omega) (by omega)
  have m2 := am_mul_b (a := up) (b := l2) (A := 1) (B := 60) (by omega) (by omega)
  have m3 := am_mul_b (a := up) (b := r) (A := 1) (B := 60) (by omega) (by omega)
  have m4 := am_mul_b (a := up) (b := r2) (A := 1) (B := 60) (by omega) (by omega)
  refine w_aload_n dL_isAhead_0 rfl rfl (by first | decide | omega) ?_
  refine w_iconst dL_isAhead_1 ?_
  refine w_laldx (o := 49) (n := 4) (x := μ 49 0) dL_isAhead_2 rfl hsa (Nat.le_of_ble_eq_true rfl) (by omega) rfl ?_
  refine w_aload_n dL_isAhead_3 rfl rfl (by first | decide | omega) ?_
  refine w_iconst dL_isAhead_4 ?_
  refine w_laldx (o := 49) (n := 4) (x := μ 49 1) dL_isAhead_5 rfl hsa (Nat.le_of_ble_eq_true rfl) (by omega) rfl ?_
  refine w_ladd dL_isAhead_6 ?_
  refine w_aload_n dL_isAhead_7 rfl rfl (by first | decide | omega) ?_
  refine w_iconst dL_isAhead_8 ?_
  refine w_laldx (o := 49) (n := 4) (x := μ 49 2) dL_isAhead_9 rfl hsa (Nat.le_of_ble_eq_true rfl) (by omega) rfl ?_
  refine w_ladd dL_isAhead_10 ?_
  refine w_lstore (ls' := [(2, 49), (0, l), (0, r), (2, 48), (0, l2), (0, r2), (0, up), (1, ((μ 49 0) + (μ 49 1)) + (μ 49 2)), (9, 0), (9, 0), (9, 0)]) dL_isAhead_11 (Nat.le_of_ble_eq_true rfl) rfl rfl ?_
  refine w_aload_n dL_isAhead_13 rfl rfl (by first | decide | omega) ?_
  refine w_iconst dL_isAhead_14 ?_
  refine w_laldx (o := 48) (n := 4) (x := μ 48 0) dL_isAhead_15 rfl hsb (Nat.le_of_ble_eq_true rfl) (by omega) rfl ?_
  refine w_aload_n dL_isAhead_16 rfl rfl (by first | decide | omega) ?_
  refine w_iconst dL_isAhead_17 ?_
  refine w_laldx (o := 48) (n := 4) (x := μ 48 1) dL_isAhead_18 rfl hsb (Nat.le_of_ble_eq_true rfl) (by omega) rfl ?_
  refine w_ladd dL_isAhead_19 ?_
  refine w_aload_n dL_isAhead_20 rfl rfl (by first | decide | omega) ?_
  refine w_iconst dL_isAhead_21 ?_
  refine w_laldx (o := 48) (n := 4) (x := μ 48 2) dL_isAhead_22 rfl hsb (Nat.le_of_ble_eq_true rfl) (by omega) rfl ?_
  refine w_ladd dL_isAhead_23 ?_
  refine w_lstore (ls' := [(2, 49), (0, l), (0, r), (2, 48), (0, l2), (0, r2), (0, up), (1, ((μ 49 0) + (μ 49 1)) + (μ 49 2)), (9, 0), (1, ((μ 48 0) + (μ 48 1)) + (μ 48 2)), (9, 0)]) dL_isAhead_24 (Nat.le_of_ble_eq_true rfl) rfl rfl ?_
  refine w_lload dL_isAhead_26 rfl ?_
  refine w_lload dL_isAhead_28 rfl ?_
  refine w_lc_eq (tgt := 48) dL_isAhead_30 dL_isAhead_31 rfl (R64.in (by omega)) (R64.in (by omega)) (fun c31 => ?_) (fun c31 => ?_)
  · skip
    refine w_iload_n dL_isAhead_48 rfl rfl ?_
    refine w_iload_n dL_isAhead_49 rfl rfl ?_
    refine w_isub dL_isAhead_50 ?_
    refine w_abs fL_isAhead_51 (R32.in (by omega)) (Nat.le_of_ble_eq_true rfl) ?_
    refine w_iload dL_isAhead_54 rfl ?_
    refine w_iload dL_isAhead_56 rfl ?_
    refine w_isub dL_isAhead_58 ?_
    refine w_abs fL_isAhead_59 (R32.in (by omega)) (Nat.le_of_ble_eq_true rfl) ?_
    refine w_icmp_eq (tgt := 88) dL_isAhead_62 rfl (R32.in (by omega)) (R32.in (by omega)) (fun c62 => ?_) (fun c62 => ?_)
    · skip
      refine w_aload_n dL_isAhead_88 rfl rfl (by first | decide | omega) ?_
      refine w_iconst dL_isAhead_89 ?_
      refine w_laldx (o := 49) (n := 4) (x := μ 49 3) dL_isAhead_90 rfl hsa (Nat.le_of_ble_eq_true rfl) (by omega) rfl ?_
      refine w_aload_n dL_isAhead_91 rfl rfl (by first | decide | omega) ?_
      refine w_iconst dL_isAhead_92 ?_
      refine w_laldx (o := 48) (n := 4) (x := μ 48 3) dL_isAhead_93 rfl hsb (Nat.le_of_ble_eq_true rfl) (by omega) rfl ?_
      refine w_lc_eq (tgt := 114) dL_isAhead_94 dL_isAhead_95 rfl (R64.in (by omega)) (R64.in (by omega)) (fun c95 => ?_) (fun c95 => ?_)
      · skip
        refine w_iload_n dL_isAhead_114 rfl rfl ?_
        refine w_iload dL_isAhead_115 rfl ?_
        refine w_icmp_eq (tgt := 140) dL_isAhead_117 rfl (R32.in (by omega)) (R32.in (by omega)) (fun c117 => ?_) (fun c117 => ?_)
        · skip
          refine w_iload dL_isAhead_140 rfl ?_
          refine w_iload_n dL_isAhead_142 rfl rfl ?_
          refine w_imul dL_isAhead_143 ?_
          refine w_iload dL_isAhead_144 rfl ?_
          refine w_iload dL_isAhead_146 rfl ?_
          refine w_imul dL_isAhead_148 ?_
          refine w_icmp_ge (tgt := 156) dL_isAhead_149 rfl (R32.in (by omega)) (R32.in (by omega)) (fun c149 => ?_) (fun c149 => ?_)
          · skip
            refine w_iconst dL_isAhead_156 ?_
            exact w_zretP dL_isAhead_157 rfl (Or.inl rfl) (by unfold ahI ab; omega)
          · skip
            refine w_iconst dL_isAhead_152 ?_
            refine w_goto (tgt := 157) dL_isAhead_153 rfl ?_
            exact w_zretP dL_isAhead_157 rfl (Or.inr rfl) (by unfold ahI ab; omega)
        · skip
          refine w_iload dL_isAhead_120 rfl ?_
          refine w_iload_n dL_isAhead_122 rfl rfl ?_
          refine w_imul dL_isAhead_123 ?_
          refine w_iload dL_isAhead_124 rfl ?_
          refine w_iload dL_isAhead_126 rfl ?_
          refine w_imul dL_isAhead_128 ?_
          refine w_icmp_ge (tgt := 136) dL_isAhead_129 rfl (R32.in (by omega)) (R32.in (by omega)) (fun c129 => ?_) (fun c129 => ?_)
          · skip
            refine w_iconst dL_isAhead_136 ?_
            refine w_goto (tgt := 157) dL_isAhead_137 rfl ?_
            exact w_zretP dL_isAhead_157 rfl (Or.inl rfl) (by unfold ahI ab; omega)
          · skip
            refine w_iconst dL_isAhead_132 ?_
            refine w_goto (tgt := 157) dL_isAhead_133 rfl ?_
            exact w_zretP dL_isAhead_157 rfl (Or.inr rfl) (by unfold ahI ab; omega)
      · skip
        refine w_aload_n dL_isAhead_98 rfl rfl (by first | decide | omega) ?_
        refine w_iconst dL_isAhead_99 ?_
        refine w_laldx (o := 49) (n := 4) (x := μ 49 3) dL_isAhead_100 rfl hsa (Nat.le_of_ble_eq_true rfl) (by omega) rfl ?_
        refine w_aload_n dL_isAhead_101 rfl rfl (by first | decide | omega) ?_
        refine w_iconst dL_isAhead_102 ?_
        refine w_laldx (o := 48) (n := 4) (x := μ 48 3) dL_isAhead_103 rfl hsb (Nat.le_of_ble_eq_true rfl) (by omega) rfl ?_
        refine w_lc_ge (tgt := 112) dL_isAhead_104 dL_isAhead_105 rfl (R64.in (by omega)) (R64.in (by omega)) (fun c105 => ?_) (fun c105 => ?_)
        · skip
          refine w_iconst dL_isAhead_112 ?_
          exact w_zretP dL_isAhead_113 rfl (Or.inl rfl) (by unfold ahI ab; omega)
        · skip
          refine w_iconst dL_isAhead_108 ?_
          refine w_goto (tgt := 113) dL_isAhead_109 rfl ?_
          exact w_zretP dL_isAhead_113 rfl (Or.inr rfl) (by unfold ahI ab; omega)
    · skip
      refine w_iload_n dL_isAhead_65 rfl rfl ?_
      refine w_iload_n dL_isAhead_66 rfl rfl ?_
      refine w_isub dL_isAhead_67 ?_
      refine w_abs fL_isAhead_68 (R32.in (by omega)) (Nat.le_of_ble_eq_true rfl) ?_
      refine w_iload dL_isAhead_71 rfl ?_
      refine w_iload dL_isAhead_73 rfl ?_
      refine w_isub dL_isAhead_75 ?_
      refine w_abs fL_isAhead_76 (R32.in (by omega)) (Nat.le_of_ble_eq_true rfl) ?_
      refine w_icmp_ge (tgt := 86) dL_isAhead_79 rfl (R32.in (by omega)) (R32.in (by omega)) (fun c79 => ?_) (fun c79 => ?_)
      · skip
        refine w_iconst dL_isAhead_86 ?_
        exact w_zretP dL_isAhead_87 rfl (Or.inl rfl) (by unfold ahI ab; omega)
      · skip
        refine w_iconst dL_isAhead_82 ?_
        refine w_goto (tgt := 87) dL_isAhead_83 rfl ?_
        exact w_zretP dL_isAhead_87 rfl (Or.inr rfl) (by unfold ahI ab; omega)
  · skip
    refine w_lload dL_isAhead_34 rfl ?_
    refine w_lload dL_isAhead_36 rfl ?_
    refine w_lc_ge (tgt := 46) dL_isAhead_38 dL_isAhead_39 rfl (R64.in (by omega)) (R64.in (by omega)) (fun c39 => ?_) (fun c39 => ?_)
    · skip
      refine w_iconst dL_isAhead_46 ?_
      exact w_zretP dL_isAhead_47 rfl (Or.inl rfl) (by unfold ahI ab; omega)
    · skip
      refine w_iconst dL_isAhead_42 ?_
      refine w_goto (tgt := 47) dL_isAhead_43 rfl ?_
      exact w_zretP dL_isAhead_47 rfl (Or.inr rfl) (by unfold ahI ab; omega)

set_option maxRecDepth 100000 in
set_option maxHeartbeats 4000000 in
theorem s_L_isAhead50 (G : AG) (l : Int) (r : Int) (l2 : Int) (r2 : Int) (up : Int) (μ : Mu) (hsa : (gS G)[50]? = some (23, 4)) (hsb : (gS G)[49]? = some (23, 4)) (ha : ((0 ≤ μ 50 0 ∧ μ 50 0 ≤ 100000000) ∧ (0 ≤ μ 50 1 ∧ μ 50 1 ≤ 100000000)) ∧ ((0 ≤ μ 50 2 ∧ μ 50 2 ≤ 100000000) ∧ (-100000000 ≤ μ 50 3 ∧ μ 50 3 ≤ 100000000))) (hb : ((0 ≤ μ 49 0 ∧ μ 49 0 ≤ 100000000) ∧ (0 ≤ μ 49 1 ∧ μ 49 1 ≤ 100000000)) ∧ ((0 ≤ μ 49 2 ∧ μ 49 2 ≤ 100000000) ∧ (-100000000 ≤ μ 49 3 ∧ μ 49 3 ≤ 100000000))) (hl : (-60 ≤ l ∧ l ≤ 60) ∧ (-60 ≤ r ∧ r ≤ 60)) (hl2 : (-60 ≤ l2 ∧ l2 ≤ 60) ∧ (-60 ≤ r2 ∧ r2 ≤ 60)) (hup : -1 ≤ up ∧ up ≤ 1) : Wp G M_L_isAhead 0 [(2, 50), (0, l), (0, r), (2, 49), (0, l2), (0, r2), (0, up), (9, 0), (9, 0), (9, 0), (9, 0)] [] μ (pP 0 (ahI (μ 50 0 + μ 50 1 + μ 50 2) l r (μ 50 3) (μ 49 0 + μ 49 1 + μ 49 2) l2 r2 (μ 49 3) up) μ) := by
  have m1 := am_mul_b (a := up) (b := l) (A := 1) (B := 60) (by omega) (by omega)
  have m2 := am_mul_b (a := up) (b := l2) (A := 1) (B := 60) (by omega) (by omega)
  have m3 := am_mul_b (a := up) (b := r) (A := 1) (B := 60) (by omega) (by omega)
  have m4 := am_mul_b (a := up) (b := r2) (A := 1) (B := 60) (by omega) (by omega)
  refine w_aload_n dL_isAhead_0 rfl rfl (by first | decide | omega) ?_
  refine w_iconst dL_isAhead_1 ?_
  refine w_laldx (o := 50) (n := 4) (x := μ 50 0) dL_isAhead_2 rfl hsa (Nat.le_of_ble_eq_true rfl) (by omega) rfl ?_
  refine w_aload_n dL_isAhead_3 rfl rfl (by first | decide | omega) ?_
  refine w_iconst dL_isAhead_4 ?_
  refine w_laldx (o := 50) (n := 4) (x := μ 50 1) dL_isAhead_5 rfl hsa (Nat.le_of_ble_eq_true rfl) (by omega) rfl ?_
  refine w_ladd dL_isAhead_6 ?_
  refine w_aload_n dL_isAhead_7 rfl rfl (by first | decide | omega) ?_
  refine w_iconst dL_isAhead_8 ?_
  refine w_laldx (o := 50) (n := 4) (x := μ 50 2) dL_isAhead_9 rfl hsa (Nat.le_of_ble_eq_true rfl) (by omega) rfl ?_
  refine w_ladd dL_isAhead_10 ?_
  refine w_lstore (ls' := [(2, 50), (0, l), (0, r), (2, 49), (0, l2), (0, r2), (0, up), (1, ((μ 50 0) + (μ 50 1)) + (μ 50 2)), (9, 0), (9, 0), (9, 0)]) dL_isAhead_11 (Nat.le_of_ble_eq_true rfl) rfl rfl ?_
  refine w_aload_n dL_isAhead_13 rfl rfl (by first | decide | omega) ?_
  refine w_iconst dL_isAhead_14 ?_
  refine w_laldx (o := 49) (n := 4) (x := μ 49 0) dL_isAhead_15 rfl hsb (Nat.le_of_ble_eq_true rfl) (by omega) rfl ?_
  refine w_aload_n dL_isAhead_16 rfl rfl (by first | decide | omega) ?_
  refine w_iconst dL_isAhead_17 ?_
  refine w_laldx (o := 49) (n := 4) (x := μ 49 1) dL_isAhead_18 rfl hsb (Nat.le_of_ble_eq_true rfl) (by omega) rfl ?_
  refine w_ladd dL_isAhead_19 ?_
  refine w_aload_n dL_isAhead_20 rfl rfl (by first | decide | omega) ?_
  refine w_iconst dL_isAhead_21 ?_
  refine w_laldx (o := 49) (n := 4) (x := μ 49 2) dL_isAhead_22 rfl hsb (Nat.le_of_ble_eq_true rfl) (by omega) rfl ?_
  refine w_ladd dL_isAhead_23 ?_
  refine w_lstore (ls' := [(2, 50), (0, l), (0, r), (2, 49), (0, l2), (0, r2), (0, up), (1, ((μ 50 0) + (μ 50 1)) + (μ 50 2)), (9, 0), (1, ((μ 49 0) + (μ 49 1)) + (μ 49 2)), (9, 0)]) dL_isAhead_24 (Nat.le_of_ble_eq_true rfl) rfl rfl ?_
  refine w_lload dL_isAhead_26 rfl ?_
  refine w_lload dL_isAhead_28 rfl ?_
  refine w_lc_eq (tgt := 48) dL_isAhead_30 dL_isAhead_31 rfl (R64.in (by omega)) (R64.in (by omega)) (fun c31 => ?_) (fun c31 => ?_)
  · skip
    refine w_iload_n dL_isAhead_48 rfl rfl ?_
    refine w_iload_n dL_isAhead_49 rfl rfl ?_
    refine w_isub dL_isAhead_50 ?_
    refine w_abs fL_isAhead_51 (R32.in (by omega)) (Nat.le_of_ble_eq_true rfl) ?_
    refine w_iload dL_isAhead_54 rfl ?_
    refine w_iload dL_isAhead_56 rfl ?_
    refine w_isub dL_isAhead_58 ?_
    refine w_abs fL_isAhead_59 (R32.in (by omega)) (Nat.le_of_ble_eq_true rfl) ?_
    refine w_icmp_eq (tgt := 88) dL_isAhead_62 rfl (R32.in (by omega)) (R32.in (by omega)) (fun c62 => ?_) (fun c62 => ?_)
    · skip
      refine w_aload_n dL_isAhead_88 rfl rfl (by first | decide | omega) ?_
      refine w_iconst dL_isAhead_89 ?_
      refine w_laldx (o := 50) (n := 4) (x := μ 50 3) dL_isAhead_90 rfl hsa (Nat.le_of_ble_eq_true rfl) (by omega) rfl ?_
      refine w_aload_n dL_isAhead_91 rfl rfl (by first | decide | omega) ?_
      refine w_iconst dL_isAhead_92 ?_
      refine w_laldx (o := 49) (n := 4) (x := μ 49 3) dL_isAhead_93 rfl hsb (Nat.le_of_ble_eq_true rfl) (by omega) rfl ?_
      refine w_lc_eq (tgt := 114) dL_isAhead_94 dL_isAhead_95 rfl (R64.in (by omega)) (R64.in (by omega)) (fun c95 => ?_) (fun c95 => ?_)
      · skip
        refine w_iload_n dL_isAhead_114 rfl rfl ?_
        refine w_iload dL_isAhead_115 rfl ?_
        refine w_icmp_eq (tgt := 140) dL_isAhead_117 rfl (R32.in (by omega)) (R32.in (by omega)) (fun c117 => ?_) (fun c117 => ?_)
        · skip
          refine w_iload dL_isAhead_140 rfl ?_
          refine w_iload_n dL_isAhead_142 rfl rfl ?_
          refine w_imul dL_isAhead_143 ?_
          refine w_iload dL_isAhead_144 rfl ?_
          refine w_iload dL_isAhead_146 rfl ?_
          refine w_imul dL_isAhead_148 ?_
          refine w_icmp_ge (tgt := 156) dL_isAhead_149 rfl (R32.in (by omega)) (R32.in (by omega)) (fun c149 => ?_) (fun c149 => ?_)
          · skip
            refine w_iconst dL_isAhead_156 ?_
            exact w_zretP dL_isAhead_157 rfl (Or.inl rfl) (by unfold ahI ab; omega)
          · skip
            refine w_iconst dL_isAhead_152 ?_
            refine w_goto (tgt := 157) dL_isAhead_153 rfl ?_
            exact w_zretP dL_isAhead_157 rfl (Or.inr rfl) (by unfold ahI ab; omega)
        · skip
          refine w_iload dL_isAhead_120 rfl ?_
          refine w_iload_n dL_isAhead_122 rfl rfl ?_
          refine w_imul dL_isAhead_123 ?_
          refine w_iload dL_isAhead_124 rfl ?_
          refine w_iload dL_isAhead_126 rfl ?_
          refine w_imul dL_isAhead_128 ?_
          refine w_icmp_ge (tgt := 136) dL_isAhead_129 rfl (R32.in (by omega)) (R32.in (by omega)) (fun c129 => ?_) (fun c129 => ?_)
          · skip
            refine w_iconst dL_isAhead_136 ?_
            refine w_goto (tgt := 157) dL_isAhead_137 rfl ?_
            exact w_zretP dL_isAhead_157 rfl (Or.inl rfl) (by unfold ahI ab; omega)
          · skip
            refine w_iconst dL_isAhead_132 ?_
            refine w_goto (tgt := 157) dL_isAhead_133 rfl ?_
            exact w_zretP dL_isAhead_157 rfl (Or.inr rfl) (by unfold ahI ab; omega)
      · skip
        refine w_aload_n dL_isAhead_98 rfl rfl (by first | decide | omega) ?_
        refine w_iconst dL_isAhead_99 ?_
        refine w_laldx (o := 50) (n := 4) (x := μ 50 3) dL_isAhead_100 rfl hsa (Nat.le_of_ble_eq_true rfl) (by omega) rfl ?_
        refine w_aload_n dL_isAhead_101 rfl rfl (by first | decide | omega) ?_
        refine w_iconst dL_isAhead_102 ?_
        refine w_laldx (o := 49) (n := 4) (x := μ 49 3) dL_isAhead_103 rfl hsb (Nat.le_of_ble_eq_true rfl) (by omega) rfl ?_
        refine w_lc_ge (tgt := 112) dL_isAhead_104 dL_isAhead_105 rfl (R64.in (by omega)) (R64.in (by omega)) (fun c105 => ?_) (fun c105 => ?_)
        · skip
          refine w_iconst dL_isAhead_112 ?_
          exact w_zretP dL_isAhead_113 rfl (Or.inl rfl) (by unfold ahI ab; omega)
        · skip
          refine w_iconst dL_isAhead_108 ?_
          refine w_goto (tgt := 113) dL_isAhead_109 rfl ?_
          exact w_zretP dL_isAhead_113 rfl (Or.inr rfl) (by unfold ahI ab; omega)
    · skip
      refine w_iload_n dL_isAhead_65 rfl rfl ?_
      refine w_iload_n dL_isAhead_66 rfl rfl ?_
      refine w_isub dL_isAhead_67 ?_
      refine w_abs fL_isAhead_68 (R32.in (by omega)) (Nat.le_of_ble_eq_true rfl) ?_
      refine w_iload dL_isAhead_71 rfl ?_
      refine w_iload dL_isAhead_73 rfl ?_
      refine w_isub dL_isAhead_75 ?_
      refine w_abs fL_isAhead_76 (R32.in (by omega)) (Nat.le_of_ble_eq_true rfl) ?_
      refine w_icmp_ge (tgt := 86) dL_isAhead_79 rfl (R32.in (by omega)) (R32.in (by omega)) (fun c79 => ?_) (fun c79 => ?_)
      · skip
        refine w_iconst dL_isAhead_86 ?_
        exact w_zretP dL_isAhead_87 rfl (Or.inl rfl) (by unfold ahI ab; omega)
      · skip
        refine w_iconst dL_isAhead_82 ?_
        refine w_goto (tgt := 87) dL_isAhead_83 rfl ?_
        exact w_zretP dL_isAhead_87 rfl (Or.inr rfl) (by unfold ahI ab; omega)
  · skip
    refine w_lload dL_isAhead_34 rfl ?_
    refine w_lload dL_isAhead_36 rfl ?_
    refine w_lc_ge (tgt := 46) dL_isAhead_38 dL_isAhead_39 rfl (R64.in (by omega)) (R64.in (by omega)) (fun c39 => ?_) (fun c39 => ?_)
    · skip
      refine w_iconst dL_isAhead_46 ?_
      exact w_zretP dL_isAhead_47 rfl (Or.inl rfl) (by unfold ahI ab; omega)
    · skip
      refine w_iconst dL_isAhead_42 ?_
      refine w_goto (tgt := 47) dL_isAhead_43 rfl ?_
      exact w_zretP dL_isAhead_47 rfl (Or.inr rfl) (by unfold ahI ab; omega)
