set_option maxRecDepth 100000 in
set_option maxHeartbeats 4000000 in
theorem s_X8_far (X : AX) (a : Int) (μ : Mu) (ha : -2147483647 ≤ a ∧ a ≤ 2147483647) : Wp (GG X) M_X8_far 0 [(0, a)] [] μ (pP 0 (ab a) μ) := by
  refine w_iload_n dX8_far_0 rfl rfl ?_
  refine w_if_ge (tgt := 9) dX8_far_1 rfl (R32.in (by omega)) (fun c1 => ?_) (fun c1 => ?_)
  · skip
    refine w_iload_n dX8_far_9 rfl rfl ?_
    exact w_iretP dX8_far_10 rfl (by unfold ab; omega)
  · skip
    refine w_iload_n dX8_far_4 rfl rfl ?_
    refine w_ineg dX8_far_5 ?_
    refine w_goto (tgt := 10) dX8_far_6 rfl ?_
    exact w_iretP dX8_far_10 rfl (by unfold ab; omega)

set_option maxRecDepth 100000 in
set_option maxHeartbeats 4000000 in
theorem s_X8_isIn (X : AX) (n : Int) (a : Int) (b : Int) (μ : Mu) (hn : -2147483648 ≤ n ∧ n ≤ 2147483647) (ha : -2147483648 ≤ a ∧ a ≤ 2147483647) (hb : -2147483648 ≤ b ∧ b ≤ 2147483647) : Wp (GG X) M_X8_isIn 0 [(0, n), (0, a), (0, b)] [] μ (pP 0 (am_b (a ≤ n ∧ n ≤ b)) μ) := by
  refine w_iload_n dX8_isIn_0 rfl rfl ?_
  refine w_iload_n dX8_isIn_1 rfl rfl ?_
  refine w_icmp_lt (tgt := 14) dX8_isIn_2 rfl (R32.in (by omega)) (R32.in (by omega)) (fun c2 => ?_) (fun c2 => ?_)
  · skip
    refine w_iconst dX8_isIn_14 ?_
    exact w_zretP dX8_isIn_15 rfl (Or.inl rfl) (by first | exact am_b_t (by omega) | exact am_b_f (by omega))
  · skip
    refine w_iload_n dX8_isIn_5 rfl rfl ?_
    refine w_iload_n dX8_isIn_6 rfl rfl ?_
    refine w_icmp_gt (tgt := 14) dX8_isIn_7 rfl (R32.in (by omega)) (R32.in (by omega)) (fun c7 => ?_) (fun c7 => ?_)
    · skip
      refine w_iconst dX8_isIn_14 ?_
      exact w_zretP dX8_isIn_15 rfl (Or.inl rfl) (by first | exact am_b_t (by omega) | exact am_b_f (by omega))
    · skip
      refine w_iconst dX8_isIn_10 ?_
      refine w_goto (tgt := 15) dX8_isIn_11 rfl ?_
      exact w_zretP dX8_isIn_15 rfl (Or.inr rfl) (by first | exact am_b_t (by omega) | exact am_b_f (by omega))

set_option maxRecDepth 100000 in
set_option maxHeartbeats 4000000 in
theorem s_X8_beamsOf (X : AX) (k : Int) (μ : Mu) : Wp (GG X) M_X8_beamsOf 0 [(0, k)] [] μ (pP 0 (k) μ) := by
  refine w_iload_n dX8_beamsOf_0 rfl rfl ?_
  exact w_iretP dX8_beamsOf_1 rfl (by rfl)

set_option maxRecDepth 100000 in
set_option maxHeartbeats 4000000 in
theorem s_X8_hasAt (X : AX) (D : GDt) (f : Int) (g : Int) (p : Int) (μ : Mu) (hG : RGs D f g μ) (hp : -12 ≤ p ∧ p ≤ 12) : Wp (GG X) M_X8_hasAt 0 [(2, 45), (0, g), (0, p), (9, 0), (9, 0)] [] μ (pP 0 (am_b (has D p = true)) μ) := by
  have hok := hG.ok
  have hn := hok.n
  have hfr := hG.r
  refine w_iconst dX8_hasAt_0 ?_
  refine w_istore_n (ls' := [(2, 45), (0, g), (0, p), (0, 0), (9, 0)]) dX8_hasAt_1 rfl (Nat.le_of_ble_eq_true rfl) rfl rfl ?_
  refine w_iconst dX8_hasAt_2 ?_
  refine w_istore (ls' := [(2, 45), (0, g), (0, p), (0, 0), (0, 0)]) dX8_hasAt_3 (Nat.le_of_ble_eq_true rfl) rfl rfl ?_
  have hL5 : ∀ (n5 : Nat) (b : Int) (k : Int), (dN D - k).toNat = n5 → (0 ≤ k ∧ k ≤ dN D) → (b = 0 ∨ b = 1) → (b = am_b (hasI D p k = true)) → Wp (GG X) M_X8_hasAt 5 [(2, 45), (0, g), (0, p), (0, b), (0, k)] [] μ (pP 0 (am_b (has D p = true)) μ) := by
    intro n5
    induction n5 using Nat.strongRecOn with
    | ind n5 ih5 =>
      intro b k hn5 hk0 hb01 hb
      refine w_iload dX8_hasAt_5 rfl ?_
      refine w_aload_n dX8_hasAt_7 rfl rfl (by first | decide | omega) ?_
      refine w_getR (o := 45) (x := 55) fX8_hasAt_8 rfl rfl rfl rfl ?_
      refine w_iload_n dX8_hasAt_11 rfl rfl ?_
      refine w_ialdx (o := 55) (n := 33) (x := dN D) dX8_hasAt_12 rfl rfl (Nat.le_of_ble_eq_true rfl) (by omega) hG.m ?_
      have hr1 := (hG.ok).n
      refine w_icmp_ge (tgt := 50) dX8_hasAt_13 rfl (R32.in (by omega)) (R32.in (by omega)) (fun c13 => ?_) (fun c13 => ?_)
      · skip
        refine w_iload_n dX8_hasAt_50 rfl rfl ?_
        exact w_zretP dX8_hasAt_51 rfl (by omega) (by have he : dN D = k := (by omega); unfold has; rw [he]; exact hb)
      · skip
        refine w_iload_n dX8_hasAt_16 rfl rfl ?_
        have hJ17_1 : ∀ z1_0 : Int, z1_0 = (if ¬ b = 0 then 1 else (if ¬ (dH D k) = p then 0 else 1)) → Wp (GG X) M_X8_hasAt 43 [(2, 45), (0, g), (0, p), (0, b), (0, k)] [(0, z1_0)] μ (pP 0 (am_b (has D p = true)) μ) := by
          intro z1_0 hz1_0
          refine w_istore_n (ls' := [(2, 45), (0, g), (0, p), (0, z1_0), (0, k)]) dX8_hasAt_43 rfl (Nat.le_of_ble_eq_true rfl) rfl rfl ?_
          refine w_iinc (ls' := [(2, 45), (0, g), (0, p), (0, z1_0), (0, k + 1)]) dX8_hasAt_44 rfl (Nat.le_of_ble_eq_true rfl) rfl rfl ?_
          refine w_goto (tgt := 5) dX8_hasAt_47 rfl ?_
          exact ih5 _ (by omega) z1_0 (k + 1) rfl (by first | omega | assumption) (by omega) (by rw [← hasI_am hk0.1 hb]; omega)
        refine w_if_ne (tgt := 38) dX8_hasAt_17 rfl (R32.in (by omega)) (fun c17 => ?_) (fun c17 => ?_)
        · skip
          refine w_iconst dX8_hasAt_38 ?_
          refine w_goto (tgt := 43) dX8_hasAt_39 rfl ?_
          exact hJ17_1 _ (by first | omega | simp [*])
        · skip
          refine w_aload_n dX8_hasAt_20 rfl rfl (by first | decide | omega) ?_
          refine w_getR (o := 45) (x := 56) fX8_hasAt_21 rfl rfl rfl rfl ?_
          refine w_aload_n dX8_hasAt_24 rfl rfl (by first | decide | omega) ?_
          refine w_getR (o := 45) (x := 54) fX8_hasAt_25 rfl rfl rfl rfl ?_
          refine w_iload_n dX8_hasAt_28 rfl rfl ?_
          refine w_ialdx (o := 54) (n := 33) (x := f) dX8_hasAt_29 rfl rfl (Nat.le_of_ble_eq_true rfl) (by omega) hG.fi ?_
          refine w_iload dX8_hasAt_30 rfl ?_
          refine w_iadd dX8_hasAt_32 ?_
          refine w_ialdx (o := 56) (n := 64) (x := dH D k) dX8_hasAt_33 rfl rfl (Nat.le_of_ble_eq_true rfl) (by omega) (hG.h (by omega)) ?_
          have hr2 := (hG.ok).hr (i := k) (by omega)
          refine w_iload_n dX8_hasAt_34 rfl rfl ?_
          refine w_icmp_ne (tgt := 42) dX8_hasAt_35 rfl (R32.in (by omega)) (R32.in (by omega)) (fun c35 => ?_) (fun c35 => ?_)
          · skip
            refine w_iconst dX8_hasAt_42 ?_
            exact hJ17_1 _ (by first | omega | simp [*])
          · skip
            refine w_iconst dX8_hasAt_38 ?_
            refine w_goto (tgt := 43) dX8_hasAt_39 rfl ?_
            exact hJ17_1 _ (by first | omega | simp [*])
  exact hL5 _ 0 0 rfl (by first | omega | assumption) (by first | omega | assumption) rfl

set_option maxRecDepth 100000 in
set_option maxHeartbeats 4000000 in
theorem s_X8_gapBelow (X : AX) (D : GDt) (f : Int) (g : Int) (μ : Mu) (hG : RGs D f g μ) : Wp (GG X) M_X8_gapBelow 0 [(2, 45), (0, g), (9, 0), (9, 0), (9, 0), (9, 0), (9, 0), (9, 0), (9, 0)] [] μ (pP 0 (klow D) μ) := by
  have hok := hG.ok
  have hn := hok.n
  have hfr := hG.r
  refine w_bipush dX8_gapBelow_0 (by decide) ?_
  refine w_istore_n (ls' := [(2, 45), (0, g), (0, 99), (9, 0), (9, 0), (9, 0), (9, 0), (9, 0), (9, 0)]) dX8_gapBelow_2 rfl (Nat.le_of_ble_eq_true rfl) rfl rfl ?_
  refine w_iconst dX8_gapBelow_3 ?_
  refine w_istore_n (ls' := [(2, 45), (0, g), (0, 99), (0, 0), (9, 0), (9, 0), (9, 0), (9, 0), (9, 0)]) dX8_gapBelow_4 rfl (Nat.le_of_ble_eq_true rfl) rfl rfl ?_
  refine w_iconst dX8_gapBelow_5 ?_
  refine w_istore (ls' := [(2, 45), (0, g), (0, 99), (0, 0), (0, 0), (9, 0), (9, 0), (9, 0), (9, 0)]) dX8_gapBelow_6 (Nat.le_of_ble_eq_true rfl) rfl rfl ?_
  refine w_bipush dX8_gapBelow_8 (by decide) ?_
  refine w_istore (ls' := [(2, 45), (0, g), (0, 99), (0, 0), (0, 0), (0, 99), (9, 0), (9, 0), (9, 0)]) dX8_gapBelow_10 (Nat.le_of_ble_eq_true rfl) rfl rfl ?_
  refine w_bipush dX8_gapBelow_12 (by decide) ?_
  refine w_istore (ls' := [(2, 45), (0, g), (0, 99), (0, 0), (0, 0), (0, 99), (0, -12), (9, 0), (9, 0)]) dX8_gapBelow_14 (Nat.le_of_ble_eq_true rfl) rfl rfl ?_
  have hL16 : ∀ (n16 : Nat) (b : Int) (gr : Int) (ne : Int) (be : Int) (p : Int), (13 - p).toNat = n16 → (-12 ≤ p ∧ p ≤ 13) → (kin D (p + 12)) → (rk D (p + 12) b gr ne be) → Wp (GG X) M_X8_gapBelow 16 [(2, 45), (0, g), (0, b), (0, gr), (0, ne), (0, be), (0, p), (9, 0), (9, 0)] [] μ (pP 0 (klow D) μ) := by
    intro n16
    induction n16 using Nat.strongRecOn with
    | ind n16 ih16 =>
      intro b gr ne be p hn16 hp0 hK hR
      have hkb := rk_b hK hR
      have hkk := hok.k
      refine w_iload dX8_gapBelow_16 rfl ?_
      refine w_bipush dX8_gapBelow_18 (by decide) ?_
      refine w_icmp_gt (tgt := 112) dX8_gapBelow_20 rfl (R32.in (by omega)) (R32.in (by decide)) (fun c20 => ?_) (fun c20 => ?_)
      · skip
        refine w_iload_n dX8_gapBelow_112 rfl rfl ?_
        exact w_iretP dX8_gapBelow_113 rfl (by have he : p = 13 := (by omega); subst he; exact hR.1)
      · skip
        refine w_aload_n dX8_gapBelow_23 rfl rfl (by first | decide | omega) ?_
        refine w_iload_n dX8_gapBelow_24 rfl rfl ?_
        refine w_iload dX8_gapBelow_25 rfl ?_
        refine w_callVP (o := 45) (ci := 8) (as := [(0, g), (0, p)]) (rest := []) (k := 2) fX8_gapBelow_27 rfl rfl rfl rfl rfl rfl rfl rfl (Nat.le_of_ble_eq_true rfl) (s_X8_hasAt X D f g p μ hG (by first | omega | assumption)) ?_
        have hf1 := am_b_r (has D p = true)
        refine w_if_ne (tgt := 36) dX8_gapBelow_30 rfl (R32.in (by have := am_b_r ((has D p = true)); omega)) (fun c30 => ?_) (fun c30 => ?_)
        · skip
          replace c30 := am_b1 c30
          refine w_iload dX8_gapBelow_36 rfl ?_
          refine w_bipush dX8_gapBelow_38 (by decide) ?_
          refine w_icmp_ne (tgt := 47) dX8_gapBelow_40 rfl (R32.in (by omega)) (R32.in (by decide)) (fun c40 => ?_) (fun c40 => ?_)
          · skip
            refine w_iload dX8_gapBelow_47 rfl ?_
            refine w_iload dX8_gapBelow_49 rfl ?_
            refine w_isub dX8_gapBelow_51 ?_
            refine w_istore (ls' := [(2, 45), (0, g), (0, b), (0, gr), (0, ne), (0, be), (0, p), (0, p - be), (9, 0)]) dX8_gapBelow_52 (Nat.le_of_ble_eq_true rfl) rfl rfl ?_
            refine w_iload dX8_gapBelow_54 rfl ?_
            refine w_iload dX8_gapBelow_56 rfl ?_
            refine w_iadd dX8_gapBelow_58 ?_
            refine w_callSP (as := [(0, p + be)]) (rest := []) (k := 0) fX8_gapBelow_59 rfl rfl rfl rfl rfl (Nat.le_of_ble_eq_true rfl) (s_X8_far X (p + be) μ (by first | omega | assumption)) ?_
            have hf2 := ab_f (p + be)
            refine w_istore (ls' := [(2, 45), (0, g), (0, b), (0, gr), (0, ne), (0, be), (0, p), (0, p - be), (0, ab (p + be))]) dX8_gapBelow_62 (Nat.le_of_ble_eq_true rfl) rfl rfl ?_
            refine w_iload dX8_gapBelow_64 rfl ?_
            refine w_aload_n dX8_gapBelow_66 rfl rfl (by first | decide | omega) ?_
            refine w_getIx (o := 45) (f := 19) (x := dK D) fX8_gapBelow_67 rfl rfl (Nat.le_of_ble_eq_true rfl) rfl hG.k ?_
            have hr3 := (hG.ok).k
            refine w_icmp_lt (tgt := 102) dX8_gapBelow_70 rfl (R32.in (by omega)) (R32.in (by omega)) (fun c70 => ?_) (fun c70 => ?_)
            · skip
              refine w_iload dX8_gapBelow_102 rfl ?_
              refine w_istore (ls' := [(2, 45), (0, g), (0, b), (0, gr), (0, ne), (0, p), (0, p), (0, p - be), (0, ab (p + be))]) dX8_gapBelow_104 (Nat.le_of_ble_eq_true rfl) rfl rfl ?_
              refine w_iinc (ls' := [(2, 45), (0, g), (0, b), (0, gr), (0, ne), (0, p), (0, p + 1), (0, p - be), (0, ab (p + be))]) dX8_gapBelow_106 rfl (Nat.le_of_ble_eq_true rfl) rfl rfl ?_
              refine w_goto (tgt := 16) dX8_gapBelow_109 rfl ?_
              refine Wp.fgl (ls' := [(2, 45), (0, g), (0, b), (0, gr), (0, ne), (0, p), (0, p + 1), (9, 0), (0, ab (p + be))]) 7 rfl ?_
              refine Wp.fgl (ls' := [(2, 45), (0, g), (0, b), (0, gr), (0, ne), (0, p), (0, p + 1), (9, 0), (9, 0)]) 8 rfl ?_
              exact ih16 _ (by omega) b gr ne p (p + 1) rfl (by first | omega | assumption) (by first | exact kin_h hok (by omega) (by rw [show p + 12 - 12 = p by omega]; exact c30) hK | exact kin_n (by omega) (by rw [show p + 12 - 12 = p by omega]; exact c30) hK) (by first | exact rk_n (by omega) (by rw [show p + 12 - 12 = p by omega]; exact c30) hR | exact (rk_eq (rk_h (by omega) (by rw [show p + 12 - 12 = p by omega]; exact c30) hR) (by unfold ab at *; omega) (by unfold ab at *; omega) (by unfold ab at *; omega) rfl))
            · skip
              refine w_iload dX8_gapBelow_73 rfl ?_
              refine w_iload_n dX8_gapBelow_75 rfl rfl ?_
              refine w_icmp_gt (tgt := 92) dX8_gapBelow_76 rfl (R32.in (by omega)) (R32.in (by omega)) (fun c76 => ?_) (fun c76 => ?_)
              · skip
                refine w_iload dX8_gapBelow_92 rfl ?_
                refine w_istore_n (ls' := [(2, 45), (0, g), (0, be), (0, gr), (0, ne), (0, be), (0, p), (0, p - be), (0, ab (p + be))]) dX8_gapBelow_94 rfl (Nat.le_of_ble_eq_true rfl) rfl rfl ?_
                refine w_iload dX8_gapBelow_95 rfl ?_
                refine w_istore_n (ls' := [(2, 45), (0, g), (0, be), (0, p - be), (0, ne), (0, be), (0, p), (0, p - be), (0, ab (p + be))]) dX8_gapBelow_97 rfl (Nat.le_of_ble_eq_true rfl) rfl rfl ?_
                refine w_iload dX8_gapBelow_98 rfl ?_
                refine w_istore (ls' := [(2, 45), (0, g), (0, be), (0, p - be), (0, ab (p + be)), (0, be), (0, p), (0, p - be), (0, ab (p + be))]) dX8_gapBelow_100 (Nat.le_of_ble_eq_true rfl) rfl rfl ?_
                refine w_iload dX8_gapBelow_102 rfl ?_
                refine w_istore (ls' := [(2, 45), (0, g), (0, be), (0, p - be), (0, ab (p + be)), (0, p), (0, p), (0, p - be), (0, ab (p + be))]) dX8_gapBelow_104 (Nat.le_of_ble_eq_true rfl) rfl rfl ?_
                refine w_iinc (ls' := [(2, 45), (0, g), (0, be), (0, p - be), (0, ab (p + be)), (0, p), (0, p + 1), (0, p - be), (0, ab (p + be))]) dX8_gapBelow_106 rfl (Nat.le_of_ble_eq_true rfl) rfl rfl ?_
                refine w_goto (tgt := 16) dX8_gapBelow_109 rfl ?_
                refine Wp.fgl (ls' := [(2, 45), (0, g), (0, be), (0, p - be), (0, ab (p + be)), (0, p), (0, p + 1), (9, 0), (0, ab (p + be))]) 7 rfl ?_
                refine Wp.fgl (ls' := [(2, 45), (0, g), (0, be), (0, p - be), (0, ab (p + be)), (0, p), (0, p + 1), (9, 0), (9, 0)]) 8 rfl ?_
                exact ih16 _ (by omega) be (p - be) (ab (p + be)) p (p + 1) rfl (by first | omega | assumption) (by first | exact kin_h hok (by omega) (by rw [show p + 12 - 12 = p by omega]; exact c30) hK | exact kin_n (by omega) (by rw [show p + 12 - 12 = p by omega]; exact c30) hK) (by first | exact rk_n (by omega) (by rw [show p + 12 - 12 = p by omega]; exact c30) hR | exact (rk_eq (rk_h (by omega) (by rw [show p + 12 - 12 = p by omega]; exact c30) hR) (by unfold ab at *; omega) (by unfold ab at *; omega) (by unfold ab at *; omega) rfl))
              · skip
                refine w_iload dX8_gapBelow_79 rfl ?_
                refine w_iload_n dX8_gapBelow_81 rfl rfl ?_
                refine w_icmp_ne (tgt := 102) dX8_gapBelow_82 rfl (R32.in (by omega)) (R32.in (by omega)) (fun c82 => ?_) (fun c82 => ?_)
                · skip
                  refine w_iload dX8_gapBelow_102 rfl ?_
                  refine w_istore (ls' := [(2, 45), (0, g), (0, b), (0, gr), (0, ne), (0, p), (0, p), (0, p - be), (0, ab (p + be))]) dX8_gapBelow_104 (Nat.le_of_ble_eq_true rfl) rfl rfl ?_
                  refine w_iinc (ls' := [(2, 45), (0, g), (0, b), (0, gr), (0, ne), (0, p), (0, p + 1), (0, p - be), (0, ab (p + be))]) dX8_gapBelow_106 rfl (Nat.le_of_ble_eq_true rfl) rfl rfl ?_
                  refine w_goto (tgt := 16) dX8_gapBelow_109 rfl ?_
                  refine Wp.fgl (ls' := [(2, 45), (0, g), (0, b), (0, gr), (0, ne), (0, p), (0, p + 1), (9, 0), (0, ab (p + be))]) 7 rfl ?_
                  refine Wp.fgl (ls' := [(2, 45), (0, g), (0, b), (0, gr), (0, ne), (0, p), (0, p + 1), (9, 0), (9, 0)]) 8 rfl ?_
                  exact ih16 _ (by omega) b gr ne p (p + 1) rfl (by first | omega | assumption) (by first | exact kin_h hok (by omega) (by rw [show p + 12 - 12 = p by omega]; exact c30) hK | exact kin_n (by omega) (by rw [show p + 12 - 12 = p by omega]; exact c30) hK) (by first | exact rk_n (by omega) (by rw [show p + 12 - 12 = p by omega]; exact c30) hR | exact (rk_eq (rk_h (by omega) (by rw [show p + 12 - 12 = p by omega]; exact c30) hR) (by unfold ab at *; omega) (by unfold ab at *; omega) (by unfold ab at *; omega) rfl))
                · skip
                  refine w_iload dX8_gapBelow_85 rfl ?_
                  refine w_iload dX8_gapBelow_87 rfl ?_
                  refine w_icmp_ge (tgt := 102) dX8_gapBelow_89 rfl (R32.in (by omega)) (R32.in (by omega)) (fun c89 => ?_) (fun c89 => ?_)
                  · skip
                    refine w_iload dX8_gapBelow_102 rfl ?_
                    refine w_istore (ls' := [(2, 45), (0, g), (0, b), (0, gr), (0, ne), (0, p), (0, p), (0, p - be), (0, ab (p + be))]) dX8_gapBelow_104 (Nat.le_of_ble_eq_true rfl) rfl rfl ?_
                    refine w_iinc (ls' := [(2, 45), (0, g), (0, b), (0, gr), (0, ne), (0, p), (0, p + 1), (0, p - be), (0, ab (p + be))]) dX8_gapBelow_106 rfl (Nat.le_of_ble_eq_true rfl) rfl rfl ?_
                    refine w_goto (tgt := 16) dX8_gapBelow_109 rfl ?_
                    refine Wp.fgl (ls' := [(2, 45), (0, g), (0, b), (0, gr), (0, ne), (0, p), (0, p + 1), (9, 0), (0, ab (p + be))]) 7 rfl ?_
                    refine Wp.fgl (ls' := [(2, 45), (0, g), (0, b), (0, gr), (0, ne), (0, p), (0, p + 1), (9, 0), (9, 0)]) 8 rfl ?_
                    exact ih16 _ (by omega) b gr ne p (p + 1) rfl (by first | omega | assumption) (by first | exact kin_h hok (by omega) (by rw [show p + 12 - 12 = p by omega]; exact c30) hK | exact kin_n (by omega) (by rw [show p + 12 - 12 = p by omega]; exact c30) hK) (by first | exact rk_n (by omega) (by rw [show p + 12 - 12 = p by omega]; exact c30) hR | exact (rk_eq (rk_h (by omega) (by rw [show p + 12 - 12 = p by omega]; exact c30) hR) (by unfold ab at *; omega) (by unfold ab at *; omega) (by unfold ab at *; omega) rfl))
                  · skip
                    refine w_iload dX8_gapBelow_92 rfl ?_
                    refine w_istore_n (ls' := [(2, 45), (0, g), (0, be), (0, gr), (0, ne), (0, be), (0, p), (0, p - be), (0, ab (p + be))]) dX8_gapBelow_94 rfl (Nat.le_of_ble_eq_true rfl) rfl rfl ?_
                    refine w_iload dX8_gapBelow_95 rfl ?_
                    refine w_istore_n (ls' := [(2, 45), (0, g), (0, be), (0, p - be), (0, ne), (0, be), (0, p), (0, p - be), (0, ab (p + be))]) dX8_gapBelow_97 rfl (Nat.le_of_ble_eq_true rfl) rfl rfl ?_
                    refine w_iload dX8_gapBelow_98 rfl ?_
                    refine w_istore (ls' := [(2, 45), (0, g), (0, be), (0, p - be), (0, ab (p + be)), (0, be), (0, p), (0, p - be), (0, ab (p + be))]) dX8_gapBelow_100 (Nat.le_of_ble_eq_true rfl) rfl rfl ?_
                    refine w_iload dX8_gapBelow_102 rfl ?_
                    refine w_istore (ls' := [(2, 45), (0, g), (0, be), (0, p - be), (0, ab (p + be)), (0, p), (0, p), (0, p - be), (0, ab (p + be))]) dX8_gapBelow_104 (Nat.le_of_ble_eq_true rfl) rfl rfl ?_
                    refine w_iinc (ls' := [(2, 45), (0, g), (0, be), (0, p - be), (0, ab (p + be)), (0, p), (0, p + 1), (0, p - be), (0, ab (p + be))]) dX8_gapBelow_106 rfl (Nat.le_of_ble_eq_true rfl) rfl rfl ?_
                    refine w_goto (tgt := 16) dX8_gapBelow_109 rfl ?_
                    refine Wp.fgl (ls' := [(2, 45), (0, g), (0, be), (0, p - be), (0, ab (p + be)), (0, p), (0, p + 1), (9, 0), (0, ab (p + be))]) 7 rfl ?_
                    refine Wp.fgl (ls' := [(2, 45), (0, g), (0, be), (0, p - be), (0, ab (p + be)), (0, p), (0, p + 1), (9, 0), (9, 0)]) 8 rfl ?_
                    exact ih16 _ (by omega) be (p - be) (ab (p + be)) p (p + 1) rfl (by first | omega | assumption) (by first | exact kin_h hok (by omega) (by rw [show p + 12 - 12 = p by omega]; exact c30) hK | exact kin_n (by omega) (by rw [show p + 12 - 12 = p by omega]; exact c30) hK) (by first | exact rk_n (by omega) (by rw [show p + 12 - 12 = p by omega]; exact c30) hR | exact (rk_eq (rk_h (by omega) (by rw [show p + 12 - 12 = p by omega]; exact c30) hR) (by unfold ab at *; omega) (by unfold ab at *; omega) (by unfold ab at *; omega) rfl))
          · skip
            refine w_iconst dX8_gapBelow_43 ?_
            refine w_goto (tgt := 52) dX8_gapBelow_44 rfl ?_
            refine w_istore (ls' := [(2, 45), (0, g), (0, b), (0, gr), (0, ne), (0, be), (0, p), (0, 0), (9, 0)]) dX8_gapBelow_52 (Nat.le_of_ble_eq_true rfl) rfl rfl ?_
            refine w_iload dX8_gapBelow_54 rfl ?_
            refine w_iload dX8_gapBelow_56 rfl ?_
            refine w_iadd dX8_gapBelow_58 ?_
            refine w_callSP (as := [(0, p + be)]) (rest := []) (k := 0) fX8_gapBelow_59 rfl rfl rfl rfl rfl (Nat.le_of_ble_eq_true rfl) (s_X8_far X (p + be) μ (by first | omega | assumption)) ?_
            have hf4 := ab_f (p + be)
            refine w_istore (ls' := [(2, 45), (0, g), (0, b), (0, gr), (0, ne), (0, be), (0, p), (0, 0), (0, ab (p + be))]) dX8_gapBelow_62 (Nat.le_of_ble_eq_true rfl) rfl rfl ?_
            refine w_iload dX8_gapBelow_64 rfl ?_
            refine w_aload_n dX8_gapBelow_66 rfl rfl (by first | decide | omega) ?_
            refine w_getIx (o := 45) (f := 19) (x := dK D) fX8_gapBelow_67 rfl rfl (Nat.le_of_ble_eq_true rfl) rfl hG.k ?_
            have hr5 := (hG.ok).k
            refine w_icmp_lt (tgt := 102) dX8_gapBelow_70 rfl (R32.in (by decide)) (R32.in (by omega)) (fun c70 => ?_) (fun c70 => ?_)
            · skip
              refine w_iload dX8_gapBelow_102 rfl ?_
              refine w_istore (ls' := [(2, 45), (0, g), (0, b), (0, gr), (0, ne), (0, p), (0, p), (0, 0), (0, ab (p + be))]) dX8_gapBelow_104 (Nat.le_of_ble_eq_true rfl) rfl rfl ?_
              refine w_iinc (ls' := [(2, 45), (0, g), (0, b), (0, gr), (0, ne), (0, p), (0, p + 1), (0, 0), (0, ab (p + be))]) dX8_gapBelow_106 rfl (Nat.le_of_ble_eq_true rfl) rfl rfl ?_
              refine w_goto (tgt := 16) dX8_gapBelow_109 rfl ?_
              refine Wp.fgl (ls' := [(2, 45), (0, g), (0, b), (0, gr), (0, ne), (0, p), (0, p + 1), (9, 0), (0, ab (p + be))]) 7 rfl ?_
              refine Wp.fgl (ls' := [(2, 45), (0, g), (0, b), (0, gr), (0, ne), (0, p), (0, p + 1), (9, 0), (9, 0)]) 8 rfl ?_
              exact ih16 _ (by omega) b gr ne p (p + 1) rfl (by first | omega | assumption) (by first | exact kin_h hok (by omega) (by rw [show p + 12 - 12 = p by omega]; exact c30) hK | exact kin_n (by omega) (by rw [show p + 12 - 12 = p by omega]; exact c30) hK) (by first | exact rk_n (by omega) (by rw [show p + 12 - 12 = p by omega]; exact c30) hR | exact (rk_eq (rk_h (by omega) (by rw [show p + 12 - 12 = p by omega]; exact c30) hR) (by unfold ab at *; omega) (by unfold ab at *; omega) (by unfold ab at *; omega) rfl))
            · skip
              refine w_iload dX8_gapBelow_73 rfl ?_
              refine w_iload_n dX8_gapBelow_75 rfl rfl ?_
              refine w_icmp_gt (tgt := 92) dX8_gapBelow_76 rfl (R32.in (by decide)) (R32.in (by omega)) (fun c76 => ?_) (fun c76 => ?_)
              · skip
                refine w_iload dX8_gapBelow_92 rfl ?_
                refine w_istore_n (ls' := [(2, 45), (0, g), (0, be), (0, gr), (0, ne), (0, be), (0, p), (0, 0), (0, ab (p + be))]) dX8_gapBelow_94 rfl (Nat.le_of_ble_eq_true rfl) rfl rfl ?_
                refine w_iload dX8_gapBelow_95 rfl ?_
                refine w_istore_n (ls' := [(2, 45), (0, g), (0, be), (0, 0), (0, ne), (0, be), (0, p), (0, 0), (0, ab (p + be))]) dX8_gapBelow_97 rfl (Nat.le_of_ble_eq_true rfl) rfl rfl ?_
                refine w_iload dX8_gapBelow_98 rfl ?_
                refine w_istore (ls' := [(2, 45), (0, g), (0, be), (0, 0), (0, ab (p + be)), (0, be), (0, p), (0, 0), (0, ab (p + be))]) dX8_gapBelow_100 (Nat.le_of_ble_eq_true rfl) rfl rfl ?_
                refine w_iload dX8_gapBelow_102 rfl ?_
                refine w_istore (ls' := [(2, 45), (0, g), (0, be), (0, 0), (0, ab (p + be)), (0, p), (0, p), (0, 0), (0, ab (p + be))]) dX8_gapBelow_104 (Nat.le_of_ble_eq_true rfl) rfl rfl ?_
                refine w_iinc (ls' := [(2, 45), (0, g), (0, be), (0, 0), (0, ab (p + be)), (0, p), (0, p + 1), (0, 0), (0, ab (p + be))]) dX8_gapBelow_106 rfl (Nat.le_of_ble_eq_true rfl) rfl rfl ?_
                refine w_goto (tgt := 16) dX8_gapBelow_109 rfl ?_
                refine Wp.fgl (ls' := [(2, 45), (0, g), (0, be), (0, 0), (0, ab (p + be)), (0, p), (0, p + 1), (9, 0), (0, ab (p + be))]) 7 rfl ?_
                refine Wp.fgl (ls' := [(2, 45), (0, g), (0, be), (0, 0), (0, ab (p + be)), (0, p), (0, p + 1), (9, 0), (9, 0)]) 8 rfl ?_
                exact ih16 _ (by omega) be 0 (ab (p + be)) p (p + 1) rfl (by first | omega | assumption) (by first | exact kin_h hok (by omega) (by rw [show p + 12 - 12 = p by omega]; exact c30) hK | exact kin_n (by omega) (by rw [show p + 12 - 12 = p by omega]; exact c30) hK) (by first | exact rk_n (by omega) (by rw [show p + 12 - 12 = p by omega]; exact c30) hR | exact (rk_eq (rk_h (by omega) (by rw [show p + 12 - 12 = p by omega]; exact c30) hR) (by unfold ab at *; omega) (by unfold ab at *; omega) (by unfold ab at *; omega) rfl))
              · skip
                refine w_iload dX8_gapBelow_79 rfl ?_
                refine w_iload_n dX8_gapBelow_81 rfl rfl ?_
                refine w_icmp_ne (tgt := 102) dX8_gapBelow_82 rfl (R32.in (by decide)) (R32.in (by omega)) (fun c82 => ?_) (fun c82 => ?_)
                · skip
                  refine w_iload dX8_gapBelow_102 rfl ?_
                  refine w_istore (ls' := [(2, 45), (0, g), (0, b), (0, gr), (0, ne), (0, p), (0, p), (0, 0), (0, ab (p + be))]) dX8_gapBelow_104 (Nat.le_of_ble_eq_true rfl) rfl rfl ?_
                  refine w_iinc (ls' := [(2, 45), (0, g), (0, b), (0, gr), (0, ne), (0, p), (0, p + 1), (0, 0), (0, ab (p + be))]) dX8_gapBelow_106 rfl (Nat.le_of_ble_eq_true rfl) rfl rfl ?_
                  refine w_goto (tgt := 16) dX8_gapBelow_109 rfl ?_
                  refine Wp.fgl (ls' := [(2, 45), (0, g), (0, b), (0, gr), (0, ne), (0, p), (0, p + 1), (9, 0), (0, ab (p + be))]) 7 rfl ?_
                  refine Wp.fgl (ls' := [(2, 45), (0, g), (0, b), (0, gr), (0, ne), (0, p), (0, p + 1), (9, 0), (9, 0)]) 8 rfl ?_
                  exact ih16 _ (by omega) b gr ne p (p + 1) rfl (by first | omega | assumption) (by first | exact kin_h hok (by omega) (by rw [show p + 12 - 12 = p by omega]; exact c30) hK | exact kin_n (by omega) (by rw [show p + 12 - 12 = p by omega]; exact c30) hK) (by first | exact rk_n (by omega) (by rw [show p + 12 - 12 = p by omega]; exact c30) hR | exact (rk_eq (rk_h (by omega) (by rw [show p + 12 - 12 = p by omega]; exact c30) hR) (by unfold ab at *; omega) (by unfold ab at *; omega) (by unfold ab at *; omega) rfl))
                · skip
                  refine w_iload dX8_gapBelow_85 rfl ?_
                  refine w_iload dX8_gapBelow_87 rfl ?_
                  refine w_icmp_ge (tgt := 102) dX8_gapBelow_89 rfl (R32.in (by omega)) (R32.in (by omega)) (fun c89 => ?_) (fun c89 => ?_)
                  · skip
                    refine w_iload dX8_gapBelow_102 rfl ?_
                    refine w_istore (ls' := [(2, 45), (0, g), (0, b), (0, gr), (0, ne), (0, p), (0, p), (0, 0), (0, ab (p + be))]) dX8_gapBelow_104 (Nat.le_of_ble_eq_true rfl) rfl rfl ?_
                    refine w_iinc (ls' := [(2, 45), (0, g), (0, b), (0, gr), (0, ne), (0, p), (0, p + 1), (0, 0), (0, ab (p + be))]) dX8_gapBelow_106 rfl (Nat.le_of_ble_eq_true rfl) rfl rfl ?_
                    refine w_goto (tgt := 16) dX8_gapBelow_109 rfl ?_
                    refine Wp.fgl (ls' := [(2, 45), (0, g), (0, b), (0, gr), (0, ne), (0, p), (0, p + 1), (9, 0), (0, ab (p + be))]) 7 rfl ?_
                    refine Wp.fgl (ls' := [(2, 45), (0, g), (0, b), (0, gr), (0, ne), (0, p), (0, p + 1), (9, 0), (9, 0)]) 8 rfl ?_
                    exact ih16 _ (by omega) b gr ne p (p + 1) rfl (by first | omega | assumption) (by first | exact kin_h hok (by omega) (by rw [show p + 12 - 12 = p by omega]; exact c30) hK | exact kin_n (by omega) (by rw [show p + 12 - 12 = p by omega]; exact c30) hK) (by first | exact rk_n (by omega) (by rw [show p + 12 - 12 = p by omega]; exact c30) hR | exact (rk_eq (rk_h (by omega) (by rw [show p + 12 - 12 = p by omega]; exact c30) hR) (by unfold ab at *; omega) (by unfold ab at *; omega) (by unfold ab at *; omega) rfl))
                  · skip
                    refine w_iload dX8_gapBelow_92 rfl ?_
                    refine w_istore_n (ls' := [(2, 45), (0, g), (0, be), (0, gr), (0, ne), (0, be), (0, p), (0, 0), (0, ab (p + be))]) dX8_gapBelow_94 rfl (Nat.le_of_ble_eq_true rfl) rfl rfl ?_
                    refine w_iload dX8_gapBelow_95 rfl ?_
                    refine w_istore_n (ls' := [(2, 45), (0, g), (0, be), (0, 0), (0, ne), (0, be), (0, p), (0, 0), (0, ab (p + be))]) dX8_gapBelow_97 rfl (Nat.le_of_ble_eq_true rfl) rfl rfl ?_
                    refine w_iload dX8_gapBelow_98 rfl ?_
                    refine w_istore (ls' := [(2, 45), (0, g), (0, be), (0, 0), (0, ab (p + be)), (0, be), (0, p), (0, 0), (0, ab (p + be))]) dX8_gapBelow_100 (Nat.le_of_ble_eq_true rfl) rfl rfl ?_
                    refine w_iload dX8_gapBelow_102 rfl ?_
                    refine w_istore (ls' := [(2, 45), (0, g), (0, be), (0, 0), (0, ab (p + be)), (0, p), (0, p), (0, 0), (0, ab (p + be))]) dX8_gapBelow_104 (Nat.le_of_ble_eq_true rfl) rfl rfl ?_
                    refine w_iinc (ls' := [(2, 45), (0, g), (0, be), (0, 0), (0, ab (p + be)), (0, p), (0, p + 1), (0, 0), (0, ab (p + be))]) dX8_gapBelow_106 rfl (Nat.le_of_ble_eq_true rfl) rfl rfl ?_
                    refine w_goto (tgt := 16) dX8_gapBelow_109 rfl ?_
                    refine Wp.fgl (ls' := [(2, 45), (0, g), (0, be), (0, 0), (0, ab (p + be)), (0, p), (0, p + 1), (9, 0), (0, ab (p + be))]) 7 rfl ?_
                    refine Wp.fgl (ls' := [(2, 45), (0, g), (0, be), (0, 0), (0, ab (p + be)), (0, p), (0, p + 1), (9, 0), (9, 0)]) 8 rfl ?_
                    exact ih16 _ (by omega) be 0 (ab (p + be)) p (p + 1) rfl (by first | omega | assumption) (by first | exact kin_h hok (by omega) (by rw [show p + 12 - 12 = p by omega]; exact c30) hK | exact kin_n (by omega) (by rw [show p + 12 - 12 = p by omega]; exact c30) hK) (by first | exact rk_n (by omega) (by rw [show p + 12 - 12 = p by omega]; exact c30) hR | exact (rk_eq (rk_h (by omega) (by rw [show p + 12 - 12 = p by omega]; exact c30) hR) (by unfold ab at *; omega) (by unfold ab at *; omega) (by unfold ab at *; omega) rfl))
        · skip
          replace c30 := am_b0 c30
          refine w_goto (tgt := 106) dX8_gapBelow_33 rfl ?_
          refine w_iinc (ls' := [(2, 45), (0, g), (0, b), (0, gr), (0, ne), (0, be), (0, p + 1), (9, 0), (9, 0)]) dX8_gapBelow_106 rfl (Nat.le_of_ble_eq_true rfl) rfl rfl ?_
          refine w_goto (tgt := 16) dX8_gapBelow_109 rfl ?_
          exact ih16 _ (by omega) b gr ne be (p + 1) rfl (by first | omega | assumption) (by first | exact kin_h hok (by omega) (by rw [show p + 12 - 12 = p by omega]; exact c30) hK | exact kin_n (by omega) (by rw [show p + 12 - 12 = p by omega]; exact c30) hK) (by first | exact rk_n (by omega) (by rw [show p + 12 - 12 = p by omega]; exact c30) hR | exact (rk_eq (rk_h (by omega) (by rw [show p + 12 - 12 = p by omega]; exact c30) hR) (by unfold ab at *; omega) (by unfold ab at *; omega) (by unfold ab at *; omega) rfl))
  exact hL16 _ 99 0 0 99 (-12) rfl (by first | omega | assumption) (kin_0 D) (rk_0 D)

set_option maxRecDepth 100000 in
set_option maxHeartbeats 4000000 in
theorem s_X8_plainWay (X : AX) (D : GDt) (f : Int) (g : Int) (μ : Mu) (hG : RGs D f g μ) : Wp (GG X) M_X8_plainWay 0 [(2, 45), (0, g), (9, 0), (9, 0), (9, 0), (9, 0), (9, 0)] [] μ (pP 0 (cway D) μ) := by
  have hok := hG.ok
  have hn := hok.n
  have hfr := hG.r
  refine w_iconst dX8_plainWay_0 ?_
  refine w_istore_n (ls' := [(2, 45), (0, g), (0, 0), (9, 0), (9, 0), (9, 0), (9, 0)]) dX8_plainWay_1 rfl (Nat.le_of_ble_eq_true rfl) rfl rfl ?_
  refine w_iconst dX8_plainWay_2 ?_
  refine w_istore_n (ls' := [(2, 45), (0, g), (0, 0), (0, 0), (9, 0), (9, 0), (9, 0)]) dX8_plainWay_3 rfl (Nat.le_of_ble_eq_true rfl) rfl rfl ?_
  refine w_iconst dX8_plainWay_4 ?_
  refine w_istore (ls' := [(2, 45), (0, g), (0, 0), (0, 0), (0, 0), (9, 0), (9, 0)]) dX8_plainWay_5 (Nat.le_of_ble_eq_true rfl) rfl rfl ?_
  refine w_iconst dX8_plainWay_7 ?_
  refine w_istore (ls' := [(2, 45), (0, g), (0, 0), (0, 0), (0, 0), (0, 0), (9, 0)]) dX8_plainWay_8 (Nat.le_of_ble_eq_true rfl) rfl rfl ?_
  have hL10 : ∀ (n10 : Nat) (a : Int) (b : Int) (c : Int) (i : Int), (dN D - i).toNat = n10 → (0 ≤ i ∧ i ≤ dN D) → (a = hiD D i) → (b = loD D i) → (c = suD D i) → Wp (GG X) M_X8_plainWay 10 [(2, 45), (0, g), (0, a), (0, b), (0, c), (0, i), (9, 0)] [] μ (pP 0 (cway D) μ) := by
    intro n10
    induction n10 using Nat.strongRecOn with
    | ind n10 ih10 =>
      intro a b c i hn10 hi0 ha hb hc
      have hr := hls_r hok hi0
      refine w_iload dX8_plainWay_10 rfl ?_
      refine w_aload_n dX8_plainWay_12 rfl rfl (by first | decide | omega) ?_
      refine w_getR (o := 45) (x := 55) fX8_plainWay_13 rfl rfl rfl rfl ?_
      refine w_iload_n dX8_plainWay_16 rfl rfl ?_
      refine w_ialdx (o := 55) (n := 33) (x := dN D) dX8_plainWay_17 rfl rfl (Nat.le_of_ble_eq_true rfl) (by omega) hG.m ?_
      have hr1 := (hG.ok).n
      refine w_icmp_ge (tgt := 78) dX8_plainWay_18 rfl (R32.in (by omega)) (R32.in (by omega)) (fun c18 => ?_) (fun c18 => ?_)
      · skip
        refine w_iload_n dX8_plainWay_78 rfl rfl ?_
        refine w_iload_n dX8_plainWay_79 rfl rfl ?_
        refine w_icmp_eq (tgt := 94) dX8_plainWay_80 rfl (R32.in (by omega)) (R32.in (by omega)) (fun c80 => ?_) (fun c80 => ?_)
        · skip
          refine w_iload dX8_plainWay_94 rfl ?_
          refine w_if_eq (tgt := 110) dX8_plainWay_96 rfl (R32.in (by omega)) (fun c96 => ?_) (fun c96 => ?_)
          · skip
            refine w_aload_n dX8_plainWay_110 rfl rfl (by first | decide | omega) ?_
            refine w_getR (o := 45) (x := 56) fX8_plainWay_111 rfl rfl rfl rfl ?_
            refine w_aload_n dX8_plainWay_114 rfl rfl (by first | decide | omega) ?_
            refine w_getR (o := 45) (x := 54) fX8_plainWay_115 rfl rfl rfl rfl ?_
            refine w_iload_n dX8_plainWay_118 rfl rfl ?_
            refine w_ialdx (o := 54) (n := 33) (x := f) dX8_plainWay_119 rfl rfl (Nat.le_of_ble_eq_true rfl) (by omega) hG.fi ?_
            refine w_ialdx (o := 56) (n := 64) (x := dH D 0) dX8_plainWay_120 rfl rfl (Nat.le_of_ble_eq_true rfl) (by omega) (hG.h0 (by omega)) ?_
            have hr2 := (hG.ok).hr (i := 0) (by omega)
            refine w_if_lt (tgt := 128) dX8_plainWay_121 rfl (R32.in (by omega)) (fun c121 => ?_) (fun c121 => ?_)
            · skip
              refine w_iconst dX8_plainWay_128 ?_
              exact w_iretP dX8_plainWay_129 rfl (by have he : i = dN D := (by omega); subst he; unfold cway; omega)
            · skip
              refine w_iconst dX8_plainWay_124 ?_
              refine w_goto (tgt := 129) dX8_plainWay_125 rfl ?_
              exact w_iretP dX8_plainWay_129 rfl (by have he : i = dN D := (by omega); subst he; unfold cway; omega)
          · skip
            refine w_iload dX8_plainWay_99 rfl ?_
            refine w_if_le (tgt := 108) dX8_plainWay_101 rfl (R32.in (by omega)) (fun c101 => ?_) (fun c101 => ?_)
            · skip
              refine w_iconst dX8_plainWay_108 ?_
              exact w_iretP dX8_plainWay_109 rfl (by have he : i = dN D := (by omega); subst he; unfold cway; omega)
            · skip
              refine w_iconst dX8_plainWay_104 ?_
              refine w_goto (tgt := 109) dX8_plainWay_105 rfl ?_
              exact w_iretP dX8_plainWay_109 rfl (by have he : i = dN D := (by omega); subst he; unfold cway; omega)
        · skip
          refine w_iload_n dX8_plainWay_83 rfl rfl ?_
          refine w_iload_n dX8_plainWay_84 rfl rfl ?_
          refine w_icmp_le (tgt := 92) dX8_plainWay_85 rfl (R32.in (by omega)) (R32.in (by omega)) (fun c85 => ?_) (fun c85 => ?_)
          · skip
            refine w_iconst dX8_plainWay_92 ?_
            exact w_iretP dX8_plainWay_93 rfl (by have he : i = dN D := (by omega); subst he; unfold cway; omega)
          · skip
            refine w_iconst dX8_plainWay_88 ?_
            refine w_goto (tgt := 93) dX8_plainWay_89 rfl ?_
            exact w_iretP dX8_plainWay_93 rfl (by have he : i = dN D := (by omega); subst he; unfold cway; omega)
      · skip
        refine w_aload_n dX8_plainWay_21 rfl rfl (by first | decide | omega) ?_
        refine w_getR (o := 45) (x := 56) fX8_plainWay_22 rfl rfl rfl rfl ?_
        refine w_aload_n dX8_plainWay_25 rfl rfl (by first | decide | omega) ?_
        refine w_getR (o := 45) (x := 54) fX8_plainWay_26 rfl rfl rfl rfl ?_
        refine w_iload_n dX8_plainWay_29 rfl rfl ?_
        refine w_ialdx (o := 54) (n := 33) (x := f) dX8_plainWay_30 rfl rfl (Nat.le_of_ble_eq_true rfl) (by omega) hG.fi ?_
        refine w_iload dX8_plainWay_31 rfl ?_
        refine w_iadd dX8_plainWay_33 ?_
        refine w_ialdx (o := 56) (n := 64) (x := dH D i) dX8_plainWay_34 rfl rfl (Nat.le_of_ble_eq_true rfl) (by omega) (hG.h (by omega)) ?_
        have hr3 := (hG.ok).hr (i := i) (by omega)
        refine w_istore (ls' := [(2, 45), (0, g), (0, a), (0, b), (0, c), (0, i), (0, dH D i)]) dX8_plainWay_35 (Nat.le_of_ble_eq_true rfl) rfl rfl ?_
        refine w_iload dX8_plainWay_37 rfl ?_
        refine w_iload_n dX8_plainWay_39 rfl rfl ?_
        refine w_icmp_le (tgt := 48) dX8_plainWay_40 rfl (R32.in (by omega)) (R32.in (by omega)) (fun c40 => ?_) (fun c40 => ?_)
        · skip
          refine w_iload_n dX8_plainWay_48 rfl rfl ?_
          refine w_istore_n (ls' := [(2, 45), (0, g), (0, a), (0, b), (0, c), (0, i), (0, dH D i)]) dX8_plainWay_49 rfl (Nat.le_of_ble_eq_true rfl) rfl rfl ?_
          refine w_iload dX8_plainWay_50 rfl ?_
          refine w_ineg dX8_plainWay_52 ?_
          refine w_iload_n dX8_plainWay_53 rfl rfl ?_
          refine w_icmp_le (tgt := 63) dX8_plainWay_54 rfl (R32.in (by omega)) (R32.in (by omega)) (fun c54 => ?_) (fun c54 => ?_)
          · skip
            refine w_iload_n dX8_plainWay_63 rfl rfl ?_
            refine w_istore_n (ls' := [(2, 45), (0, g), (0, a), (0, b), (0, c), (0, i), (0, dH D i)]) dX8_plainWay_64 rfl (Nat.le_of_ble_eq_true rfl) rfl rfl ?_
            refine w_iload dX8_plainWay_65 rfl ?_
            refine w_iload dX8_plainWay_67 rfl ?_
            refine w_iadd dX8_plainWay_69 ?_
            refine w_istore (ls' := [(2, 45), (0, g), (0, a), (0, b), (0, c + (dH D i)), (0, i), (0, dH D i)]) dX8_plainWay_70 (Nat.le_of_ble_eq_true rfl) rfl rfl ?_
            refine w_iinc (ls' := [(2, 45), (0, g), (0, a), (0, b), (0, c + (dH D i)), (0, i + 1), (0, dH D i)]) dX8_plainWay_72 rfl (Nat.le_of_ble_eq_true rfl) rfl rfl ?_
            refine w_goto (tgt := 10) dX8_plainWay_75 rfl ?_
            refine Wp.fgl (ls' := [(2, 45), (0, g), (0, a), (0, b), (0, c + (dH D i)), (0, i + 1), (9, 0)]) 6 rfl ?_
            exact ih10 _ (by omega) a b (c + (dH D i)) (i + 1) rfl (by first | omega | assumption) (by rw [hiD_s hi0.1]; omega) (by rw [loD_s hi0.1]; omega) (by rw [suD_s hi0.1]; omega)
          · skip
            refine w_iload dX8_plainWay_57 rfl ?_
            refine w_ineg dX8_plainWay_59 ?_
            refine w_goto (tgt := 64) dX8_plainWay_60 rfl ?_
            refine w_istore_n (ls' := [(2, 45), (0, g), (0, a), (0, -(dH D i)), (0, c), (0, i), (0, dH D i)]) dX8_plainWay_64 rfl (Nat.le_of_ble_eq_true rfl) rfl rfl ?_
            refine w_iload dX8_plainWay_65 rfl ?_
            refine w_iload dX8_plainWay_67 rfl ?_
            refine w_iadd dX8_plainWay_69 ?_
            refine w_istore (ls' := [(2, 45), (0, g), (0, a), (0, -(dH D i)), (0, c + (dH D i)), (0, i), (0, dH D i)]) dX8_plainWay_70 (Nat.le_of_ble_eq_true rfl) rfl rfl ?_
            refine w_iinc (ls' := [(2, 45), (0, g), (0, a), (0, -(dH D i)), (0, c + (dH D i)), (0, i + 1), (0, dH D i)]) dX8_plainWay_72 rfl (Nat.le_of_ble_eq_true rfl) rfl rfl ?_
            refine w_goto (tgt := 10) dX8_plainWay_75 rfl ?_
            refine Wp.fgl (ls' := [(2, 45), (0, g), (0, a), (0, -(dH D i)), (0, c + (dH D i)), (0, i + 1), (9, 0)]) 6 rfl ?_
            exact ih10 _ (by omega) a (-(dH D i)) (c + (dH D i)) (i + 1) rfl (by first | omega | assumption) (by rw [hiD_s hi0.1]; omega) (by rw [loD_s hi0.1]; omega) (by rw [suD_s hi0.1]; omega)
        · skip
          refine w_iload dX8_plainWay_43 rfl ?_
          refine w_goto (tgt := 49) dX8_plainWay_45 rfl ?_
          refine w_istore_n (ls' := [(2, 45), (0, g), (0, dH D i), (0, b), (0, c), (0, i), (0, dH D i)]) dX8_plainWay_49 rfl (Nat.le_of_ble_eq_true rfl) rfl rfl ?_
          refine w_iload dX8_plainWay_50 rfl ?_
          refine w_ineg dX8_plainWay_52 ?_
          refine w_iload_n dX8_plainWay_53 rfl rfl ?_
          refine w_icmp_le (tgt := 63) dX8_plainWay_54 rfl (R32.in (by omega)) (R32.in (by omega)) (fun c54 => ?_) (fun c54 => ?_)
          · skip
            refine w_iload_n dX8_plainWay_63 rfl rfl ?_
            refine w_istore_n (ls' := [(2, 45), (0, g), (0, dH D i), (0, b), (0, c), (0, i), (0, dH D i)]) dX8_plainWay_64 rfl (Nat.le_of_ble_eq_true rfl) rfl rfl ?_
            refine w_iload dX8_plainWay_65 rfl ?_
            refine w_iload dX8_plainWay_67 rfl ?_
            refine w_iadd dX8_plainWay_69 ?_
            refine w_istore (ls' := [(2, 45), (0, g), (0, dH D i), (0, b), (0, c + (dH D i)), (0, i), (0, dH D i)]) dX8_plainWay_70 (Nat.le_of_ble_eq_true rfl) rfl rfl ?_
            refine w_iinc (ls' := [(2, 45), (0, g), (0, dH D i), (0, b), (0, c + (dH D i)), (0, i + 1), (0, dH D i)]) dX8_plainWay_72 rfl (Nat.le_of_ble_eq_true rfl) rfl rfl ?_
            refine w_goto (tgt := 10) dX8_plainWay_75 rfl ?_
            refine Wp.fgl (ls' := [(2, 45), (0, g), (0, dH D i), (0, b), (0, c + (dH D i)), (0, i + 1), (9, 0)]) 6 rfl ?_
            exact ih10 _ (by omega) (dH D i) b (c + (dH D i)) (i + 1) rfl (by first | omega | assumption) (by rw [hiD_s hi0.1]; omega) (by rw [loD_s hi0.1]; omega) (by rw [suD_s hi0.1]; omega)
          · skip
            refine w_iload dX8_plainWay_57 rfl ?_
            refine w_ineg dX8_plainWay_59 ?_
            refine w_goto (tgt := 64) dX8_plainWay_60 rfl ?_
            refine w_istore_n (ls' := [(2, 45), (0, g), (0, dH D i), (0, -(dH D i)), (0, c), (0, i), (0, dH D i)]) dX8_plainWay_64 rfl (Nat.le_of_ble_eq_true rfl) rfl rfl ?_
            refine w_iload dX8_plainWay_65 rfl ?_
            refine w_iload dX8_plainWay_67 rfl ?_
            refine w_iadd dX8_plainWay_69 ?_
            refine w_istore (ls' := [(2, 45), (0, g), (0, dH D i), (0, -(dH D i)), (0, c + (dH D i)), (0, i), (0, dH D i)]) dX8_plainWay_70 (Nat.le_of_ble_eq_true rfl) rfl rfl ?_
            refine w_iinc (ls' := [(2, 45), (0, g), (0, dH D i), (0, -(dH D i)), (0, c + (dH D i)), (0, i + 1), (0, dH D i)]) dX8_plainWay_72 rfl (Nat.le_of_ble_eq_true rfl) rfl rfl ?_
            refine w_goto (tgt := 10) dX8_plainWay_75 rfl ?_
            refine Wp.fgl (ls' := [(2, 45), (0, g), (0, dH D i), (0, -(dH D i)), (0, c + (dH D i)), (0, i + 1), (9, 0)]) 6 rfl ?_
            exact ih10 _ (by omega) (dH D i) (-(dH D i)) (c + (dH D i)) (i + 1) rfl (by first | omega | assumption) (by rw [hiD_s hi0.1]; omega) (by rw [loD_s hi0.1]; omega) (by rw [suD_s hi0.1]; omega)
  exact hL10 _ 0 0 0 0 rfl (by first | omega | assumption) rfl rfl rfl

set_option maxRecDepth 100000 in
set_option maxHeartbeats 4000000 in
theorem s_X8_laysWays (X : AX) (D : GDt) (f : Int) (g : Int) (μ : Mu) (hG : RGs D f g μ) : Wp (GG X) M_X8_laysWays 0 [(2, 45), (0, g), (9, 0), (9, 0), (9, 0), (9, 0)] [] μ (qV fun μ' => (Fr 45 45 57 57 μ' μ) ∧ (RW D f μ') ∧ (∀ k : Int, ¬ k = 21 → μ' 45 k = μ 45 k)) := by
  have hok := hG.ok
  have hn := hok.n
  have hfr := hG.r
  have hkl := klow_r hok
  refine w_aload_n dX8_laysWays_0 rfl rfl (by first | decide | omega) ?_
  refine w_iload_n dX8_laysWays_1 rfl rfl ?_
  refine w_callVP (o := 45) (ci := 8) (as := [(0, g)]) (rest := []) (k := 7) fX8_laysWays_2 rfl rfl rfl rfl rfl rfl rfl rfl (Nat.le_of_ble_eq_true rfl) (s_X8_gapBelow X D f g μ hG) ?_
  have hf1 := klow_f D (by assumption)
  refine w_istore_n (ls' := [(2, 45), (0, g), (0, klow D), (9, 0), (9, 0), (9, 0)]) dX8_laysWays_5 rfl (Nat.le_of_ble_eq_true rfl) rfl rfl ?_
  refine w_aload_n dX8_laysWays_6 rfl rfl (by first | decide | omega) ?_
  refine w_iload_n dX8_laysWays_7 rfl rfl ?_
  refine w_bipush dX8_laysWays_8 (by decide) ?_
  have hJ10_1 : ∀ z1_0 : Int, z1_0 = (if (klow D) = 99 then 0 else 1) → Wp (GG X) M_X8_laysWays 18 [(2, 45), (0, g), (0, klow D), (9, 0), (9, 0), (9, 0)] [(0, z1_0), (2, 45)] μ (qV fun μ' => (Fr 45 45 57 57 μ' μ) ∧ (RW D f μ') ∧ (∀ k : Int, ¬ k = 21 → μ' 45 k = μ 45 k)) := by
    intro z1_0 hz1_0
    refine w_putZ (o := 45) (f := 21) fX8_laysWays_18 rfl rfl rfl rfl rfl (by omega) ?_
    refine w_aload_n dX8_laysWays_21 rfl rfl (by first | decide | omega) ?_
    refine w_getIx (o := 45) (f := 21) (x := z1_0) fX8_laysWays_22 rfl rfl (Nat.le_of_ble_eq_true rfl) rfl am_up_at ?_
    have hJ25_2 : ∀ z2_0 : Int, z2_0 = (if z1_0 = 0 then cway D else 0) → Wp (GG X) M_X8_laysWays 37 [(2, 45), (0, g), (0, klow D), (9, 0), (9, 0), (9, 0)] [(0, z2_0)] (am_up μ 45 21 z1_0) (qV fun μ' => (Fr 45 45 57 57 μ' μ) ∧ (RW D f μ') ∧ (∀ k : Int, ¬ k = 21 → μ' 45 k = μ 45 k)) := by
      intro z2_0 hz2_0
      refine w_istore_n (ls' := [(2, 45), (0, g), (0, klow D), (0, z2_0), (9, 0), (9, 0)]) dX8_laysWays_37 rfl (Nat.le_of_ble_eq_true rfl) rfl rfl ?_
      refine w_iconst dX8_laysWays_38 ?_
      refine w_istore (ls' := [(2, 45), (0, g), (0, klow D), (0, z2_0), (0, 0), (9, 0)]) dX8_laysWays_39 (Nat.le_of_ble_eq_true rfl) rfl rfl ?_
      have hL41 : ∀ (n41 : Nat) (i : Int) (μ9 : Mu), (dN D - i).toNat = n41 → Fr 45 45 57 57 μ9 μ → (0 ≤ i ∧ i ≤ dN D) → (∀ j : Int, 0 ≤ j → j < i → μ9 57 (f + j) = way D j) → (μ9 45 21 = am_b (¬ klow D = 99)) → (∀ k : Int, ¬ k = 21 → μ9 45 k = μ 45 k) → Wp (GG X) M_X8_laysWays 41 [(2, 45), (0, g), (0, klow D), (0, z2_0), (0, i), (9, 0)] [] μ9 (qV fun μ' => (Fr 45 45 57 57 μ' μ) ∧ (RW D f μ') ∧ (∀ k : Int, ¬ k = 21 → μ' 45 k = μ 45 k)) := by
        intro n41
        induction n41 using Nat.strongRecOn with
        | ind n41 ih41 =>
          intro i μ9 hn41 hF41 hi0 hw hk4 hf
          refine w_iload dX8_laysWays_41 rfl ?_
          refine w_aload_n dX8_laysWays_43 rfl rfl (by first | decide | omega) ?_
          refine w_getR (o := 45) (x := 55) fX8_laysWays_44 rfl rfl rfl rfl ?_
          refine w_iload_n dX8_laysWays_47 rfl rfl ?_
          refine w_ialdx (o := 55) (n := 33) (x := dN D) dX8_laysWays_48 rfl rfl (Nat.le_of_ble_eq_true rfl) (by omega) ((congrFun (hF41.at (by omega) (by omega)) _).trans hG.m) ?_
          have hr2 := (hG.ok).n
          refine w_icmp_ge (tgt := 103) dX8_laysWays_49 rfl (R32.in (by omega)) (R32.in (by omega)) (fun c49 => ?_) (fun c49 => ?_)
          · skip
            exact w_retV dX8_laysWays_103 rfl ⟨hF41, (by have he : i = dN D := (by omega); subst he; exact RW.of hG (fun o h1 => hF41.at (by omega) (by omega)) hk4 hw), (fun k h1 => (hf k (by omega)))⟩
          · skip
            refine w_aload_n dX8_laysWays_52 rfl rfl (by first | decide | omega) ?_
            refine w_getR (o := 45) (x := 54) fX8_laysWays_53 rfl rfl rfl rfl ?_
            refine w_iload_n dX8_laysWays_56 rfl rfl ?_
            refine w_ialdx (o := 54) (n := 33) (x := f) dX8_laysWays_57 rfl rfl (Nat.le_of_ble_eq_true rfl) (by omega) ((congrFun (hF41.at (by omega) (by omega)) _).trans hG.fi) ?_
            refine w_iload dX8_laysWays_58 rfl ?_
            refine w_iadd dX8_laysWays_60 ?_
            refine w_istore (ls' := [(2, 45), (0, g), (0, klow D), (0, z2_0), (0, i), (0, f + i)]) dX8_laysWays_61 (Nat.le_of_ble_eq_true rfl) rfl rfl ?_
            refine w_aload_n dX8_laysWays_63 rfl rfl (by first | decide | omega) ?_
            refine w_getR (o := 45) (x := 57) fX8_laysWays_64 rfl rfl rfl rfl ?_
            refine w_iload dX8_laysWays_67 rfl ?_
            refine w_aload_n dX8_laysWays_69 rfl rfl (by first | decide | omega) ?_
            refine w_getIx (o := 45) (f := 21) (x := am_b (¬ klow D = 99)) fX8_laysWays_70 rfl rfl (Nat.le_of_ble_eq_true rfl) rfl hk4 ?_
            have hJ73_3 : ∀ z3_0 : Int, z3_0 = (if (¬ klow D = 99) then (if (dH D i) ≤ (klow D) then 1 else -1) else z2_0) → Wp (GG X) M_X8_laysWays 96 [(2, 45), (0, g), (0, klow D), (0, z2_0), (0, i), (0, f + i)] [(0, z3_0), (0, f + i), (2, 57)] μ9 (qV fun μ' => (Fr 45 45 57 57 μ' μ) ∧ (RW D f μ') ∧ (∀ k : Int, ¬ k = 21 → μ' 45 k = μ 45 k)) := by
              intro z3_0 hz3_0
              refine w_iast (o := 57) (n := 64) dX8_laysWays_96 rfl rfl (Nat.le_of_ble_eq_true rfl) (by omega) (by omega) ?_
              refine w_iinc (ls' := [(2, 45), (0, g), (0, klow D), (0, z2_0), (0, i + 1), (0, f + i)]) dX8_laysWays_97 rfl (Nat.le_of_ble_eq_true rfl) rfl rfl ?_
              refine w_goto (tgt := 41) dX8_laysWays_100 rfl ?_
              refine Wp.fgl (ls' := [(2, 45), (0, g), (0, klow D), (0, z2_0), (0, i + 1), (9, 0)]) 5 rfl ?_
              exact ih41 _ (by omega) (i + 1) (am_up μ9 57 (f + i) z3_0) rfl (hF41.up (by omega)) (by first | omega | assumption) (fillf hw (by unfold way; omega)) (((congrFun (am_up_o (by first | decide | omega)) _).trans hk4).trans (by rfl)) (fun k h1 => ((congrFun (am_up_o (by omega)) _).trans (hf k (by omega))))
            refine w_if_ne (tgt := 80) dX8_laysWays_73 rfl (R32.in (by have := am_b_r ((¬ klow D = 99)); omega)) (fun c73 => ?_) (fun c73 => ?_)
            · skip
              replace c73 := am_b1 c73
              refine w_aload_n dX8_laysWays_80 rfl rfl (by first | decide | omega) ?_
              refine w_getR (o := 45) (x := 56) fX8_laysWays_81 rfl rfl rfl rfl ?_
              refine w_iload dX8_laysWays_84 rfl ?_
              refine w_ialdx (o := 56) (n := 64) (x := dH D i) dX8_laysWays_86 rfl rfl (Nat.le_of_ble_eq_true rfl) (by omega) ((congrFun (hF41.at (by omega) (by omega)) _).trans (hG.h (by omega))) ?_
              have hr3 := (hG.ok).hr (i := i) (by omega)
              refine w_iload_n dX8_laysWays_87 rfl rfl ?_
              refine w_icmp_le (tgt := 95) dX8_laysWays_88 rfl (R32.in (by omega)) (R32.in (by omega)) (fun c88 => ?_) (fun c88 => ?_)
              · skip
                refine w_iconst dX8_laysWays_95 ?_
                exact hJ73_3 _ (by first | omega | simp [*])
              · skip
                refine w_iconst dX8_laysWays_91 ?_
                refine w_goto (tgt := 96) dX8_laysWays_92 rfl ?_
                exact hJ73_3 _ (by first | omega | simp [*])
            · skip
              replace c73 := am_b0 c73
              refine w_iload_n dX8_laysWays_76 rfl rfl ?_
              refine w_goto (tgt := 96) dX8_laysWays_77 rfl ?_
              exact hJ73_3 _ (by first | omega | simp [*])
      exact hL41 _ 0 (am_up μ 45 21 z1_0) rfl (Fr.rf.up (by omega)) (by first | omega | assumption) (fun j h1 h2 => by omega) (am_up_at.trans (by unfold am_b; omega)) (fun k h1 => (am_up_nk (by omega)))
    refine w_if_eq (tgt := 32) dX8_laysWays_25 rfl (R32.in (by omega)) (fun c25 => ?_) (fun c25 => ?_)
    · skip
      refine w_aload_n dX8_laysWays_32 rfl rfl (by first | decide | omega) ?_
      refine w_iload_n dX8_laysWays_33 rfl rfl ?_
      refine w_callVP (o := 45) (ci := 8) (as := [(0, g)]) (rest := []) (k := 5) fX8_laysWays_34 rfl rfl rfl rfl rfl rfl rfl rfl (Nat.le_of_ble_eq_true rfl) (s_X8_plainWay X D f g (am_up μ 45 21 z1_0) (RGs.cg2 hG (fun o h1 => (am_up_o (by omega))) (fun k h1 => (am_up_nk (by omega))))) ?_
      have hf4 := way_r D 0
      exact hJ25_2 _ (by first | omega | simp [*])
    · skip
      refine w_iconst dX8_laysWays_28 ?_
      refine w_goto (tgt := 37) dX8_laysWays_29 rfl ?_
      exact hJ25_2 _ (by first | omega | simp [*])
  refine w_icmp_eq (tgt := 17) dX8_laysWays_10 rfl (R32.in (by omega)) (R32.in (by decide)) (fun c10 => ?_) (fun c10 => ?_)
  · skip
    refine w_iconst dX8_laysWays_17 ?_
    exact hJ10_1 _ (by first | omega | simp [*])
  · skip
    refine w_iconst dX8_laysWays_13 ?_
    refine w_goto (tgt := 18) dX8_laysWays_14 rfl ?_
    exact hJ10_1 _ (by first | omega | simp [*])

set_option maxRecDepth 100000 in
set_option maxHeartbeats 4000000 in
theorem s_X8_opens (X : AX) (D : GDt) (f : Int) (g : Int) (μ : Mu) (hG : RGs D f g μ) : Wp (GG X) M_X8_opens 0 [(2, 45), (0, g)] [] μ (qV fun μ' => (Fr 45 45 57 57 μ' μ) ∧ (RO D f μ') ∧ (∀ k : Int, (¬ k = 21 ∧ ¬ k = 22 ∧ ¬ k = 23 ∧ ¬ k = 24) → μ' 45 k = μ 45 k)) := by
  have hok := hG.ok
  have hn := hok.n
  have hfr := hG.r
  refine w_aload_n dX8_opens_0 rfl rfl (by first | decide | omega) ?_
  refine w_iload_n dX8_opens_1 rfl rfl ?_
  refine w_callVV (o := 45) (ci := 8) (as := [(0, g)]) (rest := []) (k := 4) fX8_opens_2 rfl rfl rfl rfl rfl rfl rfl rfl (Nat.le_of_ble_eq_true rfl) (s_X8_laysWays X D f g μ hG) (fun μW hμW => ?_)
  obtain ⟨hFW, hW_W, hf_W⟩ := hμW
  refine w_aload_n dX8_opens_5 rfl rfl (by first | decide | omega) ?_
  refine w_aload_n dX8_opens_6 rfl rfl (by first | decide | omega) ?_
  refine w_getR (o := 45) (x := 54) fX8_opens_7 rfl rfl rfl rfl ?_
  refine w_iload_n dX8_opens_10 rfl rfl ?_
  refine w_ialdx (o := 54) (n := 33) (x := f) dX8_opens_11 rfl rfl (Nat.le_of_ble_eq_true rfl) (by omega) ((congrFun (hFW.at (by omega) (by omega)) _).trans hG.fi) ?_
  refine w_putI (o := 45) (f := 22) fX8_opens_12 rfl rfl rfl rfl rfl ?_
  refine w_aload_n dX8_opens_15 rfl rfl (by first | decide | omega) ?_
  refine w_aload_n dX8_opens_16 rfl rfl (by first | decide | omega) ?_
  refine w_getIx (o := 45) (f := 22) (x := f) fX8_opens_17 rfl rfl (Nat.le_of_ble_eq_true rfl) rfl am_up_at ?_
  refine w_aload_n dX8_opens_20 rfl rfl (by first | decide | omega) ?_
  refine w_getR (o := 45) (x := 55) fX8_opens_21 rfl rfl rfl rfl ?_
  refine w_iload_n dX8_opens_24 rfl rfl ?_
  refine w_ialdx (o := 55) (n := 33) (x := dN D) dX8_opens_25 rfl rfl (Nat.le_of_ble_eq_true rfl) (by omega) ((congrFun (am_up_o (by first | decide | omega)) _).trans ((congrFun (hFW.at (by omega) (by omega)) _).trans hG.m)) ?_
  have hr2 := (hG.ok).n
  refine w_iadd dX8_opens_26 ?_
  refine w_iconst dX8_opens_27 ?_
  refine w_isub dX8_opens_28 ?_
  refine w_putI (o := 45) (f := 23) fX8_opens_29 rfl rfl rfl rfl rfl ?_
  refine w_aload_n dX8_opens_32 rfl rfl (by first | decide | omega) ?_
  refine w_aload_n dX8_opens_33 rfl rfl (by first | decide | omega) ?_
  refine w_getR (o := 45) (x := 52) fX8_opens_34 rfl rfl rfl rfl ?_
  refine w_aload_n dX8_opens_37 rfl rfl (by first | decide | omega) ?_
  refine w_getIx (o := 45) (f := 23) (x := (f + (dN D)) - 1) fX8_opens_38 rfl rfl (Nat.le_of_ble_eq_true rfl) rfl am_up_at ?_
  refine w_ialdx (o := 52) (n := 64) (x := μ 52 ((f + (dN D)) - 1)) dX8_opens_41 rfl rfl (Nat.le_of_ble_eq_true rfl) (by omega) ((congrFun (am_up_o (by first | decide | omega)) _).trans ((congrFun (am_up_o (by first | decide | omega)) _).trans (congrFun (hFW.at (by omega) (by omega)) _))) ?_
  refine w_aload_n dX8_opens_42 rfl rfl (by first | decide | omega) ?_
  refine w_getR (o := 45) (x := 52) fX8_opens_43 rfl rfl rfl rfl ?_
  refine w_aload_n dX8_opens_46 rfl rfl (by first | decide | omega) ?_
  refine w_getIx (o := 45) (f := 22) (x := f) fX8_opens_47 rfl rfl (Nat.le_of_ble_eq_true rfl) rfl ((am_up_nk (by omega)).trans am_up_at) ?_
  refine w_ialdx (o := 52) (n := 64) (x := μ 52 f) dX8_opens_50 rfl rfl (Nat.le_of_ble_eq_true rfl) (by omega) ((congrFun (am_up_o (by first | decide | omega)) _).trans ((congrFun (am_up_o (by first | decide | omega)) _).trans (congrFun (hFW.at (by omega) (by omega)) _))) ?_
  refine w_isub dX8_opens_51 ?_
  refine w_putI (o := 45) (f := 24) fX8_opens_52 rfl rfl rfl rfl rfl ?_
  exact w_retV dX8_opens_55 rfl ⟨(((hFW.up (by omega)).up (by omega)).up (by omega)), ⟨(RW.cg2 hW_W (fun o h1 => ((am_up_o (by omega)).trans ((am_up_o (by omega)).trans (am_up_o (by omega))))) (fun k h1 => ((am_up_nk (by omega)).trans ((am_up_nk (by omega)).trans (am_up_nk (by omega)))))), (((am_up_nk (by omega)).trans ((am_up_nk (by omega)).trans am_up_at)).trans (by rfl)), (((am_up_nk (by omega)).trans am_up_at).trans (by omega)), (am_up_at.trans (by have hx := hG.x (i := dN D - 1) (by omega); rw [show f + (dN D - 1) = f + dN D - 1 by omega] at hx; unfold spn; omega))⟩, (fun k h1 => ((am_up_nk (by omega)).trans ((am_up_nk (by omega)).trans ((am_up_nk (by omega)).trans (hf_W k (by omega))))))⟩
