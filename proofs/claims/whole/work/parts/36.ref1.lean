set_option maxRecDepth 100000 in
set_option maxHeartbeats 4000000 in
theorem s_X8_far (X : AX) (a : Int) (μ : Mu) (ha : -2147483647 ≤ a ∧ a ≤ 2147483647) : Wp (GG X) M_X8_far 0 [(0, a)] [] μ (pP 0 (ab a) μ) := by
  refine w_iload_n dX8_far_0 rfl rfl ?_
  refine w_if_ge (tgt := 9) dX8_far_1 rfl (R32.in (by omega)) (fun c1 => ?_) (fun c1 => ?_)
  · skip
    refine w_iload_n dX8_far_9 rfl rfl ?_
    exact w_iretP dX8_far_10 rfl (by unfold ab; omega)
  · skip
    refine w_iload_n dX8_far_4 rfl rfl ?_
    refine w_ineg dX8_far_5 ?_
    refine w_goto (tgt := 10) dX8_far_6 rfl ?_
    exact w_iretP dX8_far_10 rfl (by unfold ab; omega)

set_option maxRecDepth 100000 in
set_option maxHeartbeats 4000000 in
theorem s_X8_isIn (X : AX) (n : Int) (a : Int) (b : Int) (μ : Mu) (hn : -2147483648 ≤ n ∧ n ≤ 2147483647) (ha : -2147483648 ≤ a ∧ a ≤ 2147483647) (hb : -2147483648 ≤ b ∧ b ≤ 2147483647) : Wp (GG X) M_X8_isIn 0 [(0, n), (0, a), (0, b)] [] μ (pP 0 (am_b (a ≤ n ∧ n ≤ b)) μ) := by
  refine w_iload_n dX8_isIn_0 rfl rfl ?_
  refine w_iload_n dX8_isIn_1 rfl rfl ?_
  refine w_icmp_lt (tgt := 14) dX8_isIn_2 rfl (R32.in (by omega)) (R32.in (by omega)) (fun c2 => ?_) (fun c2 => ?_)
  · skip
    refine w_iconst dX8_isIn_14 ?_
    exact w_zretP dX8_isIn_15 rfl (Or.inl rfl) (by first | exact am_b_t (by omega) | exact am_b_f (by omega))
  · skip
    refine w_iload_n dX8_isIn_5 rfl rfl ?_
    refine w_iload_n dX8_isIn_6 rfl rfl ?_
    refine w_icmp_gt (tgt := 14) dX8_isIn_7 rfl (R32.in (by omega)) (R32.in (by omega)) (fun c7 => ?_) (fun c7 => ?_)
    · skip
      refine w_iconst dX8_isIn_14 ?_
      exact w_zretP dX8_isIn_15 rfl (Or.inl rfl) (by first | exact am_b_t (by omega) | exact am_b_f (by omega))
    · skip
      refine w_iconst dX8_isIn_10 ?_
      refine w_goto (tgt := 15) dX8_isIn_11 rfl ?_
      exact w_zretP dX8_isIn_15 rfl (Or.inr rfl) (by first | exact am_b_t (by omega) | exact am_b_f (by omega))

set_option maxRecDepth 100000 in
set_option maxHeartbeats 4000000 in
theorem s_X8_beamsOf (X : AX) (k : Int) (μ : Mu) : Wp (GG X) M_X8_beamsOf 0 [(0, k)] [] μ (pP 0 (k) μ) := by
  refine w_iload_n dX8_beamsOf_0 rfl rfl ?_
  exact w_iretP dX8_beamsOf_1 rfl (by rfl)

set_option maxRecDepth 100000 in
set_option maxHeartbeats 4000000 in
theorem s_X8_hasAt (X : AX) (D : GDt) (f : Int) (g : Int) (p : Int) (μ : Mu) (hG : RGs D f g μ) (hp : -12 ≤ p ∧ p ≤ 12) : Wp (GG X) M_X8_hasAt 0 [(2, 45), (0, g), (0, p), (9, 0), (9, 0)] [] μ (pP 0 (am_b (has D p = true)) μ) := by
  have hok := hG.ok
  have hn := hok.n
  have hfr := hG.r
  refine w_iconst dX8_hasAt_0 ?_
  refine w_istore_n (ls' := [(2, 45), (0, g), (0, p), (0, 0), (9, 0)]) dX8_hasAt_1 rfl (Nat.le_of_ble_eq_true rfl) rfl rfl ?_
  refine w_iconst dX8_hasAt_2 ?_
  refine w_istore (ls' := [(2, 45), (0, g), (0, p), (0, 0), (0, 0)]) dX8_hasAt_3 (Nat.le_of_ble_eq_true rfl) rfl rfl ?_
  have hL5 : ∀ (n5 : Nat) (b : Int) (k : Int), (dN D - k).toNat = n5 → (0 ≤ k ∧ k ≤ dN D) → (b = 0 ∨ b = 1) → (b = am_b (hasI D p k = true)) → Wp (GG X) M_X8_hasAt 5 [(2, 45), (0, g), (0, p), (0, b), (0, k)] [] μ (pP 0 (am_b (has D p = true)) μ) := by
    intro n5
    induction n5 using Nat.strongRecOn with
    | ind n5 ih5 =>
      intro b k hn5 hk0 hb01 hb
      refine w_iload dX8_hasAt_5 rfl ?_
      refine w_aload_n dX8_hasAt_7 rfl rfl (by first | decide | omega) ?_
      refine w_getR (o := 45) (x := 55) fX8_hasAt_8 rfl rfl rfl rfl ?_
      refine w_iload_n dX8_hasAt_11 rfl rfl ?_
      refine w_ialdx (o := 55) (n := 33) (x := dN D) dX8_hasAt_12 rfl rfl (Nat.le_of_ble_eq_true rfl) (by omega) hG.m ?_
      have hr1 := (hG.ok).n
      refine w_icmp_ge (tgt := 50) dX8_hasAt_13 rfl (R32.in (by omega)) (R32.in (by omega)) (fun c13 => ?_) (fun c13 => ?_)
      · skip
        refine w_iload_n dX8_hasAt_50 rfl rfl ?_
        exact w_zretP dX8_hasAt_51 rfl (by omega) (by have he : dN D = k := (by omega); unfold has; rw [he]; exact hb)
      · skip
        refine w_iload_n dX8_hasAt_16 rfl rfl ?_
        have hJ17_1 : ∀ z1_0 : Int, z1_0 = (if ¬ b = 0 then 1 else (if ¬ (dH D k) = p then 0 else 1)) → Wp (GG X) M_X8_hasAt 43 [(2, 45), (0, g), (0, p), (0, b), (0, k)] [(0, z1_0)] μ (pP 0 (am_b (has D p = true)) μ) := by
          intro z1_0 hz1_0
          refine w_istore_n (ls' := [(2, 45), (0, g), (0, p), (0, z1_0), (0, k)]) dX8_hasAt_43 rfl (Nat.le_of_ble_eq_true rfl) rfl rfl ?_
          refine w_iinc (ls' := [(2, 45), (0, g), (0, p), (0, z1_0), (0, k + 1)]) dX8_hasAt_44 rfl (Nat.le_of_ble_eq_true rfl) rfl rfl ?_
          refine w_goto (tgt := 5) dX8_hasAt_47 rfl ?_
          exact ih5 _ (by omega) z1_0 (k + 1) rfl (by first | omega | assumption) (by omega) (by rw [← hasI_am hk0.1 hb]; omega)
        refine w_if_ne (tgt := 38) dX8_hasAt_17 rfl (R32.in (by omega)) (fun c17 => ?_) (fun c17 => ?_)
        · skip
          refine w_iconst dX8_hasAt_38 ?_
          refine w_goto (tgt := 43) dX8_hasAt_39 rfl ?_
          exact hJ17_1 _ (by first | omega | simp [*])
        · skip
          refine w_aload_n dX8_hasAt_20 rfl rfl (by first | decide | omega) ?_
          refine w_getR (o := 45) (x := 56) fX8_hasAt_21 rfl rfl rfl rfl ?_
          refine w_aload_n dX8_hasAt_24 rfl rfl (by first | decide | omega) ?_
          refine w_getR (o := 45) (x := 54) fX8_hasAt_25 rfl rfl rfl rfl ?_
          refine w_iload_n dX8_hasAt_28 rfl rfl ?_
          refine w_ialdx (o := 54) (n := 33) (x := f) dX8_hasAt_29 rfl rfl (Nat.le_of_ble_eq_true rfl) (by omega) hG.fi ?_
          refine w_iload dX8_hasAt_30 rfl ?_
          refine w_iadd dX8_hasAt_32 ?_
          refine w_ialdx (o := 56) (n := 64) (x := dH D k) dX8_hasAt_33 rfl rfl (Nat.le_of_ble_eq_true rfl) (by omega) (hG.h (by omega)) ?_
          have hr2 := (hG.ok).hr (i := k) (by omega)
          refine w_iload_n dX8_hasAt_34 rfl rfl ?_
          refine w_icmp_ne (tgt := 42) dX8_hasAt_35 rfl (R32.in (by omega)) (R32.in (by omega)) (fun c35 => ?_) (fun c35 => ?_)
          · skip
            refine w_iconst dX8_hasAt_42 ?_
            exact hJ17_1 _ (by first | omega | simp [*])
          · skip
            refine w_iconst dX8_hasAt_38 ?_
            refine w_goto (tgt := 43) dX8_hasAt_39 rfl ?_
            exact hJ17_1 _ (by first | omega | simp [*])
  exact hL5 _ 0 0 rfl (by first | omega | assumption) (by first | omega | assumption) rfl

set_option maxRecDepth 100000 in
set_option maxHeartbeats 4000000 in
theorem s_X8_gapBelow (X : AX) (D : GDt) (f : Int) (g : Int) (μ : Mu) (hG : RGs D f g μ) : Wp (GG X) M_X8_gapBelow 0 [(2, 45), (0, g), (9, 0), (9, 0), (9, 0), (9, 0), (9, 0), (9, 0), (9, 0)] [] μ (pP 0 (klow D) μ) := by
  have hok := hG.ok
  have hn := hok.n
  have hfr := hG.r
  refine w_bipush dX8_gapBelow_0 (by decide) ?_
  refine w_istore_n (ls' := [(2, 45), (0, g), (0, 99), (9, 0), (9, 0), (9, 0), (9, 0), (9, 0), (9, 0)]) dX8_gapBelow_2 rfl (Nat.le_of_ble_eq_true rfl) rfl rfl ?_
  refine w_iconst dX8_gapBelow_3 ?_
  refine w_istore_n (ls' := [(2, 45), (0, g), (0, 99), (0, 0), (9, 0), (9, 0), (9, 0), (9, 0), (9, 0)]) dX8_gapBelow_4 rfl (Nat.le_of_ble_eq_true rfl) rfl rfl ?_
  refine w_iconst dX8_gapBelow_5 ?_
  refine w_istore (ls' := [(2, 45), (0, g), (0, 99), (0, 0), (0, 0), (9, 0), (9, 0), (9, 0), (9, 0)]) dX8_gapBelow_6 (Nat.le_of_ble_eq_true rfl) rfl rfl ?_
  refine w_bipush dX8_gapBelow_8 (by decide) ?_
  refine w_istore (ls' := [(2, 45), (0, g), (0, 99), (0, 0), (0, 0), (0, 99), (9, 0), (9, 0), (9, 0)]) dX8_gapBelow_10 (Nat.le_of_ble_eq_true rfl) rfl rfl ?_
  refine w_bipush dX8_gapBelow_12 (by decide) ?_
  refine w_istore (ls' := [(2, 45), (0, g), (0, 99), (0, 0), (0, 0), (0, 99), (0, -12), (9, 0), (9, 0)]) dX8_gapBelow_14 (Nat.le_of_ble_eq_true rfl) rfl rfl ?_
  have hL16 : ∀ (n16 : Nat) (b : Int) (gr : Int) (ne : Int) (be : Int) (p : Int), (13 - p).toNat = n16 → (-12 ≤ p ∧ p ≤ 13) → (kin D (p + 12)) → (rk D (p + 12) b gr ne be) → Wp (GG X) M_X8_gapBelow 16 [(2, 45), (0, g), (0, b), (0, gr), (0, ne), (0, be), (0, p), (9, 0), (9, 0)] [] μ (pP 0 (klow D) μ) := by
    intro n16
    induction n16 using Nat.strongRecOn with
    | ind n16 ih16 =>
      intro b gr ne be p hn16 hp0 hK hR
      have hkb := rk_b hK hR
      have hkk := hok.k
      refine w_iload dX8_gapBelow_16 rfl ?_
      refine w_bipush dX8_gapBelow_18 (by decide) ?_
      refine w_icmp_gt (tgt := 112) dX8_gapBelow_20 rfl (R32.in (by omega)) (R32.in (by decide)) (fun c20 => ?_) (fun c20 => ?_)
      · skip
        refine w_iload_n dX8_gapBelow_112 rfl rfl ?_
        exact w_iretP dX8_gapBelow_113 rfl (by have he : p = 13 := (by omega); subst he; exact hR.1)
      · skip
        refine w_aload_n dX8_gapBelow_23 rfl rfl (by first | decide | omega) ?_
        refine w_iload_n dX8_gapBelow_24 rfl rfl ?_
        refine w_iload dX8_gapBelow_25 rfl ?_
        refine w_callVP (o := 45) (ci := 8) (as := [(0, g), (0, p)]) (rest := []) (k := 2) fX8_gapBelow_27 rfl rfl rfl rfl rfl rfl rfl rfl (Nat.le_of_ble_eq_true rfl) (s_X8_hasAt X D f g p μ hG (by first | omega | assumption)) ?_
        have hf1 := am_b_r (has D p = true)
        refine w_if_ne (tgt := 36) dX8_gapBelow_30 rfl (R32.in (by have := am_b_r ((has D p = true)); omega)) (fun c30 => ?_) (fun c30 => ?_)
        · skip
          replace c30 := am_b1 c30
          refine w_iload dX8_gapBelow_36 rfl ?_
          refine w_bipush dX8_gapBelow_38 (by decide) ?_
          refine w_icmp_ne (tgt := 47) dX8_gapBelow_40 rfl (R32.in (by omega)) (R32.in (by decide)) (fun c40 => ?_) (fun c40 => ?_)
          · skip
            refine w_iload dX8_gapBelow_47 rfl ?_
            refine w_iload dX8_gapBelow_49 rfl ?_
            refine w_isub dX8_gapBelow_51 ?_
            refine w_istore (ls' := [(2, 45), (0, g), (0, b), (0, gr), (0, ne), (0, be), (0, p), (0, p - be), (9, 0)]) dX8_gapBelow_52 (Nat.le_of_ble_eq_true rfl) rfl rfl ?_
            refine w_iload dX8_gapBelow_54 rfl ?_
            refine w_iload dX8_gapBelow_56 rfl ?_
            refine w_iadd dX8_gapBelow_58 ?_
            refine w_callSP (as := [(0, p + be)]) (rest := []) (k := 0) fX8_gapBelow_59 rfl rfl rfl rfl rfl (Nat.le_of_ble_eq_true rfl) (s_X8_far X (p + be) μ (by first | omega | assumption)) ?_
            have hf2 := ab_f (p + be)
            refine w_istore (ls' := [(2, 45), (0, g), (0, b), (0, gr), (0, ne), (0, be), (0, p), (0, p - be), (0, ab (p + be))]) dX8_gapBelow_62 (Nat.le_of_ble_eq_true rfl) rfl rfl ?_
            refine w_iload dX8_gapBelow_64 rfl ?_
            refine w_aload_n dX8_gapBelow_66 rfl rfl (by first | decide | omega) ?_
            refine w_getIx (o := 45) (f := 19) (x := dK D) fX8_gapBelow_67 rfl rfl (Nat.le_of_ble_eq_true rfl) rfl hG.k ?_
            have hr3 := (hG.ok).k
            refine w_icmp_lt (tgt := 102) dX8_gapBelow_70 rfl (R32.in (by omega)) (R32.in (by omega)) (fun c70 => ?_) (fun c70 => ?_)
            · skip
              refine w_iload dX8_gapBelow_102 rfl ?_
              refine w_istore (ls' := [(2, 45), (0, g), (0, b), (0, gr), (0, ne), (0, p), (0, p), (0, p - be), (0, ab (p + be))]) dX8_gapBelow_104 (Nat.le_of_ble_eq_true rfl) rfl rfl ?_
              refine w_iinc (ls' := [(2, 45), (0, g), (0, b), (0, gr), (0, ne), (0, p), (0, p + 1), (0, p - be), (0, ab (p + be))]) dX8_gapBelow_106 rfl (Nat.le_of_ble_eq_true rfl) rfl rfl ?_
              refine w_goto (tgt := 16) dX8_gapBelow_109 rfl ?_
              refine Wp.fgl (ls' := [(2, 45), (0, g), (0, b), (0, gr), (0, ne), (0, p), (0, p + 1), (9, 0), (0, ab (p + be))]) 7 rfl ?_
              refine Wp.fgl (ls' := [(2, 45), (0, g), (0, b), (0, gr), (0, ne), (0, p), (0, p + 1), (9, 0), (9, 0)]) 8 rfl ?_
              exact ih16 _ (by omega) b gr ne p (p + 1) rfl (by first | omega | assumption) (by first | exact kin_h hok (by omega) (by rw [show p + 12 - 12 = p by omega]; exact c30) hK | exact kin_n (by omega) (by rw [show p + 12 - 12 = p by omega]; exact c30) hK) (by first | exact rk_n (by omega) (by rw [show p + 12 - 12 = p by omega]; exact c30) hR | exact (rk_eq (rk_h (by omega) (by rw [show p + 12 - 12 = p by omega]; exact c30) hR) (by unfold ab at *; omega) (by unfold ab at *; omega) (by unfold ab at *; omega) rfl))
            · skip
              refine w_iload dX8_gapBelow_73 rfl ?_
              refine w_iload_n dX8_gapBelow_75 rfl rfl ?_
              refine w_icmp_gt (tgt := 92) dX8_gapBelow_76 rfl (R32.in (by omega)) (R32.in (by omega)) (fun c76 => ?_) (fun c76 => ?_)
              · skip
                refine w_iload dX8_gapBelow_92 rfl ?_
                refine w_istore_n (ls' := [(2, 45), (0, g), (0, be), (0, gr), (0, ne), (0, be), (0, p), (0, p - be), (0, ab (p + be))]) dX8_gapBelow_94 rfl (Nat.le_of_ble_eq_true rfl) rfl rfl ?_
                refine w_iload dX8_gapBelow_95 rfl ?_
                refine w_istore_n (ls' := [(2, 45), (0, g), (0, be), (0, p - be), (0, ne), (0, be), (0, p), (0, p - be), (0, ab (p + be))]) dX8_gapBelow_97 rfl (Nat.le_of_ble_eq_true rfl) rfl rfl ?_
                refine w_iload dX8_gapBelow_98 rfl ?_
                refine w_istore (ls' := [(2, 45), (0, g), (0, be), (0, p - be), (0, ab (p + be)), (0, be), (0, p), (0, p - be), (0, ab (p + be))]) dX8_gapBelow_100 (Nat.le_of_ble_eq_true rfl) rfl rfl ?_
                refine w_iload dX8_gapBelow_102 rfl ?_
                refine w_istore (ls' := [(2, 45), (0, g), (0, be), (0, p - be), (0, ab (p + be)), (0, p), (0, p), (0, p - be), (0, ab (p + be))]) dX8_gapBelow_104 (Nat.le_of_ble_eq_true rfl) rfl rfl ?_
                refine w_iinc (ls' := [(2, 45), (0, g), (0, be), (0, p - be), (0, ab (p + be)), (0, p), (0, p + 1), (0, p - be), (0, ab (p + be))]) dX8_gapBelow_106 rfl (Nat.le_of_ble_eq_true rfl) rfl rfl ?_
                refine w_goto (tgt := 16) dX8_gapBelow_109 rfl ?_
                refine Wp.fgl (ls' := [(2, 45), (0, g), (0, be), (0, p - be), (0, ab (p + be)), (0, p), (0, p + 1), (9, 0), (0, ab (p + be))]) 7 rfl ?_
                refine Wp.fgl (ls' := [(2, 45), (0, g), (0, be), (0, p - be), (0, ab (p + be)), (0, p), (0, p + 1), (9, 0), (9, 0)]) 8 rfl ?_
                exact ih16 _ (by omega) be (p - be) (ab (p + be)) p (p + 1) rfl (by first | omega | assumption) (by first | exact kin_h hok (by omega) (by rw [show p + 12 - 12 = p by omega]; exact c30) hK | exact kin_n (by omega) (by rw [show p + 12 - 12 = p by omega]; exact c30) hK) (by first | exact rk_n (by omega) (by rw [show p + 12 - 12 = p by omega]; exact c30) hR | exact (rk_eq (rk_h (by omega) (by rw [show p + 12 - 12 = p by omega]; exact c30) hR) (by unfold ab at *; omega) (by unfold ab at *; omega) (by unfold ab at *; omega) rfl))
              · skip
                refine w_iload dX8_gapBelow_79 rfl ?_
                refine w_iload_n dX8_gapBelow_81 rfl rfl ?_
                refine w_icmp_ne (tgt := 102) dX8_gapBelow_82 rfl (R32.in (by omega)) (R32.in (by omega)) (fun c82 => ?_) (fun c82 => ?_)
                · skip
                  refine w_iload dX8_gapBelow_102 rfl ?_
                  refine w_istore (ls' := [(2, 45), (0, g), (0, b), (0, gr), (0, ne), (0, p), (0, p), (0, p - be), (0, ab (p + be))]) dX8_gapBelow_104 (Nat.le_of_ble_eq_true rfl) rfl rfl ?_
                  refine w_iinc (ls' := [(2, 45), (0, g), (0, b), (0, gr), (0, ne), (0, p), (0, p + 1), (0, p - be), (0, ab (p + be))]) dX8_gapBelow_106 rfl (Nat.le_of_ble_eq_true rfl) rfl rfl ?_
                  refine w_goto (tgt := 16) dX8_gapBelow_109 rfl ?_
                  refine Wp.fgl (ls' := [(2, 45), (0, g), (0, b), (0, gr), (0, ne), (0, p), (0, p + 1), (9, 0), (0, ab (p + be))]) 7 rfl ?_
                  refine Wp.fgl (ls' := [(2, 45), (0, g), (0, b), (0, gr), (0, ne), (0, p), (0, p + 1), (9, 0), (9, 0)]) 8 rfl ?_
                  exact ih16 _ (by omega) b gr ne p (p + 1) rfl (by first | omega | assumption) (by first | exact kin_h hok (by omega) (by rw [show p + 12 - 12 = p by omega]; exact c30) hK | exact kin_n (by omega) (by rw [show p + 12 - 12 = p by omega]; exact c30) hK) (by first | exact rk_n (by omega) (by rw [show p + 12 - 12 = p by omega]; exact c30) hR | exact (rk_eq (rk_h (by omega) (by rw [show p + 12 - 12 = p by omega]; exact c30) hR) (by unfold ab at *; omega) (by unfold ab at *; omega) (by unfold ab at *; omega) rfl))
                · skip
                  refine w_iload dX8_gapBelow_85 rfl ?_
                  refine w_iload dX8_gapBelow_87 rfl ?_
                  refine w_icmp_ge (tgt := 102) dX8_gapBelow_89 rfl (R32.in (by omega)) (R32.in (by omega)) (fun c89 => ?_) (fun c89 => ?_)
                  · skip
                    refine w_iload dX8_gapBelow_102 rfl ?_
                    refine w_istore (ls' := [(2, 45), (0, g), (0, b), (0, gr), (0, ne), (0, p), (0, p), (0, p - be), (0, ab (p + be))]) dX8_gapBelow_104 (Nat.le_of_ble_eq_true rfl) rfl rfl ?_
                    refine w_iinc (ls' := [(2, 45), (0, g), (0, b), (0, gr), (0, ne), (0, p), (0, p + 1), (0, p - be), (0, ab (p + be))]) dX8_gapBelow_106 rfl (Nat.le_of_ble_eq_true rfl) rfl rfl ?_
                    refine w_goto (tgt := 16) dX8_gapBelow_109 rfl ?_
                    refine Wp.fgl (ls' := [(2, 45), (0, g), (0, b), (0, gr), (0, ne), (0, p), (0, p + 1), (9, 0), (0, ab (p + be))]) 7 rfl ?_
                    refine Wp.fgl (ls' := [(2, 45), (0, g), (0, b), (0, gr), (0, ne), (0, p), (0, p + 1), (9, 0), (9, 0)]) 8 rfl ?_
                    exact ih16 _ (by omega) b gr ne p (p + 1) rfl (by first | omega | assumption) (by first | exact kin_h hok (by omega) (by rw [show p + 12 - 12 = p by omega]; exact c30) hK | exact kin_n (by omega) (by rw [show p + 12 - 12 = p by omega]; exact c30) hK) (by first | exact rk_n (by omega) (by rw [show p + 12 - 12 = p by omega]; exact c30) hR | exact (rk_eq (rk_h (by omega) (by rw [show p + 12 - 12 = p by omega]; exact c30) hR) (by unfold ab at *; omega) (by unfold ab at *; omega) (by unfold ab at *; omega) rfl))
                  · skip
                    refine w_iload dX8_gapBelow_92 rfl ?_
                    refine w_istore_n (ls' := [(2, 45), (0, g), (0, be), (0, gr), (0, ne), (0, be), (0, p), (0, p - be), (0, ab (p + be))]) dX8_gapBelow_94 rfl (Nat.le_of_ble_eq_true rfl) rfl rfl ?_
                    refine w_iload dX8_gapBelow_95 rfl ?_
                    refine w_istore_n (ls' := [(2, 45), (0, g), (0, be), (0, p - be), (0, ne), (0, be), (0, p), (0, p - be), (0, ab (p + be))]) dX8_gapBelow_97 rfl (Nat.le_of_ble_eq_true rfl) rfl rfl ?_
                    refine w_iload dX8_gapBelow_98 rfl ?_
                    refine w_istore (ls' := [(2, 45), (0, g), (0, be), (0, p - be), (0, ab (p + be)), (0, be), (0, p), (0, p - be), (0, ab (p + be))]) dX8_gapBelow_100 (Nat.le_of_ble_eq_true rfl) rfl rfl ?_
                    refine w_iload dX8_gapBelow_102 rfl ?_
                    refine w_istore (ls' := [(2, 45), (0, g), (0, be), (0, p - be), (0, ab (p + be)), (0, p), (0, p), (0, p - be), (0, ab (p + be))]) dX8_gapBelow_104 (Nat.le_of_ble_eq_true rfl) rfl rfl ?_
                    refine w_iinc (ls' := [(2, 45), (0, g), (0, be), (0, p - be), (0, ab (p + be)), (0, p), (0, p + 1), (0, p - be), (0, ab (p + be))]) dX8_gapBelow_106 rfl (Nat.le_of_ble_eq_true rfl) rfl rfl ?_
                    refine w_goto (tgt := 16) dX8_gapBelow_109 rfl ?_
                    refine Wp.fgl (ls' := [(2, 45), (0, g), (0, be), (0, p - be), (0, ab (p + be)), (0, p), (0, p + 1), (9, 0), (0, ab (p + be))]) 7 rfl ?_
                    refine Wp.fgl (ls' := [(2, 45), (0, g), (0, be), (0, p - be), (0, ab (p + be)), (0, p), (0, p + 1), (9, 0), (9, 0)]) 8 rfl ?_
                    exact ih16 _ (by omega) be (p - be) (ab (p + be)) p (p + 1) rfl (by first | omega | assumption) (by first | exact kin_h hok (by omega) (by rw [show p + 12 - 12 = p by omega]; exact c30) hK | exact kin_n (by omega) (by rw [show p + 12 - 12 = p by omega]; exact c30) hK) (by first | exact rk_n (by omega) (by rw [show p + 12 - 12 = p by omega]; exact c30) hR | exact (rk_eq (rk_h (by omega) (by rw [show p + 12 - 12 = p by omega]; exact c30) hR) (by unfold ab at *; omega) (by unfold ab at *; omega) (by unfold ab at *; omega) rfl))
          · skip
            refine w_iconst dX8_gapBelow_43 ?_
            refine w_goto (tgt := 52) dX8_gapBelow_44 rfl ?_
            refine w_istore (ls' := [(2, 45), (0, g), (0, b), (0, gr), (0, ne), (0, be), (0, p), (0, 0), (9, 0)]) dX8_gapBelow_52 (Nat.le_of_ble_eq_true rfl) rfl rfl ?_
            refine w_iload dX8_gapBelow_54 rfl ?_
            refine w_iload dX8_gapBelow_56 rfl ?_
            refine w_iadd dX8_gapBelow_58 ?_
            refine w_callSP (as := [(0, p + be)]) (rest := []) (k := 0) fX8_gapBelow_59 rfl rfl rfl rfl rfl (Nat.le_of_ble_eq_true rfl) (s_X8_far X (p + be) μ (by first | omega | assumption)) ?_
            have hf4 := ab_f (p + be)
            refine w_istore (ls' := [(2, 45), (0, g), (0, b), (0, gr), (0, ne), (0, be), (0, p), (0, 0), (0, ab (p + be))]) dX8_gapBelow_62 (Nat.le_of_ble_eq_true rfl) rfl rfl ?_
            refine w_iload dX8_gapBelow_64 rfl ?_
            refine w_aload_n dX8_gapBelow_66 rfl rfl (by first | decide | omega) ?_
            refine w_getIx (o := 45) (f := 19) (x := dK D) fX8_gapBelow_67 rfl rfl (Nat.le_of_ble_eq_true rfl) rfl hG.k ?_
            have hr5 := (hG.ok).k
            refine w_icmp_lt (tgt := 102) dX8_gapBelow_70 rfl (R32.in (by decide)) (R32.in (by omega)) (fun c70 => ?_) (fun c70 => ?_)
            · skip
              refine w_iload dX8_gapBelow_102 rfl ?_
              refine w_istore (ls' := [(2, 45), (0, g), (0, b), (0, gr), (0, ne), (0, p), (0, p), (0, 0), (0, ab (p + be))]) dX8_gapBelow_104 (Nat.le_of_ble_eq_true rfl) rfl rfl ?_
              refine w_iinc (ls' := [(2, 45), (0, g), (0, b), (0, gr), (0, ne), (0, p), (0, p + 1), (0, 0), (0, ab (p + be))]) dX8_gapBelow_106 rfl (Nat.le_of_ble_eq_true rfl) rfl rfl ?_
              refine w_goto (tgt := 16) dX8_gapBelow_109 rfl ?_
              refine Wp.fgl (ls' := [(2, 45), (0, g), (0, b), (0, gr), (0, ne), (0, p), (0, p + 1), (9, 0), (0, ab (p + be))]) 7 rfl ?_
              refine Wp.fgl (ls' := [(2, 45), (0, g), (0, b), (0, gr), (0, ne), (0, p), (0, p + 1), (9, 0), (9, 0)]) 8 rfl ?_
              exact ih16 _ (by omega) b gr ne p (p + 1) rfl (by first | omega | assumption) (by first | exact kin_h hok (by omega) (by rw [show p + 12 - 12 = p by omega]; exact c30) hK | exact kin_n (by omega) (by rw [show p + 12 - 12 = p by omega]; exact c30) hK) (by first | exact rk_n (by omega) (by rw [show p + 12 - 12 = p by omega]; exact c30) hR | exact (rk_eq (rk_h (by omega) (by rw [show p + 12 - 12 = p by omega]; exact c30) hR) (by unfold ab at *; omega) (by unfold ab at *; omega) (by unfold ab at *; omega) rfl))
            · skip
              refine w_iload dX8_gapBelow_73 rfl ?_
              refine w_iload_n dX8_gapBelow_75 rfl rfl ?_
              refine w_icmp_gt (tgt := 92) dX8_gapBelow_76 rfl (R32.in (by decide)) (R32.in (by omega)) (fun c76 => ?_) (fun c76 => ?_)
              · skip
                refine w_iload dX8_gapBelow_92 rfl ?_
                refine w_istore_n (ls' := [(2, 45), (0, g), (0, be), (0, gr), (0, ne), (0, be), (0, p), (0, 0), (0, ab (p + be))]) dX8_gapBelow_94 rfl (Nat.le_of_ble_eq_true rfl) rfl rfl ?_
                refine w_iload dX8_gapBelow_95 rfl ?_
                refine w_istore_n (ls' := [(2, 45), (0, g), (0, be), (0, 0), (0, ne), (0, be), (0, p), (0, 0), (0, ab (p + be))]) dX8_gapBelow_97 rfl (Nat.le_of_ble_eq_true rfl) rfl rfl ?_
                refine w_iload dX8_gapBelow_98 rfl ?_
                refine w_istore (ls' := [(2, 45), (0, g), (0, be), (0, 0), (0, ab (p + be)), (0, be), (0, p), (0, 0), (0, ab (p + be))]) dX8_gapBelow_100 (Nat.le_of_ble_eq_true rfl) rfl rfl ?_
                refine w_iload dX8_gapBelow_102 rfl ?_
                refine w_istore (ls' := [(2, 45), (0, g), (0, be), (0, 0), (0, ab (p + be)), (0, p), (0, p), (0, 0), (0, ab (p + be))]) dX8_gapBelow_104 (Nat.le_of_ble_eq_true rfl) rfl rfl ?_
                refine w_iinc (ls' := [(2, 45), (0, g), (0, be), (0, 0), (0, ab (p + be)), (0, p), (0, p + 1), (0, 0), (0, ab (p + be))]) dX8_gapBelow_106 rfl (Nat.le_of_ble_eq_true rfl) rfl rfl ?_
                refine w_goto (tgt := 16) dX8_gapBelow_109 rfl ?_
                refine Wp.fgl (ls' := [(2, 45), (0, g), (0, be), (0, 0), (0, ab (p + be)), (0, p), (0, p + 1), (9, 0), (0, ab (p + be))]) 7 rfl ?_
                refine Wp.fgl (ls' := [(2, 45), (0, g), (0, be), (0, 0), (0, ab (p + be)), (0, p), (0, p + 1), (9, 0), (9, 0)]) 8 rfl ?_
                exact ih16 _ (by omega) be 0 (ab (p + be)) p (p + 1) rfl (by first | omega | assumption) (by first | exact kin_h hok (by omega) (by rw [show p + 12 - 12 = p by omega]; exact c30) hK | exact kin_n (by omega) (by rw [show p + 12 - 12 = p by omega]; exact c30) hK) (by first | exact rk_n (by omega) (by rw [show p + 12 - 12 = p by omega]; exact c30) hR | exact (rk_eq (rk_h (by omega) (by rw [show p + 12 - 12 = p by omega]; exact c30) hR) (by unfold ab at *; omega) (by unfold ab at *; omega) (by unfold ab at *; omega) rfl))
              · skip
                refine w_iload dX8_gapBelow_79 rfl ?_
                refine w_iload_n dX8_gapBelow_81 rfl rfl ?_
                refine w_icmp_ne (tgt := 102) dX8_gapBelow_82 rfl (R32.in (by decide)) (R32.in (by omega)) (fun c82 => ?_) (fun c82 => ?_)
                · skip
                  refine w_iload dX8_gapBelow_102 rfl ?_
                  refine w_istore (ls' := [(2, 45), (0, g), (0, b), (0, gr), (0, ne), (0, p), (0, p), (0, 0), (0, ab (p + be))]) dX8_gapBelow_104 (Nat.le_of_ble_eq_true rfl) rfl rfl ?_
                  refine w_iinc (ls' := [(2, 45), (0, g), (0, b), (0, gr), (0, ne), (0, p), (0, p + 1), (0, 0), (0, ab (p + be))]) dX8_gapBelow_106 rfl (Nat.le_of_ble_eq_true rfl) rfl rfl ?_
                  refine w_goto (tgt := 16) dX8_gapBelow_109 rfl ?_
                  refine Wp.fgl (ls' := [(2, 45), (0, g), (0, b), (0, gr), (0, ne), (0, p), (0, p + 1), (9, 0), (0, ab (p + be))]) 7 rfl ?_
                  refine Wp.fgl (ls' := [(2, 45), (0, g), (0, b), (0, gr), (0, ne), (0, p), (0, p + 1), (9, 0), (9, 0)]) 8 rfl ?_
                  exact ih16 _ (by omega) b gr ne p (p + 1) rfl (by first | omega | assumption) (by first | exact kin_h hok (by omega) (by rw [show p + 12 - 12 = p by omega]; exact c30) hK | exact kin_n (by omega) (by rw [show p + 12 - 12 = p by omega]; exact c30) hK) (by first | exact rk_n (by omega) (by rw [show p + 12 - 12 = p by omega]; exact c30) hR | exact (rk_eq (rk_h (by omega) (by rw [show p + 12 - 12 = p by omega]; exact c30) hR) (by unfold ab at *; omega) (by unfold ab at *; omega) (by unfold ab at *; omega) rfl))
                · skip
                  refine w_iload dX8_gapBelow_85 rfl ?_
                  refine w_iload dX8_gapBelow_87 rfl ?_
                  refine w_icmp_ge (tgt := 102) dX8_gapBelow_89 rfl (R32.in (by omega)) (R32.in (by omega)) (fun c89 => ?_) (fun c89 => ?_)
                  · skip
                    refine w_iload dX8_gapBelow_102 rfl ?_
                    refine w_istore (ls' := [(2, 45), (0, g), (0, b), (0, gr), (0, ne), (0, p), (0, p), (0, 0), (0, ab (p + be))]) dX8_gapBelow_104 (Nat.le_of_ble_eq_true rfl) rfl rfl ?_
                    refine w_iinc (ls' := [(2, 45), (0, g), (0, b), (0, gr), (0, ne), (0, p), (0, p + 1), (0, 0), (0, ab (p + be))]) dX8_gapBelow_106 rfl (Nat.le_of_ble_eq_true rfl) rfl rfl ?_
                    refine w_goto (tgt := 16) dX8_gapBelow_109 rfl ?_
                    refine Wp.fgl (ls' := [(2, 45), (0, g), (0, b), (0, gr), (0, ne), (0, p), (0, p + 1), (9, 0), (0, ab (p + be))]) 7 rfl ?_
                    refine Wp.fgl (ls' := [(2, 45), (0, g), (0, b), (0, gr), (0, ne), (0, p), (0, p + 1), (9, 0), (9, 0)]) 8 rfl ?_
                    exact ih16 _ (by omega) b gr ne p (p + 1) rfl (by first | omega | assumption) (by first | exact kin_h hok (by omega) (by rw [show p + 12 - 12 = p by omega]; exact c30) hK | exact kin_n (by omega) (by rw [show p + 12 - 12 = p by omega]; exact c30) hK) (by first | exact rk_n (by omega) (by rw [show p + 12 - 12 = p by omega]; exact c30) hR | exact (rk_eq (rk_h (by omega) (by rw [show p + 12 - 12 = p by omega]; exact c30) hR) (by unfold ab at *; omega) (by unfold ab at *; omega) (by unfold ab at *; omega) rfl))
                  · skip
                    refine w_iload dX8_gapBelow_92 rfl ?_
                    refine w_istore_n (ls' := [(2, 45), (0, g), (0, be), (0, gr), (0, ne), (0, be), (0, p), (0, 0), (0, ab (p + be))]) dX8_gapBelow_94 rfl (Nat.le_of_ble_eq_true rfl) rfl rfl ?_
                    refine w_iload dX8_gapBelow_95 rfl ?_
                    refine w_istore_n (ls' := [(2, 45), (0, g), (0, be), (0, 0), (0, ne), (0, be), (0, p), (0, 0), (0, ab (p + be))]) dX8_gapBelow_97 rfl (Nat.le_of_ble_eq_true rfl) rfl rfl ?_
                    refine w_iload dX8_gapBelow_98 rfl ?_
                    refine w_istore (ls' := [(2, 45), (0, g), (0, be), (0, 0), (0, ab (p + be)), (0, be), (0, p), (0, 0), (0, ab (p + be))]) dX8_gapBelow_100 (Nat.le_of_ble_eq_true rfl) rfl rfl ?_
                    refine w_iload dX8_gapBelow_102 rfl ?_
                    refine w_istore (ls' := [(2, 45), (0, g), (0, be), (0, 0), (0, ab (p + be)), (0, p), (0, p), (0, 0), (0, ab (p + be))]) dX8_gapBelow_104 (Nat.le_of_ble_eq_true rfl) rfl rfl ?_
                    refine w_iinc (ls' := [(2, 45), (0, g), (0, be), (0, 0), (0, ab (p + be)), (0, p), (0, p + 1), (0, 0), (0, ab (p + be))]) dX8_gapBelow_106 rfl (Nat.le_of_ble_eq_true rfl) rfl rfl ?_
                    refine w_goto (tgt := 16) dX8_gapBelow_109 rfl ?_
                    refine Wp.fgl (ls' := [(2, 45), (0, g), (0, be), (0, 0), (0, ab (p + be)), (0, p), (0, p + 1), (9, 0), (0, ab (p + be))]) 7 rfl ?_
                    refine Wp.fgl (ls' := [(2, 45), (0, g), (0, be), (0, 0), (0, ab (p + be)), (0, p), (0, p + 1), (9, 0), (9, 0)]) 8 rfl ?_
                    exact ih16 _ (by omega) be 0 (ab (p + be)) p (p + 1) rfl (by first | omega | assumption) (by first | exact kin_h hok (by omega) (by rw [show p + 12 - 12 = p by omega]; exact c30) hK | exact kin_n (by omega) (by rw [show p + 12 - 12 = p by omega]; exact c30) hK) (by first | exact rk_n (by omega) (by rw [show p + 12 - 12 = p by omega]; exact c30) hR | exact (rk_eq (rk_h (by omega) (by rw [show p + 12 - 12 = p by omega]; exact c30) hR) (by unfold ab at *; omega) (by unfold ab at *; omega) (by unfold ab at *; omega) rfl))
        · skip
          replace c30 := am_b0 c30
          refine w_goto (tgt := 106) dX8_gapBelow_33 rfl ?_
          refine w_iinc (ls' := [(2, 45), (0, g), (0, b), (0, gr), (0, ne), (0, be), (0, p + 1), (9, 0), (9, 0)]) dX8_gapBelow_106 rfl (Nat.le_of_ble_eq_true rfl) rfl rfl ?_
          refine w_goto (tgt := 16) dX8_gapBelow_109 rfl ?_
          exact ih16 _ (by omega) b gr ne be (p + 1) rfl (by first | omega | assumption) (by first | exact kin_h hok (by omega) (by rw [show p + 12 - 12 = p by omega]; exact c30) hK | exact kin_n (by omega) (by rw [show p + 12 - 12 = p by omega]; exact c30) hK) (by first | exact rk_n (by omega) (by rw [show p + 12 - 12 = p by omega]; exact c30) hR | exact (rk_eq (rk_h (by omega) (by rw [show p + 12 - 12 = p by omega]; exact c30) hR) (by unfold ab at *; omega) (by unfold ab at *; omega) (by unfold ab at *; omega) rfl))
  exact hL16 _ 99 0 0 99 (-12) rfl (by first | omega | assumption) (kin_0 D) (rk_0 D)
