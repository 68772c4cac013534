set_option maxRecDepth 100000 in
set_option maxHeartbeats 4000000 in
theorem s_X0_markTaken (X : AX) (D : GDt) (μ : Mu) (hG : GL1 D μ) : Wp (GG X) M_X0_markTaken 0 [(2, 6), (9, 0), (9, 0)] [] μ (qV fun μ' => (Fr 13 13 1 0 μ' μ) ∧ (∀ j : Int, 0 ≤ j → j < 25 → μ' 13 j = am_b (has D (j - 12) = true))) := by
  have hok := hG.ok
  have hn := hok.n
  refine w_iconst dX0_markTaken_0 ?_
  refine w_istore_n (ls' := [(2, 6), (0, 0), (9, 0)]) dX0_markTaken_1 rfl (Nat.le_of_ble_eq_true rfl) rfl rfl ?_
  have hL2 : ∀ (n2 : Nat) (i : Int) (μ1 : Mu), (25 - i).toNat = n2 → Fr 13 13 1 0 μ1 μ → (0 ≤ i ∧ i ≤ 25) → (∀ j : Int, 0 ≤ j → j < i → μ1 13 j = 0) → Wp (GG X) M_X0_markTaken 2 [(2, 6), (0, i), (9, 0)] [] μ1 (qV fun μ' => (Fr 13 13 1 0 μ' μ) ∧ (∀ j : Int, 0 ≤ j → j < 25 → μ' 13 j = am_b (has D (j - 12) = true))) := by
    intro n2
    induction n2 using Nat.strongRecOn with
    | ind n2 ih2 =>
      intro i μ1 hn2 hF2 hi0 hT
      refine w_iload_n dX0_markTaken_2 rfl rfl ?_
      refine w_aload_n dX0_markTaken_3 rfl rfl (by first | decide | omega) ?_
      refine w_getR (o := 6) (x := 13) fX0_markTaken_4 rfl rfl rfl rfl ?_
      refine w_alen (o := 13) (n := 25) (t := 1) (f := 25) dX0_markTaken_7 rfl rfl (Nat.le_of_ble_eq_true rfl) rfl ?_
      refine w_icmp_ge (tgt := 24) dX0_markTaken_8 rfl (R32.in (by omega)) (R32.in (by decide)) (fun c8 => ?_) (fun c8 => ?_)
      · skip
        refine w_iconst dX0_markTaken_24 ?_
        refine w_istore_n (ls' := [(2, 6), (0, 0), (9, 0)]) dX0_markTaken_25 rfl (Nat.le_of_ble_eq_true rfl) rfl rfl ?_
        have hL26 : ∀ (n26 : Nat) (i : Int) (μ1 : Mu), (dN D - i).toNat = n26 → Fr 13 13 1 0 μ1 μ → (0 ≤ i ∧ i ≤ dN D) → (∀ j : Int, 0 ≤ j → j < 25 → μ1 13 j = am_b (hasI D (j - 12) i = true)) → Wp (GG X) M_X0_markTaken 26 [(2, 6), (0, i), (9, 0)] [] μ1 (qV fun μ' => (Fr 13 13 1 0 μ' μ) ∧ (∀ j : Int, 0 ≤ j → j < 25 → μ' 13 j = am_b (has D (j - 12) = true))) := by
          intro n26
          induction n26 using Nat.strongRecOn with
          | ind n26 ih26 =>
            intro i μ1 hn26 hF26 hi0 hT
            refine w_iload_n dX0_markTaken_26 rfl rfl ?_
            refine w_aload_n dX0_markTaken_27 rfl rfl (by first | decide | omega) ?_
            refine w_getIx (o := 6) (f := 0) (x := dN D) fX0_markTaken_28 rfl rfl (Nat.le_of_ble_eq_true rfl) rfl ((congrFun (hF26.at (by omega) (by omega)) _).trans hG.n) ?_
            have hr1 := (hG.ok).n
            refine w_icmp_ge (tgt := 70) dX0_markTaken_31 rfl (R32.in (by omega)) (R32.in (by omega)) (fun c31 => ?_) (fun c31 => ?_)
            · skip
              exact w_retV dX0_markTaken_70 rfl ⟨hF26, (by have he := (show i = dN D by omega); rw [he] at hT; exact hT)⟩
            · skip
              refine w_aload_n dX0_markTaken_34 rfl rfl (by first | decide | omega) ?_
              refine w_getR (o := 6) (x := 8) fX0_markTaken_35 rfl rfl rfl rfl ?_
              refine w_iload_n dX0_markTaken_38 rfl rfl ?_
              refine w_ialdx (o := 8) (n := 64) (x := dH D i) dX0_markTaken_39 rfl rfl (Nat.le_of_ble_eq_true rfl) (by omega) ((congrFun (hF26.at (by omega) (by omega)) _).trans (hG.h (by omega))) ?_
              have hr2 := (hG.ok).hr (i := i) (by omega)
              refine w_bipush dX0_markTaken_40 (by decide) ?_
              refine w_iadd dX0_markTaken_42 ?_
              refine w_istore_n (ls' := [(2, 6), (0, i), (0, (dH D i) + 12)]) dX0_markTaken_43 rfl (Nat.le_of_ble_eq_true rfl) rfl rfl ?_
              refine w_iload_n dX0_markTaken_44 rfl rfl ?_
              refine w_if_lt (tgt := 64) dX0_markTaken_45 rfl (R32.in (by omega)) (fun c45 => ?_) (fun c45 => ?_)
              · skip
                omega
              · skip
                refine w_iload_n dX0_markTaken_48 rfl rfl ?_
                refine w_aload_n dX0_markTaken_49 rfl rfl (by first | decide | omega) ?_
                refine w_getR (o := 6) (x := 13) fX0_markTaken_50 rfl rfl rfl rfl ?_
                refine w_alen (o := 13) (n := 25) (t := 1) (f := 25) dX0_markTaken_53 rfl rfl (Nat.le_of_ble_eq_true rfl) rfl ?_
                refine w_icmp_ge (tgt := 64) dX0_markTaken_54 rfl (R32.in (by omega)) (R32.in (by decide)) (fun c54 => ?_) (fun c54 => ?_)
                · skip
                  omega
                · skip
                  refine w_aload_n dX0_markTaken_57 rfl rfl (by first | decide | omega) ?_
                  refine w_getR (o := 6) (x := 13) fX0_markTaken_58 rfl rfl rfl rfl ?_
                  refine w_iload_n dX0_markTaken_61 rfl rfl ?_
                  refine w_iconst dX0_markTaken_62 ?_
                  refine w_zast (o := 13) (n := 25) dX0_markTaken_63 rfl rfl (Nat.le_of_ble_eq_true rfl) (by omega) (by omega) (Or.inr rfl) ?_
                  refine w_iinc (ls' := [(2, 6), (0, i + 1), (0, (dH D i) + 12)]) dX0_markTaken_64 rfl (Nat.le_of_ble_eq_true rfl) rfl rfl ?_
                  refine w_goto (tgt := 26) dX0_markTaken_67 rfl ?_
                  refine Wp.fgl (ls' := [(2, 6), (0, i + 1), (9, 0)]) 2 rfl ?_
                  exact ih26 _ (by omega) (i + 1) (am_up μ1 13 ((dH D i) + 12) 1) rfl (hF26.up (by omega)) (by first | omega | assumption) (setr (g := fun j => am_b (hasI D (j - 12) (i + 1) = true)) hT (by rw [hasI_succ (by omega), show dH D i + 12 - 12 = dH D i by omega]; simp [am_b]) (fun j h1 h2 hj => by show am_b _ = am_b _; rw [hasI_succ (by omega)]; apply am_b_iff; simp; omega))
        exact hL26 _ 0 μ1 rfl hF2 (by first | omega | assumption) (fun j h1 h2 => by rw [hT j h1 (by omega)]; rfl)
      · skip
        refine w_aload_n dX0_markTaken_11 rfl rfl (by first | decide | omega) ?_
        refine w_getR (o := 6) (x := 13) fX0_markTaken_12 rfl rfl rfl rfl ?_
        refine w_iload_n dX0_markTaken_15 rfl rfl ?_
        refine w_iconst dX0_markTaken_16 ?_
        refine w_zast (o := 13) (n := 25) dX0_markTaken_17 rfl rfl (Nat.le_of_ble_eq_true rfl) (by omega) (by omega) (Or.inl rfl) ?_
        refine w_iinc (ls' := [(2, 6), (0, i + 1), (9, 0)]) dX0_markTaken_18 rfl (Nat.le_of_ble_eq_true rfl) rfl rfl ?_
        refine w_goto (tgt := 2) dX0_markTaken_21 rfl ?_
        exact ih2 _ (by omega) (i + 1) (am_up μ1 13 i 0) rfl (hF2.up (by omega)) (by first | omega | assumption) (fillr (f := fun _ => 0) hT rfl)
  exact hL2 _ 0 μ rfl Fr.rf (by first | omega | assumption) (fun j h1 h2 => by omega)

set_option maxRecDepth 100000 in
set_option maxHeartbeats 4000000 in
theorem s_X0_lowerSideOfKnee (X : AX) (D : GDt) (k : Int) (μ : Mu) (hG : GL1 D μ) (hk : k = dK D) : Wp (GG X) M_X0_lowerSideOfKnee 0 [(2, 6), (0, k), (9, 0), (9, 0), (9, 0), (9, 0), (9, 0), (9, 0), (9, 0)] [] μ (qI 0 fun z μ' => (Fr 13 13 1 0 μ' μ) ∧ (z = if klow D = 99 then -1000000 else klow D)) := by
  have hok := hG.ok
  have hn := hok.n
  have hkr := hok.k
  refine w_aload_n dX0_lowerSideOfKnee_0 rfl rfl (by first | decide | omega) ?_
  refine w_callVV (o := 6) (ci := 0) (as := []) (rest := []) (k := 2) fX0_lowerSideOfKnee_1 rfl rfl rfl rfl rfl rfl rfl rfl (Nat.le_of_ble_eq_true rfl) (s_X0_markTaken X D μ hG) (fun μ_1 hμ1 => ?_)
  obtain ⟨hF1, hT_1⟩ := hμ1
  refine w_ldc (n := -1000000) dX0_lowerSideOfKnee_4 k_660 (by decide) ?_
  refine w_istore_n (ls' := [(2, 6), (0, k), (0, -1000000), (9, 0), (9, 0), (9, 0), (9, 0), (9, 0), (9, 0)]) dX0_lowerSideOfKnee_6 rfl (Nat.le_of_ble_eq_true rfl) rfl rfl ?_
  refine w_iload_n dX0_lowerSideOfKnee_7 rfl rfl ?_
  refine w_istore_n (ls' := [(2, 6), (0, k), (0, -1000000), (0, k), (9, 0), (9, 0), (9, 0), (9, 0), (9, 0)]) dX0_lowerSideOfKnee_8 rfl (Nat.le_of_ble_eq_true rfl) rfl rfl ?_
  refine w_ldc (n := 2147483647) dX0_lowerSideOfKnee_9 k_661 (by decide) ?_
  refine w_istore (ls' := [(2, 6), (0, k), (0, -1000000), (0, k), (0, 2147483647), (9, 0), (9, 0), (9, 0), (9, 0)]) dX0_lowerSideOfKnee_11 (Nat.le_of_ble_eq_true rfl) rfl rfl ?_
  refine w_ldc (n := -1000000) dX0_lowerSideOfKnee_13 k_660 (by decide) ?_
  refine w_istore (ls' := [(2, 6), (0, k), (0, -1000000), (0, k), (0, 2147483647), (0, -1000000), (9, 0), (9, 0), (9, 0)]) dX0_lowerSideOfKnee_15 (Nat.le_of_ble_eq_true rfl) rfl rfl ?_
  refine w_bipush dX0_lowerSideOfKnee_17 (by decide) ?_
  refine w_istore (ls' := [(2, 6), (0, k), (0, -1000000), (0, k), (0, 2147483647), (0, -1000000), (0, -12), (9, 0), (9, 0)]) dX0_lowerSideOfKnee_19 (Nat.le_of_ble_eq_true rfl) rfl rfl ?_
  have hL21 : ∀ (n21 : Nat) (f : Int) (g : Int) (ne : Int) (b : Int) (p : Int), (13 - p).toNat = n21 → (-12 ≤ p ∧ p ≤ 13) → (kin D (p + 12)) → (krel D (p + 12) f g ne b) → Wp (GG X) M_X0_lowerSideOfKnee 21 [(2, 6), (9, 0), (0, f), (0, g), (0, ne), (0, b), (0, p), (9, 0), (9, 0)] [] μ_1 (qI 0 fun z μ' => (Fr 13 13 1 0 μ' μ) ∧ (z = if klow D = 99 then -1000000 else klow D)) := by
    intro n21
    induction n21 using Nat.strongRecOn with
    | ind n21 ih21 =>
      intro f g ne b p hn21 hp0 hK hR
      have hb := krel_b hok hK hR (by omega)
      refine w_iload dX0_lowerSideOfKnee_21 rfl ?_
      refine w_bipush dX0_lowerSideOfKnee_23 (by decide) ?_
      refine w_icmp_gt (tgt := 108) dX0_lowerSideOfKnee_25 rfl (R32.in (by omega)) (R32.in (by decide)) (fun c25 => ?_) (fun c25 => ?_)
      · skip
        refine w_iload_n dX0_lowerSideOfKnee_108 rfl rfl ?_
        exact w_iretI dX0_lowerSideOfKnee_109 rfl ⟨hF1, (by have he := (show p = 13 by omega); subst he; exact hR.1)⟩
      · skip
        refine w_aload_n dX0_lowerSideOfKnee_28 rfl rfl (by first | decide | omega) ?_
        refine w_getR (o := 6) (x := 13) fX0_lowerSideOfKnee_29 rfl rfl rfl rfl ?_
        refine w_iload dX0_lowerSideOfKnee_32 rfl ?_
        refine w_bipush dX0_lowerSideOfKnee_34 (by decide) ?_
        refine w_iadd dX0_lowerSideOfKnee_36 ?_
        refine w_zaldx (o := 13) (n := 25) (x := am_b (has D ((p + 12) - 12) = true)) dX0_lowerSideOfKnee_37 rfl rfl (Nat.le_of_ble_eq_true rfl) (by omega) (hT_1 _ (by omega) (by omega)) ?_
        refine w_if_eq (tgt := 102) dX0_lowerSideOfKnee_38 rfl (R32.in (by have := am_b_r ((has D ((p + 12) - 12) = true)); omega)) (fun c38 => ?_) (fun c38 => ?_)
        · skip
          replace c38 := am_b0 c38
          refine w_iinc (ls' := [(2, 6), (9, 0), (0, f), (0, g), (0, ne), (0, b), (0, p + 1), (9, 0), (9, 0)]) dX0_lowerSideOfKnee_102 rfl (Nat.le_of_ble_eq_true rfl) rfl rfl ?_
          refine w_goto (tgt := 21) dX0_lowerSideOfKnee_105 rfl ?_
          exact ih21 _ (by omega) f g ne b (p + 1) rfl (by first | omega | assumption) (by first | exact kin_h hok (by omega) c38 hK | exact kin_n (by omega) c38 hK) (by first | exact krel_n (by omega) c38 hR | exact (krel_eq (krel_h hok (by omega) c38 hK hR) (by unfold ab at *; omega) (by unfold ab at *; omega) (by unfold ab at *; omega) rfl))
        · skip
          replace c38 := am_b1 c38
          refine w_iload dX0_lowerSideOfKnee_41 rfl ?_
          refine w_ldc (n := -1000000) dX0_lowerSideOfKnee_43 k_660 (by decide) ?_
          have hJ45_1 : ∀ z1_0 : Int, z1_0 = (if ¬ b = (-1000000) then p - b else 0) → Wp (GG X) M_X0_lowerSideOfKnee 57 [(2, 6), (9, 0), (0, f), (0, g), (0, ne), (0, b), (0, p), (9, 0), (9, 0)] [(0, z1_0)] μ_1 (qI 0 fun z μ' => (Fr 13 13 1 0 μ' μ) ∧ (z = if klow D = 99 then -1000000 else klow D)) := by
            intro z1_0 hz1_0
            refine w_istore (ls' := [(2, 6), (9, 0), (0, f), (0, g), (0, ne), (0, b), (0, p), (0, z1_0), (9, 0)]) dX0_lowerSideOfKnee_57 (Nat.le_of_ble_eq_true rfl) rfl rfl ?_
            refine w_iload dX0_lowerSideOfKnee_59 rfl ?_
            refine w_iload dX0_lowerSideOfKnee_61 rfl ?_
            refine w_iadd dX0_lowerSideOfKnee_63 ?_
            refine w_abs fX0_lowerSideOfKnee_64 (R32.in (by omega)) (Nat.le_of_ble_eq_true rfl) ?_
            refine w_istore (ls' := [(2, 6), (9, 0), (0, f), (0, g), (0, ne), (0, b), (0, p), (0, z1_0), (0, if 0 ≤ p + b then p + b else -(p + b))]) dX0_lowerSideOfKnee_67 (Nat.le_of_ble_eq_true rfl) rfl rfl ?_
            refine w_iload dX0_lowerSideOfKnee_69 rfl ?_
            refine w_iload_n dX0_lowerSideOfKnee_71 rfl rfl ?_
            refine w_icmp_gt (tgt := 88) dX0_lowerSideOfKnee_72 rfl (R32.in (by omega)) (R32.in (by omega)) (fun c72 => ?_) (fun c72 => ?_)
            · skip
              refine w_iload dX0_lowerSideOfKnee_88 rfl ?_
              refine w_istore_n (ls' := [(2, 6), (9, 0), (0, b), (0, g), (0, ne), (0, b), (0, p), (0, z1_0), (0, if 0 ≤ p + b then p + b else -(p + b))]) dX0_lowerSideOfKnee_90 rfl (Nat.le_of_ble_eq_true rfl) rfl rfl ?_
              refine w_iload dX0_lowerSideOfKnee_91 rfl ?_
              refine w_istore_n (ls' := [(2, 6), (9, 0), (0, b), (0, z1_0), (0, ne), (0, b), (0, p), (0, z1_0), (0, if 0 ≤ p + b then p + b else -(p + b))]) dX0_lowerSideOfKnee_93 rfl (Nat.le_of_ble_eq_true rfl) rfl rfl ?_
              refine w_iload dX0_lowerSideOfKnee_94 rfl ?_
              refine w_istore (ls' := [(2, 6), (9, 0), (0, b), (0, z1_0), (0, if 0 ≤ p + b then p + b else -(p + b)), (0, b), (0, p), (0, z1_0), (0, if 0 ≤ p + b then p + b else -(p + b))]) dX0_lowerSideOfKnee_96 (Nat.le_of_ble_eq_true rfl) rfl rfl ?_
              refine w_iload dX0_lowerSideOfKnee_98 rfl ?_
              refine w_istore (ls' := [(2, 6), (9, 0), (0, b), (0, z1_0), (0, if 0 ≤ p + b then p + b else -(p + b)), (0, p), (0, p), (0, z1_0), (0, if 0 ≤ p + b then p + b else -(p + b))]) dX0_lowerSideOfKnee_100 (Nat.le_of_ble_eq_true rfl) rfl rfl ?_
              refine w_iinc (ls' := [(2, 6), (9, 0), (0, b), (0, z1_0), (0, if 0 ≤ p + b then p + b else -(p + b)), (0, p), (0, p + 1), (0, z1_0), (0, if 0 ≤ p + b then p + b else -(p + b))]) dX0_lowerSideOfKnee_102 rfl (Nat.le_of_ble_eq_true rfl) rfl rfl ?_
              refine w_goto (tgt := 21) dX0_lowerSideOfKnee_105 rfl ?_
              refine Wp.fgl (ls' := [(2, 6), (9, 0), (0, b), (0, z1_0), (0, if 0 ≤ p + b then p + b else -(p + b)), (0, p), (0, p + 1), (9, 0), (0, if 0 ≤ p + b then p + b else -(p + b))]) 7 rfl ?_
              refine Wp.fgl (ls' := [(2, 6), (9, 0), (0, b), (0, z1_0), (0, if 0 ≤ p + b then p + b else -(p + b)), (0, p), (0, p + 1), (9, 0), (9, 0)]) 8 rfl ?_
              exact ih21 _ (by omega) b z1_0 (if 0 ≤ p + b then p + b else -(p + b)) p (p + 1) rfl (by first | omega | assumption) (by first | exact kin_h hok (by omega) c38 hK | exact kin_n (by omega) c38 hK) (by first | exact krel_n (by omega) c38 hR | exact (krel_eq (krel_h hok (by omega) c38 hK hR) (by unfold ab at *; omega) (by unfold ab at *; omega) (by unfold ab at *; omega) rfl))
            · skip
              refine w_iload dX0_lowerSideOfKnee_75 rfl ?_
              refine w_iload_n dX0_lowerSideOfKnee_77 rfl rfl ?_
              refine w_icmp_ne (tgt := 98) dX0_lowerSideOfKnee_78 rfl (R32.in (by omega)) (R32.in (by omega)) (fun c78 => ?_) (fun c78 => ?_)
              · skip
                refine w_iload dX0_lowerSideOfKnee_98 rfl ?_
                refine w_istore (ls' := [(2, 6), (9, 0), (0, f), (0, g), (0, ne), (0, p), (0, p), (0, z1_0), (0, if 0 ≤ p + b then p + b else -(p + b))]) dX0_lowerSideOfKnee_100 (Nat.le_of_ble_eq_true rfl) rfl rfl ?_
                refine w_iinc (ls' := [(2, 6), (9, 0), (0, f), (0, g), (0, ne), (0, p), (0, p + 1), (0, z1_0), (0, if 0 ≤ p + b then p + b else -(p + b))]) dX0_lowerSideOfKnee_102 rfl (Nat.le_of_ble_eq_true rfl) rfl rfl ?_
                refine w_goto (tgt := 21) dX0_lowerSideOfKnee_105 rfl ?_
                refine Wp.fgl (ls' := [(2, 6), (9, 0), (0, f), (0, g), (0, ne), (0, p), (0, p + 1), (9, 0), (0, if 0 ≤ p + b then p + b else -(p + b))]) 7 rfl ?_
                refine Wp.fgl (ls' := [(2, 6), (9, 0), (0, f), (0, g), (0, ne), (0, p), (0, p + 1), (9, 0), (9, 0)]) 8 rfl ?_
                exact ih21 _ (by omega) f g ne p (p + 1) rfl (by first | omega | assumption) (by first | exact kin_h hok (by omega) c38 hK | exact kin_n (by omega) c38 hK) (by first | exact krel_n (by omega) c38 hR | exact (krel_eq (krel_h hok (by omega) c38 hK hR) (by unfold ab at *; omega) (by unfold ab at *; omega) (by unfold ab at *; omega) rfl))
              · skip
                refine w_iload dX0_lowerSideOfKnee_81 rfl ?_
                refine w_iload dX0_lowerSideOfKnee_83 rfl ?_
                refine w_icmp_ge (tgt := 98) dX0_lowerSideOfKnee_85 rfl (R32.in (by omega)) (R32.in (by omega)) (fun c85 => ?_) (fun c85 => ?_)
                · skip
                  refine w_iload dX0_lowerSideOfKnee_98 rfl ?_
                  refine w_istore (ls' := [(2, 6), (9, 0), (0, f), (0, g), (0, ne), (0, p), (0, p), (0, z1_0), (0, if 0 ≤ p + b then p + b else -(p + b))]) dX0_lowerSideOfKnee_100 (Nat.le_of_ble_eq_true rfl) rfl rfl ?_
                  refine w_iinc (ls' := [(2, 6), (9, 0), (0, f), (0, g), (0, ne), (0, p), (0, p + 1), (0, z1_0), (0, if 0 ≤ p + b then p + b else -(p + b))]) dX0_lowerSideOfKnee_102 rfl (Nat.le_of_ble_eq_true rfl) rfl rfl ?_
                  refine w_goto (tgt := 21) dX0_lowerSideOfKnee_105 rfl ?_
                  refine Wp.fgl (ls' := [(2, 6), (9, 0), (0, f), (0, g), (0, ne), (0, p), (0, p + 1), (9, 0), (0, if 0 ≤ p + b then p + b else -(p + b))]) 7 rfl ?_
                  refine Wp.fgl (ls' := [(2, 6), (9, 0), (0, f), (0, g), (0, ne), (0, p), (0, p + 1), (9, 0), (9, 0)]) 8 rfl ?_
                  exact ih21 _ (by omega) f g ne p (p + 1) rfl (by first | omega | assumption) (by first | exact kin_h hok (by omega) c38 hK | exact kin_n (by omega) c38 hK) (by first | exact krel_n (by omega) c38 hR | exact (krel_eq (krel_h hok (by omega) c38 hK hR) (by unfold ab at *; omega) (by unfold ab at *; omega) (by unfold ab at *; omega) rfl))
                · skip
                  refine w_iload dX0_lowerSideOfKnee_88 rfl ?_
                  refine w_istore_n (ls' := [(2, 6), (9, 0), (0, b), (0, g), (0, ne), (0, b), (0, p), (0, z1_0), (0, if 0 ≤ p + b then p + b else -(p + b))]) dX0_lowerSideOfKnee_90 rfl (Nat.le_of_ble_eq_true rfl) rfl rfl ?_
                  refine w_iload dX0_lowerSideOfKnee_91 rfl ?_
                  refine w_istore_n (ls' := [(2, 6), (9, 0), (0, b), (0, z1_0), (0, ne), (0, b), (0, p), (0, z1_0), (0, if 0 ≤ p + b then p + b else -(p + b))]) dX0_lowerSideOfKnee_93 rfl (Nat.le_of_ble_eq_true rfl) rfl rfl ?_
                  refine w_iload dX0_lowerSideOfKnee_94 rfl ?_
                  refine w_istore (ls' := [(2, 6), (9, 0), (0, b), (0, z1_0), (0, if 0 ≤ p + b then p + b else -(p + b)), (0, b), (0, p), (0, z1_0), (0, if 0 ≤ p + b then p + b else -(p + b))]) dX0_lowerSideOfKnee_96 (Nat.le_of_ble_eq_true rfl) rfl rfl ?_
                  refine w_iload dX0_lowerSideOfKnee_98 rfl ?_
                  refine w_istore (ls' := [(2, 6), (9, 0), (0, b), (0, z1_0), (0, if 0 ≤ p + b then p + b else -(p + b)), (0, p), (0, p), (0, z1_0), (0, if 0 ≤ p + b then p + b else -(p + b))]) dX0_lowerSideOfKnee_100 (Nat.le_of_ble_eq_true rfl) rfl rfl ?_
                  refine w_iinc (ls' := [(2, 6), (9, 0), (0, b), (0, z1_0), (0, if 0 ≤ p + b then p + b else -(p + b)), (0, p), (0, p + 1), (0, z1_0), (0, if 0 ≤ p + b then p + b else -(p + b))]) dX0_lowerSideOfKnee_102 rfl (Nat.le_of_ble_eq_true rfl) rfl rfl ?_
                  refine w_goto (tgt := 21) dX0_lowerSideOfKnee_105 rfl ?_
                  refine Wp.fgl (ls' := [(2, 6), (9, 0), (0, b), (0, z1_0), (0, if 0 ≤ p + b then p + b else -(p + b)), (0, p), (0, p + 1), (9, 0), (0, if 0 ≤ p + b then p + b else -(p + b))]) 7 rfl ?_
                  refine Wp.fgl (ls' := [(2, 6), (9, 0), (0, b), (0, z1_0), (0, if 0 ≤ p + b then p + b else -(p + b)), (0, p), (0, p + 1), (9, 0), (9, 0)]) 8 rfl ?_
                  exact ih21 _ (by omega) b z1_0 (if 0 ≤ p + b then p + b else -(p + b)) p (p + 1) rfl (by first | omega | assumption) (by first | exact kin_h hok (by omega) c38 hK | exact kin_n (by omega) c38 hK) (by first | exact krel_n (by omega) c38 hR | exact (krel_eq (krel_h hok (by omega) c38 hK hR) (by unfold ab at *; omega) (by unfold ab at *; omega) (by unfold ab at *; omega) rfl))
          refine w_icmp_ne (tgt := 52) dX0_lowerSideOfKnee_45 rfl (R32.in (by omega)) (R32.in (by decide)) (fun c45 => ?_) (fun c45 => ?_)
          · skip
            refine w_iload dX0_lowerSideOfKnee_52 rfl ?_
            refine w_iload dX0_lowerSideOfKnee_54 rfl ?_
            refine w_isub dX0_lowerSideOfKnee_56 ?_
            exact hJ45_1 _ (by first | omega | simp [*])
          · skip
            refine w_iconst dX0_lowerSideOfKnee_48 ?_
            refine w_goto (tgt := 57) dX0_lowerSideOfKnee_49 rfl ?_
            exact hJ45_1 _ (by first | omega | simp [*])
  refine Wp.fgl (ls' := [(2, 6), (9, 0), (0, -1000000), (0, k), (0, 2147483647), (0, -1000000), (0, -12), (9, 0), (9, 0)]) 1 rfl ?_
  exact hL21 _ (-1000000) k 2147483647 (-1000000) (-12) rfl (by first | omega | assumption) (kin_0 D) (by have := krel_0 D; rw [hk]; exact this)

set_option maxRecDepth 100000 in
set_option maxHeartbeats 4000000 in
theorem s_X0_commonWay (X : AX) (D : GDt) (μ : Mu) (hG : GL1 D μ) : Wp (GG X) M_X0_commonWay 0 [(2, 6), (9, 0), (9, 0), (9, 0), (9, 0)] [] μ (pP 0 (cway D) μ) := by
  have hok := hG.ok
  have hn := hok.n
  refine w_iconst dX0_commonWay_0 ?_
  refine w_istore_n (ls' := [(2, 6), (0, 0), (9, 0), (9, 0), (9, 0)]) dX0_commonWay_1 rfl (Nat.le_of_ble_eq_true rfl) rfl rfl ?_
  refine w_iconst dX0_commonWay_2 ?_
  refine w_istore_n (ls' := [(2, 6), (0, 0), (0, 0), (9, 0), (9, 0)]) dX0_commonWay_3 rfl (Nat.le_of_ble_eq_true rfl) rfl rfl ?_
  refine w_iconst dX0_commonWay_4 ?_
  refine w_istore_n (ls' := [(2, 6), (0, 0), (0, 0), (0, 0), (9, 0)]) dX0_commonWay_5 rfl (Nat.le_of_ble_eq_true rfl) rfl rfl ?_
  refine w_iconst dX0_commonWay_6 ?_
  refine w_istore (ls' := [(2, 6), (0, 0), (0, 0), (0, 0), (0, 0)]) dX0_commonWay_7 (Nat.le_of_ble_eq_true rfl) rfl rfl ?_
  have hL9 : ∀ (n9 : Nat) (a : Int) (b : Int) (c : Int) (i : Int), (dN D - i).toNat = n9 → (0 ≤ i ∧ i ≤ dN D) → (a = hiD D i) → (b = loD D i) → (c = suD D i) → Wp (GG X) M_X0_commonWay 9 [(2, 6), (0, a), (0, b), (0, c), (0, i)] [] μ (pP 0 (cway D) μ) := by
    intro n9
    induction n9 using Nat.strongRecOn with
    | ind n9 ih9 =>
      intro a b c i hn9 hi0 ha hb hc
      have hr := hls_r hok hi0
      refine w_iload dX0_commonWay_9 rfl ?_
      refine w_aload_n dX0_commonWay_11 rfl rfl (by first | decide | omega) ?_
      refine w_getIx (o := 6) (f := 0) (x := dN D) fX0_commonWay_12 rfl rfl (Nat.le_of_ble_eq_true rfl) rfl hG.n ?_
      have hr1 := (hG.ok).n
      refine w_icmp_ge (tgt := 59) dX0_commonWay_15 rfl (R32.in (by omega)) (R32.in (by omega)) (fun c15 => ?_) (fun c15 => ?_)
      · skip
        refine w_iload_n dX0_commonWay_59 rfl rfl ?_
        refine w_iload_n dX0_commonWay_60 rfl rfl ?_
        refine w_icmp_eq (tgt := 70) dX0_commonWay_61 rfl (R32.in (by omega)) (R32.in (by omega)) (fun c61 => ?_) (fun c61 => ?_)
        · skip
          refine w_iload_n dX0_commonWay_70 rfl rfl ?_
          refine w_if_eq (tgt := 78) dX0_commonWay_71 rfl (R32.in (by omega)) (fun c71 => ?_) (fun c71 => ?_)
          · skip
            refine w_aload_n dX0_commonWay_78 rfl rfl (by first | decide | omega) ?_
            refine w_getR (o := 6) (x := 8) fX0_commonWay_79 rfl rfl rfl rfl ?_
            refine w_iconst dX0_commonWay_82 ?_
            refine w_ialdx (o := 8) (n := 64) (x := dH D 0) dX0_commonWay_83 rfl rfl (Nat.le_of_ble_eq_true rfl) (by omega) (hG.h (by omega)) ?_
            have hr2 := (hG.ok).hr (i := 0) (by omega)
            refine w_istore (ls' := [(2, 6), (0, a), (0, b), (0, c), (0, dH D 0)]) dX0_commonWay_84 (Nat.le_of_ble_eq_true rfl) rfl rfl ?_
            refine w_iload dX0_commonWay_86 rfl ?_
            refine w_if_lt (tgt := 95) dX0_commonWay_88 rfl (R32.in (by omega)) (fun c88 => ?_) (fun c88 => ?_)
            · skip
              refine w_iconst dX0_commonWay_95 ?_
              exact w_iretP dX0_commonWay_96 rfl (by have he : i = dN D := (by omega); subst he; unfold cway; omega)
            · skip
              refine w_iconst dX0_commonWay_91 ?_
              refine w_goto (tgt := 96) dX0_commonWay_92 rfl ?_
              exact w_iretP dX0_commonWay_96 rfl (by have he : i = dN D := (by omega); subst he; unfold cway; omega)
          · skip
            refine w_iload_n dX0_commonWay_74 rfl rfl ?_
            refine w_goto (tgt := 84) dX0_commonWay_75 rfl ?_
            refine w_istore (ls' := [(2, 6), (0, a), (0, b), (0, c), (0, c)]) dX0_commonWay_84 (Nat.le_of_ble_eq_true rfl) rfl rfl ?_
            refine w_iload dX0_commonWay_86 rfl ?_
            refine w_if_lt (tgt := 95) dX0_commonWay_88 rfl (R32.in (by omega)) (fun c88 => ?_) (fun c88 => ?_)
            · skip
              refine w_iconst dX0_commonWay_95 ?_
              exact w_iretP dX0_commonWay_96 rfl (by have he : i = dN D := (by omega); subst he; unfold cway; omega)
            · skip
              refine w_iconst dX0_commonWay_91 ?_
              refine w_goto (tgt := 96) dX0_commonWay_92 rfl ?_
              exact w_iretP dX0_commonWay_96 rfl (by have he : i = dN D := (by omega); subst he; unfold cway; omega)
        · skip
          refine w_iload_n dX0_commonWay_64 rfl rfl ?_
          refine w_iload_n dX0_commonWay_65 rfl rfl ?_
          refine w_isub dX0_commonWay_66 ?_
          refine w_goto (tgt := 84) dX0_commonWay_67 rfl ?_
          refine w_istore (ls' := [(2, 6), (0, a), (0, b), (0, c), (0, a - b)]) dX0_commonWay_84 (Nat.le_of_ble_eq_true rfl) rfl rfl ?_
          refine w_iload dX0_commonWay_86 rfl ?_
          refine w_if_lt (tgt := 95) dX0_commonWay_88 rfl (R32.in (by omega)) (fun c88 => ?_) (fun c88 => ?_)
          · skip
            refine w_iconst dX0_commonWay_95 ?_
            exact w_iretP dX0_commonWay_96 rfl (by have he : i = dN D := (by omega); subst he; unfold cway; omega)
          · skip
            refine w_iconst dX0_commonWay_91 ?_
            refine w_goto (tgt := 96) dX0_commonWay_92 rfl ?_
            exact w_iretP dX0_commonWay_96 rfl (by have he : i = dN D := (by omega); subst he; unfold cway; omega)
      · skip
        refine w_iload_n dX0_commonWay_18 rfl rfl ?_
        refine w_aload_n dX0_commonWay_19 rfl rfl (by first | decide | omega) ?_
        refine w_getR (o := 6) (x := 8) fX0_commonWay_20 rfl rfl rfl rfl ?_
        refine w_iload dX0_commonWay_23 rfl ?_
        refine w_ialdx (o := 8) (n := 64) (x := dH D i) dX0_commonWay_25 rfl rfl (Nat.le_of_ble_eq_true rfl) (by omega) (hG.h (by omega)) ?_
        have hr3 := (hG.ok).hr (i := i) (by omega)
        refine w_max fX0_commonWay_26 (R32.in (by omega)) (R32.in (by omega)) (Nat.le_of_ble_eq_true rfl) ?_
        refine w_istore_n (ls' := [(2, 6), (0, max a (dH D i)), (0, b), (0, c), (0, i)]) dX0_commonWay_29 rfl (Nat.le_of_ble_eq_true rfl) rfl rfl ?_
        refine w_iload_n dX0_commonWay_30 rfl rfl ?_
        refine w_aload_n dX0_commonWay_31 rfl rfl (by first | decide | omega) ?_
        refine w_getR (o := 6) (x := 8) fX0_commonWay_32 rfl rfl rfl rfl ?_
        refine w_iload dX0_commonWay_35 rfl ?_
        refine w_ialdx (o := 8) (n := 64) (x := dH D i) dX0_commonWay_37 rfl rfl (Nat.le_of_ble_eq_true rfl) (by omega) (hG.h (by omega)) ?_
        refine w_ineg dX0_commonWay_38 ?_
        refine w_max fX0_commonWay_39 (R32.in (by omega)) (R32.in (by omega)) (Nat.le_of_ble_eq_true rfl) ?_
        refine w_istore_n (ls' := [(2, 6), (0, max a (dH D i)), (0, max b (-(dH D i))), (0, c), (0, i)]) dX0_commonWay_42 rfl (Nat.le_of_ble_eq_true rfl) rfl rfl ?_
        refine w_iload_n dX0_commonWay_43 rfl rfl ?_
        refine w_aload_n dX0_commonWay_44 rfl rfl (by first | decide | omega) ?_
        refine w_getR (o := 6) (x := 8) fX0_commonWay_45 rfl rfl rfl rfl ?_
        refine w_iload dX0_commonWay_48 rfl ?_
        refine w_ialdx (o := 8) (n := 64) (x := dH D i) dX0_commonWay_50 rfl rfl (Nat.le_of_ble_eq_true rfl) (by omega) (hG.h (by omega)) ?_
        refine w_iadd dX0_commonWay_51 ?_
        refine w_istore_n (ls' := [(2, 6), (0, max a (dH D i)), (0, max b (-(dH D i))), (0, c + (dH D i)), (0, i)]) dX0_commonWay_52 rfl (Nat.le_of_ble_eq_true rfl) rfl rfl ?_
        refine w_iinc (ls' := [(2, 6), (0, max a (dH D i)), (0, max b (-(dH D i))), (0, c + (dH D i)), (0, i + 1)]) dX0_commonWay_53 rfl (Nat.le_of_ble_eq_true rfl) rfl rfl ?_
        refine w_goto (tgt := 9) dX0_commonWay_56 rfl ?_
        exact ih9 _ (by omega) (max a (dH D i)) (max b (-(dH D i))) (c + (dH D i)) (i + 1) rfl (by first | omega | assumption) (by rw [hiD_s hi0.1]; omega) (by rw [loD_s hi0.1]; omega) (by rw [suD_s hi0.1]; omega)
  exact hL9 _ 0 0 0 0 rfl (by first | omega | assumption) rfl rfl rfl

set_option maxRecDepth 100000 in
set_option maxHeartbeats 4000000 in
theorem s_X0_decideWays (X : AX) (D : GDt) (k : Int) (μ : Mu) (hG : GL1 D μ) (hk : k = dK D) : Wp (GG X) M_X0_decideWays 0 [(2, 6), (0, k), (9, 0), (9, 0), (9, 0), (9, 0)] [] μ (qV fun μ' => (Fr 6 6 10 13 μ' μ) ∧ (GL2 D μ') ∧ (∀ k : Int, ¬ k = 4 ∧ ¬ k = 15 → μ' 6 k = μ 6 k)) := by
  have hok := hG.ok
  have hn := hok.n
  have hkl := klow_r hok
  refine w_aload_n dX0_decideWays_0 rfl rfl (by first | decide | omega) ?_
  refine w_iload_n dX0_decideWays_1 rfl rfl ?_
  refine w_callVI (o := 6) (ci := 0) (as := [(0, k)]) (rest := []) (k := 7) fX0_decideWays_2 rfl rfl rfl rfl rfl rfl rfl rfl (Nat.le_of_ble_eq_true rfl) (s_X0_lowerSideOfKnee X D k μ hG (by first | omega | assumption)) (fun x1 μ_1 hμ1 => ?_)
  obtain ⟨hF1, hz_1⟩ := hμ1
  refine w_istore_n (ls' := [(2, 6), (0, k), (0, x1), (9, 0), (9, 0), (9, 0)]) dX0_decideWays_5 rfl (Nat.le_of_ble_eq_true rfl) rfl rfl ?_
  refine w_aload_n dX0_decideWays_6 rfl rfl (by first | decide | omega) ?_
  refine w_iload_n dX0_decideWays_7 rfl rfl ?_
  refine w_ldc (n := -1000000) dX0_decideWays_8 k_660 (by decide) ?_
  have hJ10_1 : ∀ z1_0 : Int, z1_0 = (if x1 = (-1000000) then 0 else 1) → Wp (GG X) M_X0_decideWays 18 [(2, 6), (0, k), (0, x1), (9, 0), (9, 0), (9, 0)] [(0, z1_0), (2, 6)] μ_1 (qV fun μ' => (Fr 6 6 10 13 μ' μ) ∧ (GL2 D μ') ∧ (∀ k : Int, ¬ k = 4 ∧ ¬ k = 15 → μ' 6 k = μ 6 k)) := by
    intro z1_0 hz1_0
    refine w_putZ (o := 6) (f := 4) fX0_decideWays_18 rfl rfl rfl rfl rfl (by omega) ?_
    refine w_aload_n dX0_decideWays_21 rfl rfl (by first | decide | omega) ?_
    refine w_getIx (o := 6) (f := 4) (x := z1_0) fX0_decideWays_22 rfl rfl (Nat.le_of_ble_eq_true rfl) rfl am_up_at ?_
    have hJ25_2 : ∀ z2_0 : Int, z2_0 = (if z1_0 = 0 then cway D else 0) → Wp (GG X) M_X0_decideWays 36 [(2, 6), (0, k), (0, x1), (9, 0), (9, 0), (9, 0)] [(0, z2_0)] (am_up μ_1 6 4 z1_0) (qV fun μ' => (Fr 6 6 10 13 μ' μ) ∧ (GL2 D μ') ∧ (∀ k : Int, ¬ k = 4 ∧ ¬ k = 15 → μ' 6 k = μ 6 k)) := by
      intro z2_0 hz2_0
      refine w_istore_n (ls' := [(2, 6), (0, k), (0, x1), (0, z2_0), (9, 0), (9, 0)]) dX0_decideWays_36 rfl (Nat.le_of_ble_eq_true rfl) rfl rfl ?_
      refine w_aload_n dX0_decideWays_37 rfl rfl (by first | decide | omega) ?_
      refine w_iconst dX0_decideWays_38 ?_
      refine w_putI (o := 6) (f := 15) fX0_decideWays_39 rfl rfl rfl rfl rfl ?_
      refine w_iconst dX0_decideWays_42 ?_
      refine w_istore (ls' := [(2, 6), (0, k), (0, x1), (0, z2_0), (0, 0), (9, 0)]) dX0_decideWays_43 (Nat.le_of_ble_eq_true rfl) rfl rfl ?_
      have hL45 : ∀ (n45 : Nat) (i : Int) (μ9 : Mu), (dN D - i).toNat = n45 → Fr 6 6 10 13 μ9 μ → (0 ≤ i ∧ i ≤ dN D) → (∀ j : Int, 0 ≤ j → j < i → μ9 10 j = way D j) → (μ9 6 15 = wsu D i) → (μ9 6 4 = am_b (¬ klow D = 99)) → (∀ k : Int, ¬ k = 4 ∧ ¬ k = 15 → μ9 6 k = μ 6 k) → Wp (GG X) M_X0_decideWays 45 [(2, 6), (9, 0), (0, x1), (0, z2_0), (0, i), (9, 0)] [] μ9 (qV fun μ' => (Fr 6 6 10 13 μ' μ) ∧ (GL2 D μ') ∧ (∀ k : Int, ¬ k = 4 ∧ ¬ k = 15 → μ' 6 k = μ 6 k)) := by
        intro n45
        induction n45 using Nat.strongRecOn with
        | ind n45 ih45 =>
          intro i μ9 hn45 hF45 hi0 hw hs hk4 hf
          refine w_iload dX0_decideWays_45 rfl ?_
          refine w_aload_n dX0_decideWays_47 rfl rfl (by first | decide | omega) ?_
          refine w_getIx (o := 6) (f := 0) (x := dN D) fX0_decideWays_48 rfl rfl (Nat.le_of_ble_eq_true rfl) rfl ((hf _ (by omega)).trans hG.n) ?_
          have hr2 := (hG.ok).n
          refine w_icmp_ge (tgt := 114) dX0_decideWays_51 rfl (R32.in (by omega)) (R32.in (by omega)) (fun c51 => ?_) (fun c51 => ?_)
          · skip
            exact w_retV dX0_decideWays_114 rfl ⟨hF45, (by have he : i = dN D := (by omega); subst he; exact ⟨GL1.cg2 hG (fun o h1 => hF45.at (by omega) (by omega)) (fun k h1 => hf k (by omega)), ⟨hk4, hs⟩, hw⟩), (fun k h1 => (hf k (by omega)))⟩
          · skip
            refine w_aload_n dX0_decideWays_54 rfl rfl (by first | decide | omega) ?_
            refine w_getR (o := 6) (x := 8) fX0_decideWays_55 rfl rfl rfl rfl ?_
            refine w_iload dX0_decideWays_58 rfl ?_
            refine w_ialdx (o := 8) (n := 64) (x := dH D i) dX0_decideWays_60 rfl rfl (Nat.le_of_ble_eq_true rfl) (by omega) ((congrFun (hF45.at (by omega) (by omega)) _).trans (hG.h (by omega))) ?_
            have hr3 := (hG.ok).hr (i := i) (by omega)
            refine w_iload_n dX0_decideWays_61 rfl rfl ?_
            have hJ62_3 : ∀ z3_0 : Int, z3_0 = (if (dH D i) ≤ x1 then 1 else -1) → Wp (GG X) M_X0_decideWays 70 [(2, 6), (9, 0), (0, x1), (0, z2_0), (0, i), (9, 0)] [(0, z3_0)] μ9 (qV fun μ' => (Fr 6 6 10 13 μ' μ) ∧ (GL2 D μ') ∧ (∀ k : Int, ¬ k = 4 ∧ ¬ k = 15 → μ' 6 k = μ 6 k)) := by
              intro z3_0 hz3_0
              refine w_istore (ls' := [(2, 6), (9, 0), (0, x1), (0, z2_0), (0, i), (0, z3_0)]) dX0_decideWays_70 (Nat.le_of_ble_eq_true rfl) rfl rfl ?_
              refine w_aload_n dX0_decideWays_72 rfl rfl (by first | decide | omega) ?_
              refine w_getR (o := 6) (x := 10) fX0_decideWays_73 rfl rfl rfl rfl ?_
              refine w_iload dX0_decideWays_76 rfl ?_
              refine w_aload_n dX0_decideWays_78 rfl rfl (by first | decide | omega) ?_
              refine w_getIx (o := 6) (f := 4) (x := am_b (¬ klow D = 99)) fX0_decideWays_79 rfl rfl (Nat.le_of_ble_eq_true rfl) rfl hk4 ?_
              have hJ82_4 : ∀ z4_0 : Int, z4_0 = (if ¬ (¬ klow D = 99) then z2_0 else z3_0) → Wp (GG X) M_X0_decideWays 91 [(2, 6), (9, 0), (0, x1), (0, z2_0), (0, i), (0, z3_0)] [(0, z4_0), (0, i), (2, 10)] μ9 (qV fun μ' => (Fr 6 6 10 13 μ' μ) ∧ (GL2 D μ') ∧ (∀ k : Int, ¬ k = 4 ∧ ¬ k = 15 → μ' 6 k = μ 6 k)) := by
                intro z4_0 hz4_0
                refine w_iast (o := 10) (n := 64) dX0_decideWays_91 rfl rfl (Nat.le_of_ble_eq_true rfl) (by omega) (by omega) ?_
                refine w_aload_n dX0_decideWays_92 rfl rfl (by first | decide | omega) ?_
                refine w_dup dX0_decideWays_93 (by simp) ?_
                refine w_getIx (o := 6) (f := 15) (x := wsu D i) fX0_decideWays_94 rfl rfl (Nat.le_of_ble_eq_true rfl) rfl ((congrFun (am_up_o (by first | decide | omega)) _).trans hs) ?_
                have hr4 := wsu_r hok (i := i) (by omega)
                refine w_aload_n dX0_decideWays_97 rfl rfl (by first | decide | omega) ?_
                refine w_getR (o := 6) (x := 10) fX0_decideWays_98 rfl rfl rfl rfl ?_
                refine w_iload dX0_decideWays_101 rfl ?_
                refine w_ialdx (o := 10) (n := 64) (x := z4_0) dX0_decideWays_103 rfl rfl (Nat.le_of_ble_eq_true rfl) (by omega) am_up_at ?_
                refine w_iadd dX0_decideWays_104 ?_
                refine w_putI (o := 6) (f := 15) fX0_decideWays_105 rfl rfl rfl rfl rfl ?_
                refine w_iinc (ls' := [(2, 6), (9, 0), (0, x1), (0, z2_0), (0, i + 1), (0, z3_0)]) dX0_decideWays_108 rfl (Nat.le_of_ble_eq_true rfl) rfl rfl ?_
                refine w_goto (tgt := 45) dX0_decideWays_111 rfl ?_
                refine Wp.fgl (ls' := [(2, 6), (9, 0), (0, x1), (0, z2_0), (0, i + 1), (9, 0)]) 5 rfl ?_
                exact ih45 _ (by omega) (i + 1) (am_up (am_up μ9 10 i z4_0) 6 15 ((wsu D i) + z4_0)) rfl ((hF45.up (by omega)).up (by omega)) (by first | omega | assumption) (fun j h1 h2 => ((congrFun (am_up_o (by omega)) _).trans ((fillr hw (by unfold way; omega)) j h1 h2))) (am_up_at.trans (by rw [wsu_s hi0.1]; unfold way; omega)) (((am_up_nk (by omega)).trans ((congrFun (am_up_o (by first | decide | omega)) _).trans hk4)).trans (by rfl)) (fun k h1 => ((am_up_nk (by omega)).trans ((congrFun (am_up_o (by omega)) _).trans (hf k (by omega)))))
              refine w_if_eq (tgt := 90) dX0_decideWays_82 rfl (R32.in (by have := am_b_r ((¬ klow D = 99)); omega)) (fun c82 => ?_) (fun c82 => ?_)
              · skip
                replace c82 := am_b0 c82
                refine w_iload_n dX0_decideWays_90 rfl rfl ?_
                exact hJ82_4 _ (by first | omega | simp [*])
              · skip
                replace c82 := am_b1 c82
                refine w_iload dX0_decideWays_85 rfl ?_
                refine w_goto (tgt := 91) dX0_decideWays_87 rfl ?_
                exact hJ82_4 _ (by first | omega | simp [*])
            refine w_icmp_le (tgt := 69) dX0_decideWays_62 rfl (R32.in (by omega)) (R32.in (by omega)) (fun c62 => ?_) (fun c62 => ?_)
            · skip
              refine w_iconst dX0_decideWays_69 ?_
              exact hJ62_3 _ (by first | omega | simp [*])
            · skip
              refine w_iconst dX0_decideWays_65 ?_
              refine w_goto (tgt := 70) dX0_decideWays_66 rfl ?_
              exact hJ62_3 _ (by first | omega | simp [*])
      refine Wp.fgl (ls' := [(2, 6), (9, 0), (0, x1), (0, z2_0), (0, 0), (9, 0)]) 1 rfl ?_
      exact hL45 _ 0 (am_up (am_up μ_1 6 4 z1_0) 6 15 0) rfl (((hF1.wd (by omega) (by omega)).up (by omega)).up (by omega)) (by first | omega | assumption) (fun j h1 h2 => by omega) (am_up_at.trans (by rfl)) (((am_up_nk (by omega)).trans am_up_at).trans (by unfold am_b; omega)) (fun k h1 => ((am_up_nk (by omega)).trans ((am_up_nk (by omega)).trans (congrFun (hF1.at (by omega) (by omega)) _))))
    refine w_if_eq (tgt := 32) dX0_decideWays_25 rfl (R32.in (by omega)) (fun c25 => ?_) (fun c25 => ?_)
    · skip
      refine w_aload_n dX0_decideWays_32 rfl rfl (by first | decide | omega) ?_
      refine w_callVP (o := 6) (ci := 0) (as := []) (rest := []) (k := 4) fX0_decideWays_33 rfl rfl rfl rfl rfl rfl rfl rfl (Nat.le_of_ble_eq_true rfl) (s_X0_commonWay X D (am_up μ_1 6 4 z1_0) (GL1.cg2 hG (fun o h1 => ((am_up_o (by omega)).trans (hF1.at (by omega) (by omega)))) (fun k h1 => ((am_up_nk (by omega)).trans (congrFun (hF1.at (by omega) (by omega)) _))))) ?_
      have hf5 := way_r D 0
      exact hJ25_2 _ (by first | omega | simp [*])
    · skip
      refine w_iconst dX0_decideWays_28 ?_
      refine w_goto (tgt := 36) dX0_decideWays_29 rfl ?_
      exact hJ25_2 _ (by first | omega | simp [*])
  refine w_icmp_eq (tgt := 17) dX0_decideWays_10 rfl (R32.in (by omega)) (R32.in (by decide)) (fun c10 => ?_) (fun c10 => ?_)
  · skip
    refine w_iconst dX0_decideWays_17 ?_
    exact hJ10_1 _ (by first | omega | simp [*])
  · skip
    refine w_iconst dX0_decideWays_13 ?_
    refine w_goto (tgt := 18) dX0_decideWays_14 rfl ?_
    exact hJ10_1 _ (by first | omega | simp [*])

set_option maxRecDepth 100000 in
set_option maxHeartbeats 4000000 in
theorem s_X0_idealLength (X : AX) (b : Int) (w : Int) (h : Int) (μ : Mu) (hb : 0 ≤ b ∧ b ≤ 3) (hw : -1 ≤ w ∧ w ≤ 1) (hh : -12 ≤ h ∧ h ≤ 12) : Wp (GG X) M_X0_idealLength 0 [(0, b), (0, w), (0, h), (9, 0), (9, 0)] [] μ (pP 0 (idl b w h) μ) := by
  have hm := am_mul_b (A := 1) (B := 12) hw hh
  refine w_iload_n dX0_idealLength_0 rfl rfl ?_
  refine w_iconst dX0_idealLength_1 ?_
  refine w_icmp_ne (tgt := 10) dX0_idealLength_2 rfl (R32.in (by omega)) (R32.in (by decide)) (fun c2 => ?_) (fun c2 => ?_)
  · skip
    refine w_iload_n dX0_idealLength_10 rfl rfl ?_
    refine w_iconst dX0_idealLength_11 ?_
    refine w_icmp_ne (tgt := 20) dX0_idealLength_12 rfl (R32.in (by omega)) (R32.in (by decide)) (fun c12 => ?_) (fun c12 => ?_)
    · skip
      refine w_bipush dX0_idealLength_20 (by decide) ?_
      refine w_istore_n (ls' := [(0, b), (0, w), (0, h), (0, 14), (9, 0)]) dX0_idealLength_22 rfl (Nat.le_of_ble_eq_true rfl) rfl rfl ?_
      refine w_iconst dX0_idealLength_23 ?_
      refine w_iload_n dX0_idealLength_24 rfl rfl ?_
      refine w_imul dX0_idealLength_25 ?_
      refine w_abs fX0_idealLength_26 (R32.in (by omega)) (Nat.le_of_ble_eq_true rfl) ?_
      refine w_istore (ls' := [(0, b), (0, w), (0, h), (0, 14), (0, if 0 ≤ 2 * h then 2 * h else -(2 * h))]) dX0_idealLength_29 (Nat.le_of_ble_eq_true rfl) rfl rfl ?_
      refine w_iload dX0_idealLength_31 rfl ?_
      refine w_iload_n dX0_idealLength_33 rfl rfl ?_
      refine w_icmp_le (tgt := 48) dX0_idealLength_34 rfl (R32.in (by omega)) (R32.in (by decide)) (fun c34 => ?_) (fun c34 => ?_)
      · skip
        refine w_iload_n dX0_idealLength_48 rfl rfl ?_
        exact w_iretP dX0_idealLength_49 rfl (by unfold idl usu ab; omega)
      · skip
        refine w_iload_n dX0_idealLength_37 rfl rfl ?_
        refine w_iload_n dX0_idealLength_38 rfl rfl ?_
        refine w_imul dX0_idealLength_39 ?_
        refine w_if_ge (tgt := 48) dX0_idealLength_40 rfl (R32.in (by omega)) (fun c40 => ?_) (fun c40 => ?_)
        · skip
          refine w_iload_n dX0_idealLength_48 rfl rfl ?_
          exact w_iretP dX0_idealLength_49 rfl (by unfold idl usu ab; omega)
        · skip
          refine w_iload dX0_idealLength_43 rfl ?_
          refine w_goto (tgt := 49) dX0_idealLength_45 rfl ?_
          exact w_iretP dX0_idealLength_49 rfl (by unfold idl usu ab; omega)
    · skip
      refine w_bipush dX0_idealLength_15 (by decide) ?_
      refine w_goto (tgt := 22) dX0_idealLength_17 rfl ?_
      refine w_istore_n (ls' := [(0, b), (0, w), (0, h), (0, 15), (9, 0)]) dX0_idealLength_22 rfl (Nat.le_of_ble_eq_true rfl) rfl rfl ?_
      refine w_iconst dX0_idealLength_23 ?_
      refine w_iload_n dX0_idealLength_24 rfl rfl ?_
      refine w_imul dX0_idealLength_25 ?_
      refine w_abs fX0_idealLength_26 (R32.in (by omega)) (Nat.le_of_ble_eq_true rfl) ?_
      refine w_istore (ls' := [(0, b), (0, w), (0, h), (0, 15), (0, if 0 ≤ 2 * h then 2 * h else -(2 * h))]) dX0_idealLength_29 (Nat.le_of_ble_eq_true rfl) rfl rfl ?_
      refine w_iload dX0_idealLength_31 rfl ?_
      refine w_iload_n dX0_idealLength_33 rfl rfl ?_
      refine w_icmp_le (tgt := 48) dX0_idealLength_34 rfl (R32.in (by omega)) (R32.in (by decide)) (fun c34 => ?_) (fun c34 => ?_)
      · skip
        refine w_iload_n dX0_idealLength_48 rfl rfl ?_
        exact w_iretP dX0_idealLength_49 rfl (by unfold idl usu ab; omega)
      · skip
        refine w_iload_n dX0_idealLength_37 rfl rfl ?_
        refine w_iload_n dX0_idealLength_38 rfl rfl ?_
        refine w_imul dX0_idealLength_39 ?_
        refine w_if_ge (tgt := 48) dX0_idealLength_40 rfl (R32.in (by omega)) (fun c40 => ?_) (fun c40 => ?_)
        · skip
          refine w_iload_n dX0_idealLength_48 rfl rfl ?_
          exact w_iretP dX0_idealLength_49 rfl (by unfold idl usu ab; omega)
        · skip
          refine w_iload dX0_idealLength_43 rfl ?_
          refine w_goto (tgt := 49) dX0_idealLength_45 rfl ?_
          exact w_iretP dX0_idealLength_49 rfl (by unfold idl usu ab; omega)
  · skip
    refine w_bipush dX0_idealLength_5 (by decide) ?_
    refine w_goto (tgt := 22) dX0_idealLength_7 rfl ?_
    refine w_istore_n (ls' := [(0, b), (0, w), (0, h), (0, 17), (9, 0)]) dX0_idealLength_22 rfl (Nat.le_of_ble_eq_true rfl) rfl rfl ?_
    refine w_iconst dX0_idealLength_23 ?_
    refine w_iload_n dX0_idealLength_24 rfl rfl ?_
    refine w_imul dX0_idealLength_25 ?_
    refine w_abs fX0_idealLength_26 (R32.in (by omega)) (Nat.le_of_ble_eq_true rfl) ?_
    refine w_istore (ls' := [(0, b), (0, w), (0, h), (0, 17), (0, if 0 ≤ 2 * h then 2 * h else -(2 * h))]) dX0_idealLength_29 (Nat.le_of_ble_eq_true rfl) rfl rfl ?_
    refine w_iload dX0_idealLength_31 rfl ?_
    refine w_iload_n dX0_idealLength_33 rfl rfl ?_
    refine w_icmp_le (tgt := 48) dX0_idealLength_34 rfl (R32.in (by omega)) (R32.in (by decide)) (fun c34 => ?_) (fun c34 => ?_)
    · skip
      refine w_iload_n dX0_idealLength_48 rfl rfl ?_
      exact w_iretP dX0_idealLength_49 rfl (by unfold idl usu ab; omega)
    · skip
      refine w_iload_n dX0_idealLength_37 rfl rfl ?_
      refine w_iload_n dX0_idealLength_38 rfl rfl ?_
      refine w_imul dX0_idealLength_39 ?_
      refine w_if_ge (tgt := 48) dX0_idealLength_40 rfl (R32.in (by omega)) (fun c40 => ?_) (fun c40 => ?_)
      · skip
        refine w_iload_n dX0_idealLength_48 rfl rfl ?_
        exact w_iretP dX0_idealLength_49 rfl (by unfold idl usu ab; omega)
      · skip
        refine w_iload dX0_idealLength_43 rfl ?_
        refine w_goto (tgt := 49) dX0_idealLength_45 rfl ?_
        exact w_iretP dX0_idealLength_49 rfl (by unfold idl usu ab; omega)

set_option maxRecDepth 100000 in
set_option maxHeartbeats 4000000 in
theorem s_X0_decideWant (X : AX) (D : GDt) (μ : Mu) (hG : GL2 D μ) : Wp (GG X) M_X0_decideWant 0 [(2, 6), (9, 0), (9, 0), (9, 0), (9, 0)] [] μ (qV fun μ' => (Fr 6 6 1 0 μ' μ) ∧ (μ' 6 3 = want D) ∧ (∀ k : Int, ¬ k = 3 → μ' 6 k = μ 6 k)) := by
  have hok := hG.ok
  have hn := hok.n
  refine w_aload_n dX0_decideWant_0 rfl rfl (by first | decide | omega) ?_
  refine w_getR (o := 6) (x := 8) fX0_decideWant_1 rfl rfl rfl rfl ?_
  refine w_iconst dX0_decideWant_4 ?_
  refine w_ialdx (o := 8) (n := 64) (x := dH D 0) dX0_decideWant_5 rfl rfl (Nat.le_of_ble_eq_true rfl) (by omega) (hG.h (by omega)) ?_
  have hr1 := (hG.ok).hr (i := 0) (by omega)
  refine w_istore_n (ls' := [(2, 6), (0, dH D 0), (9, 0), (9, 0), (9, 0)]) dX0_decideWant_6 rfl (Nat.le_of_ble_eq_true rfl) rfl rfl ?_
  refine w_aload_n dX0_decideWant_7 rfl rfl (by first | decide | omega) ?_
  refine w_getR (o := 6) (x := 8) fX0_decideWant_8 rfl rfl rfl rfl ?_
  refine w_aload_n dX0_decideWant_11 rfl rfl (by first | decide | omega) ?_
  refine w_getIx (o := 6) (f := 1) (x := dN D - 1) fX0_decideWant_12 rfl rfl (Nat.le_of_ble_eq_true rfl) rfl hG.la ?_
  have hr2 := (hG.ok).n
  refine w_ialdx (o := 8) (n := 64) (x := dH D (dN D - 1)) dX0_decideWant_15 rfl rfl (Nat.le_of_ble_eq_true rfl) (by omega) (hG.h (by omega)) ?_
  have hr3 := (hG.ok).hr (i := (dN D - 1)) (by omega)
  refine w_istore_n (ls' := [(2, 6), (0, dH D 0), (0, dH D (dN D - 1)), (9, 0), (9, 0)]) dX0_decideWant_16 rfl (Nat.le_of_ble_eq_true rfl) rfl rfl ?_
  refine w_aload_n dX0_decideWant_17 rfl rfl (by first | decide | omega) ?_
  refine w_bipush dX0_decideWant_18 (by decide) ?_
  refine w_iconst dX0_decideWant_20 ?_
  refine w_iload_n dX0_decideWant_21 rfl rfl ?_
  refine w_iload_n dX0_decideWant_22 rfl rfl ?_
  refine w_isub dX0_decideWant_23 ?_
  refine w_min fX0_decideWant_24 (R32.in (by decide)) (R32.in (by omega)) (Nat.le_of_ble_eq_true rfl) ?_
  refine w_max fX0_decideWant_27 (R32.in (by decide)) (R32.in (by omega)) (Nat.le_of_ble_eq_true rfl) ?_
  refine w_putI (o := 6) (f := 3) fX0_decideWant_30 rfl rfl rfl rfl rfl ?_
  refine w_iconst dX0_decideWant_33 ?_
  refine w_istore_n (ls' := [(2, 6), (0, dH D 0), (0, dH D (dN D - 1)), (0, 1), (9, 0)]) dX0_decideWant_34 rfl (Nat.le_of_ble_eq_true rfl) rfl rfl ?_
  have hL35 : ∀ (n35 : Nat) (i : Int) (μ9 : Mu), (dN D - i).toNat = n35 → Fr 6 6 1 0 μ9 μ → (1 ≤ i ∧ i ≤ dN D - 1) → (μ9 6 3 = wnt D i) → (∀ k : Int, ¬ k = 3 → μ9 6 k = μ 6 k) → Wp (GG X) M_X0_decideWant 35 [(2, 6), (0, dH D 0), (0, dH D (dN D - 1)), (0, i), (9, 0)] [] μ9 (qV fun μ' => (Fr 6 6 1 0 μ' μ) ∧ (μ' 6 3 = want D) ∧ (∀ k : Int, ¬ k = 3 → μ' 6 k = μ 6 k)) := by
    intro n35
    induction n35 using Nat.strongRecOn with
    | ind n35 ih35 =>
      intro i μ9 hn35 hF35 hi0 hw hf
      refine w_iload_n dX0_decideWant_35 rfl rfl ?_
      refine w_aload_n dX0_decideWant_36 rfl rfl (by first | decide | omega) ?_
      refine w_getIx (o := 6) (f := 1) (x := dN D - 1) fX0_decideWant_37 rfl rfl (Nat.le_of_ble_eq_true rfl) rfl ((hf _ (by omega)).trans hG.la) ?_
      have hr4 := (hG.ok).n
      refine w_icmp_ge (tgt := 125) dX0_decideWant_40 rfl (R32.in (by omega)) (R32.in (by omega)) (fun c40 => ?_) (fun c40 => ?_)
      · skip
        exact w_retV dX0_decideWant_125 rfl ⟨hF35, (by rw [hw, want_w]; first | (rw [show i = dN D - 1 by omega]) | (rw [wnt_k c47, wnt_k c47])), (fun k h1 => (hf k (by omega)))⟩
      · skip
        refine w_aload_n dX0_decideWant_43 rfl rfl (by first | decide | omega) ?_
        refine w_getIx (o := 6) (f := 4) (x := am_b (¬ klow D = 99)) fX0_decideWant_44 rfl rfl (Nat.le_of_ble_eq_true rfl) rfl ((hf _ (by omega)).trans hG.kn) ?_
        refine w_if_ne (tgt := 125) dX0_decideWant_47 rfl (R32.in (by have := am_b_r ((¬ klow D = 99)); omega)) (fun c47 => ?_) (fun c47 => ?_)
        · skip
          replace c47 := am_b1 c47
          exact w_retV dX0_decideWant_125 rfl ⟨hF35, (by rw [hw, want_w]; first | (rw [show i = dN D - 1 by omega]) | (rw [wnt_k c47, wnt_k c47])), (fun k h1 => (hf k (by omega)))⟩
        · skip
          replace c47 := am_b0 c47
          refine w_aload_n dX0_decideWant_50 rfl rfl (by first | decide | omega) ?_
          refine w_getR (o := 6) (x := 10) fX0_decideWant_51 rfl rfl rfl rfl ?_
          refine w_iconst dX0_decideWant_54 ?_
          refine w_ialdx (o := 10) (n := 64) (x := way D 0) dX0_decideWant_55 rfl rfl (Nat.le_of_ble_eq_true rfl) (by omega) ((congrFun (hF35.at (by omega) (by omega)) _).trans (hG.w (by omega))) ?_
          have hr5 := way_b D 0
          have hJ56_1 : ∀ z1_0 : Int, z1_0 = (if (way D 0) ≤ 0 then (if (min (dH D 0) (dH D (dN D - 1))) ≤ (dH D i) then 0 else 1) else (if (dH D i) ≤ (max (dH D 0) (dH D (dN D - 1))) then 0 else 1)) → Wp (GG X) M_X0_decideWant 100 [(2, 6), (0, dH D 0), (0, dH D (dN D - 1)), (0, i), (9, 0)] [(0, z1_0)] μ9 (qV fun μ' => (Fr 6 6 1 0 μ' μ) ∧ (μ' 6 3 = want D) ∧ (∀ k : Int, ¬ k = 3 → μ' 6 k = μ 6 k)) := by
            intro z1_0 hz1_0
            refine w_istore (ls' := [(2, 6), (0, dH D 0), (0, dH D (dN D - 1)), (0, i), (0, z1_0)]) dX0_decideWant_100 (Nat.le_of_ble_eq_true rfl) rfl rfl ?_
            refine w_aload_n dX0_decideWant_102 rfl rfl (by first | decide | omega) ?_
            refine w_iload dX0_decideWant_103 rfl ?_
            have hJ105_2 : ∀ z2_0 : Int, z2_0 = (if z1_0 = 0 then wnt D i else 0) → Wp (GG X) M_X0_decideWant 116 [(2, 6), (0, dH D 0), (0, dH D (dN D - 1)), (0, i), (0, z1_0)] [(0, z2_0), (2, 6)] μ9 (qV fun μ' => (Fr 6 6 1 0 μ' μ) ∧ (μ' 6 3 = want D) ∧ (∀ k : Int, ¬ k = 3 → μ' 6 k = μ 6 k)) := by
              intro z2_0 hz2_0
              refine w_putI (o := 6) (f := 3) fX0_decideWant_116 rfl rfl rfl rfl rfl ?_
              refine w_iinc (ls' := [(2, 6), (0, dH D 0), (0, dH D (dN D - 1)), (0, i + 1), (0, z1_0)]) dX0_decideWant_119 rfl (Nat.le_of_ble_eq_true rfl) rfl rfl ?_
              refine w_goto (tgt := 35) dX0_decideWant_122 rfl ?_
              refine Wp.fgl (ls' := [(2, 6), (0, dH D 0), (0, dH D (dN D - 1)), (0, i + 1), (9, 0)]) 4 rfl ?_
              exact ih35 _ (by omega) (i + 1) (am_up μ9 6 3 z2_0) rfl (hF35.up (by omega)) (by first | omega | assumption) (am_up_at.trans (by rw [wnt_s (by omega) hi0.1]; omega)) (fun k h1 => ((am_up_nk (by omega)).trans (hf k (by omega))))
            refine w_if_eq (tgt := 112) dX0_decideWant_105 rfl (R32.in (by omega)) (fun c105 => ?_) (fun c105 => ?_)
            · skip
              refine w_aload_n dX0_decideWant_112 rfl rfl (by first | decide | omega) ?_
              refine w_getIx (o := 6) (f := 3) (x := wnt D i) fX0_decideWant_113 rfl rfl (Nat.le_of_ble_eq_true rfl) rfl hw ?_
              have hr6 := wnt_r D i
              exact hJ105_2 _ (by first | omega | simp [*])
            · skip
              refine w_iconst dX0_decideWant_108 ?_
              refine w_goto (tgt := 116) dX0_decideWant_109 rfl ?_
              exact hJ105_2 _ (by first | omega | simp [*])
          refine w_if_le (tgt := 81) dX0_decideWant_56 rfl (R32.in (by omega)) (fun c56 => ?_) (fun c56 => ?_)
          · skip
            refine w_aload_n dX0_decideWant_81 rfl rfl (by first | decide | omega) ?_
            refine w_getR (o := 6) (x := 8) fX0_decideWant_82 rfl rfl rfl rfl ?_
            refine w_iload_n dX0_decideWant_85 rfl rfl ?_
            refine w_ialdx (o := 8) (n := 64) (x := dH D i) dX0_decideWant_86 rfl rfl (Nat.le_of_ble_eq_true rfl) (by omega) ((congrFun (hF35.at (by omega) (by omega)) _).trans (hG.h (by omega))) ?_
            have hr7 := (hG.ok).hr (i := i) (by omega)
            refine w_iload_n dX0_decideWant_87 rfl rfl ?_
            refine w_iload_n dX0_decideWant_88 rfl rfl ?_
            refine w_min fX0_decideWant_89 (R32.in (by omega)) (R32.in (by omega)) (Nat.le_of_ble_eq_true rfl) ?_
            refine w_icmp_ge (tgt := 99) dX0_decideWant_92 rfl (R32.in (by omega)) (R32.in (by omega)) (fun c92 => ?_) (fun c92 => ?_)
            · skip
              refine w_iconst dX0_decideWant_99 ?_
              exact hJ56_1 _ (by first | omega | simp [*])
            · skip
              refine w_iconst dX0_decideWant_95 ?_
              refine w_goto (tgt := 100) dX0_decideWant_96 rfl ?_
              exact hJ56_1 _ (by first | omega | simp [*])
          · skip
            refine w_aload_n dX0_decideWant_59 rfl rfl (by first | decide | omega) ?_
            refine w_getR (o := 6) (x := 8) fX0_decideWant_60 rfl rfl rfl rfl ?_
            refine w_iload_n dX0_decideWant_63 rfl rfl ?_
            refine w_ialdx (o := 8) (n := 64) (x := dH D i) dX0_decideWant_64 rfl rfl (Nat.le_of_ble_eq_true rfl) (by omega) ((congrFun (hF35.at (by omega) (by omega)) _).trans (hG.h (by omega))) ?_
            have hr8 := (hG.ok).hr (i := i) (by omega)
            refine w_iload_n dX0_decideWant_65 rfl rfl ?_
            refine w_iload_n dX0_decideWant_66 rfl rfl ?_
            refine w_max fX0_decideWant_67 (R32.in (by omega)) (R32.in (by omega)) (Nat.le_of_ble_eq_true rfl) ?_
            refine w_icmp_le (tgt := 77) dX0_decideWant_70 rfl (R32.in (by omega)) (R32.in (by omega)) (fun c70 => ?_) (fun c70 => ?_)
            · skip
              refine w_iconst dX0_decideWant_77 ?_
              refine w_goto (tgt := 100) dX0_decideWant_78 rfl ?_
              exact hJ56_1 _ (by first | omega | simp [*])
            · skip
              refine w_iconst dX0_decideWant_73 ?_
              refine w_goto (tgt := 100) dX0_decideWant_74 rfl ?_
              exact hJ56_1 _ (by first | omega | simp [*])
  exact hL35 _ 1 (am_up μ 6 3 (max (-5) (min 5 ((dH D (dN D - 1)) - (dH D 0))))) rfl (Fr.rf.up (by omega)) (by first | omega | assumption) (am_up_at.trans (by rw [wnt_1])) (fun k h1 => (am_up_nk (by omega)))

set_option maxRecDepth 100000 in
set_option maxHeartbeats 4000000 in
theorem s_X0_load (X : AX) (p : Int) (f : Int) (m : Int) (kn : Int) (μ ν : Mu) (hA9 : ∀ o : Int, (p ≤ o ∧ o ≤ p + 10) → ν o = μ o) (hI : PI μ p) (hG : PG μ p) (hL : ldok μ p (p + 5) f m kn) : Wp (GG X) M_X0_load 0 [(2, 6), (2, p), (2, p + 5), (0, f), (0, m), (0, kn), (9, 0)] [] ν (qV fun μ' => (Fr 6 14 1 0 μ' ν) ∧ (GLd (gdt μ p (p + 5) f m kn) μ')) := by
  have hp := hI.at
  have hz := hI.sz
  have hok := gdt_ok hI hG hL
  have hl := hL.1
  have hq := fun i h1 h2 => (hL.2.2 i h1 h2).1
  have hdn : dN (gdt μ p (p + 5) f m kn) = m := rfl
  have hkn := hL.2.1
  refine w_aload_n dX0_load_0 rfl rfl (by first | decide | omega) ?_
  refine w_iload_n dX0_load_1 rfl rfl ?_
  have hJ2_1 : ∀ z1_0 : Int, z1_0 = (if 0 ≤ f then max 0 (min m ((μ p 7) - f)) else 0) → Wp (GG X) M_X0_load 24 [(2, 6), (2, p), (2, p + 5), (0, f), (0, m), (0, kn), (9, 0)] [(0, z1_0), (2, 6)] ν (qV fun μ' => (Fr 6 14 1 0 μ' ν) ∧ (GLd (gdt μ p (p + 5) f m kn) μ')) := by
    intro z1_0 hz1_0
    refine w_putI (o := 6) (f := 0) fX0_load_24 rfl rfl rfl rfl rfl ?_
    refine w_aload_n dX0_load_27 rfl rfl (by first | decide | omega) ?_
    refine w_iconst dX0_load_28 ?_
    refine w_putI (o := 6) (f := 11) fX0_load_29 rfl rfl rfl rfl rfl ?_
    refine w_iconst dX0_load_32 ?_
    refine w_istore (ls' := [(2, 6), (2, p), (2, p + 5), (0, f), (0, m), (0, kn), (0, 0)]) dX0_load_33 (Nat.le_of_ble_eq_true rfl) rfl rfl ?_
    have hL35 : ∀ (n35 : Nat) (i : Int) (μ1 : Mu), (m - i).toNat = n35 → Fr 6 14 1 0 μ1 ν → (0 ≤ i ∧ i ≤ m) → (μ1 6 0 = m) → (∀ j : Int, 0 ≤ j → j < i → μ1 7 j = μ (p + 7) (f + j) - μ (p + 7) f) → (∀ j : Int, 0 ≤ j → j < i → μ1 8 j = μ (p + 5) (f + j)) → (∀ j : Int, 0 ≤ j → j < i → μ1 9 j = bmz μ p (f + j)) → Wp (GG X) M_X0_load 35 [(2, 6), (2, p), (2, p + 5), (0, f), (0, m), (0, kn), (0, i)] [] μ1 (qV fun μ' => (Fr 6 14 1 0 μ' ν) ∧ (GLd (gdt μ p (p + 5) f m kn) μ')) := by
      intro n35
      induction n35 using Nat.strongRecOn with
      | ind n35 ih35 =>
        intro i μ1 hn35 hF35 hi0 hs hx hh hb
        refine w_iload dX0_load_35 rfl ?_
        refine w_aload_n dX0_load_37 rfl rfl (by first | decide | omega) ?_
        refine w_getIx (o := 6) (f := 0) (x := m) fX0_load_38 rfl rfl (Nat.le_of_ble_eq_true rfl) rfl hs ?_
        refine w_icmp_ge (tgt := 101) dX0_load_41 rfl (R32.in (by omega)) (R32.in (by omega)) (fun c41 => ?_) (fun c41 => ?_)
        · skip
          refine w_aload_n dX0_load_101 rfl rfl (by first | decide | omega) ?_
          refine w_iconst dX0_load_102 ?_
          refine w_aload_n dX0_load_103 rfl rfl (by first | decide | omega) ?_
          refine w_getIx (o := 6) (f := 0) (x := m) fX0_load_104 rfl rfl (Nat.le_of_ble_eq_true rfl) rfl hs ?_
          refine w_iconst dX0_load_107 ?_
          refine w_isub dX0_load_108 ?_
          refine w_max fX0_load_109 (R32.in (by decide)) (R32.in (by omega)) (Nat.le_of_ble_eq_true rfl) ?_
          refine Wp.topE (b := m - 1) (by omega) ?_
          refine w_putI (o := 6) (f := 1) fX0_load_112 rfl rfl rfl rfl rfl ?_
          refine w_aload_n dX0_load_115 rfl rfl (by first | decide | omega) ?_
          refine w_aload_n dX0_load_116 rfl rfl (by first | decide | omega) ?_
          refine w_getIx (o := 6) (f := 0) (x := m) fX0_load_117 rfl rfl (Nat.le_of_ble_eq_true rfl) rfl ((am_up_nk (by omega)).trans hs) ?_
          have hJ120_2 : ∀ z2_0 : Int, z2_0 = (if m ≤ 0 then 0 else μ (p + 7) (f + (m - 1)) - μ (p + 7) f) → Wp (GG X) M_X0_load 136 [(2, 6), (2, p), (2, p + 5), (0, f), (0, m), (0, kn), (0, i)] [(0, z2_0), (2, 6)] (am_up μ1 6 1 (m - 1)) (qV fun μ' => (Fr 6 14 1 0 μ' ν) ∧ (GLd (gdt μ p (p + 5) f m kn) μ')) := by
            intro z2_0 hz2_0
            refine w_putI (o := 6) (f := 2) fX0_load_136 rfl rfl rfl rfl rfl ?_
            refine w_aload_n dX0_load_139 rfl rfl (by first | decide | omega) ?_
            refine w_iload dX0_load_140 rfl ?_
            have hF_μ4 : Fr 6 14 1 0 (am_up (am_up μ1 6 1 (m - 1)) 6 2 z2_0) ν := ((hF35.up (by omega)).up (by omega))
            have hG4 : GL1 (gdt μ p (p + 5) f m kn) (am_up (am_up μ1 6 1 (m - 1)) 6 2 z2_0) := (gdt_l1 hok (((am_up_nk (by omega)).trans ((am_up_nk (by omega)).trans hs)).trans (by omega)) (((am_up_nk (by omega)).trans am_up_at).trans (by omega)) (am_up_at.trans (by omega)) (fun j h1 h2 => (fun j h1 h2 => ((congrFun (am_up_o (by omega)) _).trans ((congrFun (am_up_o (by omega)) _).trans (hx j h1 h2)))) j h1 (by omega)) (fun j h1 h2 => (fun j h1 h2 => ((congrFun (am_up_o (by omega)) _).trans ((congrFun (am_up_o (by omega)) _).trans (hh j h1 h2)))) j h1 (by omega)) (fun j h1 h2 => (fun j h1 h2 => ((congrFun (am_up_o (by omega)) _).trans ((congrFun (am_up_o (by omega)) _).trans (hb j h1 h2)))) j h1 (by omega)))
            refine Wp.mu (fun μ4 hμ4 => ?_)
            rw [← hμ4] at hF_μ4 hG4
            clear hμ4
            refine w_callVV (o := 6) (ci := 0) (as := [(0, kn)]) (rest := []) (k := 4) fX0_load_142 rfl rfl rfl rfl rfl rfl rfl rfl (Nat.le_of_ble_eq_true rfl) (s_X0_decideWays X (gdt μ p (p + 5) f m kn) kn μ4 hG4 rfl) (fun μ_1 hμ1 => ?_)
            obtain ⟨hF1, hG2_1, hf_1⟩ := hμ1
            refine w_aload_n dX0_load_145 rfl rfl (by first | decide | omega) ?_
            refine w_callVV (o := 6) (ci := 0) (as := []) (rest := []) (k := 4) fX0_load_146 rfl rfl rfl rfl rfl rfl rfl rfl (Nat.le_of_ble_eq_true rfl) (s_X0_decideWant X (gdt μ p (p + 5) f m kn) μ_1 hG2_1) (fun μW hμW => ?_)
            obtain ⟨hFW, hwa_W, hf_W⟩ := hμW
            refine w_iconst dX0_load_149 ?_
            refine w_istore (ls' := [(2, 6), (2, p), (2, p + 5), (0, f), (0, m), (0, kn), (0, 0)]) dX0_load_150 (Nat.le_of_ble_eq_true rfl) rfl rfl ?_
            have hL152 : ∀ (n152 : Nat) (i : Int) (μ6 : Mu), (m - i).toNat = n152 → Fr 6 14 1 0 μ6 ν → (0 ≤ i ∧ i ≤ m) → (GL2 (gdt μ p (p + 5) f m kn) μ6) → (μ6 6 3 = want (gdt μ p (p + 5) f m kn)) → (∀ j : Int, 0 ≤ j → j < i → μ6 11 j = ideal (gdt μ p (p + 5) f m kn) j) → Wp (GG X) M_X0_load 152 [(2, 6), (9, 0), (9, 0), (9, 0), (9, 0), (9, 0), (0, i)] [] μ6 (qV fun μ' => (Fr 6 14 1 0 μ' ν) ∧ (GLd (gdt μ p (p + 5) f m kn) μ')) := by
              intro n152
              induction n152 using Nat.strongRecOn with
              | ind n152 ih152 =>
                intro i μ6 hn152 hF152 hi0 hG6 hwa6 hid
                refine w_iload dX0_load_152 rfl ?_
                refine w_aload_n dX0_load_154 rfl rfl (by first | decide | omega) ?_
                refine w_getIx (o := 6) (f := 0) (x := dN (gdt μ p (p + 5) f m kn)) fX0_load_155 rfl rfl (Nat.le_of_ble_eq_true rfl) rfl hG6.n ?_
                have hr3 := (hG6.ok).n
                refine w_icmp_ge (tgt := 198) dX0_load_158 rfl (R32.in (by omega)) (R32.in (by omega)) (fun c158 => ?_) (fun c158 => ?_)
                · skip
                  exact w_retV dX0_load_198 rfl ⟨hF152, (by have he : i = m := (by omega); subst he; exact ⟨hG6, hwa6, hid⟩)⟩
                · skip
                  refine w_aload_n dX0_load_161 rfl rfl (by first | decide | omega) ?_
                  refine w_getR (o := 6) (x := 11) fX0_load_162 rfl rfl rfl rfl ?_
                  refine w_iload dX0_load_165 rfl ?_
                  refine w_aload_n dX0_load_167 rfl rfl (by first | decide | omega) ?_
                  refine w_getR (o := 6) (x := 9) fX0_load_168 rfl rfl rfl rfl ?_
                  refine w_iload dX0_load_171 rfl ?_
                  refine w_ialdx (o := 9) (n := 64) (x := dB (gdt μ p (p + 5) f m kn) i) dX0_load_173 rfl rfl (Nat.le_of_ble_eq_true rfl) (by omega) (hG6.b (by omega)) ?_
                  have hr4 := (hG6.ok).br (i := i) (by omega)
                  refine w_aload_n dX0_load_174 rfl rfl (by first | decide | omega) ?_
                  refine w_getR (o := 6) (x := 10) fX0_load_175 rfl rfl rfl rfl ?_
                  refine w_iload dX0_load_178 rfl ?_
                  refine w_ialdx (o := 10) (n := 64) (x := way (gdt μ p (p + 5) f m kn) i) dX0_load_180 rfl rfl (Nat.le_of_ble_eq_true rfl) (by omega) (hG6.w (by omega)) ?_
                  have hr5 := way_b (gdt μ p (p + 5) f m kn) i
                  refine w_aload_n dX0_load_181 rfl rfl (by first | decide | omega) ?_
                  refine w_getR (o := 6) (x := 8) fX0_load_182 rfl rfl rfl rfl ?_
                  refine w_iload dX0_load_185 rfl ?_
                  refine w_ialdx (o := 8) (n := 64) (x := dH (gdt μ p (p + 5) f m kn) i) dX0_load_187 rfl rfl (Nat.le_of_ble_eq_true rfl) (by omega) (hG6.h (by omega)) ?_
                  have hr6 := (hG6.ok).hr (i := i) (by omega)
                  refine w_callSP (as := [(0, dB (gdt μ p (p + 5) f m kn) i), (0, way (gdt μ p (p + 5) f m kn) i), (0, dH (gdt μ p (p + 5) f m kn) i)]) (rest := [(0, i), (2, 11)]) (k := 2) fX0_load_188 rfl rfl rfl rfl rfl (Nat.le_of_ble_eq_true rfl) (s_X0_idealLength X (dB (gdt μ p (p + 5) f m kn) i) (way (gdt μ p (p + 5) f m kn) i) (dH (gdt μ p (p + 5) f m kn) i) μ6 (by first | omega | assumption) (by first | omega | assumption) (by first | omega | assumption)) ?_
                  have hf7 := idl_f (dB (gdt μ p (p + 5) f m kn) i) (way (gdt μ p (p + 5) f m kn) i) (dH (gdt μ p (p + 5) f m kn) i) (by first | assumption | omega)
                  refine w_iast (o := 11) (n := 64) dX0_load_191 rfl rfl (Nat.le_of_ble_eq_true rfl) (by omega) (by omega) ?_
                  refine w_iinc (ls' := [(2, 6), (9, 0), (9, 0), (9, 0), (9, 0), (9, 0), (0, i + 1)]) dX0_load_192 rfl (Nat.le_of_ble_eq_true rfl) rfl rfl ?_
                  refine w_goto (tgt := 152) dX0_load_195 rfl ?_
                  exact ih152 _ (by omega) (i + 1) (am_up μ6 11 i (idl (dB (gdt μ p (p + 5) f m kn) i) (way (gdt μ p (p + 5) f m kn) i) (dH (gdt μ p (p + 5) f m kn) i))) rfl (hF152.up (by omega)) (by first | omega | assumption) (GL2.cg2 hG6 (fun o h1 => (am_up_o (by omega))) (fun k h1 => (congrFun (am_up_o (by omega)) _))) (((congrFun (am_up_o (by first | decide | omega)) _).trans hwa6).trans (by rfl)) (fillr (f := ideal (gdt μ p (p + 5) f m kn)) hid rfl)
            refine Wp.fgl (ls' := [(2, 6), (9, 0), (2, p + 5), (0, f), (0, m), (0, kn), (0, 0)]) 1 rfl ?_
            refine Wp.fgl (ls' := [(2, 6), (9, 0), (9, 0), (0, f), (0, m), (0, kn), (0, 0)]) 2 rfl ?_
            refine Wp.fgl (ls' := [(2, 6), (9, 0), (9, 0), (9, 0), (0, m), (0, kn), (0, 0)]) 3 rfl ?_
            refine Wp.fgl (ls' := [(2, 6), (9, 0), (9, 0), (9, 0), (9, 0), (0, kn), (0, 0)]) 4 rfl ?_
            refine Wp.fgl (ls' := [(2, 6), (9, 0), (9, 0), (9, 0), (9, 0), (9, 0), (0, 0)]) 5 rfl ?_
            exact hL152 _ 0 μW rfl ((hFW.wd (by omega) (by omega)).tr ((hF1.wd (by omega) (by omega)).tr hF_μ4)) (by first | omega | assumption) (GL2.cg2 hG2_1 (fun o h1 => (hFW.at (by omega) (by omega))) (fun k h1 => (hf_W _ (by omega)))) (hwa_W.trans (by rfl)) (fun j h1 h2 => by omega)
          refine w_if_le (tgt := 135) dX0_load_120 rfl (R32.in (by omega)) (fun c120 => ?_) (fun c120 => ?_)
          · skip
            refine w_iconst dX0_load_135 ?_
            exact hJ120_2 _ (by first | omega | simp [*])
          · skip
            refine w_aload_n dX0_load_123 rfl rfl (by first | decide | omega) ?_
            refine w_getR (o := 6) (x := 7) fX0_load_124 rfl rfl rfl rfl ?_
            refine w_aload_n dX0_load_127 rfl rfl (by first | decide | omega) ?_
            refine w_getIx (o := 6) (f := 1) (x := m - 1) fX0_load_128 rfl rfl (Nat.le_of_ble_eq_true rfl) rfl am_up_at ?_
            refine w_ialdx (o := 7) (n := 64) (x := μ (p + 7) (f + (m - 1)) - μ (p + 7) f) dX0_load_131 rfl rfl (Nat.le_of_ble_eq_true rfl) (by omega) ((congrFun (am_up_o (by first | decide | omega)) _).trans (hx _ (by omega) (by omega))) ?_
            refine w_goto (tgt := 136) dX0_load_132 rfl ?_
            exact hJ120_2 _ (by first | omega | simp [*])
        · skip
          refine w_aload_n dX0_load_44 rfl rfl (by first | decide | omega) ?_
          refine w_getR (o := 6) (x := 7) fX0_load_45 rfl rfl rfl rfl ?_
          refine w_iload dX0_load_48 rfl ?_
          refine w_aload_n dX0_load_50 rfl rfl (by first | decide | omega) ?_
          refine w_getR (o := (p).toNat) (x := p + 7) fX0_load_51 (by omega) (pSh0 rfl rfl (by assumption)) rfl (pRf 12 7 rfl rfl (by assumption)) ?_
          refine w_iload_n dX0_load_54 rfl rfl ?_
          refine w_iload dX0_load_55 rfl ?_
          refine w_iadd dX0_load_57 ?_
          refine w_ialdx (o := (p + 7).toNat) (n := 64) (x := μ (p + 7) (f + i)) dX0_load_58 (by omega) (pSh 7 rfl rfl (by assumption)) (Nat.le_of_ble_eq_true rfl) (by omega) ((congrFun (hF35.at (by omega) (by omega)) _).trans (congrFun (hA9 _ (by omega)) _)) ?_
          have hr8 := PI.xs hI (q := p + 7) (i := (f + i)) rfl (by omega)
          refine w_aload_n dX0_load_59 rfl rfl (by first | decide | omega) ?_
          refine w_getR (o := (p).toNat) (x := p + 7) fX0_load_60 (by omega) (pSh0 rfl rfl (by assumption)) rfl (pRf 12 7 rfl rfl (by assumption)) ?_
          refine w_iload_n dX0_load_63 rfl rfl ?_
          refine w_ialdx (o := (p + 7).toNat) (n := 64) (x := μ (p + 7) f) dX0_load_64 (by omega) (pSh 7 rfl rfl (by assumption)) (Nat.le_of_ble_eq_true rfl) (by omega) ((congrFun (hF35.at (by omega) (by omega)) _).trans (congrFun (hA9 _ (by omega)) _)) ?_
          have hr9 := PI.xs hI (q := p + 7) (i := f) rfl (by omega)
          refine w_isub dX0_load_65 ?_
          refine w_iast (o := 7) (n := 64) dX0_load_66 rfl rfl (Nat.le_of_ble_eq_true rfl) (by omega) (by omega) ?_
          refine w_aload_n dX0_load_67 rfl rfl (by first | decide | omega) ?_
          refine w_getR (o := 6) (x := 8) fX0_load_68 rfl rfl rfl rfl ?_
          refine w_iload dX0_load_71 rfl ?_
          refine w_aload_n dX0_load_73 rfl rfl (by first | decide | omega) ?_
          refine w_iload_n dX0_load_74 rfl rfl ?_
          refine w_iload dX0_load_75 rfl ?_
          refine w_iadd dX0_load_77 ?_
          refine w_ialdx (o := (p + 5).toNat) (n := 64) (x := μ (p + 5) (f + i)) dX0_load_78 (by omega) (pSh 5 rfl rfl (by assumption)) (Nat.le_of_ble_eq_true rfl) (by omega) ((congrFun (am_up_o (by first | decide | omega)) _).trans ((congrFun (hF35.at (by omega) (by omega)) _).trans (congrFun (hA9 _ (by omega)) _))) ?_
          have hr10 := PI.hd hI (q := p + 5) (i := (f + i)) rfl (by omega)
          refine w_iast (o := 8) (n := 64) dX0_load_79 rfl rfl (Nat.le_of_ble_eq_true rfl) (by omega) (by omega) ?_
          refine w_aload_n dX0_load_80 rfl rfl (by first | decide | omega) ?_
          refine w_getR (o := 6) (x := 9) fX0_load_81 rfl rfl rfl rfl ?_
          refine w_iload dX0_load_84 rfl ?_
          refine w_aload_n dX0_load_86 rfl rfl (by first | decide | omega) ?_
          refine w_iload_n dX0_load_87 rfl rfl ?_
          refine w_iload dX0_load_88 rfl ?_
          refine w_iadd dX0_load_90 ?_
          refine w_callVP (o := (p).toNat) (ci := 2) (as := [(0, f + i)]) (rest := [(0, i), (2, 9)]) (k := 0) fX0_load_91 rfl (by omega) (pSh0 rfl rfl (by assumption)) rfl rfl rfl rfl rfl (Nat.le_of_ble_eq_true rfl) (s_X2_beamsOf X p (f + i) μ (am_up (am_up μ1 7 i ((μ (p + 7) (f + i)) - (μ (p + 7) f))) 8 i (μ (p + 5) (f + i))) (fun o h1 => ((am_up_o (by omega)).trans ((am_up_o (by omega)).trans ((hF35.at (by omega) (by omega)).trans (hA9 _ (by omega)))))) hI (by omega)) ?_
          have hf11 := bmz_r μ p (f + i)
          refine w_iast (o := 9) (n := 64) dX0_load_94 rfl rfl (Nat.le_of_ble_eq_true rfl) (by omega) (by omega) ?_
          refine w_iinc (ls' := [(2, 6), (2, p), (2, p + 5), (0, f), (0, m), (0, kn), (0, i + 1)]) dX0_load_95 rfl (Nat.le_of_ble_eq_true rfl) rfl rfl ?_
          refine w_goto (tgt := 35) dX0_load_98 rfl ?_
          exact ih35 _ (by omega) (i + 1) (am_up (am_up (am_up μ1 7 i ((μ (p + 7) (f + i)) - (μ (p + 7) f))) 8 i (μ (p + 5) (f + i))) 9 i (bmz μ p (f + i))) rfl (((hF35.up (by omega)).up (by omega)).up (by omega)) (by first | omega | assumption) (((congrFun (am_up_o (by first | decide | omega)) _).trans ((congrFun (am_up_o (by first | decide | omega)) _).trans ((congrFun (am_up_o (by first | decide | omega)) _).trans hs))).trans (by rfl)) (fun j h1 h2 => ((congrFun (am_up_o (by omega)) _).trans ((congrFun (am_up_o (by omega)) _).trans ((fillr (f := fun j => μ (p + 7) (f + j) - μ (p + 7) f) hx rfl) j h1 h2)))) (fun j h1 h2 => ((congrFun (am_up_o (by omega)) _).trans ((fillr (f := fun j => μ (p + 5) (f + j)) hh rfl) j h1 h2))) (fillr (f := fun j => bmz μ p (f + j)) hb rfl)
    exact hL35 _ 0 (am_up (am_up ν 6 0 z1_0) 6 11 0) rfl ((Fr.rf.up (by omega)).up (by omega)) (by first | omega | assumption) (((am_up_nk (by omega)).trans am_up_at).trans (by omega)) (fun j h1 h2 => by omega) (fun j h1 h2 => by omega) (fun j h1 h2 => by omega)
  refine w_if_ge (tgt := 9) dX0_load_2 rfl (R32.in (by omega)) (fun c2 => ?_) (fun c2 => ?_)
  · skip
    refine w_iconst dX0_load_9 ?_
    refine w_iload dX0_load_10 rfl ?_
    refine w_aload_n dX0_load_12 rfl rfl (by first | decide | omega) ?_
    refine w_getIx (o := (p).toNat) (f := 7) (x := μ p 7) fX0_load_13 (by omega) (pSh0 rfl rfl (by assumption)) (Nat.le_of_ble_eq_true rfl) rfl (congrFun (hA9 _ (by omega)) _) ?_
    have hr12 := PI.sz hI
    refine w_iload_n dX0_load_16 rfl rfl ?_
    refine w_isub dX0_load_17 ?_
    refine w_min fX0_load_18 (R32.in (by omega)) (R32.in (by omega)) (Nat.le_of_ble_eq_true rfl) ?_
    refine w_max fX0_load_21 (R32.in (by decide)) (R32.in (by omega)) (Nat.le_of_ble_eq_true rfl) ?_
    exact hJ2_1 _ (by first | omega | simp [*])
  · skip
    refine w_iconst dX0_load_5 ?_
    refine w_goto (tgt := 24) dX0_load_6 rfl ?_
    exact hJ2_1 _ (by first | omega | simp [*])

set_option maxRecDepth 100000 in
set_option maxHeartbeats 4000000 in
theorem s_X0_load_t (X : AX) (p : Int) (f : Int) (m : Int) (kn : Int) (μ ν : Mu) (hA9 : ∀ o : Int, (p ≤ o ∧ o ≤ p + 10) ∨ (19 ≤ o ∧ o ≤ 19) → ν o = μ o) (hI : PI μ p) (hG : PG μ p) (hL : ldok μ p 19 f m kn) : Wp (GG X) M_X0_load 0 [(2, 6), (2, p), (2, 19), (0, f), (0, m), (0, kn), (9, 0)] [] ν (qV fun μ' => (Fr 6 14 1 0 μ' ν) ∧ (GLd (gdt μ p 19 f m kn) μ')) := by
  have hp := hI.at
  have hz := hI.sz
  have hok := gdt_ok hI hG hL
  have hl := hL.1
  have hq := fun i h1 h2 => (hL.2.2 i h1 h2).1
  have hdn : dN (gdt μ p 19 f m kn) = m := rfl
  have hkn := hL.2.1
  refine w_aload_n dX0_load_0 rfl rfl (by first | decide | omega) ?_
  refine w_iload_n dX0_load_1 rfl rfl ?_
  have hJ2_1 : ∀ z1_0 : Int, z1_0 = (if 0 ≤ f then max 0 (min m ((μ p 7) - f)) else 0) → Wp (GG X) M_X0_load 24 [(2, 6), (2, p), (2, 19), (0, f), (0, m), (0, kn), (9, 0)] [(0, z1_0), (2, 6)] ν (qV fun μ' => (Fr 6 14 1 0 μ' ν) ∧ (GLd (gdt μ p 19 f m kn) μ')) := by
    intro z1_0 hz1_0
    refine w_putI (o := 6) (f := 0) fX0_load_24 rfl rfl rfl rfl rfl ?_
    refine w_aload_n dX0_load_27 rfl rfl (by first | decide | omega) ?_
    refine w_iconst dX0_load_28 ?_
    refine w_putI (o := 6) (f := 11) fX0_load_29 rfl rfl rfl rfl rfl ?_
    refine w_iconst dX0_load_32 ?_
    refine w_istore (ls' := [(2, 6), (2, p), (2, 19), (0, f), (0, m), (0, kn), (0, 0)]) dX0_load_33 (Nat.le_of_ble_eq_true rfl) rfl rfl ?_
    have hL35 : ∀ (n35 : Nat) (i : Int) (μ1 : Mu), (m - i).toNat = n35 → Fr 6 14 1 0 μ1 ν → (0 ≤ i ∧ i ≤ m) → (μ1 6 0 = m) → (∀ j : Int, 0 ≤ j → j < i → μ1 7 j = μ (p + 7) (f + j) - μ (p + 7) f) → (∀ j : Int, 0 ≤ j → j < i → μ1 8 j = μ 19 (f + j)) → (∀ j : Int, 0 ≤ j → j < i → μ1 9 j = bmz μ p (f + j)) → Wp (GG X) M_X0_load 35 [(2, 6), (2, p), (2, 19), (0, f), (0, m), (0, kn), (0, i)] [] μ1 (qV fun μ' => (Fr 6 14 1 0 μ' ν) ∧ (GLd (gdt μ p 19 f m kn) μ')) := by
      intro n35
      induction n35 using Nat.strongRecOn with
      | ind n35 ih35 =>
        intro i μ1 hn35 hF35 hi0 hs hx hh hb
        refine w_iload dX0_load_35 rfl ?_
        refine w_aload_n dX0_load_37 rfl rfl (by first | decide | omega) ?_
        refine w_getIx (o := 6) (f := 0) (x := m) fX0_load_38 rfl rfl (Nat.le_of_ble_eq_true rfl) rfl hs ?_
        refine w_icmp_ge (tgt := 101) dX0_load_41 rfl (R32.in (by omega)) (R32.in (by omega)) (fun c41 => ?_) (fun c41 => ?_)
        · skip
          refine w_aload_n dX0_load_101 rfl rfl (by first | decide | omega) ?_
          refine w_iconst dX0_load_102 ?_
          refine w_aload_n dX0_load_103 rfl rfl (by first | decide | omega) ?_
          refine w_getIx (o := 6) (f := 0) (x := m) fX0_load_104 rfl rfl (Nat.le_of_ble_eq_true rfl) rfl hs ?_
          refine w_iconst dX0_load_107 ?_
          refine w_isub dX0_load_108 ?_
          refine w_max fX0_load_109 (R32.in (by decide)) (R32.in (by omega)) (Nat.le_of_ble_eq_true rfl) ?_
          refine Wp.topE (b := m - 1) (by omega) ?_
          refine w_putI (o := 6) (f := 1) fX0_load_112 rfl rfl rfl rfl rfl ?_
          refine w_aload_n dX0_load_115 rfl rfl (by first | decide | omega) ?_
          refine w_aload_n dX0_load_116 rfl rfl (by first | decide | omega) ?_
          refine w_getIx (o := 6) (f := 0) (x := m) fX0_load_117 rfl rfl (Nat.le_of_ble_eq_true rfl) rfl ((am_up_nk (by omega)).trans hs) ?_
          have hJ120_2 : ∀ z2_0 : Int, z2_0 = (if m ≤ 0 then 0 else μ (p + 7) (f + (m - 1)) - μ (p + 7) f) → Wp (GG X) M_X0_load 136 [(2, 6), (2, p), (2, 19), (0, f), (0, m), (0, kn), (0, i)] [(0, z2_0), (2, 6)] (am_up μ1 6 1 (m - 1)) (qV fun μ' => (Fr 6 14 1 0 μ' ν) ∧ (GLd (gdt μ p 19 f m kn) μ')) := by
            intro z2_0 hz2_0
            refine w_putI (o := 6) (f := 2) fX0_load_136 rfl rfl rfl rfl rfl ?_
            refine w_aload_n dX0_load_139 rfl rfl (by first | decide | omega) ?_
            refine w_iload dX0_load_140 rfl ?_
            have hF_μ4 : Fr 6 14 1 0 (am_up (am_up μ1 6 1 (m - 1)) 6 2 z2_0) ν := ((hF35.up (by omega)).up (by omega))
            have hG4 : GL1 (gdt μ p 19 f m kn) (am_up (am_up μ1 6 1 (m - 1)) 6 2 z2_0) := (gdt_l1 hok (((am_up_nk (by omega)).trans ((am_up_nk (by omega)).trans hs)).trans (by omega)) (((am_up_nk (by omega)).trans am_up_at).trans (by omega)) (am_up_at.trans (by omega)) (fun j h1 h2 => (fun j h1 h2 => ((congrFun (am_up_o (by omega)) _).trans ((congrFun (am_up_o (by omega)) _).trans (hx j h1 h2)))) j h1 (by omega)) (fun j h1 h2 => (fun j h1 h2 => ((congrFun (am_up_o (by omega)) _).trans ((congrFun (am_up_o (by omega)) _).trans (hh j h1 h2)))) j h1 (by omega)) (fun j h1 h2 => (fun j h1 h2 => ((congrFun (am_up_o (by omega)) _).trans ((congrFun (am_up_o (by omega)) _).trans (hb j h1 h2)))) j h1 (by omega)))
            refine Wp.mu (fun μ4 hμ4 => ?_)
            rw [← hμ4] at hF_μ4 hG4
            clear hμ4
            refine w_callVV (o := 6) (ci := 0) (as := [(0, kn)]) (rest := []) (k := 4) fX0_load_142 rfl rfl rfl rfl rfl rfl rfl rfl (Nat.le_of_ble_eq_true rfl) (s_X0_decideWays X (gdt μ p 19 f m kn) kn μ4 hG4 rfl) (fun μ_1 hμ1 => ?_)
            obtain ⟨hF1, hG2_1, hf_1⟩ := hμ1
            refine w_aload_n dX0_load_145 rfl rfl (by first | decide | omega) ?_
            refine w_callVV (o := 6) (ci := 0) (as := []) (rest := []) (k := 4) fX0_load_146 rfl rfl rfl rfl rfl rfl rfl rfl (Nat.le_of_ble_eq_true rfl) (s_X0_decideWant X (gdt μ p 19 f m kn) μ_1 hG2_1) (fun μW hμW => ?_)
            obtain ⟨hFW, hwa_W, hf_W⟩ := hμW
            refine w_iconst dX0_load_149 ?_
            refine w_istore (ls' := [(2, 6), (2, p), (2, 19), (0, f), (0, m), (0, kn), (0, 0)]) dX0_load_150 (Nat.le_of_ble_eq_true rfl) rfl rfl ?_
            have hL152 : ∀ (n152 : Nat) (i : Int) (μ6 : Mu), (m - i).toNat = n152 → Fr 6 14 1 0 μ6 ν → (0 ≤ i ∧ i ≤ m) → (GL2 (gdt μ p 19 f m kn) μ6) → (μ6 6 3 = want (gdt μ p 19 f m kn)) → (∀ j : Int, 0 ≤ j → j < i → μ6 11 j = ideal (gdt μ p 19 f m kn) j) → Wp (GG X) M_X0_load 152 [(2, 6), (9, 0), (9, 0), (9, 0), (9, 0), (9, 0), (0, i)] [] μ6 (qV fun μ' => (Fr 6 14 1 0 μ' ν) ∧ (GLd (gdt μ p 19 f m kn) μ')) := by
              intro n152
              induction n152 using Nat.strongRecOn with
              | ind n152 ih152 =>
                intro i μ6 hn152 hF152 hi0 hG6 hwa6 hid
                refine w_iload dX0_load_152 rfl ?_
                refine w_aload_n dX0_load_154 rfl rfl (by first | decide | omega) ?_
                refine w_getIx (o := 6) (f := 0) (x := dN (gdt μ p 19 f m kn)) fX0_load_155 rfl rfl (Nat.le_of_ble_eq_true rfl) rfl hG6.n ?_
                have hr3 := (hG6.ok).n
                refine w_icmp_ge (tgt := 198) dX0_load_158 rfl (R32.in (by omega)) (R32.in (by omega)) (fun c158 => ?_) (fun c158 => ?_)
                · skip
                  exact w_retV dX0_load_198 rfl ⟨hF152, (by have he : i = m := (by omega); subst he; exact ⟨hG6, hwa6, hid⟩)⟩
                · skip
                  refine w_aload_n dX0_load_161 rfl rfl (by first | decide | omega) ?_
                  refine w_getR (o := 6) (x := 11) fX0_load_162 rfl rfl rfl rfl ?_
                  refine w_iload dX0_load_165 rfl ?_
                  refine w_aload_n dX0_load_167 rfl rfl (by first | decide | omega) ?_
                  refine w_getR (o := 6) (x := 9) fX0_load_168 rfl rfl rfl rfl ?_
                  refine w_iload dX0_load_171 rfl ?_
                  refine w_ialdx (o := 9) (n := 64) (x := dB (gdt μ p 19 f m kn) i) dX0_load_173 rfl rfl (Nat.le_of_ble_eq_true rfl) (by omega) (hG6.b (by omega)) ?_
                  have hr4 := (hG6.ok).br (i := i) (by omega)
                  refine w_aload_n dX0_load_174 rfl rfl (by first | decide | omega) ?_
                  refine w_getR (o := 6) (x := 10) fX0_load_175 rfl rfl rfl rfl ?_
                  refine w_iload dX0_load_178 rfl ?_
                  refine w_ialdx (o := 10) (n := 64) (x := way (gdt μ p 19 f m kn) i) dX0_load_180 rfl rfl (Nat.le_of_ble_eq_true rfl) (by omega) (hG6.w (by omega)) ?_
                  have hr5 := way_b (gdt μ p 19 f m kn) i
                  refine w_aload_n dX0_load_181 rfl rfl (by first | decide | omega) ?_
                  refine w_getR (o := 6) (x := 8) fX0_load_182 rfl rfl rfl rfl ?_
                  refine w_iload dX0_load_185 rfl ?_
                  refine w_ialdx (o := 8) (n := 64) (x := dH (gdt μ p 19 f m kn) i) dX0_load_187 rfl rfl (Nat.le_of_ble_eq_true rfl) (by omega) (hG6.h (by omega)) ?_
                  have hr6 := (hG6.ok).hr (i := i) (by omega)
                  refine w_callSP (as := [(0, dB (gdt μ p 19 f m kn) i), (0, way (gdt μ p 19 f m kn) i), (0, dH (gdt μ p 19 f m kn) i)]) (rest := [(0, i), (2, 11)]) (k := 2) fX0_load_188 rfl rfl rfl rfl rfl (Nat.le_of_ble_eq_true rfl) (s_X0_idealLength X (dB (gdt μ p 19 f m kn) i) (way (gdt μ p 19 f m kn) i) (dH (gdt μ p 19 f m kn) i) μ6 (by first | omega | assumption) (by first | omega | assumption) (by first | omega | assumption)) ?_
                  have hf7 := idl_f (dB (gdt μ p 19 f m kn) i) (way (gdt μ p 19 f m kn) i) (dH (gdt μ p 19 f m kn) i) (by first | assumption | omega)
                  refine w_iast (o := 11) (n := 64) dX0_load_191 rfl rfl (Nat.le_of_ble_eq_true rfl) (by omega) (by omega) ?_
                  refine w_iinc (ls' := [(2, 6), (9, 0), (9, 0), (9, 0), (9, 0), (9, 0), (0, i + 1)]) dX0_load_192 rfl (Nat.le_of_ble_eq_true rfl) rfl rfl ?_
                  refine w_goto (tgt := 152) dX0_load_195 rfl ?_
                  exact ih152 _ (by omega) (i + 1) (am_up μ6 11 i (idl (dB (gdt μ p 19 f m kn) i) (way (gdt μ p 19 f m kn) i) (dH (gdt μ p 19 f m kn) i))) rfl (hF152.up (by omega)) (by first | omega | assumption) (GL2.cg2 hG6 (fun o h1 => (am_up_o (by omega))) (fun k h1 => (congrFun (am_up_o (by omega)) _))) (((congrFun (am_up_o (by first | decide | omega)) _).trans hwa6).trans (by rfl)) (fillr (f := ideal (gdt μ p 19 f m kn)) hid rfl)
            refine Wp.fgl (ls' := [(2, 6), (9, 0), (2, 19), (0, f), (0, m), (0, kn), (0, 0)]) 1 rfl ?_
            refine Wp.fgl (ls' := [(2, 6), (9, 0), (9, 0), (0, f), (0, m), (0, kn), (0, 0)]) 2 rfl ?_
            refine Wp.fgl (ls' := [(2, 6), (9, 0), (9, 0), (9, 0), (0, m), (0, kn), (0, 0)]) 3 rfl ?_
            refine Wp.fgl (ls' := [(2, 6), (9, 0), (9, 0), (9, 0), (9, 0), (0, kn), (0, 0)]) 4 rfl ?_
            refine Wp.fgl (ls' := [(2, 6), (9, 0), (9, 0), (9, 0), (9, 0), (9, 0), (0, 0)]) 5 rfl ?_
            exact hL152 _ 0 μW rfl ((hFW.wd (by omega) (by omega)).tr ((hF1.wd (by omega) (by omega)).tr hF_μ4)) (by first | omega | assumption) (GL2.cg2 hG2_1 (fun o h1 => (hFW.at (by omega) (by omega))) (fun k h1 => (hf_W _ (by omega)))) (hwa_W.trans (by rfl)) (fun j h1 h2 => by omega)
          refine w_if_le (tgt := 135) dX0_load_120 rfl (R32.in (by omega)) (fun c120 => ?_) (fun c120 => ?_)
          · skip
            refine w_iconst dX0_load_135 ?_
            exact hJ120_2 _ (by first | omega | simp [*])
          · skip
            refine w_aload_n dX0_load_123 rfl rfl (by first | decide | omega) ?_
            refine w_getR (o := 6) (x := 7) fX0_load_124 rfl rfl rfl rfl ?_
            refine w_aload_n dX0_load_127 rfl rfl (by first | decide | omega) ?_
            refine w_getIx (o := 6) (f := 1) (x := m - 1) fX0_load_128 rfl rfl (Nat.le_of_ble_eq_true rfl) rfl am_up_at ?_
            refine w_ialdx (o := 7) (n := 64) (x := μ (p + 7) (f + (m - 1)) - μ (p + 7) f) dX0_load_131 rfl rfl (Nat.le_of_ble_eq_true rfl) (by omega) ((congrFun (am_up_o (by first | decide | omega)) _).trans (hx _ (by omega) (by omega))) ?_
            refine w_goto (tgt := 136) dX0_load_132 rfl ?_
            exact hJ120_2 _ (by first | omega | simp [*])
        · skip
          refine w_aload_n dX0_load_44 rfl rfl (by first | decide | omega) ?_
          refine w_getR (o := 6) (x := 7) fX0_load_45 rfl rfl rfl rfl ?_
          refine w_iload dX0_load_48 rfl ?_
          refine w_aload_n dX0_load_50 rfl rfl (by first | decide | omega) ?_
          refine w_getR (o := (p).toNat) (x := p + 7) fX0_load_51 (by omega) (pSh0 rfl rfl (by assumption)) rfl (pRf 12 7 rfl rfl (by assumption)) ?_
          refine w_iload_n dX0_load_54 rfl rfl ?_
          refine w_iload dX0_load_55 rfl ?_
          refine w_iadd dX0_load_57 ?_
          refine w_ialdx (o := (p + 7).toNat) (n := 64) (x := μ (p + 7) (f + i)) dX0_load_58 (by omega) (pSh 7 rfl rfl (by assumption)) (Nat.le_of_ble_eq_true rfl) (by omega) ((congrFun (hF35.at (by omega) (by omega)) _).trans (congrFun (hA9 _ (by omega)) _)) ?_
          have hr8 := PI.xs hI (q := p + 7) (i := (f + i)) rfl (by omega)
          refine w_aload_n dX0_load_59 rfl rfl (by first | decide | omega) ?_
          refine w_getR (o := (p).toNat) (x := p + 7) fX0_load_60 (by omega) (pSh0 rfl rfl (by assumption)) rfl (pRf 12 7 rfl rfl (by assumption)) ?_
          refine w_iload_n dX0_load_63 rfl rfl ?_
          refine w_ialdx (o := (p + 7).toNat) (n := 64) (x := μ (p + 7) f) dX0_load_64 (by omega) (pSh 7 rfl rfl (by assumption)) (Nat.le_of_ble_eq_true rfl) (by omega) ((congrFun (hF35.at (by omega) (by omega)) _).trans (congrFun (hA9 _ (by omega)) _)) ?_
          have hr9 := PI.xs hI (q := p + 7) (i := f) rfl (by omega)
          refine w_isub dX0_load_65 ?_
          refine w_iast (o := 7) (n := 64) dX0_load_66 rfl rfl (Nat.le_of_ble_eq_true rfl) (by omega) (by omega) ?_
          refine w_aload_n dX0_load_67 rfl rfl (by first | decide | omega) ?_
          refine w_getR (o := 6) (x := 8) fX0_load_68 rfl rfl rfl rfl ?_
          refine w_iload dX0_load_71 rfl ?_
          refine w_aload_n dX0_load_73 rfl rfl (by first | decide | omega) ?_
          refine w_iload_n dX0_load_74 rfl rfl ?_
          refine w_iload dX0_load_75 rfl ?_
          refine w_iadd dX0_load_77 ?_
          refine w_ialdx (o := 19) (n := 64) (x := μ 19 (f + i)) dX0_load_78 rfl rfl (Nat.le_of_ble_eq_true rfl) (by omega) ((congrFun (am_up_o (by first | decide | omega)) _).trans ((congrFun (hF35.at (by omega) (by omega)) _).trans (congrFun (hA9 _ (by omega)) _))) ?_
          refine w_iast (o := 8) (n := 64) dX0_load_79 rfl rfl (Nat.le_of_ble_eq_true rfl) (by omega) (by omega) ?_
          refine w_aload_n dX0_load_80 rfl rfl (by first | decide | omega) ?_
          refine w_getR (o := 6) (x := 9) fX0_load_81 rfl rfl rfl rfl ?_
          refine w_iload dX0_load_84 rfl ?_
          refine w_aload_n dX0_load_86 rfl rfl (by first | decide | omega) ?_
          refine w_iload_n dX0_load_87 rfl rfl ?_
          refine w_iload dX0_load_88 rfl ?_
          refine w_iadd dX0_load_90 ?_
          refine w_callVP (o := (p).toNat) (ci := 2) (as := [(0, f + i)]) (rest := [(0, i), (2, 9)]) (k := 0) fX0_load_91 rfl (by omega) (pSh0 rfl rfl (by assumption)) rfl rfl rfl rfl rfl (Nat.le_of_ble_eq_true rfl) (s_X2_beamsOf X p (f + i) μ (am_up (am_up μ1 7 i ((μ (p + 7) (f + i)) - (μ (p + 7) f))) 8 i (μ 19 (f + i))) (fun o h1 => ((am_up_o (by omega)).trans ((am_up_o (by omega)).trans ((hF35.at (by omega) (by omega)).trans (hA9 _ (by omega)))))) hI (by omega)) ?_
          have hf10 := bmz_r μ p (f + i)
          refine w_iast (o := 9) (n := 64) dX0_load_94 rfl rfl (Nat.le_of_ble_eq_true rfl) (by omega) (by omega) ?_
          refine w_iinc (ls' := [(2, 6), (2, p), (2, 19), (0, f), (0, m), (0, kn), (0, i + 1)]) dX0_load_95 rfl (Nat.le_of_ble_eq_true rfl) rfl rfl ?_
          refine w_goto (tgt := 35) dX0_load_98 rfl ?_
          exact ih35 _ (by omega) (i + 1) (am_up (am_up (am_up μ1 7 i ((μ (p + 7) (f + i)) - (μ (p + 7) f))) 8 i (μ 19 (f + i))) 9 i (bmz μ p (f + i))) rfl (((hF35.up (by omega)).up (by omega)).up (by omega)) (by first | omega | assumption) (((congrFun (am_up_o (by first | decide | omega)) _).trans ((congrFun (am_up_o (by first | decide | omega)) _).trans ((congrFun (am_up_o (by first | decide | omega)) _).trans hs))).trans (by rfl)) (fun j h1 h2 => ((congrFun (am_up_o (by omega)) _).trans ((congrFun (am_up_o (by omega)) _).trans ((fillr (f := fun j => μ (p + 7) (f + j) - μ (p + 7) f) hx rfl) j h1 h2)))) (fun j h1 h2 => ((congrFun (am_up_o (by omega)) _).trans ((fillr (f := fun j => μ 19 (f + j)) hh rfl) j h1 h2))) (fillr (f := fun j => bmz μ p (f + j)) hb rfl)
    exact hL35 _ 0 (am_up (am_up ν 6 0 z1_0) 6 11 0) rfl ((Fr.rf.up (by omega)).up (by omega)) (by first | omega | assumption) (((am_up_nk (by omega)).trans am_up_at).trans (by omega)) (fun j h1 h2 => by omega) (fun j h1 h2 => by omega) (fun j h1 h2 => by omega)
  refine w_if_ge (tgt := 9) dX0_load_2 rfl (R32.in (by omega)) (fun c2 => ?_) (fun c2 => ?_)
  · skip
    refine w_iconst dX0_load_9 ?_
    refine w_iload dX0_load_10 rfl ?_
    refine w_aload_n dX0_load_12 rfl rfl (by first | decide | omega) ?_
    refine w_getIx (o := (p).toNat) (f := 7) (x := μ p 7) fX0_load_13 (by omega) (pSh0 rfl rfl (by assumption)) (Nat.le_of_ble_eq_true rfl) rfl (congrFun (hA9 _ (by omega)) _) ?_
    have hr11 := PI.sz hI
    refine w_iload_n dX0_load_16 rfl rfl ?_
    refine w_isub dX0_load_17 ?_
    refine w_min fX0_load_18 (R32.in (by omega)) (R32.in (by omega)) (Nat.le_of_ble_eq_true rfl) ?_
    refine w_max fX0_load_21 (R32.in (by decide)) (R32.in (by omega)) (Nat.le_of_ble_eq_true rfl) ?_
    exact hJ2_1 _ (by first | omega | simp [*])
  · skip
    refine w_iconst dX0_load_5 ?_
    refine w_goto (tgt := 24) dX0_load_6 rfl ?_
    exact hJ2_1 _ (by first | omega | simp [*])
