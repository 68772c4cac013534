set_option maxRecDepth 100000 in
set_option maxHeartbeats 4000000 in
theorem s_X8_see (X : AX) (b : Int → Int) (n : Int) (μ : Mu) (hR : RTc b n μ) (hat : 0 ≤ μ 45 37 ∧ μ 45 37 ≤ n) : Wp (GG X) M_X8_see 0 [(2, 45)] [] μ (pP 0 (see b n (μ 45 37)) μ) := by
  have hn := hR.n
  have hbb := hR.bb
  refine w_aload_n dX8_see_0 rfl rfl (by first | decide | omega) ?_
  refine w_getIx (o := 45) (f := 37) (x := μ 45 37) fX8_see_1 rfl rfl (Nat.le_of_ble_eq_true rfl) rfl rfl ?_
  refine w_aload_n dX8_see_4 rfl rfl (by first | decide | omega) ?_
  refine w_getIx (o := 45) (f := 36) (x := n) fX8_see_5 rfl rfl (Nat.le_of_ble_eq_true rfl) rfl hR.l ?_
  have hr1 := hR.n
  refine w_icmp_ge (tgt := 27) dX8_see_8 rfl (R32.in (by omega)) (R32.in (by omega)) (fun c8 => ?_) (fun c8 => ?_)
  · skip
    refine w_iconst dX8_see_27 ?_
    exact w_iretP dX8_see_28 rfl (by unfold see; first | exact ifT (by omega) (hR.b (by omega)) | exact ifF (by omega) rfl)
  · skip
    refine w_aload_n dX8_see_11 rfl rfl (by first | decide | omega) ?_
    refine w_getR (o := 45) (x := 62) fX8_see_12 rfl rfl rfl rfl ?_
    refine w_aload_n dX8_see_15 rfl rfl (by first | decide | omega) ?_
    refine w_getIx (o := 45) (f := 37) (x := μ 45 37) fX8_see_16 rfl rfl (Nat.le_of_ble_eq_true rfl) rfl rfl ?_
    refine w_baldx (o := 62) (n := 900) (x := μ 62 (μ 45 37)) dX8_see_19 rfl rfl (Nat.le_of_ble_eq_true rfl) (by omega) rfl ?_
    refine w_sipush dX8_see_20 (by decide) ?_
    refine w_iand255 dX8_see_23 ?_
    refine w_goto (tgt := 28) dX8_see_24 rfl ?_
    exact w_iretP dX8_see_28 rfl (by unfold see; first | exact ifT (by omega) (hR.b (by omega)) | exact ifF (by omega) rfl)

set_option maxRecDepth 100000 in
set_option maxHeartbeats 4000000 in
theorem s_X8_must_t (X : AX) (c : Int) (w : Int) (μ : Mu) (h43 : μ 45 43 = 0 ∨ μ 45 43 = 1) (hc : c = 1) : Wp (GG X) M_X8_must 0 [(2, 45), (0, c), (0, w)] [] μ (qV fun μ' => (Fr 1 0 1 0 μ' μ)) := by
  refine w_aload_n dX8_must_0 rfl rfl (by first | decide | omega) ?_
  refine w_getIx (o := 45) (f := 43) (x := μ 45 43) fX8_must_1 rfl rfl (Nat.le_of_ble_eq_true rfl) rfl rfl ?_
  refine w_if_ne (tgt := 11) dX8_must_4 rfl (R32.in (by omega)) (fun c4 => ?_) (fun c4 => ?_)
  · skip
    exact w_retV dX8_must_11 rfl Fr.rf
  · skip
    refine w_iload_n dX8_must_7 rfl rfl ?_
    refine w_if_eq (tgt := 12) dX8_must_8 rfl (R32.in (by omega)) (fun c8 => ?_) (fun c8 => ?_)
    · skip
      omega
    · skip
      exact w_retV dX8_must_11 rfl Fr.rf

set_option maxRecDepth 100000 in
set_option maxHeartbeats 4000000 in
theorem s_X8_must_b (X : AX) (c : Int) (w : Int) (μ : Mu) (h43 : μ 45 43 = 1) : Wp (GG X) M_X8_must 0 [(2, 45), (0, c), (0, w)] [] μ (qV fun μ' => (Fr 1 0 1 0 μ' μ)) := by
  refine w_aload_n dX8_must_0 rfl rfl (by first | decide | omega) ?_
  refine w_getIx (o := 45) (f := 43) (x := μ 45 43) fX8_must_1 rfl rfl (Nat.le_of_ble_eq_true rfl) rfl rfl ?_
  refine w_if_ne (tgt := 11) dX8_must_4 rfl (R32.in (by omega)) (fun c4 => ?_) (fun c4 => ?_)
  · skip
    exact w_retV dX8_must_11 rfl Fr.rf
  · skip
    omega

set_option maxRecDepth 100000 in
set_option maxHeartbeats 4000000 in
theorem s_X8_must_f (X : AX) (c : Int) (w : Int) (μ : Mu) (h43 : μ 45 43 = 0) (hc : c = 0) : Wp (GG X) M_X8_must 0 [(2, 45), (0, c), (0, w)] [] μ (qV fun μ' => (Fr 45 45 1 0 μ' μ) ∧ (μ' 45 43 = 1) ∧ (μ' 45 41 = w) ∧ (μ' 45 42 = μ 45 38) ∧ (∀ k9 : Int, (¬ k9 = 41 ∧ ¬ k9 = 42 ∧ ¬ k9 = 43) → μ' 45 k9 = μ 45 k9)) := by
  refine w_aload_n dX8_must_0 rfl rfl (by first | decide | omega) ?_
  refine w_getIx (o := 45) (f := 43) (x := μ 45 43) fX8_must_1 rfl rfl (Nat.le_of_ble_eq_true rfl) rfl rfl ?_
  refine w_if_ne (tgt := 11) dX8_must_4 rfl (R32.in (by omega)) (fun c4 => ?_) (fun c4 => ?_)
  · skip
    omega
  · skip
    refine w_iload_n dX8_must_7 rfl rfl ?_
    refine w_if_eq (tgt := 12) dX8_must_8 rfl (R32.in (by omega)) (fun c8 => ?_) (fun c8 => ?_)
    · skip
      refine w_aload_n dX8_must_12 rfl rfl (by first | decide | omega) ?_
      refine w_iconst dX8_must_13 ?_
      refine w_putZ (o := 45) (f := 43) fX8_must_14 rfl rfl rfl rfl rfl (Or.inr rfl) ?_
      refine w_aload_n dX8_must_17 rfl rfl (by first | decide | omega) ?_
      refine w_iload_n dX8_must_18 rfl rfl ?_
      refine w_putI (o := 45) (f := 41) fX8_must_19 rfl rfl rfl rfl rfl ?_
      refine w_aload_n dX8_must_22 rfl rfl (by first | decide | omega) ?_
      refine w_aload_n dX8_must_23 rfl rfl (by first | decide | omega) ?_
      refine w_getIx (o := 45) (f := 38) (x := μ 45 38) fX8_must_24 rfl rfl (Nat.le_of_ble_eq_true rfl) rfl ((am_up_nk (by omega)).trans (am_up_nk (by omega))) ?_
      refine w_putI (o := 45) (f := 42) fX8_must_27 rfl rfl rfl rfl rfl ?_
      exact w_retV dX8_must_30 rfl ⟨(((Fr.rf.up (by omega)).up (by omega)).up (by omega)), (((am_up_nk (by omega)).trans ((am_up_nk (by omega)).trans am_up_at)).trans (by rfl)), (((am_up_nk (by omega)).trans am_up_at).trans (by rfl)), (am_up_at.trans (by rfl)), (fun k h1 => ((am_up_nk (by omega)).trans ((am_up_nk (by omega)).trans (am_up_nk (by omega)))))⟩
    · skip
      omega

set_option maxRecDepth 100000 in
set_option maxHeartbeats 4000000 in
theorem s_X8_advance (X : AX) (b : Int → Int) (n : Int) (μ : Mu) (hR : RTc b n μ) (hat : 0 ≤ μ 45 37 ∧ μ 45 37 ≤ n) : Wp (GG X) M_X8_advance 0 [(2, 45), (9, 0)] [] μ (qV fun μ' => (Fr 45 45 1 0 μ' μ) ∧ (TK b n (sk b n (μ 45 37)) μ') ∧ (∀ k9 : Int, (¬ k9 = 37 ∧ ¬ k9 = 38 ∧ ¬ k9 = 39 ∧ ¬ k9 = 40) → μ' 45 k9 = μ 45 k9) ∧ (RTc b n μ') ∧ (0 ≤ μ' 45 37 ∧ μ' 45 37 ≤ n)) := by
  have hn := hR.n
  have hbb := hR.bb
  have hL0 : ∀ (n0 : Nat) (t : Int) (μ1 : Mu), (n - t).toNat = n0 → Fr 45 45 1 0 μ1 μ → (0 ≤ t ∧ t ≤ n) → (μ1 45 37 = t) → (sk b n t = (sk b n (μ 45 37))) → (∀ k9 : Int, (¬ k9 = 37) → μ1 45 k9 = μ 45 k9) → (RTc b n μ1) → Wp (GG X) M_X8_advance 0 [(2, 45), (9, 0)] [] μ1 (qV fun μ' => (Fr 45 45 1 0 μ' μ) ∧ (TK b n (sk b n (μ 45 37)) μ') ∧ (∀ k9 : Int, (¬ k9 = 37 ∧ ¬ k9 = 38 ∧ ¬ k9 = 39 ∧ ¬ k9 = 40) → μ' 45 k9 = μ 45 k9) ∧ (RTc b n μ') ∧ (0 ≤ μ' 45 37 ∧ μ' 45 37 ≤ n)) := by
    intro n0
    induction n0 using Nat.strongRecOn with
    | ind n0 ih0 =>
      intro t μ1 hn0 hF0 ht h37 hsk hfA hR1
      have hse0 := see_f b n t hbb (by omega)
      refine w_aload_n dX8_advance_0 rfl rfl (by first | decide | omega) ?_
      refine w_callVP (o := 45) (ci := 8) (as := []) (rest := []) (k := 0) fX8_advance_1 rfl rfl rfl rfl rfl rfl rfl rfl (Nat.le_of_ble_eq_true rfl) (s_X8_see X b n μ1 hR1 (by rw [h37]; omega)) ?_
      have hf1 := see_f b n (μ1 45 37) (by assumption) (by omega)
      refine Wp.topE (b := see b n t) (by rw [h37]) ?_
      refine w_bipush dX8_advance_4 (by decide) ?_
      refine w_icmp_eq (tgt := 18) dX8_advance_6 rfl (R32.in (by omega)) (R32.in (by decide)) (fun c6 => ?_) (fun c6 => ?_)
      · skip
        have hbl9 := see_bl (b := b) (n := n) (t := t) (by first | exact Or.inl c6 | exact Or.inr c15)
        refine w_aload_n dX8_advance_18 rfl rfl (by first | decide | omega) ?_
        refine w_dup dX8_advance_19 (by simp) ?_
        refine w_getIx (o := 45) (f := 37) (x := t) fX8_advance_20 rfl rfl (Nat.le_of_ble_eq_true rfl) rfl h37 ?_
        refine w_iconst dX8_advance_23 ?_
        refine w_iadd dX8_advance_24 ?_
        refine w_putI (o := 45) (f := 37) fX8_advance_25 rfl rfl rfl rfl rfl ?_
        refine w_goto (tgt := 0) dX8_advance_28 rfl ?_
        exact ih0 _ (by omega) (t + 1) (am_up μ1 45 37 (t + 1)) rfl (hF0.up (by omega)) (by omega) (am_up_at.trans (by rfl)) (by rw [← sk_go hbl9.1 hbl9.2]; exact hsk) (fun k h1 => ((am_up_nk (by omega)).trans (hfA k (by omega)))) (RTc.cg2 hR1 (fun o h1 => (am_up_o (by omega))) (fun k h1 => (am_up_nk (by omega))))
      · skip
        refine w_aload_n dX8_advance_9 rfl rfl (by first | decide | omega) ?_
        refine w_callVP (o := 45) (ci := 8) (as := []) (rest := []) (k := 0) fX8_advance_10 rfl rfl rfl rfl rfl rfl rfl rfl (Nat.le_of_ble_eq_true rfl) (s_X8_see X b n μ1 hR1 (by rw [h37]; omega)) ?_
        have hf2 := see_f b n (μ1 45 37) (by assumption) (by omega)
        refine Wp.topE (b := see b n t) (by rw [h37]) ?_
        refine w_bipush dX8_advance_13 (by decide) ?_
        refine w_icmp_ne (tgt := 31) dX8_advance_15 rfl (R32.in (by omega)) (R32.in (by decide)) (fun c15 => ?_) (fun c15 => ?_)
        · skip
          have hs9 : sk b n t = t := sk_see c6 c15
          have hts : t = (sk b n (μ 45 37)) := hs9.symm.trans hsk
          refine w_aload_n dX8_advance_31 rfl rfl (by first | decide | omega) ?_
          refine w_aload_n dX8_advance_32 rfl rfl (by first | decide | omega) ?_
          refine w_getIx (o := 45) (f := 37) (x := t) fX8_advance_33 rfl rfl (Nat.le_of_ble_eq_true rfl) rfl h37 ?_
          refine w_putI (o := 45) (f := 38) fX8_advance_36 rfl rfl rfl rfl rfl ?_
          refine w_aload_n dX8_advance_39 rfl rfl (by first | decide | omega) ?_
          have h37b : 0 ≤ (am_up μ1 45 38 t) 45 37 := by rw [am_up_nk (by omega), h37]; omega
          refine w_callVP (o := 45) (ci := 8) (as := []) (rest := []) (k := 0) fX8_advance_40 rfl rfl rfl rfl rfl rfl rfl rfl (Nat.le_of_ble_eq_true rfl) (s_X8_see X b n (am_up μ1 45 38 t) (RTc.cg2 hR1 (fun o h1 => (am_up_o (by omega))) (fun k h1 => (am_up_nk (by omega)))) (by rw [am_up_nk (by omega), h37]; omega)) ?_
          have hf3 := see_f b n ((am_up μ1 45 38 t) 45 37) (by assumption) (by omega)
          refine Wp.topE (b := see b n t) (by rw [am_up_nk (by omega), h37]) ?_
          refine w_istore_n (ls' := [(2, 45), (0, see b n t)]) dX8_advance_43 rfl (Nat.le_of_ble_eq_true rfl) rfl rfl ?_
          refine w_aload_n dX8_advance_44 rfl rfl (by first | decide | omega) ?_
          refine w_iconst dX8_advance_45 ?_
          refine w_putI (o := 45) (f := 40) fX8_advance_46 rfl rfl rfl rfl rfl ?_
          refine w_iload_n dX8_advance_49 rfl rfl ?_
          refine w_iconst dX8_advance_50 ?_
          refine w_icmp_ne (tgt := 62) dX8_advance_51 rfl (R32.in (by omega)) (R32.in (by decide)) (fun c51 => ?_) (fun c51 => ?_)
          · skip
            have hsi0 := see_in c51
            refine w_iload_n dX8_advance_62 rfl rfl ?_
            refine w_bipush dX8_advance_63 (by decide) ?_
            refine w_bipush dX8_advance_65 (by decide) ?_
            refine w_callSP (as := [(0, see b n t), (0, 97), (0, 122)]) (rest := []) (k := 0) fX8_advance_67 rfl rfl rfl rfl rfl (Nat.le_of_ble_eq_true rfl) (s_X8_isIn X (see b n t) 97 122 (am_up (am_up μ1 45 38 t) 45 40 0) (by first | omega | assumption) (by first | omega | assumption) (by first | omega | assumption)) ?_
            have hf4 := am_b_r (97 ≤ (see b n t) ∧ (see b n t) ≤ 122)
            refine w_if_eq (tgt := 141) dX8_advance_70 rfl (R32.in (by have := am_b_r ((97 ≤ (see b n t) ∧ (see b n t) ≤ 122)); omega)) (fun c70 => ?_) (fun c70 => ?_)
            · skip
              replace c70 := am_b0 c70
              refine w_iload_n dX8_advance_141 rfl rfl ?_
              refine w_bipush dX8_advance_142 (by decide) ?_
              refine w_bipush dX8_advance_144 (by decide) ?_
              refine w_callSP (as := [(0, see b n t), (0, 48), (0, 57)]) (rest := []) (k := 0) fX8_advance_146 rfl rfl rfl rfl rfl (Nat.le_of_ble_eq_true rfl) (s_X8_isIn X (see b n t) 48 57 (am_up (am_up μ1 45 38 t) 45 40 0) (by first | omega | assumption) (by first | omega | assumption) (by first | omega | assumption)) ?_
              have hf5 := am_b_r (48 ≤ (see b n t) ∧ (see b n t) ≤ 57)
              refine w_if_eq (tgt := 220) dX8_advance_149 rfl (R32.in (by have := am_b_r ((48 ≤ (see b n t) ∧ (see b n t) ≤ 57)); omega)) (fun c149 => ?_) (fun c149 => ?_)
              · skip
                replace c149 := am_b0 c149
                refine w_aload_n dX8_advance_220 rfl rfl (by first | decide | omega) ?_
                refine w_iload_n dX8_advance_221 rfl rfl ?_
                refine w_bipush dX8_advance_222 (by decide) ?_
                refine w_icmp_eq (tgt := 233) dX8_advance_224 rfl (R32.in (by omega)) (R32.in (by decide)) (fun c224 => ?_) (fun c224 => ?_)
                · skip
                  refine w_iconst dX8_advance_233 ?_
                  refine w_goto (tgt := 238) dX8_advance_234 rfl ?_
                  refine w_putI (o := 45) (f := 39) fX8_advance_238 rfl rfl rfl rfl rfl ?_
                  refine w_aload_n dX8_advance_241 rfl rfl (by first | decide | omega) ?_
                  refine w_iload_n dX8_advance_242 rfl rfl ?_
                  refine w_putI (o := 45) (f := 40) fX8_advance_243 rfl rfl rfl rfl rfl ?_
                  refine w_aload_n dX8_advance_246 rfl rfl (by first | decide | omega) ?_
                  refine w_dup dX8_advance_247 (by simp) ?_
                  refine w_getIx (o := 45) (f := 37) (x := t) fX8_advance_248 rfl rfl (Nat.le_of_ble_eq_true rfl) rfl ((am_up_nk (by omega)).trans ((am_up_nk (by omega)).trans ((am_up_nk (by omega)).trans ((am_up_nk (by omega)).trans h37)))) ?_
                  refine w_iconst dX8_advance_251 ?_
                  refine w_iadd dX8_advance_252 ?_
                  refine w_putI (o := 45) (f := 37) fX8_advance_253 rfl rfl rfl rfl rfl ?_
                  exact w_retV dX8_advance_256 rfl ⟨(((((hF0.up (by omega)).up (by omega)).up (by omega)).up (by omega)).up (by omega)), (by first | exact hTK | (rw [← hts]; exact ⟨(((am_up_nk (by omega)).trans ((am_up_nk (by omega)).trans ((am_up_nk (by omega)).trans ((am_up_nk (by omega)).trans am_up_at)))).trans (by rfl)), Or.inr (Or.inr (Or.inr ⟨⟨c51, c70, c149⟩, (by first | exact Or.inl ⟨Or.inl c224, (((am_up_nk (by omega)).trans ((am_up_nk (by omega)).trans am_up_at)).trans (by rfl))⟩ | exact Or.inl ⟨Or.inr c230, (((am_up_nk (by omega)).trans ((am_up_nk (by omega)).trans am_up_at)).trans (by rfl))⟩ | exact Or.inr ⟨fun q9 => q9.elim c224 c230, (((am_up_nk (by omega)).trans ((am_up_nk (by omega)).trans am_up_at)).trans (by rfl))⟩), (((am_up_nk (by omega)).trans am_up_at).trans (by rfl)), (am_up_at.trans (by rfl))⟩))⟩)), (fun k h1 => ((am_up_nk (by omega)).trans ((am_up_nk (by omega)).trans ((am_up_nk (by omega)).trans ((am_up_nk (by omega)).trans ((am_up_nk (by omega)).trans (hfA k (by omega)))))))), (RTc.cg2 hR1 (fun o h1 => ((am_up_o (by omega)).trans ((am_up_o (by omega)).trans ((am_up_o (by omega)).trans ((am_up_o (by omega)).trans (am_up_o (by omega))))))) (fun k h1 => ((am_up_nk (by omega)).trans ((am_up_nk (by omega)).trans ((am_up_nk (by omega)).trans ((am_up_nk (by omega)).trans (am_up_nk (by omega)))))))), (by first | exact hat9 | (rw [am_up_at]; omega))⟩
                · skip
                  refine w_iload_n dX8_advance_227 rfl rfl ?_
                  refine w_bipush dX8_advance_228 (by decide) ?_
                  refine w_icmp_ne (tgt := 237) dX8_advance_230 rfl (R32.in (by omega)) (R32.in (by decide)) (fun c230 => ?_) (fun c230 => ?_)
                  · skip
                    refine w_iconst dX8_advance_237 ?_
                    refine w_putI (o := 45) (f := 39) fX8_advance_238 rfl rfl rfl rfl rfl ?_
                    refine w_aload_n dX8_advance_241 rfl rfl (by first | decide | omega) ?_
                    refine w_iload_n dX8_advance_242 rfl rfl ?_
                    refine w_putI (o := 45) (f := 40) fX8_advance_243 rfl rfl rfl rfl rfl ?_
                    refine w_aload_n dX8_advance_246 rfl rfl (by first | decide | omega) ?_
                    refine w_dup dX8_advance_247 (by simp) ?_
                    refine w_getIx (o := 45) (f := 37) (x := t) fX8_advance_248 rfl rfl (Nat.le_of_ble_eq_true rfl) rfl ((am_up_nk (by omega)).trans ((am_up_nk (by omega)).trans ((am_up_nk (by omega)).trans ((am_up_nk (by omega)).trans h37)))) ?_
                    refine w_iconst dX8_advance_251 ?_
                    refine w_iadd dX8_advance_252 ?_
                    refine w_putI (o := 45) (f := 37) fX8_advance_253 rfl rfl rfl rfl rfl ?_
                    exact w_retV dX8_advance_256 rfl ⟨(((((hF0.up (by omega)).up (by omega)).up (by omega)).up (by omega)).up (by omega)), (by first | exact hTK | (rw [← hts]; exact ⟨(((am_up_nk (by omega)).trans ((am_up_nk (by omega)).trans ((am_up_nk (by omega)).trans ((am_up_nk (by omega)).trans am_up_at)))).trans (by rfl)), Or.inr (Or.inr (Or.inr ⟨⟨c51, c70, c149⟩, (by first | exact Or.inl ⟨Or.inl c224, (((am_up_nk (by omega)).trans ((am_up_nk (by omega)).trans am_up_at)).trans (by rfl))⟩ | exact Or.inl ⟨Or.inr c230, (((am_up_nk (by omega)).trans ((am_up_nk (by omega)).trans am_up_at)).trans (by rfl))⟩ | exact Or.inr ⟨fun q9 => q9.elim c224 c230, (((am_up_nk (by omega)).trans ((am_up_nk (by omega)).trans am_up_at)).trans (by rfl))⟩), (((am_up_nk (by omega)).trans am_up_at).trans (by rfl)), (am_up_at.trans (by rfl))⟩))⟩)), (fun k h1 => ((am_up_nk (by omega)).trans ((am_up_nk (by omega)).trans ((am_up_nk (by omega)).trans ((am_up_nk (by omega)).trans ((am_up_nk (by omega)).trans (hfA k (by omega)))))))), (RTc.cg2 hR1 (fun o h1 => ((am_up_o (by omega)).trans ((am_up_o (by omega)).trans ((am_up_o (by omega)).trans ((am_up_o (by omega)).trans (am_up_o (by omega))))))) (fun k h1 => ((am_up_nk (by omega)).trans ((am_up_nk (by omega)).trans ((am_up_nk (by omega)).trans ((am_up_nk (by omega)).trans (am_up_nk (by omega)))))))), (by first | exact hat9 | (rw [am_up_at]; omega))⟩
                  · skip
                    refine w_iconst dX8_advance_233 ?_
                    refine w_goto (tgt := 238) dX8_advance_234 rfl ?_
                    refine w_putI (o := 45) (f := 39) fX8_advance_238 rfl rfl rfl rfl rfl ?_
                    refine w_aload_n dX8_advance_241 rfl rfl (by first | decide | omega) ?_
                    refine w_iload_n dX8_advance_242 rfl rfl ?_
                    refine w_putI (o := 45) (f := 40) fX8_advance_243 rfl rfl rfl rfl rfl ?_
                    refine w_aload_n dX8_advance_246 rfl rfl (by first | decide | omega) ?_
                    refine w_dup dX8_advance_247 (by simp) ?_
                    refine w_getIx (o := 45) (f := 37) (x := t) fX8_advance_248 rfl rfl (Nat.le_of_ble_eq_true rfl) rfl ((am_up_nk (by omega)).trans ((am_up_nk (by omega)).trans ((am_up_nk (by omega)).trans ((am_up_nk (by omega)).trans h37)))) ?_
                    refine w_iconst dX8_advance_251 ?_
                    refine w_iadd dX8_advance_252 ?_
                    refine w_putI (o := 45) (f := 37) fX8_advance_253 rfl rfl rfl rfl rfl ?_
                    exact w_retV dX8_advance_256 rfl ⟨(((((hF0.up (by omega)).up (by omega)).up (by omega)).up (by omega)).up (by omega)), (by first | exact hTK | (rw [← hts]; exact ⟨(((am_up_nk (by omega)).trans ((am_up_nk (by omega)).trans ((am_up_nk (by omega)).trans ((am_up_nk (by omega)).trans am_up_at)))).trans (by rfl)), Or.inr (Or.inr (Or.inr ⟨⟨c51, c70, c149⟩, (by first | exact Or.inl ⟨Or.inl c224, (((am_up_nk (by omega)).trans ((am_up_nk (by omega)).trans am_up_at)).trans (by rfl))⟩ | exact Or.inl ⟨Or.inr c230, (((am_up_nk (by omega)).trans ((am_up_nk (by omega)).trans am_up_at)).trans (by rfl))⟩ | exact Or.inr ⟨fun q9 => q9.elim c224 c230, (((am_up_nk (by omega)).trans ((am_up_nk (by omega)).trans am_up_at)).trans (by rfl))⟩), (((am_up_nk (by omega)).trans am_up_at).trans (by rfl)), (am_up_at.trans (by rfl))⟩))⟩)), (fun k h1 => ((am_up_nk (by omega)).trans ((am_up_nk (by omega)).trans ((am_up_nk (by omega)).trans ((am_up_nk (by omega)).trans ((am_up_nk (by omega)).trans (hfA k (by omega)))))))), (RTc.cg2 hR1 (fun o h1 => ((am_up_o (by omega)).trans ((am_up_o (by omega)).trans ((am_up_o (by omega)).trans ((am_up_o (by omega)).trans (am_up_o (by omega))))))) (fun k h1 => ((am_up_nk (by omega)).trans ((am_up_nk (by omega)).trans ((am_up_nk (by omega)).trans ((am_up_nk (by omega)).trans (am_up_nk (by omega)))))))), (by first | exact hat9 | (rw [am_up_at]; omega))⟩
              · skip
                replace c149 := am_b1 c149
                refine w_aload_n dX8_advance_152 rfl rfl (by first | decide | omega) ?_
                refine w_iconst dX8_advance_153 ?_
                refine w_putI (o := 45) (f := 39) fX8_advance_154 rfl rfl rfl rfl rfl ?_
                have hL157 : ∀ (n157 : Nat) (k : Int) (μ3 : Mu), (n - t - k).toNat = n157 → Fr 45 45 1 0 μ3 μ → (0 ≤ k ∧ t + k ≤ n) → (μ3 45 37 = t + k) → (μ3 45 38 = t) → (μ3 45 39 = 2) → (μ3 45 40 = nvR b t k) → (de b n (t + k) = de b n t) → (∀ j, 0 ≤ j → j < k → 48 ≤ b (t + j) ∧ b (t + j) ≤ 57) → (∀ k9 : Int, (¬ k9 = 37 ∧ ¬ k9 = 38 ∧ ¬ k9 = 39 ∧ ¬ k9 = 40) → μ3 45 k9 = μ 45 k9) → (RTc b n μ3) → Wp (GG X) M_X8_advance 157 [(2, 45), (0, see b n t)] [] μ3 (qV fun μ' => (Fr 45 45 1 0 μ' μ) ∧ (TK b n (sk b n (μ 45 37)) μ') ∧ (∀ k9 : Int, (¬ k9 = 37 ∧ ¬ k9 = 38 ∧ ¬ k9 = 39 ∧ ¬ k9 = 40) → μ' 45 k9 = μ 45 k9) ∧ (RTc b n μ') ∧ (0 ≤ μ' 45 37 ∧ μ' 45 37 ≤ n)) := by
                  intro n157
                  induction n157 using Nat.strongRecOn with
                  | ind n157 ih157 =>
                    intro k μ3 hn157 hF157 hk h337 h338 h339 h340 hde hdj hfB hR3
                    have hnv := (nv_two (b := b) (s := t) (m := k) hdj k hk.1 (Int.le_refl _)).2.1
                    refine w_aload_n dX8_advance_157 rfl rfl (by first | decide | omega) ?_
                    refine w_callVP (o := 45) (ci := 8) (as := []) (rest := []) (k := 0) fX8_advance_158 rfl rfl rfl rfl rfl rfl rfl rfl (Nat.le_of_ble_eq_true rfl) (s_X8_see X b n μ3 hR3 (by rw [h337]; omega)) ?_
                    have hf6 := see_f b n (μ3 45 37) (by assumption) (by omega)
                    have hse3 := see_f b n (t + k) hbb (by omega)
                    refine Wp.topE (b := see b n (t + k)) (by rw [h337]) ?_
                    refine w_bipush dX8_advance_161 (by decide) ?_
                    refine w_bipush dX8_advance_163 (by decide) ?_
                    refine w_callSP (as := [(0, see b n (t + k)), (0, 48), (0, 57)]) (rest := []) (k := 0) fX8_advance_165 rfl rfl rfl rfl rfl (Nat.le_of_ble_eq_true rfl) (s_X8_isIn X (see b n (t + k)) 48 57 μ3 (by first | omega | assumption) (by first | omega | assumption) (by first | omega | assumption)) ?_
                    have hf7 := am_b_r (48 ≤ (see b n (t + k)) ∧ (see b n (t + k)) ≤ 57)
                    refine w_if_eq (tgt := 256) dX8_advance_168 rfl (R32.in (by have := am_b_r ((48 ≤ (see b n (t + k)) ∧ (see b n (t + k)) ≤ 57)); omega)) (fun c168 => ?_) (fun c168 => ?_)
                    · skip
                      replace c168 := am_b0 c168
                      have hdk : de b n t = t + k := by rw [← hde]; exact de_see c168
                      have hTK : TK b n (sk b n (μ 45 37)) μ3 := ⟨((rfl : μ3 45 38 = μ3 45 38).trans (by exact h338.trans hts)), Or.inr (Or.inr (Or.inl ⟨(by rw [← hts]; exact c149), ((rfl : μ3 45 39 = μ3 45 39).trans (by exact h339)), (h340.trans (by rw [← hts, hdk]; congr 1; omega)), (h337.trans (by rw [← hts, hdk]))⟩))⟩
                      have hat9 : 0 ≤ μ3 45 37 ∧ μ3 45 37 ≤ n := by rw [h337]; omega
                      exact w_retV dX8_advance_256 rfl ⟨hF157, (by first | exact hTK | (rw [← hts]; exact ⟨((rfl : μ3 45 38 = μ3 45 38).trans (by rfl)), Or.inr (Or.inr (Or.inr ⟨⟨c51, c70, c149⟩, (by first | exact Or.inl ⟨Or.inl c224, ((rfl : μ3 45 39 = μ3 45 39).trans (by rfl))⟩ | exact Or.inl ⟨Or.inr c230, ((rfl : μ3 45 39 = μ3 45 39).trans (by rfl))⟩ | exact Or.inr ⟨fun q9 => q9.elim c224 c230, ((rfl : μ3 45 39 = μ3 45 39).trans (by rfl))⟩), (h340.trans (by rfl)), (h337.trans (by rfl))⟩))⟩)), (fun k h1 => (hfB k (by omega))), hR3, (by first | exact hat9 | (rw [am_up_at]; omega))⟩
                    · skip
                      replace c168 := am_b1 c168
                      have hsi := see_in (b := b) (n := n) (t := t + k) (by omega)
                      have hdg9 : 48 ≤ b (t + k) ∧ b (t + k) ≤ 57 := by rw [← hsi.2]; exact c168
                      refine w_aload_n dX8_advance_171 rfl rfl (by first | decide | omega) ?_
                      refine w_aload_n dX8_advance_172 rfl rfl (by first | decide | omega) ?_
                      refine w_getIx (o := 45) (f := 40) (x := nvR b t k) fX8_advance_173 rfl rfl (Nat.le_of_ble_eq_true rfl) rfl h340 ?_
                      refine w_sipush dX8_advance_176 (by decide) ?_
                      refine w_icmp_le (tgt := 189) dX8_advance_179 rfl (R32.in (by omega)) (R32.in (by decide)) (fun c179 => ?_) (fun c179 => ?_)
                      · skip
                        refine w_bipush dX8_advance_189 (by decide) ?_
                        refine w_aload_n dX8_advance_191 rfl rfl (by first | decide | omega) ?_
                        refine w_getIx (o := 45) (f := 40) (x := nvR b t k) fX8_advance_192 rfl rfl (Nat.le_of_ble_eq_true rfl) rfl h340 ?_
                        refine w_imul dX8_advance_195 ?_
                        refine w_aload_n dX8_advance_196 rfl rfl (by first | decide | omega) ?_
                        refine w_callVP (o := 45) (ci := 8) (as := []) (rest := [(0, 10 * (nvR b t k)), (2, 45)]) (k := 0) fX8_advance_197 rfl rfl rfl rfl rfl rfl rfl rfl (Nat.le_of_ble_eq_true rfl) (s_X8_see X b n μ3 hR3 (by rw [h337]; omega)) ?_
                        have hf8 := see_f b n (μ3 45 37) (by assumption) (by omega)
                        refine Wp.topE (b := see b n (t + k)) (by rw [h337]) ?_
                        refine w_iadd dX8_advance_200 ?_
                        refine w_bipush dX8_advance_201 (by decide) ?_
                        refine w_isub dX8_advance_203 ?_
                        refine w_putI (o := 45) (f := 40) fX8_advance_204 rfl rfl rfl rfl rfl ?_
                        refine w_aload_n dX8_advance_207 rfl rfl (by first | decide | omega) ?_
                        refine w_dup dX8_advance_208 (by simp) ?_
                        refine w_getIx (o := 45) (f := 37) (x := t + k) fX8_advance_209 rfl rfl (Nat.le_of_ble_eq_true rfl) rfl ((am_up_nk (by omega)).trans h337) ?_
                        refine w_iconst dX8_advance_212 ?_
                        refine w_iadd dX8_advance_213 ?_
                        refine w_putI (o := 45) (f := 37) fX8_advance_214 rfl rfl rfl rfl rfl ?_
                        refine w_goto (tgt := 157) dX8_advance_217 rfl ?_
                        exact ih157 _ (by omega) (k + 1) (am_up (am_up μ3 45 40 (((10 * (nvR b t k)) + (see b n (t + k))) - 48)) 45 37 ((t + k) + 1)) rfl ((hF157.up (by omega)).up (by omega)) (by omega) (am_up_at.trans (by omega)) (((am_up_nk (by omega)).trans (am_up_nk (by omega))).trans (by exact h338)) (((am_up_nk (by omega)).trans (am_up_nk (by omega))).trans (by exact h339)) (((am_up_nk (by omega)).trans am_up_at).trans (by rw [nvR_s hk.1]; first | exact (if_pos (by omega)).symm | (rw [hsi.2]; exact (if_neg (by omega)).symm))) (by rw [← Int.add_assoc, ← de_go (a := t + k) (by omega) hdg9]; exact hde) (fun j h1 h2 => by by_cases e : j = k; exact e ▸ hdg9; exact hdj j h1 (by omega)) (fun k h1 => ((am_up_nk (by omega)).trans ((am_up_nk (by omega)).trans (hfB k (by omega))))) (RTc.cg2 hR3 (fun o h1 => ((am_up_o (by omega)).trans (am_up_o (by omega)))) (fun k h1 => ((am_up_nk (by omega)).trans (am_up_nk (by omega)))))
                      · skip
                        refine w_aload_n dX8_advance_182 rfl rfl (by first | decide | omega) ?_
                        refine w_getIx (o := 45) (f := 40) (x := nvR b t k) fX8_advance_183 rfl rfl (Nat.le_of_ble_eq_true rfl) rfl h340 ?_
                        refine w_goto (tgt := 204) dX8_advance_186 rfl ?_
                        refine w_putI (o := 45) (f := 40) fX8_advance_204 rfl rfl rfl rfl rfl ?_
                        refine w_aload_n dX8_advance_207 rfl rfl (by first | decide | omega) ?_
                        refine w_dup dX8_advance_208 (by simp) ?_
                        refine w_getIx (o := 45) (f := 37) (x := t + k) fX8_advance_209 rfl rfl (Nat.le_of_ble_eq_true rfl) rfl ((am_up_nk (by omega)).trans h337) ?_
                        refine w_iconst dX8_advance_212 ?_
                        refine w_iadd dX8_advance_213 ?_
                        refine w_putI (o := 45) (f := 37) fX8_advance_214 rfl rfl rfl rfl rfl ?_
                        refine w_goto (tgt := 157) dX8_advance_217 rfl ?_
                        exact ih157 _ (by omega) (k + 1) (am_up (am_up μ3 45 40 (nvR b t k)) 45 37 ((t + k) + 1)) rfl ((hF157.up (by omega)).up (by omega)) (by omega) (am_up_at.trans (by omega)) (((am_up_nk (by omega)).trans (am_up_nk (by omega))).trans (by exact h338)) (((am_up_nk (by omega)).trans (am_up_nk (by omega))).trans (by exact h339)) (((am_up_nk (by omega)).trans am_up_at).trans (by rw [nvR_s hk.1]; first | exact (if_pos (by omega)).symm | (rw [hsi.2]; exact (if_neg (by omega)).symm))) (by rw [← Int.add_assoc, ← de_go (a := t + k) (by omega) hdg9]; exact hde) (fun j h1 h2 => by by_cases e : j = k; exact e ▸ hdg9; exact hdj j h1 (by omega)) (fun k h1 => ((am_up_nk (by omega)).trans ((am_up_nk (by omega)).trans (hfB k (by omega))))) (RTc.cg2 hR3 (fun o h1 => ((am_up_o (by omega)).trans (am_up_o (by omega)))) (fun k h1 => ((am_up_nk (by omega)).trans (am_up_nk (by omega)))))
                exact hL157 _ 0 (am_up (am_up (am_up μ1 45 38 t) 45 40 0) 45 39 2) rfl (((hF0.up (by omega)).up (by omega)).up (by omega)) (by omega) (((am_up_nk (by omega)).trans ((am_up_nk (by omega)).trans ((am_up_nk (by omega)).trans h37))).trans (by omega)) (((am_up_nk (by omega)).trans ((am_up_nk (by omega)).trans am_up_at)).trans (by rfl)) (am_up_at.trans (by rfl)) (((am_up_nk (by omega)).trans am_up_at).trans (by rfl)) (by rw [Int.add_zero]) (fun j h1 h2 => by omega) (fun k h1 => ((am_up_nk (by omega)).trans ((am_up_nk (by omega)).trans ((am_up_nk (by omega)).trans (hfA k (by omega)))))) (RTc.cg2 hR1 (fun o h1 => ((am_up_o (by omega)).trans ((am_up_o (by omega)).trans (am_up_o (by omega))))) (fun k h1 => ((am_up_nk (by omega)).trans ((am_up_nk (by omega)).trans (am_up_nk (by omega))))))
            · skip
              replace c70 := am_b1 c70
              refine w_aload_n dX8_advance_73 rfl rfl (by first | decide | omega) ?_
              refine w_iconst dX8_advance_74 ?_
              refine w_putI (o := 45) (f := 39) fX8_advance_75 rfl rfl rfl rfl rfl ?_
              have hL78 : ∀ (n78 : Nat) (k : Int) (μ2 : Mu), (n - t - k).toNat = n78 → Fr 45 45 1 0 μ2 μ → (0 ≤ k ∧ t + k ≤ n) → (μ2 45 37 = t + k) → (μ2 45 38 = t) → (μ2 45 39 = 1) → (μ2 45 40 = hvl b t k) → (we b n (t + k) = we b n t) → (∀ j, 0 ≤ j → j < k → 97 ≤ b (t + j) ∧ b (t + j) ≤ 122) → (∀ k9 : Int, (¬ k9 = 37 ∧ ¬ k9 = 38 ∧ ¬ k9 = 39 ∧ ¬ k9 = 40) → μ2 45 k9 = μ 45 k9) → (RTc b n μ2) → Wp (GG X) M_X8_advance 78 [(2, 45), (0, see b n t)] [] μ2 (qV fun μ' => (Fr 45 45 1 0 μ' μ) ∧ (TK b n (sk b n (μ 45 37)) μ') ∧ (∀ k9 : Int, (¬ k9 = 37 ∧ ¬ k9 = 38 ∧ ¬ k9 = 39 ∧ ¬ k9 = 40) → μ' 45 k9 = μ 45 k9) ∧ (RTc b n μ') ∧ (0 ≤ μ' 45 37 ∧ μ' 45 37 ≤ n)) := by
                intro n78
                induction n78 using Nat.strongRecOn with
                | ind n78 ih78 =>
                  intro k μ2 hn78 hF78 hk h237 h238 h239 h240 hwe hlt hfB hR2
                  have hvr := hvl_r (b := b) (s := t) (m := k) hlt k hk.1 (Int.le_refl _)
                  refine w_aload_n dX8_advance_78 rfl rfl (by first | decide | omega) ?_
                  refine w_callVP (o := 45) (ci := 8) (as := []) (rest := []) (k := 0) fX8_advance_79 rfl rfl rfl rfl rfl rfl rfl rfl (Nat.le_of_ble_eq_true rfl) (s_X8_see X b n μ2 hR2 (by rw [h237]; omega)) ?_
                  have hf9 := see_f b n (μ2 45 37) (by assumption) (by omega)
                  have hse2 := see_f b n (t + k) hbb (by omega)
                  refine Wp.topE (b := see b n (t + k)) (by rw [h237]) ?_
                  refine w_bipush dX8_advance_82 (by decide) ?_
                  refine w_bipush dX8_advance_84 (by decide) ?_
                  refine w_callSP (as := [(0, see b n (t + k)), (0, 97), (0, 122)]) (rest := []) (k := 0) fX8_advance_86 rfl rfl rfl rfl rfl (Nat.le_of_ble_eq_true rfl) (s_X8_isIn X (see b n (t + k)) 97 122 μ2 (by first | omega | assumption) (by first | omega | assumption) (by first | omega | assumption)) ?_
                  have hf10 := am_b_r (97 ≤ (see b n (t + k)) ∧ (see b n (t + k)) ≤ 122)
                  refine w_if_eq (tgt := 256) dX8_advance_89 rfl (R32.in (by have := am_b_r ((97 ≤ (see b n (t + k)) ∧ (see b n (t + k)) ≤ 122)); omega)) (fun c89 => ?_) (fun c89 => ?_)
                  · skip
                    replace c89 := am_b0 c89
                    have hwk : we b n t = t + k := by rw [← hwe]; exact we_see c89
                    have hTK : TK b n (sk b n (μ 45 37)) μ2 := ⟨(h238.trans (by exact hts)), Or.inr (Or.inl ⟨(by rw [← hts]; exact c70), ((rfl : μ2 45 39 = μ2 45 39).trans (by exact h239)), (h240.trans (by rw [← hts, hwk]; congr 1; omega)), (h237.trans (by rw [← hts, hwk]))⟩)⟩
                    have hat9 : 0 ≤ μ2 45 37 ∧ μ2 45 37 ≤ n := by rw [h237]; omega
                    exact w_retV dX8_advance_256 rfl ⟨hF78, (by first | exact hTK | (rw [← hts]; exact ⟨(h238.trans (by rfl)), Or.inr (Or.inr (Or.inr ⟨⟨c51, c70, c149⟩, (by first | exact Or.inl ⟨Or.inl c224, ((rfl : μ2 45 39 = μ2 45 39).trans (by rfl))⟩ | exact Or.inl ⟨Or.inr c230, ((rfl : μ2 45 39 = μ2 45 39).trans (by rfl))⟩ | exact Or.inr ⟨fun q9 => q9.elim c224 c230, ((rfl : μ2 45 39 = μ2 45 39).trans (by rfl))⟩), (h240.trans (by rfl)), (h237.trans (by rfl))⟩))⟩)), (fun k h1 => (hfB k (by omega))), hR2, (by first | exact hat9 | (rw [am_up_at]; omega))⟩
                  · skip
                    replace c89 := am_b1 c89
                    have hsi := see_in (b := b) (n := n) (t := t + k) (by omega)
                    have hlt9 : 97 ≤ b (t + k) ∧ b (t + k) ≤ 122 := by rw [← hsi.2]; exact c89
                    refine w_aload_n dX8_advance_92 rfl rfl (by first | decide | omega) ?_
                    refine w_aload_n dX8_advance_93 rfl rfl (by first | decide | omega) ?_
                    refine w_getIx (o := 45) (f := 37) (x := t + k) fX8_advance_94 rfl rfl (Nat.le_of_ble_eq_true rfl) rfl h237 ?_
                    refine w_aload_n dX8_advance_97 rfl rfl (by first | decide | omega) ?_
                    refine w_getIx (o := 45) (f := 38) (x := t) fX8_advance_98 rfl rfl (Nat.le_of_ble_eq_true rfl) rfl h238 ?_
                    refine w_isub dX8_advance_101 ?_
                    refine w_bipush dX8_advance_102 (by decide) ?_
                    refine w_icmp_ge (tgt := 124) dX8_advance_104 rfl (R32.in (by omega)) (R32.in (by decide)) (fun c104 => ?_) (fun c104 => ?_)
                    · skip
                      refine w_iconst dX8_advance_124 ?_
                      refine w_putI (o := 45) (f := 40) fX8_advance_125 rfl rfl rfl rfl rfl ?_
                      refine w_aload_n dX8_advance_128 rfl rfl (by first | decide | omega) ?_
                      refine w_dup dX8_advance_129 (by simp) ?_
                      refine w_getIx (o := 45) (f := 37) (x := t + k) fX8_advance_130 rfl rfl (Nat.le_of_ble_eq_true rfl) rfl ((am_up_nk (by omega)).trans h237) ?_
                      refine w_iconst dX8_advance_133 ?_
                      refine w_iadd dX8_advance_134 ?_
                      refine w_putI (o := 45) (f := 37) fX8_advance_135 rfl rfl rfl rfl rfl ?_
                      refine w_goto (tgt := 78) dX8_advance_138 rfl ?_
                      exact ih78 _ (by omega) (k + 1) (am_up (am_up μ2 45 40 0) 45 37 ((t + k) + 1)) rfl ((hF78.up (by omega)).up (by omega)) (by omega) (am_up_at.trans (by omega)) (((am_up_nk (by omega)).trans ((am_up_nk (by omega)).trans h238)).trans (by rfl)) (((am_up_nk (by omega)).trans (am_up_nk (by omega))).trans (by exact h239)) (((am_up_nk (by omega)).trans am_up_at).trans (by rw [hvl_s hk.1]; first | exact (if_pos (by omega)).symm | exact (if_neg (by omega)).symm)) (by rw [← Int.add_assoc, ← we_go (a := t + k) (by omega) hlt9]; exact hwe) (fun j h1 h2 => by by_cases e : j = k; exact e ▸ hlt9; exact hlt j h1 (by omega)) (fun k h1 => ((am_up_nk (by omega)).trans ((am_up_nk (by omega)).trans (hfB k (by omega))))) (RTc.cg2 hR2 (fun o h1 => ((am_up_o (by omega)).trans (am_up_o (by omega)))) (fun k h1 => ((am_up_nk (by omega)).trans (am_up_nk (by omega)))))
                    · skip
                      refine w_aload_n dX8_advance_107 rfl rfl (by first | decide | omega) ?_
                      refine w_getIx (o := 45) (f := 40) (x := hvl b t k) fX8_advance_108 rfl rfl (Nat.le_of_ble_eq_true rfl) rfl h240 ?_
                      refine w_iconst dX8_advance_111 ?_
                      refine w_ishlK (q := 32) dX8_advance_112 (am_ishl5 _) ?_
                      refine w_aload_n dX8_advance_113 rfl rfl (by first | decide | omega) ?_
                      refine w_callVP (o := 45) (ci := 8) (as := []) (rest := [(0, (hvl b t k) * 32), (2, 45)]) (k := 0) fX8_advance_114 rfl rfl rfl rfl rfl rfl rfl rfl (Nat.le_of_ble_eq_true rfl) (s_X8_see X b n μ2 hR2 (by rw [h237]; omega)) ?_
                      have hf11 := see_f b n (μ2 45 37) (by assumption) (by omega)
                      refine Wp.topE (b := see b n (t + k)) (by rw [h237]) ?_
                      refine w_bipush dX8_advance_117 (by decide) ?_
                      refine w_isub dX8_advance_119 ?_
                      refine w_ior dX8_advance_120 ?_
                      refine Wp.topE (b := hvl b t k * 32 + (b (t + k) - 96)) (by rw [hsi.2]; exact am_ior5 (by omega) (by omega)) ?_
                      refine w_goto (tgt := 125) dX8_advance_121 rfl ?_
                      refine w_putI (o := 45) (f := 40) fX8_advance_125 rfl rfl rfl rfl rfl ?_
                      refine w_aload_n dX8_advance_128 rfl rfl (by first | decide | omega) ?_
                      refine w_dup dX8_advance_129 (by simp) ?_
                      refine w_getIx (o := 45) (f := 37) (x := t + k) fX8_advance_130 rfl rfl (Nat.le_of_ble_eq_true rfl) rfl ((am_up_nk (by omega)).trans h237) ?_
                      refine w_iconst dX8_advance_133 ?_
                      refine w_iadd dX8_advance_134 ?_
                      refine w_putI (o := 45) (f := 37) fX8_advance_135 rfl rfl rfl rfl rfl ?_
                      refine w_goto (tgt := 78) dX8_advance_138 rfl ?_
                      exact ih78 _ (by omega) (k + 1) (am_up (am_up μ2 45 40 (hvl b t k * 32 + (b (t + k) - 96))) 45 37 ((t + k) + 1)) rfl ((hF78.up (by omega)).up (by omega)) (by omega) (am_up_at.trans (by omega)) (((am_up_nk (by omega)).trans ((am_up_nk (by omega)).trans h238)).trans (by rfl)) (((am_up_nk (by omega)).trans (am_up_nk (by omega))).trans (by exact h239)) (((am_up_nk (by omega)).trans am_up_at).trans (by rw [hvl_s hk.1]; first | exact (if_pos (by omega)).symm | exact (if_neg (by omega)).symm)) (by rw [← Int.add_assoc, ← we_go (a := t + k) (by omega) hlt9]; exact hwe) (fun j h1 h2 => by by_cases e : j = k; exact e ▸ hlt9; exact hlt j h1 (by omega)) (fun k h1 => ((am_up_nk (by omega)).trans ((am_up_nk (by omega)).trans (hfB k (by omega))))) (RTc.cg2 hR2 (fun o h1 => ((am_up_o (by omega)).trans (am_up_o (by omega)))) (fun k h1 => ((am_up_nk (by omega)).trans (am_up_nk (by omega)))))
              exact hL78 _ 0 (am_up (am_up (am_up μ1 45 38 t) 45 40 0) 45 39 1) rfl (((hF0.up (by omega)).up (by omega)).up (by omega)) (by omega) (((am_up_nk (by omega)).trans ((am_up_nk (by omega)).trans ((am_up_nk (by omega)).trans h37))).trans (by omega)) (((am_up_nk (by omega)).trans ((am_up_nk (by omega)).trans am_up_at)).trans (by rfl)) (am_up_at.trans (by rfl)) (((am_up_nk (by omega)).trans am_up_at).trans (by rfl)) (by rw [Int.add_zero]) (fun j h1 h2 => by omega) (fun k h1 => ((am_up_nk (by omega)).trans ((am_up_nk (by omega)).trans ((am_up_nk (by omega)).trans (hfA k (by omega)))))) (RTc.cg2 hR1 (fun o h1 => ((am_up_o (by omega)).trans ((am_up_o (by omega)).trans (am_up_o (by omega))))) (fun k h1 => ((am_up_nk (by omega)).trans ((am_up_nk (by omega)).trans (am_up_nk (by omega))))))
          · skip
            refine w_aload_n dX8_advance_54 rfl rfl (by first | decide | omega) ?_
            refine w_iconst dX8_advance_55 ?_
            refine w_putI (o := 45) (f := 39) fX8_advance_56 rfl rfl rfl rfl rfl ?_
            have hTK : TK b n (sk b n (μ 45 37)) (am_up (am_up (am_up μ1 45 38 t) 45 40 0) 45 39 0) := ⟨(((am_up_nk (by omega)).trans ((am_up_nk (by omega)).trans am_up_at)).trans (by exact hts)), Or.inl ⟨(by rw [← hts]; exact c51), (am_up_at.trans (by rfl)), (((am_up_nk (by omega)).trans am_up_at).trans (by rfl)), (((am_up_nk (by omega)).trans ((am_up_nk (by omega)).trans ((am_up_nk (by omega)).trans h37))).trans (by exact hts))⟩⟩
            have hat9 : 0 ≤ (am_up (am_up (am_up μ1 45 38 t) 45 40 0) 45 39 0) 45 37 ∧ (am_up (am_up (am_up μ1 45 38 t) 45 40 0) 45 39 0) 45 37 ≤ n := by rw [am_up_nk (by omega), am_up_nk (by omega), am_up_nk (by omega), h37]; omega
            refine w_goto (tgt := 256) dX8_advance_59 rfl ?_
            exact w_retV dX8_advance_256 rfl ⟨(((hF0.up (by omega)).up (by omega)).up (by omega)), (by first | exact hTK | (rw [← hts]; exact ⟨(((am_up_nk (by omega)).trans ((am_up_nk (by omega)).trans am_up_at)).trans (by rfl)), Or.inr (Or.inr (Or.inr ⟨⟨c51, c70, c149⟩, (by first | exact Or.inl ⟨Or.inl c224, (am_up_at.trans (by rfl))⟩ | exact Or.inl ⟨Or.inr c230, (am_up_at.trans (by rfl))⟩ | exact Or.inr ⟨fun q9 => q9.elim c224 c230, (am_up_at.trans (by rfl))⟩), (((am_up_nk (by omega)).trans am_up_at).trans (by rfl)), (((am_up_nk (by omega)).trans ((am_up_nk (by omega)).trans ((am_up_nk (by omega)).trans h37))).trans (by rfl))⟩))⟩)), (fun k h1 => ((am_up_nk (by omega)).trans ((am_up_nk (by omega)).trans ((am_up_nk (by omega)).trans (hfA k (by omega)))))), (RTc.cg2 hR1 (fun o h1 => ((am_up_o (by omega)).trans ((am_up_o (by omega)).trans (am_up_o (by omega))))) (fun k h1 => ((am_up_nk (by omega)).trans ((am_up_nk (by omega)).trans (am_up_nk (by omega)))))), (by first | exact hat9 | (rw [am_up_at]; omega))⟩
        · skip
          have hbl9 := see_bl (b := b) (n := n) (t := t) (by first | exact Or.inl c6 | exact Or.inr c15)
          refine w_aload_n dX8_advance_18 rfl rfl (by first | decide | omega) ?_
          refine w_dup dX8_advance_19 (by simp) ?_
          refine w_getIx (o := 45) (f := 37) (x := t) fX8_advance_20 rfl rfl (Nat.le_of_ble_eq_true rfl) rfl h37 ?_
          refine w_iconst dX8_advance_23 ?_
          refine w_iadd dX8_advance_24 ?_
          refine w_putI (o := 45) (f := 37) fX8_advance_25 rfl rfl rfl rfl rfl ?_
          refine w_goto (tgt := 0) dX8_advance_28 rfl ?_
          exact ih0 _ (by omega) (t + 1) (am_up μ1 45 37 (t + 1)) rfl (hF0.up (by omega)) (by omega) (am_up_at.trans (by rfl)) (by rw [← sk_go hbl9.1 hbl9.2]; exact hsk) (fun k h1 => ((am_up_nk (by omega)).trans (hfA k (by omega)))) (RTc.cg2 hR1 (fun o h1 => (am_up_o (by omega))) (fun k h1 => (am_up_nk (by omega))))
  exact hL0 _ (μ 45 37) μ rfl Fr.rf hat ((rfl : μ 45 37 = μ 45 37).trans (by rfl)) rfl (fun k h1 => rfl) hR
