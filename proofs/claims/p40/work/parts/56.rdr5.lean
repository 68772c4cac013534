set_option maxRecDepth 100000 in
set_option maxHeartbeats 4000000 in
theorem s_X3_readLine (X : AX) (b : Int → Int) (n : Int) (q : Int) (σ : Mu) (μ : Mu) (hR : RDc b n q μ) (hat : 0 ≤ μ 42 4 ∧ μ 42 4 ≤ n) (hC : CPS σ q μ) (hT : TLD σ μ) : Wp (GG X) M_X3_readLine 0 [(2, 42), (9, 0), (9, 0), (9, 0)] [] μ (qI 0 fun z μ' => (Fr 42 44 q (q + 8) μ' μ) ∧ (rdT (lnW b n σ (wdC b (μ 42 4) (we b n (μ 42 4))) (μ 42 4) (we b n (μ 42 4))) q z μ') ∧ (z = 1 → (0 ≤ μ' 42 4 ∧ μ' 42 4 ≤ n)) ∧ (z = 0 ∨ z = 1) ∧ (z = 1 → μ' 42 0 = μ 42 0 ∧ μ' 42 1 = μ 42 1) ∧ (∀ k : Int, (¬ k = 0 ∧ ¬ k = 1 ∧ ¬ k = 4 ∧ ¬ k = 5 ∧ ¬ k = 6) → μ' 42 k = μ 42 k) ∧ (RDc b n q μ')) := by
  have hn := hR.n
  have hq := hR.at
  have hbb := hR.bb
  have hok := hC.ok
  have h00 := hok.1.1
  have h05 := hok.1.2.2.2.2.2.1
  have hwe9 := we_r b n (μ 42 4) hat.2
  refine w_aload_n dX3_readLine_0 rfl rfl (by first | decide | omega) ?_
  refine w_getIx (o := 42) (f := 4) (x := μ 42 4) fX3_readLine_1 rfl rfl (Nat.le_of_ble_eq_true rfl) rfl rfl ?_
  refine w_istore_n (ls' := [(2, 42), (0, μ 42 4), (9, 0), (9, 0)]) dX3_readLine_4 rfl (Nat.le_of_ble_eq_true rfl) rfl rfl ?_
  refine w_aload_n dX3_readLine_5 rfl rfl (by first | decide | omega) ?_
  refine w_callVI (o := 42) (ci := 3) (as := []) (rest := []) (k := 1) fX3_readLine_6 rfl rfl rfl rfl rfl rfl rfl rfl (Nat.le_of_ble_eq_true rfl) (s_X3_takeWord X b n q μ hR (by first | omega | assumption)) (fun xW μW hμW => ?_)
  obtain ⟨hFW, hz_W, h4_W, hf_W, hR_W⟩ := hμW
  have hf2 := we_r b n (μ 42 4) (by omega)
  refine w_istore_n (ls' := [(2, 42), (0, μ 42 4), (0, xW), (9, 0)]) dX3_readLine_9 rfl (Nat.le_of_ble_eq_true rfl) rfl rfl ?_
  have hxr : -1 ≤ xW ∧ xW ≤ 5 := by rw [hz_W]; exact wdC_r _ _ _
  have htr := tldS_r hok xW
  refine w_iload_n dX3_readLine_10 rfl rfl ?_
  refine w_iconst dX3_readLine_11 ?_
  refine w_icmp_eq (tgt := 23) dX3_readLine_12 rfl (R32.in (by omega)) (R32.in (by decide)) (fun c12 => ?_) (fun c12 => ?_)
  · skip
    have hbad : xW = -1 ∨ tooL σ xW := Or.inl c12
    refine w_aload_n dX3_readLine_23 rfl rfl (by first | decide | omega) ?_
    refine w_iconst dX3_readLine_24 ?_
    refine w_iload_n dX3_readLine_25 rfl rfl ?_
    refine w_callVI (o := 42) (ci := 3) (as := [(0, 1), (0, μ 42 4)]) (rest := []) (k := 0) fX3_readLine_26 rfl rfl rfl rfl rfl rfl rfl rfl (Nat.le_of_ble_eq_true rfl) (s_X3_fail X 1 (μ 42 4) μW) (fun xF μF hμF => ?_)
    obtain ⟨hFF, hz_F, h0_F, h1_F, hf_F⟩ := hμF
    exact w_zretI dX3_readLine_29 rfl (by omega) ⟨((hFF.wd (by omega) (by omega)).tr (hFW.wd (by omega) (by omega))), (by exact rdT_er (by rw [← hz_W]; exact lnW_1 hbad) (by omega) hz_F h0_F h1_F), (by first | (intro q9; omega) | (intro q9; exact hA9)), (by omega), (by first | (intro q9; omega) | exact fun _ => h01z), (fun k h1 => ((hf_F k (by omega)).trans (hf_W k (by omega)))), (RDc.cg2 hR_W (fun o h1 => (hFF.at (by omega) (by omega))) (fun k h1 => (hf_F _ (by omega))))⟩
  · skip
    refine w_aload_n dX3_readLine_15 rfl rfl (by first | decide | omega) ?_
    refine w_iload_n dX3_readLine_16 rfl rfl ?_
    refine w_callVP (o := 42) (ci := 3) (as := [(0, xW)]) (rest := []) (k := 0) fX3_readLine_17 rfl rfl rfl rfl rfl rfl rfl rfl (Nat.le_of_ble_eq_true rfl) (s_X3_isTooLate X b n q σ xW μW hR_W (by rw [h4_W]; omega) (CPS.cg hC (fun o h1 => (hFW.at (by omega) (by omega)))) (by omega) (by rw [hFW.at (by omega) (by omega)]; exact hT.2.1)) ?_
    have hf4 := am_b_r (tooL σ xW)
    refine w_if_eq (tgt := 30) dX3_readLine_20 rfl (R32.in (by have := am_b_r ((tooL σ xW)); omega)) (fun c20 => ?_) (fun c20 => ?_)
    · skip
      replace c20 := am_b0 c20
      have hn1 : ¬ (xW = -1 ∨ tooL σ xW) := fun q9 => q9.elim c12 c20
      have hq9 : xW < 4 → σ 0 0 = 0 ∧ (xW = 0 → σ 0 5 = 0) := by have q9 := c20; unfold tooL at q9; omega
      refine w_iload_n dX3_readLine_30 rfl rfl ?_
      refine w_iconst dX3_readLine_31 ?_
      refine w_icmp_gt (tgt := 58) dX3_readLine_32 rfl (R32.in (by omega)) (R32.in (by decide)) (fun c32 => ?_) (fun c32 => ?_)
      · skip
        have hn3 : ¬ (xW ≤ 2 ∧ ¬ tldS σ xW = 0) := fun q9 => by omega
        refine w_iload_n dX3_readLine_58 rfl rfl ?_
        refine w_iconst dX3_readLine_59 ?_
        refine w_icmp_lt (tgt := 82) dX3_readLine_60 rfl (R32.in (by omega)) (R32.in (by decide)) (fun c60 => ?_) (fun c60 => ?_)
        · skip
          have hn4 : ¬ (4 ≤ xW ∧ 64 ≤ σ 0 0) := fun q9 => by omega
          have hF_μ1 : Fr 42 44 q (q + 8) μW μ := (hFW.wd (by omega) (by omega))
          have h43 : ∀ j : Int, μW 43 j = if xW ≤ 2 ∧ j = xW then 1 else μ 43 j := (fun j => by first | (rw [up_if, hFW.at (o := 43) (by omega) (by omega)]; by_cases e : j = xW; (rw [if_pos e, if_pos ⟨by omega, e⟩]); (rw [if_neg e, if_neg (fun q9 => e q9.2)])) | (rw [hFW.at (o := 43) (by omega) (by omega), if_neg (fun q9 => by omega)]))
          have h44 : μW 44 = μ 44 := (hFW.at (by omega) (by omega))
          have h41 : μW 42 4 = (we b n (μ 42 4)) := ((rfl : μW 42 4 = μW 42 4).trans (by exact h4_W))
          have hR1 : RDc b n q μW := hR_W
          have hC1 : CPS σ q μW := (CPS.cg hC (fun o h1 => (hFW.at (by omega) (by omega))))
          have hff1 : ∀ k9 : Int, (¬ k9 = 4) → μW 42 k9 = μ 42 k9 := (fun k h1 => (hf_W k (by omega)))
          refine Wp.mu (fun μ1 hμ1 => ?_)
          rw [← hμ1] at hF_μ1 h43 h44 h41 hR1 hC1 hff1
          clear hμ1
          have hat1 : 0 ≤ μ1 42 4 ∧ μ1 42 4 ≤ n := by rw [h41]; omega
          refine w_iload_n dX3_readLine_82 rfl rfl ?_
          rcases (show (xW < 0 ∨ 3 < xW) ∨ xW = 0 ∨ xW = 1 ∨ xW = 2 ∨ xW = 3 by omega) with q83 | q83 | q83 | q83 | q83
          · refine w_tableOut (tgt := 144) dX3_readLine_83 (R32.in (by omega)) q83 rfl ?_
            omega
          · refine w_tableIn (off := 29) (tgt := 112) dX3_readLine_83 (R32.in (by omega)) (by omega) (by omega) (by rw [q83]; rfl) rfl ?_
            omega
          · refine w_tableIn (off := 37) (tgt := 120) dX3_readLine_83 (R32.in (by omega)) (by omega) (by omega) (by rw [q83]; rfl) rfl ?_
            omega
          · refine w_tableIn (off := 45) (tgt := 128) dX3_readLine_83 (R32.in (by omega)) (by omega) (by omega) (by rw [q83]; rfl) rfl ?_
            omega
          · refine w_tableIn (off := 53) (tgt := 136) dX3_readLine_83 (R32.in (by omega)) (by omega) (by omega) (by rw [q83]; rfl) rfl ?_
            have hln : lnW b n σ (wdC b (μ 42 4) (we b n (μ 42 4))) (μ 42 4) (we b n (μ 42 4)) = lEnd b n (lWid b n σ (we b n (μ 42 4))) := by rw [← hz_W, lnW_b hn1 hn3 hn4, q83, lBod_3]
            refine w_aload_n dX3_readLine_136 rfl rfl (by first | decide | omega) ?_
            refine w_callVI (o := 42) (ci := 3) (as := []) (rest := []) (k := 1) fX3_readLine_137 rfl rfl rfl rfl rfl rfl rfl rfl (Nat.le_of_ble_eq_true rfl) (s_X3_readWide X b n q σ μ1 hR1 hat1 hC1 (by omega) (fun k9 h1 h2 => by rw [h44]; exact hT.2.2.2 k9 h1 h2)) (fun xX μX hμX => ?_)
            obtain ⟨hFX, hz_X, h8_X, ha_X, h43_X, hz01_X, h01_X, hf_X, hR_X⟩ := hμX
            rw [h41] at hz_X
            rw [h41] at h8_X
            have htd : (lWid b n σ (we b n (μ 42 4))).1 = 0 → TLD (lWid b n σ (we b n (μ 42 4))).2.2.1 μX := fun hl => TLD_wid hT hl (h43_X.trans (funext fun j => (h43 j).trans (tw_if3 (by omega)))) (h8_X (rdL_one hz_X hl))
            refine w_istore_n (ls' := [(2, 42), (0, μ 42 4), (0, xW), (0, xX)]) dX3_readLine_140 rfl (Nat.le_of_ble_eq_true rfl) rfl rfl ?_
            refine w_goto (tgt := 159) dX3_readLine_141 rfl ?_
            refine w_iload_n dX3_readLine_159 rfl rfl ?_
            refine w_if_eq (tgt := 174) dX3_readLine_160 rfl (R32.in (by omega)) (fun c160 => ?_) (fun c160 => ?_)
            · skip
              have hB := hz_X.resolve_left (fun q9 => by omega)
              have hP9 := rdT_bad (q := q) (z := 0) hln hB rfl
              refine w_iconst dX3_readLine_174 ?_
              exact w_zretI dX3_readLine_175 rfl (Or.inl rfl) ⟨((hFX.wd (by omega) (by omega)).tr hF_μ1), (by exact hP9), (by first | (intro q9; omega) | (intro q9; exact hA9)), (by omega), (by first | (intro q9; omega) | exact fun _ => h01z), (fun k h1 => ((hf_X k (by omega)).trans (hff1 k (by omega)))), hR_X⟩
            · skip
              have hB := hz_X.resolve_right (fun q9 => by omega)
              have hatX := ha_X hB.1
              have hskX := sk_r b n (μX 42 4) hatX.2
              rw [hB.2.2.2] at hskX
              refine w_aload_n dX3_readLine_163 rfl rfl (by first | decide | omega) ?_
              refine w_callVI (o := 42) (ci := 3) (as := []) (rest := []) (k := 0) fX3_readLine_164 rfl rfl rfl rfl rfl rfl rfl rfl (Nat.le_of_ble_eq_true rfl) (s_X3_takeEnd X b n q μX hR_X hatX) (fun xE μE hμE => ?_)
              obtain ⟨hFE, hz_E, hz01_E, h01_E, hf_E, hR_E⟩ := hμE
              rw [hB.2.2.2] at hz_E
              refine w_if_eq (tgt := 174) dX3_readLine_167 rfl (R32.in (by omega)) (fun c167 => ?_) (fun c167 => ?_)
              · skip
                have hE := hz_E.resolve_left (fun q9 => by omega)
                have hP9 := rdT_1 (q := q) (z := 0) hln hB.2.1 hE.2.1 rfl hE.2.2.1 hE.2.2.2
                refine w_iconst dX3_readLine_174 ?_
                exact w_zretI dX3_readLine_175 rfl (Or.inl rfl) ⟨((hFE.wd (by omega) (by omega)).tr ((hFX.wd (by omega) (by omega)).tr hF_μ1)), (by exact hP9), (by first | (intro q9; omega) | (intro q9; exact hA9)), (by omega), (by first | (intro q9; omega) | exact fun _ => h01z), (fun k h1 => ((hf_E k (by omega)).trans ((hf_X k (by omega)).trans (hff1 k (by omega))))), hR_E⟩
              · skip
                have hE := hz_E.resolve_right (fun q9 => by omega)
                have hlt9 := see_lt hE.2.1 (by omega)
                have h01z : μE 42 0 = μ 42 0 ∧ μE 42 1 = μ 42 1 := ⟨(h01_E hE.1).1.trans ((h01_X hB.1).1.trans (hff1 0 (by omega))), (h01_E hE.1).2.trans ((h01_X hB.1).2.trans (hff1 1 (by omega)))⟩
                have hA9 : 0 ≤ μE 42 4 ∧ μE 42 4 ≤ n := by rw [hE.2.2]; omega
                have hP9 := rdT_0 (q := q) (z := 1) hln hB.2.1 hE.2.1 rfl (CPS.cg hB.2.2.1 (fun o h1 => hFE.at (by omega) (by omega))) hE.2.2 (TLD.cg (htd hB.2.1) (fun o h1 => hFE.at (by omega) (by omega)))
                refine w_iconst dX3_readLine_170 ?_
                refine w_goto (tgt := 175) dX3_readLine_171 rfl ?_
                exact w_zretI dX3_readLine_175 rfl (Or.inr rfl) ⟨((hFE.wd (by omega) (by omega)).tr ((hFX.wd (by omega) (by omega)).tr hF_μ1)), (by exact hP9), (by first | (intro q9; omega) | (intro q9; exact hA9)), (by omega), (by first | (intro q9; omega) | exact fun _ => h01z), (fun k h1 => ((hf_E k (by omega)).trans ((hf_X k (by omega)).trans (hff1 k (by omega))))), hR_E⟩
        · skip
          refine w_aload_n dX3_readLine_63 rfl rfl (by first | decide | omega) ?_
          refine w_getDx (o := 42) (f := 7) (x := q) fX3_readLine_64 rfl rfl rfl rfl hR_W.pq ?_
          refine w_getIx (o := (q).toNat) (f := 7) (x := σ 0 0) fX3_readLine_67 (by omega) (pSh0 rfl rfl (by assumption)) (Nat.le_of_ble_eq_true rfl) rfl ((congrFun (hFW.at (by omega) (by omega)) _).trans hC.f7) ?_
          have hr7 := hC.ok.1.1
          refine w_bipush dX3_readLine_70 (by decide) ?_
          refine w_icmp_lt (tgt := 82) dX3_readLine_72 rfl (R32.in (by omega)) (R32.in (by decide)) (fun c72 => ?_) (fun c72 => ?_)
          · skip
            have hn4 : ¬ (4 ≤ xW ∧ 64 ≤ σ 0 0) := fun q9 => by omega
            have hF_μ1 : Fr 42 44 q (q + 8) μW μ := (hFW.wd (by omega) (by omega))
            have h43 : ∀ j : Int, μW 43 j = if xW ≤ 2 ∧ j = xW then 1 else μ 43 j := (fun j => by first | (rw [up_if, hFW.at (o := 43) (by omega) (by omega)]; by_cases e : j = xW; (rw [if_pos e, if_pos ⟨by omega, e⟩]); (rw [if_neg e, if_neg (fun q9 => e q9.2)])) | (rw [hFW.at (o := 43) (by omega) (by omega), if_neg (fun q9 => by omega)]))
            have h44 : μW 44 = μ 44 := (hFW.at (by omega) (by omega))
            have h41 : μW 42 4 = (we b n (μ 42 4)) := ((rfl : μW 42 4 = μW 42 4).trans (by exact h4_W))
            have hR1 : RDc b n q μW := hR_W
            have hC1 : CPS σ q μW := (CPS.cg hC (fun o h1 => (hFW.at (by omega) (by omega))))
            have hff1 : ∀ k9 : Int, (¬ k9 = 4) → μW 42 k9 = μ 42 k9 := (fun k h1 => (hf_W k (by omega)))
            refine Wp.mu (fun μ1 hμ1 => ?_)
            rw [← hμ1] at hF_μ1 h43 h44 h41 hR1 hC1 hff1
            clear hμ1
            have hat1 : 0 ≤ μ1 42 4 ∧ μ1 42 4 ≤ n := by rw [h41]; omega
            refine w_iload_n dX3_readLine_82 rfl rfl ?_
            rcases (show (xW < 0 ∨ 3 < xW) ∨ xW = 0 ∨ xW = 1 ∨ xW = 2 ∨ xW = 3 by omega) with q83 | q83 | q83 | q83 | q83
            · refine w_tableOut (tgt := 144) dX3_readLine_83 (R32.in (by omega)) q83 rfl ?_
              refine w_aload_n dX3_readLine_144 rfl rfl (by first | decide | omega) ?_
              refine w_iload_n dX3_readLine_145 rfl rfl ?_
              refine w_iconst dX3_readLine_146 ?_
              refine w_icmp_ne (tgt := 154) dX3_readLine_147 rfl (R32.in (by omega)) (R32.in (by decide)) (fun c147 => ?_) (fun c147 => ?_)
              · skip
                have hln : lnW b n σ (wdC b (μ 42 4) (we b n (μ 42 4))) (μ 42 4) (we b n (μ 42 4)) = lEnd b n (lEle b n σ 0 (we b n (μ 42 4))) := by rw [← hz_W, lnW_b hn1 hn3 hn4, lBod_e (by omega)]; congr 2; exact if_neg (by omega)
                refine w_iconst dX3_readLine_154 ?_
                refine w_callVI (o := 42) (ci := 3) (as := [(0, 0)]) (rest := []) (k := 1) fX3_readLine_155 rfl rfl rfl rfl rfl rfl rfl rfl (Nat.le_of_ble_eq_true rfl) (s_X3_readElement X b n q σ 0 μ1 hR1 hat1 hC1 (by decide) (by omega)) (fun xX μX hμX => ?_)
                obtain ⟨hFX, hz_X, ha_X, hz01_X, h01_X, hf_X, hR_X⟩ := hμX
                rw [h41] at hz_X
                have htd := TLD_eleR hz_X hT ((hFX.at (by omega) (by omega)).trans (funext fun j => (h43 j).trans (tw_if3 (by omega)))) ((hFX.at (by omega) (by omega)).trans h44)
                refine w_istore_n (ls' := [(2, 42), (0, μ 42 4), (0, xW), (0, xX)]) dX3_readLine_158 rfl (Nat.le_of_ble_eq_true rfl) rfl rfl ?_
                refine w_iload_n dX3_readLine_159 rfl rfl ?_
                refine w_if_eq (tgt := 174) dX3_readLine_160 rfl (R32.in (by omega)) (fun c160 => ?_) (fun c160 => ?_)
                · skip
                  have hB := hz_X.resolve_left (fun q9 => by omega)
                  have hP9 := rdT_bad (q := q) (z := 0) hln hB rfl
                  refine w_iconst dX3_readLine_174 ?_
                  exact w_zretI dX3_readLine_175 rfl (Or.inl rfl) ⟨((hFX.wd (by omega) (by omega)).tr hF_μ1), (by exact hP9), (by first | (intro q9; omega) | (intro q9; exact hA9)), (by omega), (by first | (intro q9; omega) | exact fun _ => h01z), (fun k h1 => ((hf_X k (by omega)).trans (hff1 k (by omega)))), hR_X⟩
                · skip
                  have hB := hz_X.resolve_right (fun q9 => by omega)
                  have hatX := ha_X hB.1
                  have hskX := sk_r b n (μX 42 4) hatX.2
                  rw [hB.2.2.2] at hskX
                  refine w_aload_n dX3_readLine_163 rfl rfl (by first | decide | omega) ?_
                  refine w_callVI (o := 42) (ci := 3) (as := []) (rest := []) (k := 0) fX3_readLine_164 rfl rfl rfl rfl rfl rfl rfl rfl (Nat.le_of_ble_eq_true rfl) (s_X3_takeEnd X b n q μX hR_X hatX) (fun xE μE hμE => ?_)
                  obtain ⟨hFE, hz_E, hz01_E, h01_E, hf_E, hR_E⟩ := hμE
                  rw [hB.2.2.2] at hz_E
                  refine w_if_eq (tgt := 174) dX3_readLine_167 rfl (R32.in (by omega)) (fun c167 => ?_) (fun c167 => ?_)
                  · skip
                    have hE := hz_E.resolve_left (fun q9 => by omega)
                    have hP9 := rdT_1 (q := q) (z := 0) hln hB.2.1 hE.2.1 rfl hE.2.2.1 hE.2.2.2
                    refine w_iconst dX3_readLine_174 ?_
                    exact w_zretI dX3_readLine_175 rfl (Or.inl rfl) ⟨((hFE.wd (by omega) (by omega)).tr ((hFX.wd (by omega) (by omega)).tr hF_μ1)), (by exact hP9), (by first | (intro q9; omega) | (intro q9; exact hA9)), (by omega), (by first | (intro q9; omega) | exact fun _ => h01z), (fun k h1 => ((hf_E k (by omega)).trans ((hf_X k (by omega)).trans (hff1 k (by omega))))), hR_E⟩
                  · skip
                    have hE := hz_E.resolve_right (fun q9 => by omega)
                    have hlt9 := see_lt hE.2.1 (by omega)
                    have h01z : μE 42 0 = μ 42 0 ∧ μE 42 1 = μ 42 1 := ⟨(h01_E hE.1).1.trans ((h01_X hB.1).1.trans (hff1 0 (by omega))), (h01_E hE.1).2.trans ((h01_X hB.1).2.trans (hff1 1 (by omega)))⟩
                    have hA9 : 0 ≤ μE 42 4 ∧ μE 42 4 ≤ n := by rw [hE.2.2]; omega
                    have hP9 := rdT_0 (q := q) (z := 1) hln hB.2.1 hE.2.1 rfl (CPS.cg hB.2.2.1 (fun o h1 => hFE.at (by omega) (by omega))) hE.2.2 (TLD.cg (htd hB.2.1) (fun o h1 => hFE.at (by omega) (by omega)))
                    refine w_iconst dX3_readLine_170 ?_
                    refine w_goto (tgt := 175) dX3_readLine_171 rfl ?_
                    exact w_zretI dX3_readLine_175 rfl (Or.inr rfl) ⟨((hFE.wd (by omega) (by omega)).tr ((hFX.wd (by omega) (by omega)).tr hF_μ1)), (by exact hP9), (by first | (intro q9; omega) | (intro q9; exact hA9)), (by omega), (by first | (intro q9; omega) | exact fun _ => h01z), (fun k h1 => ((hf_E k (by omega)).trans ((hf_X k (by omega)).trans (hff1 k (by omega))))), hR_E⟩
              · skip
                have hln : lnW b n σ (wdC b (μ 42 4) (we b n (μ 42 4))) (μ 42 4) (we b n (μ 42 4)) = lEnd b n (lEle b n σ 1 (we b n (μ 42 4))) := by rw [← hz_W, lnW_b hn1 hn3 hn4, lBod_e (by omega)]; congr 2; exact if_pos (by omega)
                refine w_iconst dX3_readLine_150 ?_
                refine w_goto (tgt := 155) dX3_readLine_151 rfl ?_
                refine w_callVI (o := 42) (ci := 3) (as := [(0, 1)]) (rest := []) (k := 1) fX3_readLine_155 rfl rfl rfl rfl rfl rfl rfl rfl (Nat.le_of_ble_eq_true rfl) (s_X3_readElement X b n q σ 1 μ1 hR1 hat1 hC1 (by decide) (by omega)) (fun xX μX hμX => ?_)
                obtain ⟨hFX, hz_X, ha_X, hz01_X, h01_X, hf_X, hR_X⟩ := hμX
                rw [h41] at hz_X
                have htd := TLD_eleR hz_X hT ((hFX.at (by omega) (by omega)).trans (funext fun j => (h43 j).trans (tw_if3 (by omega)))) ((hFX.at (by omega) (by omega)).trans h44)
                refine w_istore_n (ls' := [(2, 42), (0, μ 42 4), (0, xW), (0, xX)]) dX3_readLine_158 rfl (Nat.le_of_ble_eq_true rfl) rfl rfl ?_
                refine w_iload_n dX3_readLine_159 rfl rfl ?_
                refine w_if_eq (tgt := 174) dX3_readLine_160 rfl (R32.in (by omega)) (fun c160 => ?_) (fun c160 => ?_)
                · skip
                  have hB := hz_X.resolve_left (fun q9 => by omega)
                  have hP9 := rdT_bad (q := q) (z := 0) hln hB rfl
                  refine w_iconst dX3_readLine_174 ?_
                  exact w_zretI dX3_readLine_175 rfl (Or.inl rfl) ⟨((hFX.wd (by omega) (by omega)).tr hF_μ1), (by exact hP9), (by first | (intro q9; omega) | (intro q9; exact hA9)), (by omega), (by first | (intro q9; omega) | exact fun _ => h01z), (fun k h1 => ((hf_X k (by omega)).trans (hff1 k (by omega)))), hR_X⟩
                · skip
                  have hB := hz_X.resolve_right (fun q9 => by omega)
                  have hatX := ha_X hB.1
                  have hskX := sk_r b n (μX 42 4) hatX.2
                  rw [hB.2.2.2] at hskX
                  refine w_aload_n dX3_readLine_163 rfl rfl (by first | decide | omega) ?_
                  refine w_callVI (o := 42) (ci := 3) (as := []) (rest := []) (k := 0) fX3_readLine_164 rfl rfl rfl rfl rfl rfl rfl rfl (Nat.le_of_ble_eq_true rfl) (s_X3_takeEnd X b n q μX hR_X hatX) (fun xE μE hμE => ?_)
                  obtain ⟨hFE, hz_E, hz01_E, h01_E, hf_E, hR_E⟩ := hμE
                  rw [hB.2.2.2] at hz_E
                  refine w_if_eq (tgt := 174) dX3_readLine_167 rfl (R32.in (by omega)) (fun c167 => ?_) (fun c167 => ?_)
                  · skip
                    have hE := hz_E.resolve_left (fun q9 => by omega)
                    have hP9 := rdT_1 (q := q) (z := 0) hln hB.2.1 hE.2.1 rfl hE.2.2.1 hE.2.2.2
                    refine w_iconst dX3_readLine_174 ?_
                    exact w_zretI dX3_readLine_175 rfl (Or.inl rfl) ⟨((hFE.wd (by omega) (by omega)).tr ((hFX.wd (by omega) (by omega)).tr hF_μ1)), (by exact hP9), (by first | (intro q9; omega) | (intro q9; exact hA9)), (by omega), (by first | (intro q9; omega) | exact fun _ => h01z), (fun k h1 => ((hf_E k (by omega)).trans ((hf_X k (by omega)).trans (hff1 k (by omega))))), hR_E⟩
                  · skip
                    have hE := hz_E.resolve_right (fun q9 => by omega)
                    have hlt9 := see_lt hE.2.1 (by omega)
                    have h01z : μE 42 0 = μ 42 0 ∧ μE 42 1 = μ 42 1 := ⟨(h01_E hE.1).1.trans ((h01_X hB.1).1.trans (hff1 0 (by omega))), (h01_E hE.1).2.trans ((h01_X hB.1).2.trans (hff1 1 (by omega)))⟩
                    have hA9 : 0 ≤ μE 42 4 ∧ μE 42 4 ≤ n := by rw [hE.2.2]; omega
                    have hP9 := rdT_0 (q := q) (z := 1) hln hB.2.1 hE.2.1 rfl (CPS.cg hB.2.2.1 (fun o h1 => hFE.at (by omega) (by omega))) hE.2.2 (TLD.cg (htd hB.2.1) (fun o h1 => hFE.at (by omega) (by omega)))
                    refine w_iconst dX3_readLine_170 ?_
                    refine w_goto (tgt := 175) dX3_readLine_171 rfl ?_
                    exact w_zretI dX3_readLine_175 rfl (Or.inr rfl) ⟨((hFE.wd (by omega) (by omega)).tr ((hFX.wd (by omega) (by omega)).tr hF_μ1)), (by exact hP9), (by first | (intro q9; omega) | (intro q9; exact hA9)), (by omega), (by first | (intro q9; omega) | exact fun _ => h01z), (fun k h1 => ((hf_E k (by omega)).trans ((hf_X k (by omega)).trans (hff1 k (by omega))))), hR_E⟩
            · refine w_tableIn (off := 29) (tgt := 112) dX3_readLine_83 (R32.in (by omega)) (by omega) (by omega) (by rw [q83]; rfl) rfl ?_
              omega
            · refine w_tableIn (off := 37) (tgt := 120) dX3_readLine_83 (R32.in (by omega)) (by omega) (by omega) (by rw [q83]; rfl) rfl ?_
              omega
            · refine w_tableIn (off := 45) (tgt := 128) dX3_readLine_83 (R32.in (by omega)) (by omega) (by omega) (by rw [q83]; rfl) rfl ?_
              omega
            · refine w_tableIn (off := 53) (tgt := 136) dX3_readLine_83 (R32.in (by omega)) (by omega) (by omega) (by rw [q83]; rfl) rfl ?_
              omega
          · skip
            refine w_aload_n dX3_readLine_75 rfl rfl (by first | decide | omega) ?_
            refine w_iconst dX3_readLine_76 ?_
            refine w_iload_n dX3_readLine_77 rfl rfl ?_
            refine w_callVI (o := 42) (ci := 3) (as := [(0, 4), (0, μ 42 4)]) (rest := []) (k := 0) fX3_readLine_78 rfl rfl rfl rfl rfl rfl rfl rfl (Nat.le_of_ble_eq_true rfl) (s_X3_fail X 4 (μ 42 4) μW) (fun xF μF hμF => ?_)
            obtain ⟨hFF, hz_F, h0_F, h1_F, hf_F⟩ := hμF
            exact w_zretI dX3_readLine_81 rfl (by omega) ⟨((hFF.wd (by omega) (by omega)).tr (hFW.wd (by omega) (by omega))), (by exact rdT_er (by rw [← hz_W]; exact lnW_4 hn1 hn3 ⟨by omega, by omega⟩) (by omega) hz_F h0_F h1_F), (by first | (intro q9; omega) | (intro q9; exact hA9)), (by omega), (by first | (intro q9; omega) | exact fun _ => h01z), (fun k h1 => ((hf_F k (by omega)).trans (hf_W k (by omega)))), (RDc.cg2 hR_W (fun o h1 => (hFF.at (by omega) (by omega))) (fun k h1 => (hf_F _ (by omega))))⟩
      · skip
        refine w_aload_n dX3_readLine_35 rfl rfl (by first | decide | omega) ?_
        refine w_getR (o := 42) (x := 43) fX3_readLine_36 rfl rfl rfl rfl ?_
        refine w_iload_n dX3_readLine_39 rfl rfl ?_
        refine w_zaldx (o := 43) (n := 3) (x := tldS σ xW) dX3_readLine_40 rfl rfl (Nat.le_of_ble_eq_true rfl) (by omega) ((congrFun (hFW.at (by omega) (by omega)) _).trans (hT.told (by omega))) ?_
        refine w_if_eq (tgt := 51) dX3_readLine_41 rfl (R32.in (by omega)) (fun c41 => ?_) (fun c41 => ?_)
        · skip
          have hn3 : ¬ (xW ≤ 2 ∧ ¬ tldS σ xW = 0) := fun q9 => q9.2 c41
          refine w_aload_n dX3_readLine_51 rfl rfl (by first | decide | omega) ?_
          refine w_getR (o := 42) (x := 43) fX3_readLine_52 rfl rfl rfl rfl ?_
          refine w_iload_n dX3_readLine_55 rfl rfl ?_
          refine w_iconst dX3_readLine_56 ?_
          refine w_zast (o := 43) (n := 3) dX3_readLine_57 rfl rfl (Nat.le_of_ble_eq_true rfl) (by omega) (by omega) (Or.inr rfl) ?_
          refine w_iload_n dX3_readLine_58 rfl rfl ?_
          refine w_iconst dX3_readLine_59 ?_
          refine w_icmp_lt (tgt := 82) dX3_readLine_60 rfl (R32.in (by omega)) (R32.in (by decide)) (fun c60 => ?_) (fun c60 => ?_)
          · skip
            have hn4 : ¬ (4 ≤ xW ∧ 64 ≤ σ 0 0) := fun q9 => by omega
            have hF_μ1 : Fr 42 44 q (q + 8) (am_up μW 43 xW 1) μ := ((hFW.wd (by omega) (by omega)).up (by omega))
            have h43 : ∀ j : Int, (am_up μW 43 xW 1) 43 j = if xW ≤ 2 ∧ j = xW then 1 else μ 43 j := (fun j => by first | (rw [up_if, hFW.at (o := 43) (by omega) (by omega)]; by_cases e : j = xW; (rw [if_pos e, if_pos ⟨by omega, e⟩]); (rw [if_neg e, if_neg (fun q9 => e q9.2)])) | (rw [hFW.at (o := 43) (by omega) (by omega), if_neg (fun q9 => by omega)]))
            have h44 : (am_up μW 43 xW 1) 44 = μ 44 := ((am_up_o (by omega)).trans (hFW.at (by omega) (by omega)))
            have h41 : (am_up μW 43 xW 1) 42 4 = (we b n (μ 42 4)) := ((congrFun (am_up_o (by first | decide | omega)) _).trans (by exact h4_W))
            have hR1 : RDc b n q (am_up μW 43 xW 1) := (RDc.cg2 hR_W (fun o h1 => (am_up_o (by omega))) (fun k h1 => (congrFun (am_up_o (by omega)) _)))
            have hC1 : CPS σ q (am_up μW 43 xW 1) := (CPS.cg hC (fun o h1 => ((am_up_o (by omega)).trans (hFW.at (by omega) (by omega)))))
            have hff1 : ∀ k9 : Int, (¬ k9 = 4) → (am_up μW 43 xW 1) 42 k9 = μ 42 k9 := (fun k h1 => ((congrFun (am_up_o (by omega)) _).trans (hf_W k (by omega))))
            refine Wp.mu (fun μ1 hμ1 => ?_)
            rw [← hμ1] at hF_μ1 h43 h44 h41 hR1 hC1 hff1
            clear hμ1
            have hat1 : 0 ≤ μ1 42 4 ∧ μ1 42 4 ≤ n := by rw [h41]; omega
            refine w_iload_n dX3_readLine_82 rfl rfl ?_
            rcases (show (xW < 0 ∨ 3 < xW) ∨ xW = 0 ∨ xW = 1 ∨ xW = 2 ∨ xW = 3 by omega) with q83 | q83 | q83 | q83 | q83
            · refine w_tableOut (tgt := 144) dX3_readLine_83 (R32.in (by omega)) q83 rfl ?_
              omega
            · refine w_tableIn (off := 29) (tgt := 112) dX3_readLine_83 (R32.in (by omega)) (by omega) (by omega) (by rw [q83]; rfl) rfl ?_
              have hln : lnW b n σ (wdC b (μ 42 4) (we b n (μ 42 4))) (μ 42 4) (we b n (μ 42 4)) = lEnd b n (lMet b n σ (we b n (μ 42 4))) := by rw [← hz_W, lnW_b hn1 hn3 hn4, q83, lBod_0]
              refine w_aload_n dX3_readLine_112 rfl rfl (by first | decide | omega) ?_
              refine w_callVI (o := 42) (ci := 3) (as := []) (rest := []) (k := 1) fX3_readLine_113 rfl rfl rfl rfl rfl rfl rfl rfl (Nat.le_of_ble_eq_true rfl) (s_X3_readMetre X b n q σ μ1 hR1 hat1 hC1 (by omega)) (fun xX μX hμX => ?_)
              obtain ⟨hFX, hz_X, ha_X, hz01_X, h01_X, hf_X, hR_X⟩ := hμX
              rw [h41] at hz_X
              have htd : (lMet b n σ (we b n (μ 42 4))).1 = 0 → TLD (lMet b n σ (we b n (μ 42 4))).2.2.1 μX := fun hl => TLD_met hT hl (fun j => (congrFun (hFX.at (by omega) (by omega)) j).trans ((h43 j).trans (tw_if q83 (by omega)))) ((hFX.at (by omega) (by omega)).trans h44)
              refine w_istore_n (ls' := [(2, 42), (0, μ 42 4), (0, xW), (0, xX)]) dX3_readLine_116 rfl (Nat.le_of_ble_eq_true rfl) rfl rfl ?_
              refine w_goto (tgt := 159) dX3_readLine_117 rfl ?_
              refine w_iload_n dX3_readLine_159 rfl rfl ?_
              refine w_if_eq (tgt := 174) dX3_readLine_160 rfl (R32.in (by omega)) (fun c160 => ?_) (fun c160 => ?_)
              · skip
                have hB := hz_X.resolve_left (fun q9 => by omega)
                have hP9 := rdT_bad (q := q) (z := 0) hln hB rfl
                refine w_iconst dX3_readLine_174 ?_
                exact w_zretI dX3_readLine_175 rfl (Or.inl rfl) ⟨((hFX.wd (by omega) (by omega)).tr hF_μ1), (by exact hP9), (by first | (intro q9; omega) | (intro q9; exact hA9)), (by omega), (by first | (intro q9; omega) | exact fun _ => h01z), (fun k h1 => ((hf_X k (by omega)).trans (hff1 k (by omega)))), hR_X⟩
              · skip
                have hB := hz_X.resolve_right (fun q9 => by omega)
                have hatX := ha_X hB.1
                have hskX := sk_r b n (μX 42 4) hatX.2
                rw [hB.2.2.2] at hskX
                refine w_aload_n dX3_readLine_163 rfl rfl (by first | decide | omega) ?_
                refine w_callVI (o := 42) (ci := 3) (as := []) (rest := []) (k := 0) fX3_readLine_164 rfl rfl rfl rfl rfl rfl rfl rfl (Nat.le_of_ble_eq_true rfl) (s_X3_takeEnd X b n q μX hR_X hatX) (fun xE μE hμE => ?_)
                obtain ⟨hFE, hz_E, hz01_E, h01_E, hf_E, hR_E⟩ := hμE
                rw [hB.2.2.2] at hz_E
                refine w_if_eq (tgt := 174) dX3_readLine_167 rfl (R32.in (by omega)) (fun c167 => ?_) (fun c167 => ?_)
                · skip
                  have hE := hz_E.resolve_left (fun q9 => by omega)
                  have hP9 := rdT_1 (q := q) (z := 0) hln hB.2.1 hE.2.1 rfl hE.2.2.1 hE.2.2.2
                  refine w_iconst dX3_readLine_174 ?_
                  exact w_zretI dX3_readLine_175 rfl (Or.inl rfl) ⟨((hFE.wd (by omega) (by omega)).tr ((hFX.wd (by omega) (by omega)).tr hF_μ1)), (by exact hP9), (by first | (intro q9; omega) | (intro q9; exact hA9)), (by omega), (by first | (intro q9; omega) | exact fun _ => h01z), (fun k h1 => ((hf_E k (by omega)).trans ((hf_X k (by omega)).trans (hff1 k (by omega))))), hR_E⟩
                · skip
                  have hE := hz_E.resolve_right (fun q9 => by omega)
                  have hlt9 := see_lt hE.2.1 (by omega)
                  have h01z : μE 42 0 = μ 42 0 ∧ μE 42 1 = μ 42 1 := ⟨(h01_E hE.1).1.trans ((h01_X hB.1).1.trans (hff1 0 (by omega))), (h01_E hE.1).2.trans ((h01_X hB.1).2.trans (hff1 1 (by omega)))⟩
                  have hA9 : 0 ≤ μE 42 4 ∧ μE 42 4 ≤ n := by rw [hE.2.2]; omega
                  have hP9 := rdT_0 (q := q) (z := 1) hln hB.2.1 hE.2.1 rfl (CPS.cg hB.2.2.1 (fun o h1 => hFE.at (by omega) (by omega))) hE.2.2 (TLD.cg (htd hB.2.1) (fun o h1 => hFE.at (by omega) (by omega)))
                  refine w_iconst dX3_readLine_170 ?_
                  refine w_goto (tgt := 175) dX3_readLine_171 rfl ?_
                  exact w_zretI dX3_readLine_175 rfl (Or.inr rfl) ⟨((hFE.wd (by omega) (by omega)).tr ((hFX.wd (by omega) (by omega)).tr hF_μ1)), (by exact hP9), (by first | (intro q9; omega) | (intro q9; exact hA9)), (by omega), (by first | (intro q9; omega) | exact fun _ => h01z), (fun k h1 => ((hf_E k (by omega)).trans ((hf_X k (by omega)).trans (hff1 k (by omega))))), hR_E⟩
            · refine w_tableIn (off := 37) (tgt := 120) dX3_readLine_83 (R32.in (by omega)) (by omega) (by omega) (by rw [q83]; rfl) rfl ?_
              have hln : lnW b n σ (wdC b (μ 42 4) (we b n (μ 42 4))) (μ 42 4) (we b n (μ 42 4)) = lEnd b n (lSpl b n σ (we b n (μ 42 4))) := by rw [← hz_W, lnW_b hn1 hn3 hn4, q83, lBod_1]
              refine w_aload_n dX3_readLine_120 rfl rfl (by first | decide | omega) ?_
              refine w_callVI (o := 42) (ci := 3) (as := []) (rest := []) (k := 3) fX3_readLine_121 rfl rfl rfl rfl rfl rfl rfl rfl (Nat.le_of_ble_eq_true rfl) (s_X3_readSplit X b n q σ μ1 hR1 hat1 hC1) (fun xX μX hμX => ?_)
              obtain ⟨hFX, hz_X, ha_X, hz01_X, h01_X, hf_X, hR_X⟩ := hμX
              rw [h41] at hz_X
              have htd : (lSpl b n σ (we b n (μ 42 4))).1 = 0 → TLD (lSpl b n σ (we b n (μ 42 4))).2.2.1 μX := fun hl => TLD_spl hT hl (fun j => (congrFun (hFX.at (by omega) (by omega)) j).trans ((h43 j).trans (tw_if q83 (by omega)))) ((hFX.at (by omega) (by omega)).trans h44)
              refine w_istore_n (ls' := [(2, 42), (0, μ 42 4), (0, xW), (0, xX)]) dX3_readLine_124 rfl (Nat.le_of_ble_eq_true rfl) rfl rfl ?_
              refine w_goto (tgt := 159) dX3_readLine_125 rfl ?_
              refine w_iload_n dX3_readLine_159 rfl rfl ?_
              refine w_if_eq (tgt := 174) dX3_readLine_160 rfl (R32.in (by omega)) (fun c160 => ?_) (fun c160 => ?_)
              · skip
                have hB := hz_X.resolve_left (fun q9 => by omega)
                have hP9 := rdT_bad (q := q) (z := 0) hln hB rfl
                refine w_iconst dX3_readLine_174 ?_
                exact w_zretI dX3_readLine_175 rfl (Or.inl rfl) ⟨((hFX.wd (by omega) (by omega)).tr hF_μ1), (by exact hP9), (by first | (intro q9; omega) | (intro q9; exact hA9)), (by omega), (by first | (intro q9; omega) | exact fun _ => h01z), (fun k h1 => ((hf_X k (by omega)).trans (hff1 k (by omega)))), hR_X⟩
              · skip
                have hB := hz_X.resolve_right (fun q9 => by omega)
                have hatX := ha_X hB.1
                have hskX := sk_r b n (μX 42 4) hatX.2
                rw [hB.2.2.2] at hskX
                refine w_aload_n dX3_readLine_163 rfl rfl (by first | decide | omega) ?_
                refine w_callVI (o := 42) (ci := 3) (as := []) (rest := []) (k := 0) fX3_readLine_164 rfl rfl rfl rfl rfl rfl rfl rfl (Nat.le_of_ble_eq_true rfl) (s_X3_takeEnd X b n q μX hR_X hatX) (fun xE μE hμE => ?_)
                obtain ⟨hFE, hz_E, hz01_E, h01_E, hf_E, hR_E⟩ := hμE
                rw [hB.2.2.2] at hz_E
                refine w_if_eq (tgt := 174) dX3_readLine_167 rfl (R32.in (by omega)) (fun c167 => ?_) (fun c167 => ?_)
                · skip
                  have hE := hz_E.resolve_left (fun q9 => by omega)
                  have hP9 := rdT_1 (q := q) (z := 0) hln hB.2.1 hE.2.1 rfl hE.2.2.1 hE.2.2.2
                  refine w_iconst dX3_readLine_174 ?_
                  exact w_zretI dX3_readLine_175 rfl (Or.inl rfl) ⟨((hFE.wd (by omega) (by omega)).tr ((hFX.wd (by omega) (by omega)).tr hF_μ1)), (by exact hP9), (by first | (intro q9; omega) | (intro q9; exact hA9)), (by omega), (by first | (intro q9; omega) | exact fun _ => h01z), (fun k h1 => ((hf_E k (by omega)).trans ((hf_X k (by omega)).trans (hff1 k (by omega))))), hR_E⟩
                · skip
                  have hE := hz_E.resolve_right (fun q9 => by omega)
                  have hlt9 := see_lt hE.2.1 (by omega)
                  have h01z : μE 42 0 = μ 42 0 ∧ μE 42 1 = μ 42 1 := ⟨(h01_E hE.1).1.trans ((h01_X hB.1).1.trans (hff1 0 (by omega))), (h01_E hE.1).2.trans ((h01_X hB.1).2.trans (hff1 1 (by omega)))⟩
                  have hA9 : 0 ≤ μE 42 4 ∧ μE 42 4 ≤ n := by rw [hE.2.2]; omega
                  have hP9 := rdT_0 (q := q) (z := 1) hln hB.2.1 hE.2.1 rfl (CPS.cg hB.2.2.1 (fun o h1 => hFE.at (by omega) (by omega))) hE.2.2 (TLD.cg (htd hB.2.1) (fun o h1 => hFE.at (by omega) (by omega)))
                  refine w_iconst dX3_readLine_170 ?_
                  refine w_goto (tgt := 175) dX3_readLine_171 rfl ?_
                  exact w_zretI dX3_readLine_175 rfl (Or.inr rfl) ⟨((hFE.wd (by omega) (by omega)).tr ((hFX.wd (by omega) (by omega)).tr hF_μ1)), (by exact hP9), (by first | (intro q9; omega) | (intro q9; exact hA9)), (by omega), (by first | (intro q9; omega) | exact fun _ => h01z), (fun k h1 => ((hf_E k (by omega)).trans ((hf_X k (by omega)).trans (hff1 k (by omega))))), hR_E⟩
            · refine w_tableIn (off := 45) (tgt := 128) dX3_readLine_83 (R32.in (by omega)) (by omega) (by omega) (by rw [q83]; rfl) rfl ?_
              have hln : lnW b n σ (wdC b (μ 42 4) (we b n (μ 42 4))) (μ 42 4) (we b n (μ 42 4)) = lEnd b n (lKne b n σ (we b n (μ 42 4))) := by rw [← hz_W, lnW_b hn1 hn3 hn4, q83, lBod_2]
              refine w_aload_n dX3_readLine_128 rfl rfl (by first | decide | omega) ?_
              refine w_callVI (o := 42) (ci := 3) (as := []) (rest := []) (k := 0) fX3_readLine_129 rfl rfl rfl rfl rfl rfl rfl rfl (Nat.le_of_ble_eq_true rfl) (s_X3_readKnee X b n q σ μ1 hR1 hat1 hC1) (fun xX μX hμX => ?_)
              obtain ⟨hFX, hz_X, ha_X, hz01_X, h01_X, hf_X, hR_X⟩ := hμX
              rw [h41] at hz_X
              have htd : (lKne b n σ (we b n (μ 42 4))).1 = 0 → TLD (lKne b n σ (we b n (μ 42 4))).2.2.1 μX := fun hl => TLD_kne hT hl (fun j => (congrFun (hFX.at (by omega) (by omega)) j).trans ((h43 j).trans (tw_if q83 (by omega)))) ((hFX.at (by omega) (by omega)).trans h44)
              refine w_istore_n (ls' := [(2, 42), (0, μ 42 4), (0, xW), (0, xX)]) dX3_readLine_132 rfl (Nat.le_of_ble_eq_true rfl) rfl rfl ?_
              refine w_goto (tgt := 159) dX3_readLine_133 rfl ?_
              refine w_iload_n dX3_readLine_159 rfl rfl ?_
              refine w_if_eq (tgt := 174) dX3_readLine_160 rfl (R32.in (by omega)) (fun c160 => ?_) (fun c160 => ?_)
              · skip
                have hB := hz_X.resolve_left (fun q9 => by omega)
                have hP9 := rdT_bad (q := q) (z := 0) hln hB rfl
                refine w_iconst dX3_readLine_174 ?_
                exact w_zretI dX3_readLine_175 rfl (Or.inl rfl) ⟨((hFX.wd (by omega) (by omega)).tr hF_μ1), (by exact hP9), (by first | (intro q9; omega) | (intro q9; exact hA9)), (by omega), (by first | (intro q9; omega) | exact fun _ => h01z), (fun k h1 => ((hf_X k (by omega)).trans (hff1 k (by omega)))), hR_X⟩
              · skip
                have hB := hz_X.resolve_right (fun q9 => by omega)
                have hatX := ha_X hB.1
                have hskX := sk_r b n (μX 42 4) hatX.2
                rw [hB.2.2.2] at hskX
                refine w_aload_n dX3_readLine_163 rfl rfl (by first | decide | omega) ?_
                refine w_callVI (o := 42) (ci := 3) (as := []) (rest := []) (k := 0) fX3_readLine_164 rfl rfl rfl rfl rfl rfl rfl rfl (Nat.le_of_ble_eq_true rfl) (s_X3_takeEnd X b n q μX hR_X hatX) (fun xE μE hμE => ?_)
                obtain ⟨hFE, hz_E, hz01_E, h01_E, hf_E, hR_E⟩ := hμE
                rw [hB.2.2.2] at hz_E
                refine w_if_eq (tgt := 174) dX3_readLine_167 rfl (R32.in (by omega)) (fun c167 => ?_) (fun c167 => ?_)
                · skip
                  have hE := hz_E.resolve_left (fun q9 => by omega)
                  have hP9 := rdT_1 (q := q) (z := 0) hln hB.2.1 hE.2.1 rfl hE.2.2.1 hE.2.2.2
                  refine w_iconst dX3_readLine_174 ?_
                  exact w_zretI dX3_readLine_175 rfl (Or.inl rfl) ⟨((hFE.wd (by omega) (by omega)).tr ((hFX.wd (by omega) (by omega)).tr hF_μ1)), (by exact hP9), (by first | (intro q9; omega) | (intro q9; exact hA9)), (by omega), (by first | (intro q9; omega) | exact fun _ => h01z), (fun k h1 => ((hf_E k (by omega)).trans ((hf_X k (by omega)).trans (hff1 k (by omega))))), hR_E⟩
                · skip
                  have hE := hz_E.resolve_right (fun q9 => by omega)
                  have hlt9 := see_lt hE.2.1 (by omega)
                  have h01z : μE 42 0 = μ 42 0 ∧ μE 42 1 = μ 42 1 := ⟨(h01_E hE.1).1.trans ((h01_X hB.1).1.trans (hff1 0 (by omega))), (h01_E hE.1).2.trans ((h01_X hB.1).2.trans (hff1 1 (by omega)))⟩
                  have hA9 : 0 ≤ μE 42 4 ∧ μE 42 4 ≤ n := by rw [hE.2.2]; omega
                  have hP9 := rdT_0 (q := q) (z := 1) hln hB.2.1 hE.2.1 rfl (CPS.cg hB.2.2.1 (fun o h1 => hFE.at (by omega) (by omega))) hE.2.2 (TLD.cg (htd hB.2.1) (fun o h1 => hFE.at (by omega) (by omega)))
                  refine w_iconst dX3_readLine_170 ?_
                  refine w_goto (tgt := 175) dX3_readLine_171 rfl ?_
                  exact w_zretI dX3_readLine_175 rfl (Or.inr rfl) ⟨((hFE.wd (by omega) (by omega)).tr ((hFX.wd (by omega) (by omega)).tr hF_μ1)), (by exact hP9), (by first | (intro q9; omega) | (intro q9; exact hA9)), (by omega), (by first | (intro q9; omega) | exact fun _ => h01z), (fun k h1 => ((hf_E k (by omega)).trans ((hf_X k (by omega)).trans (hff1 k (by omega))))), hR_E⟩
            · refine w_tableIn (off := 53) (tgt := 136) dX3_readLine_83 (R32.in (by omega)) (by omega) (by omega) (by rw [q83]; rfl) rfl ?_
              omega
          · skip
            omega
        · skip
          refine w_aload_n dX3_readLine_44 rfl rfl (by first | decide | omega) ?_
          refine w_iconst dX3_readLine_45 ?_
          refine w_iload_n dX3_readLine_46 rfl rfl ?_
          refine w_callVI (o := 42) (ci := 3) (as := [(0, 3), (0, μ 42 4)]) (rest := []) (k := 0) fX3_readLine_47 rfl rfl rfl rfl rfl rfl rfl rfl (Nat.le_of_ble_eq_true rfl) (s_X3_fail X 3 (μ 42 4) μW) (fun xF μF hμF => ?_)
          obtain ⟨hFF, hz_F, h0_F, h1_F, hf_F⟩ := hμF
          exact w_zretI dX3_readLine_50 rfl (by omega) ⟨((hFF.wd (by omega) (by omega)).tr (hFW.wd (by omega) (by omega))), (by exact rdT_er (by rw [← hz_W]; exact lnW_3 hn1 ⟨by omega, c41⟩) (by omega) hz_F h0_F h1_F), (by first | (intro q9; omega) | (intro q9; exact hA9)), (by omega), (by first | (intro q9; omega) | exact fun _ => h01z), (fun k h1 => ((hf_F k (by omega)).trans (hf_W k (by omega)))), (RDc.cg2 hR_W (fun o h1 => (hFF.at (by omega) (by omega))) (fun k h1 => (hf_F _ (by omega))))⟩
    · skip
      replace c20 := am_b1 c20
      have hbad : xW = -1 ∨ tooL σ xW := Or.inr c20
      refine w_aload_n dX3_readLine_23 rfl rfl (by first | decide | omega) ?_
      refine w_iconst dX3_readLine_24 ?_
      refine w_iload_n dX3_readLine_25 rfl rfl ?_
      refine w_callVI (o := 42) (ci := 3) (as := [(0, 1), (0, μ 42 4)]) (rest := []) (k := 0) fX3_readLine_26 rfl rfl rfl rfl rfl rfl rfl rfl (Nat.le_of_ble_eq_true rfl) (s_X3_fail X 1 (μ 42 4) μW) (fun xF μF hμF => ?_)
      obtain ⟨hFF, hz_F, h0_F, h1_F, hf_F⟩ := hμF
      exact w_zretI dX3_readLine_29 rfl (by omega) ⟨((hFF.wd (by omega) (by omega)).tr (hFW.wd (by omega) (by omega))), (by exact rdT_er (by rw [← hz_W]; exact lnW_1 hbad) (by omega) hz_F h0_F h1_F), (by first | (intro q9; omega) | (intro q9; exact hA9)), (by omega), (by first | (intro q9; omega) | exact fun _ => h01z), (fun k h1 => ((hf_F k (by omega)).trans (hf_W k (by omega)))), (RDc.cg2 hR_W (fun o h1 => (hFF.at (by omega) (by omega))) (fun k h1 => (hf_F _ (by omega))))⟩
