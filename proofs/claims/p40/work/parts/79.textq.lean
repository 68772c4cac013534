set_option maxRecDepth 100000 in
set_option maxHeartbeats 4000000 in
theorem s_X3_readQ (X : AX) (b : Int → Int) (n : Int) (q : Int) (μ : Mu) (hq : q = 20 ∨ q = 31) (hbb : BB b n) (hb : ∀ j : Int, 0 ≤ j → j < n → μ 2 j = b j) : Wp (GG X) M_X3_read 0 [(2, 42), (0, n), (2, q), (9, 0)] [] μ (qI 0 fun z μ' => (Fr 42 44 q (q + 10) μ' μ) ∧ (rdR (rdN b n n.toNat S0 0) q z μ') ∧ (z = 0 ∨ z = 1) ∧ (μ' 42 7 = q)) := by
  have hn := hbb.1
  refine w_aload_n dX3_read_0 rfl rfl (by first | decide | omega) ?_
  refine w_iload_n dX3_read_1 rfl rfl ?_
  refine w_aload_n dX3_read_2 rfl rfl (by first | decide | omega) ?_
  refine w_getR (o := 42) (x := 2) fX3_read_3 rfl rfl rfl rfl ?_
  refine w_alen (o := 2) (n := 900) (t := 0) (f := 900) dX3_read_6 rfl rfl (Nat.le_of_ble_eq_true rfl) rfl ?_
  refine w_min fX3_read_7 (R32.in (by omega)) (R32.in (by decide)) (Nat.le_of_ble_eq_true rfl) ?_
  refine w_putI (o := 42) (f := 3) fX3_read_10 rfl rfl rfl rfl rfl ?_
  refine w_aload_n dX3_read_13 rfl rfl (by first | decide | omega) ?_
  refine w_iconst dX3_read_14 ?_
  refine w_putI (o := 42) (f := 4) fX3_read_15 rfl rfl rfl rfl rfl ?_
  refine w_aload_n dX3_read_18 rfl rfl (by first | decide | omega) ?_
  refine w_iconst dX3_read_19 ?_
  refine w_putI (o := 42) (f := 0) fX3_read_20 rfl rfl rfl rfl rfl ?_
  refine w_aload_n dX3_read_23 rfl rfl (by first | decide | omega) ?_
  refine w_iconst dX3_read_24 ?_
  refine w_putI (o := 42) (f := 1) fX3_read_25 rfl rfl rfl rfl rfl ?_
  refine w_aload_n dX3_read_28 rfl rfl (by first | decide | omega) ?_
  refine w_aload_n dX3_read_29 rfl rfl (by first | decide | omega) ?_
  refine w_putD (o := 42) (f := 7) fX3_read_30 rfl rfl rfl rfl rfl (by first | decide | omega) ?_
  have hF_μ0 : Fr 42 44 q (q + 10) (am_up (am_up (am_up (am_up (am_up μ 42 3 (min n 900)) 42 4 0) 42 0 0) 42 1 (-1)) 42 7 q) μ := (((((Fr.rf.up (by omega)).up (by omega)).up (by omega)).up (by omega)).up (by omega))
  have hR0 : RDc b n q (am_up (am_up (am_up (am_up (am_up μ 42 3 (min n 900)) 42 4 0) 42 0 0) 42 1 (-1)) 42 7 q) := ⟨⟨(((am_up_nk (by omega)).trans ((am_up_nk (by omega)).trans ((am_up_nk (by omega)).trans ((am_up_nk (by omega)).trans am_up_at)))).trans (by omega)), (am_up_at.trans (by rfl)), hq⟩, hbb, fun j h1 h2 => (congrFun ((am_up_o (by omega)).trans ((am_up_o (by omega)).trans ((am_up_o (by omega)).trans ((am_up_o (by omega)).trans (am_up_o (by omega)))))) j).trans (hb j h1 h2)⟩
  have h40 : (am_up (am_up (am_up (am_up (am_up μ 42 3 (min n 900)) 42 4 0) 42 0 0) 42 1 (-1)) 42 7 q) 42 4 = 0 := (((am_up_nk (by omega)).trans ((am_up_nk (by omega)).trans ((am_up_nk (by omega)).trans am_up_at))).trans (by rfl))
  have h00 : (am_up (am_up (am_up (am_up (am_up μ 42 3 (min n 900)) 42 4 0) 42 0 0) 42 1 (-1)) 42 7 q) 42 0 = 0 := (((am_up_nk (by omega)).trans ((am_up_nk (by omega)).trans am_up_at)).trans (by rfl))
  have h02 : (am_up (am_up (am_up (am_up (am_up μ 42 3 (min n 900)) 42 4 0) 42 0 0) 42 1 (-1)) 42 7 q) 42 1 = -1 := (((am_up_nk (by omega)).trans am_up_at).trans (by rfl))
  refine Wp.mu (fun μ0 hμ0 => ?_)
  rw [← hμ0] at hF_μ0 hR0 h40 h00 h02
  clear hμ0
  refine w_aload_n dX3_read_33 rfl rfl (by first | decide | omega) ?_
  refine w_getDx (o := 42) (f := 7) (x := q) fX3_read_34 rfl rfl rfl rfl hR0.pq ?_
  refine w_callVV (o := (q).toNat) (ci := 2) (as := []) (rest := []) (k := 0) fX3_read_37 rfl (by omega) (pSh0 rfl rfl (by assumption)) rfl rfl rfl rfl rfl (Nat.le_of_ble_eq_true rfl) (s_X2_clear X q μ0 (by first | omega | assumption)) (fun μC hμC => ?_)
  obtain ⟨hFC, hc_C, h14_C⟩ := hμC
  refine w_aload_n dX3_read_40 rfl rfl (by first | decide | omega) ?_
  refine w_callVV (o := 42) (ci := 3) (as := []) (rest := []) (k := 1) fX3_read_41 rfl rfl rfl rfl rfl rfl rfl rfl (Nat.le_of_ble_eq_true rfl) (s_X3_forgetTold X μC) (fun μG hμG => ?_)
  obtain ⟨hFG, h3_G, h4_G⟩ := hμG
  have h4G : μG 42 4 = 0 := (congrFun (hFG.at (by omega) (by omega)) 4).trans ((congrFun (hFC.at (by omega) (by omega)) 4).trans h40)
  have hat0 : 0 ≤ μG 42 4 ∧ μG 42 4 ≤ n := by rw [h4G]; omega
  refine w_aload_n dX3_read_44 rfl rfl (by first | decide | omega) ?_
  refine w_callVV (o := 42) (ci := 3) (as := []) (rest := []) (k := 0) fX3_read_45 rfl rfl rfl rfl rfl rfl rfl rfl (Nat.le_of_ble_eq_true rfl) (s_X3_skipBlanks X b n q μG (RDc.cg2 hR0 (fun o h1 => ((hFG.at (by omega) (by omega)).trans (hFC.at (by omega) (by omega)))) (fun k h1 => ((congrFun (hFG.at (by omega) (by omega)) _).trans (congrFun (hFC.at (by omega) (by omega)) _)))) hat0) (fun μS hμS => ?_)
  obtain ⟨hFS, h4_S, hf_S, hR_S⟩ := hμS
  have hf4 := sk_r b n (μG 42 4) (by omega)
  rw [h4G] at h4_S
  have hsk0 := sk_r b n 0 hn.1
  refine w_iconst dX3_read_48 ?_
  refine w_istore_n (ls' := [(2, 42), (0, n), (2, q), (0, 0)]) dX3_read_49 rfl (Nat.le_of_ble_eq_true rfl) rfl rfl ?_
  have hL50 : ∀ (n50 : Nat) (σ1 : Mu) (l : Int) (t : Int) (μ1 : Mu), (n - l).toNat = n50 → Fr 42 44 q (q + 10) μ1 μ → (0 ≤ l ∧ l ≤ n) → (0 ≤ t ∧ t ≤ n) → (sk b n t = t) → (μ1 42 4 = t) → (CPS σ1 q μ1) → (TLD σ1 μ1) → (RDc b n q μ1) → (μ1 42 0 = 0 ∧ μ1 42 1 = -1) → (rs3 (rdN b n (n - l).toNat σ1 t) (rdN b n n.toNat S0 0)) → Wp (GG X) M_X3_read 50 [(2, 42), (0, n), (2, q), (0, l)] [] μ1 (qI 0 fun z μ' => (Fr 42 44 q (q + 10) μ' μ) ∧ (rdR (rdN b n n.toNat S0 0) q z μ') ∧ (z = 0 ∨ z = 1) ∧ (μ' 42 7 = q)) := by
    intro n50
    induction n50 using Nat.strongRecOn with
    | ind n50 ih50 =>
      intro σ1 l t μ1 hn50 hF50 hl0 ht htk h41 hC1 hT1 hR1 h01 hrd
      refine w_iload_n dX3_read_50 rfl rfl ?_
      refine w_aload_n dX3_read_51 rfl rfl (by first | decide | omega) ?_
      refine w_getIx (o := 42) (f := 3) (x := n) fX3_read_52 rfl rfl (Nat.le_of_ble_eq_true rfl) rfl hR1.l ?_
      have hr5 := hR1.n
      refine w_icmp_ge (tgt := 101) dX3_read_55 rfl (R32.in (by omega)) (R32.in (by omega)) (fun c55 => ?_) (fun c55 => ?_)
      · skip
        have hre : rs3 (0, 0, σ1, t) (rdN b n n.toNat S0 0) := by have q9 := hrd; rw [rdN_end (show (n - l).toNat = 0 ∨ n ≤ sk b n t from by rw [htk]; omega)] at q9; exact q9
        refine w_aload_n dX3_read_101 rfl rfl (by first | decide | omega) ?_
        refine w_getDx (o := 42) (f := 7) (x := q) fX3_read_102 rfl rfl rfl rfl hR1.pq ?_
        refine w_callVV (o := (q).toNat) (ci := 2) (as := []) (rest := []) (k := 3) fX3_read_105 rfl (by omega) (pSh0 rfl rfl (by assumption)) rfl rfl rfl rfl rfl (Nat.le_of_ble_eq_true rfl) (s_X2_findGroups X q μ1 (hC1.pi hq) hC1.g8 hC1.xx) (fun μD hμD => ?_)
        obtain ⟨hFD, hpg_D, hf_D⟩ := hμD
        refine w_iconst dX3_read_108 ?_
        exact w_zretI dX3_read_109 rfl (Or.inr rfl) ⟨((hFD.wd (by omega) (by omega)).tr hF50), (by exact Or.inl ⟨rfl, hre.1.symm, by rw [← hre.2.2]; exact CPS.cpg hC1 (hC1.pi hq) (fun o h1 => hFD.at (by omega) (by omega)) hf_D hpg_D, (congrFun (hFD.at (by omega) (by omega)) 0).trans h01.1, (congrFun (hFD.at (by omega) (by omega)) 1).trans h01.2⟩), (by omega), ((RDc.cg2 hR1 (fun o h1 => (hFD.at (by omega) (by omega))) (fun k h1 => (congrFun (hFD.at (by omega) (by omega)) _)))).pq⟩
      · skip
        refine w_aload_n dX3_read_58 rfl rfl (by first | decide | omega) ?_
        refine w_getIx (o := 42) (f := 4) (x := t) fX3_read_59 rfl rfl (Nat.le_of_ble_eq_true rfl) rfl h41 ?_
        refine w_aload_n dX3_read_62 rfl rfl (by first | decide | omega) ?_
        refine w_getIx (o := 42) (f := 3) (x := n) fX3_read_63 rfl rfl (Nat.le_of_ble_eq_true rfl) rfl hR1.l ?_
        refine w_icmp_ge (tgt := 101) dX3_read_66 rfl (R32.in (by omega)) (R32.in (by omega)) (fun c66 => ?_) (fun c66 => ?_)
        · skip
          have hre : rs3 (0, 0, σ1, t) (rdN b n n.toNat S0 0) := by have q9 := hrd; rw [rdN_end (show (n - l).toNat = 0 ∨ n ≤ sk b n t from by rw [htk]; omega)] at q9; exact q9
          refine w_aload_n dX3_read_101 rfl rfl (by first | decide | omega) ?_
          refine w_getDx (o := 42) (f := 7) (x := q) fX3_read_102 rfl rfl rfl rfl hR1.pq ?_
          refine w_callVV (o := (q).toNat) (ci := 2) (as := []) (rest := []) (k := 3) fX3_read_105 rfl (by omega) (pSh0 rfl rfl (by assumption)) rfl rfl rfl rfl rfl (Nat.le_of_ble_eq_true rfl) (s_X2_findGroups X q μ1 (hC1.pi hq) hC1.g8 hC1.xx) (fun μD hμD => ?_)
          obtain ⟨hFD, hpg_D, hf_D⟩ := hμD
          refine w_iconst dX3_read_108 ?_
          exact w_zretI dX3_read_109 rfl (Or.inr rfl) ⟨((hFD.wd (by omega) (by omega)).tr hF50), (by exact Or.inl ⟨rfl, hre.1.symm, by rw [← hre.2.2]; exact CPS.cpg hC1 (hC1.pi hq) (fun o h1 => hFD.at (by omega) (by omega)) hf_D hpg_D, (congrFun (hFD.at (by omega) (by omega)) 0).trans h01.1, (congrFun (hFD.at (by omega) (by omega)) 1).trans h01.2⟩), (by omega), ((RDc.cg2 hR1 (fun o h1 => (hFD.at (by omega) (by omega))) (fun k h1 => (congrFun (hFD.at (by omega) (by omega)) _)))).pq⟩
        · skip
          have hat1 : 0 ≤ μ1 42 4 ∧ μ1 42 4 ≤ n := by rw [h41]; exact ht
          have hsk9 : sk b n t < n := by rw [htk]; omega
          have hlf : lnW b n σ1 (wdC b t (we b n t)) t (we b n t) = lnF b n σ1 t := by unfold lnF; rw [htk]
          have h8 : (n - l).toNat = (n - (l + 1)).toNat + 1 := by omega
          refine w_aload_n dX3_read_69 rfl rfl (by first | decide | omega) ?_
          refine w_callVI (o := 42) (ci := 3) (as := []) (rest := []) (k := 3) fX3_read_70 rfl rfl rfl rfl rfl rfl rfl rfl (Nat.le_of_ble_eq_true rfl) (s_X3_readLine X b n q σ1 μ1 hR1 hat1 hC1 hT1) (fun xL μL hμL => ?_)
          obtain ⟨hFL, hz_L, ha_L, hz01_L, h01_L, hf_L, hR_L⟩ := hμL
          rw [h41, hlf] at hz_L
          refine w_if_ne (tgt := 78) dX3_read_73 rfl (R32.in (by omega)) (fun c73 => ?_) (fun c73 => ?_)
          · skip
            have hB := hz_L.resolve_right (fun q9 => by omega)
            have hL9 := h01_L hB.1
            have hatL := ha_L hB.1
            have hCL : CPS (lnF b n σ1 t).2.2.1 q μL := hB.2.2.1
            refine w_aload_n dX3_read_78 rfl rfl (by first | decide | omega) ?_
            refine w_getDx (o := 42) (f := 7) (x := q) fX3_read_79 rfl rfl rfl rfl hR_L.pq ?_
            refine w_dup dX3_read_82 (by simp) ?_
            refine w_getIx (o := (q).toNat) (f := 0) (x := ((lnF b n σ1 t).2.2.1) 0 1) fX3_read_83 (by omega) (pSh0 rfl rfl (by assumption)) (Nat.le_of_ble_eq_true rfl) rfl hCL.f0 ?_
            refine w_iconst dX3_read_86 ?_
            refine w_iadd dX3_read_87 ?_
            refine w_putI (o := (q).toNat) (f := 0) fX3_read_88 (by omega) (pSh0 rfl rfl (by assumption)) rfl rfl rfl ?_
            have h4L : (am_up μL q 0 ((((lnF b n σ1 t).2.2.1) 0 1) + 1)) 42 4 = (lnF b n σ1 t).2.2.2 := (congrFun (am_up_o (by omega)) 4).trans hB.2.2.2.1
            have hat2 : 0 ≤ (am_up μL q 0 ((((lnF b n σ1 t).2.2.1) 0 1) + 1)) 42 4 ∧ (am_up μL q 0 ((((lnF b n σ1 t).2.2.1) 0 1) + 1)) 42 4 ≤ n := by rw [h4L, ← hB.2.2.2.1]; exact hatL
            have hskB := sk_r b n (lnF b n σ1 t).2.2.2 (by rw [← hB.2.2.2.1]; exact hatL.2)
            have h0L : 0 ≤ (lnF b n σ1 t).2.2.2 := by rw [← hB.2.2.2.1]; exact hatL.1
            refine w_aload_n dX3_read_91 rfl rfl (by first | decide | omega) ?_
            refine w_callVV (o := 42) (ci := 3) (as := []) (rest := []) (k := 0) fX3_read_92 rfl rfl rfl rfl rfl rfl rfl rfl (Nat.le_of_ble_eq_true rfl) (s_X3_skipBlanks X b n q (am_up μL q 0 ((((lnF b n σ1 t).2.2.1) 0 1) + 1)) (RDc.cg2 hR_L (fun o h1 => (am_up_o (by omega))) (fun k h1 => (congrFun (am_up_o (by omega)) _))) hat2) (fun μB hμB => ?_)
            obtain ⟨hFB, h4_B, hf_B, hR_B⟩ := hμB
            have hf10 := sk_r b n ((am_up μL q 0 ((((lnF b n σ1 t).2.2.1) 0 1) + 1)) 42 4) (by omega)
            rw [h4L] at h4_B
            refine w_iinc (ls' := [(2, 42), (0, n), (2, q), (0, l + 1)]) dX3_read_95 rfl (Nat.le_of_ble_eq_true rfl) rfl rfl ?_
            refine w_goto (tgt := 50) dX3_read_98 rfl ?_
            exact ih50 _ (by omega) (am_up (lnF b n σ1 t).2.2.1 0 1 ((lnF b n σ1 t).2.2.1 0 1 + 1)) (l + 1) (sk b n (lnF b n σ1 t).2.2.2) μB rfl ((hFB.wd (by omega) (by omega)).tr (((hFL.wd (by omega) (by omega)).tr hF50).up (by omega))) (by omega) (by omega) (sk_sk b n _) h4_B (CPS_ln hB.2.2.1 (fun o h1 => (hFB.at (by omega) (by omega)).trans (am_up_o (by omega))) (fun k h1 => (congrFun (hFB.at (by omega) (by omega)) k).trans (am_up_nk h1)) ((congrFun (hFB.at (by omega) (by omega)) 0).trans am_up_at)) (TLD_ln hB.2.2.2.2 (fun o h1 => (hFB.at (by omega) (by omega)).trans (am_up_o (by omega)))) hR_B ⟨(hf_B 0 (by omega)).trans ((congrFun (am_up_o (by omega)) 0).trans (hL9.1.trans h01.1)), (hf_B 1 (by omega)).trans ((congrFun (am_up_o (by omega)) 1).trans (hL9.2.trans h01.2))⟩ (by rw [h8, rdN_go hsk9 hB.2.1] at hrd; exact rs3_tr rdN_sk hrd)
          · skip
            have hB := hz_L.resolve_left (fun q9 => by omega)
            have hrd9 := hrd
            rw [h8, rdN_bad hsk9 hB.2.1] at hrd9
            refine w_iconst dX3_read_76 ?_
            exact w_zretI dX3_read_77 rfl (Or.inl rfl) ⟨((hFL.wd (by omega) (by omega)).tr hF50), (by exact Or.inr ⟨rfl, fun q9 => hB.2.1 (hrd9.1.trans q9), hB.2.2.1.trans hrd9.1, hB.2.2.2.trans hrd9.2.1⟩), (by omega), (hR_L).pq⟩
  exact hL50 _ S0 0 (sk b n 0) μS rfl ((hFS.wd (by omega) (by omega)).tr ((hFG.wd (by omega) (by omega)).tr ((hFC.wd (by omega) (by omega)).tr hF_μ0))) (by omega) (by omega) (sk_sk b n 0) h4_S (CPS.cg hc_C (fun o h1 => (hFS.at (by omega) (by omega)).trans (hFG.at (by omega) (by omega)))) (TLD.cg (TLD_0 h3_G h4_G) (fun o h1 => hFS.at (by omega) (by omega))) hR_S ⟨(hf_S 0 (by omega)).trans ((congrFun (hFG.at (by omega) (by omega)) 0).trans ((congrFun (hFC.at (by omega) (by omega)) 0).trans h00)), (hf_S 1 (by omega)).trans ((congrFun (hFG.at (by omega) (by omega)) 1).trans ((congrFun (hFC.at (by omega) (by omega)) 1).trans h02))⟩ (by rw [Int.sub_zero]; exact rdN_sk)

set_option maxRecDepth 100000 in
set_option maxHeartbeats 4000000 in
theorem s_X7_textQ (X : AX) (p : Int) (q : Int) (n : Int) (μ : Mu) (h7 : μ 0 7 = p) (h8 : μ 0 8 = q) (hq : q = 20 ∨ q = 31) (hpq : p + q = 51) (h11 : 0 ≤ μ 1 1 ∧ μ 1 1 ≤ 900) (hb : ∀ j : Int, 0 ≤ j → j < 900 → 0 ≤ μ 2 j ∧ μ 2 j ≤ 255) (hn32 : -2147483648 ≤ n ∧ n ≤ 2147483647) : Wp (GG X) M_X7_text 0 [(2, 0), (0, n), (9, 0)] [] μ (qI 0 fun z μ' => (Fr 0 44 1 0 μ' μ) ∧ (((n < 0 ∨ μ 1 1 < n) → z = -2 ∧ μ' = μ) ∧ ((0 ≤ n ∧ n ≤ μ 1 1) → (μ' 1 1 = 0 ∧ ((z = -1 ∧ ¬ (rdN (μ 2) n n.toNat S0 0).1 = 0 ∧ μ' 0 7 = p ∧ μ' 0 8 = q ∧ μ' 42 0 = (rdN (μ 2) n n.toNat S0 0).1 ∧ μ' 42 1 = (rdN (μ 2) n n.toNat S0 0).2.1 ∧ μ' 3 2 = μ 3 2) ∨ (z = (rdN (μ 2) n n.toNat S0 0).2.2.1 0 1 ∧ (rdN (μ 2) n n.toNat S0 0).1 = 0 ∧ μ' 0 7 = q ∧ μ' 0 8 = p ∧ μ' 42 0 = 0 ∧ μ' 42 1 = -1 ∧ μ' 3 2 = 0 ∧ CPG (rdN (μ 2) n n.toNat S0 0).2.2.1 q μ'))))) ∧ (∀ o : Int, 2 ≤ o ∧ o ≤ 2 → μ' o = μ o) ∧ (∀ o : Int, 4 ≤ o ∧ o ≤ 19 → μ' o = μ o) ∧ (∀ o : Int, p ≤ o ∧ o ≤ p + 10 → μ' o = μ o) ∧ (∀ k : Int, (¬ k = 7 ∧ ¬ k = 8) → μ' 0 k = μ 0 k) ∧ (∀ k : Int, ¬ k = 1 → μ' 1 k = μ 1 k) ∧ (∀ k : Int, ¬ k = 2 → μ' 3 k = μ 3 k) ∧ ((0 ≤ n ∧ n ≤ μ 1 1) → μ' 42 7 = q)) := by
  refine w_iload_n dX7_text_0 rfl rfl ?_
  refine w_if_lt (tgt := 15) dX7_text_1 rfl (R32.in (by omega)) (fun c1 => ?_) (fun c1 => ?_)
  · skip
    refine w_bipush dX7_text_15 (by decide) ?_
    exact w_iretI dX7_text_17 rfl ⟨Fr.rf, (by exact ⟨fun _ => ⟨rfl, rfl⟩, fun q9 => absurd q9 (by omega)⟩), (fun o h1 => rfl), (fun o h1 => rfl), (fun o h1 => rfl), (fun k h1 => rfl), (fun k h1 => rfl), (fun k h1 => rfl), (by exact fun q9 => absurd q9 (by omega))⟩
  · skip
    refine w_iload_n dX7_text_4 rfl rfl ?_
    refine w_aload_n dX7_text_5 rfl rfl (by first | decide | omega) ?_
    refine w_getR (o := 0) (x := 1) fX7_text_6 rfl rfl rfl rfl ?_
    refine w_getIx (o := 1) (f := 1) (x := μ 1 1) fX7_text_9 rfl rfl (Nat.le_of_ble_eq_true rfl) rfl rfl ?_
    refine w_icmp_le (tgt := 18) dX7_text_12 rfl (R32.in (by omega)) (R32.in (by omega)) (fun c12 => ?_) (fun c12 => ?_)
    · skip
      refine w_aload_n dX7_text_18 rfl rfl (by first | decide | omega) ?_
      refine w_getR (o := 0) (x := 1) fX7_text_19 rfl rfl rfl rfl ?_
      refine w_iconst dX7_text_22 ?_
      refine w_putI (o := 1) (f := 1) fX7_text_23 rfl rfl rfl rfl rfl ?_
      refine w_aload_n dX7_text_26 rfl rfl (by first | decide | omega) ?_
      refine w_getR (o := 0) (x := 42) fX7_text_27 rfl rfl rfl rfl ?_
      refine w_iload_n dX7_text_30 rfl rfl ?_
      refine w_aload_n dX7_text_31 rfl rfl (by first | decide | omega) ?_
      refine w_getDx (o := 0) (f := 8) (x := q) fX7_text_32 rfl rfl rfl rfl ((congrFun (am_up_o (by first | decide | omega)) _).trans h8) ?_
      refine w_callVI (o := 42) (ci := 3) (as := [(0, n), (2, q)]) (rest := []) (k := 1) fX7_text_35 rfl rfl rfl rfl rfl rfl rfl rfl (Nat.le_of_ble_eq_true rfl) (s_X3_readQ X (μ 2) n q (am_up μ 1 1 0) (by first | omega | assumption) ⟨by omega, fun j h1 h2 => hb j h1 (by omega)⟩ (fun j h1 h2 => congrFun (am_up_o (by omega)) j)) (fun xR μR hμR => ?_)
      obtain ⟨hFR, hz_R, hz01_R, h427_R⟩ := hμR
      refine w_if_ne (tgt := 43) dX7_text_38 rfl (R32.in (by omega)) (fun c38 => ?_) (fun c38 => ?_)
      · skip
        have hB := hz_R.resolve_right (fun q9 => by omega)
        have hCR : CPG (rdN (μ 2) n n.toNat S0 0).2.2.1 q μR := hB.2.2.1
        refine w_aload_n dX7_text_43 rfl rfl (by first | decide | omega) ?_
        refine w_getDx (o := 0) (f := 7) (x := p) fX7_text_44 rfl rfl rfl rfl ((congrFun (hFR.at (by omega) (by omega)) _).trans ((congrFun (am_up_o (by first | decide | omega)) _).trans h7)) ?_
        refine w_astore_n (ls' := [(2, 0), (0, n), (2, p)]) dX7_text_47 rfl (Nat.le_of_ble_eq_true rfl) rfl (by first | decide | omega) rfl ?_
        refine w_aload_n dX7_text_48 rfl rfl (by first | decide | omega) ?_
        refine w_aload_n dX7_text_49 rfl rfl (by first | decide | omega) ?_
        refine w_getDx (o := 0) (f := 8) (x := q) fX7_text_50 rfl rfl rfl rfl ((congrFun (hFR.at (by omega) (by omega)) _).trans ((congrFun (am_up_o (by first | decide | omega)) _).trans h8)) ?_
        refine w_putD (o := 0) (f := 7) fX7_text_53 rfl rfl rfl rfl rfl (by first | decide | omega) ?_
        refine w_aload_n dX7_text_56 rfl rfl (by first | decide | omega) ?_
        refine w_aload_n dX7_text_57 rfl rfl (by first | decide | omega) ?_
        refine w_putD (o := 0) (f := 8) fX7_text_58 rfl rfl rfl rfl rfl (by first | decide | omega) ?_
        refine w_aload_n dX7_text_61 rfl rfl (by first | decide | omega) ?_
        refine w_getR (o := 0) (x := 3) fX7_text_62 rfl rfl rfl rfl ?_
        refine w_iconst dX7_text_65 ?_
        refine w_putI (o := 3) (f := 2) fX7_text_66 rfl rfl rfl rfl rfl ?_
        refine w_aload_n dX7_text_69 rfl rfl (by first | decide | omega) ?_
        refine w_getDx (o := 0) (f := 7) (x := q) fX7_text_70 rfl rfl rfl rfl ((congrFun (am_up_o (by first | decide | omega)) _).trans ((am_up_nk (by omega)).trans am_up_at)) ?_
        refine w_getIx (o := (q).toNat) (f := 0) (x := μR q 0) fX7_text_73 (by omega) (pSh0 rfl rfl (by assumption)) (Nat.le_of_ble_eq_true rfl) rfl ((congrFun (am_up_o (by first | decide | omega)) _).trans ((congrFun (am_up_o (by first | decide | omega)) _).trans (congrFun (am_up_o (by first | decide | omega)) _))) ?_
        exact w_iretI dX7_text_76 rfl ⟨(((((hFR.wd (by omega) (by omega)).tr (Fr.rf.up (by omega))).up (by omega)).up (by omega)).up (by omega)), ⟨fun q9 => absurd q9 (by omega), fun q9 => ⟨(((congrFun (am_up_o (by first | decide | omega)) _).trans ((congrFun (am_up_o (by first | decide | omega)) _).trans ((congrFun (am_up_o (by first | decide | omega)) _).trans ((congrFun (hFR.at (by omega) (by omega)) _).trans am_up_at)))).trans (by rfl)), Or.inr ⟨hB.2.2.1.2.1.2.1, hB.2.1, (((congrFun (am_up_o (by first | decide | omega)) _).trans ((am_up_nk (by omega)).trans am_up_at)).trans (by rfl)), (((congrFun (am_up_o (by first | decide | omega)) _).trans am_up_at).trans (by rfl)), (((congrFun (am_up_o (by first | decide | omega)) _).trans ((congrFun (am_up_o (by first | decide | omega)) _).trans (congrFun (am_up_o (by first | decide | omega)) _))).trans (by exact hB.2.2.2.1)), (((congrFun (am_up_o (by first | decide | omega)) _).trans ((congrFun (am_up_o (by first | decide | omega)) _).trans (congrFun (am_up_o (by first | decide | omega)) _))).trans (by exact hB.2.2.2.2)), (am_up_at.trans (by rfl)), hB.2.2.1.cg (fun o h1 => (fun o h1 => ((am_up_o (by omega)).trans ((am_up_o (by omega)).trans (am_up_o (by omega))))) o h1)⟩⟩⟩, (fun o h1 => ((am_up_o (by omega)).trans ((am_up_o (by omega)).trans ((am_up_o (by omega)).trans ((hFR.at (by omega) (by omega)).trans (am_up_o (by omega))))))), (fun o h1 => ((am_up_o (by omega)).trans ((am_up_o (by omega)).trans ((am_up_o (by omega)).trans ((hFR.at (by omega) (by omega)).trans (am_up_o (by omega))))))), (fun o h1 => ((am_up_o (by omega)).trans ((am_up_o (by omega)).trans ((am_up_o (by omega)).trans ((hFR.at (by omega) (by omega)).trans (am_up_o (by omega))))))), (fun k h1 => ((congrFun (am_up_o (by omega)) _).trans ((am_up_nk (by omega)).trans ((am_up_nk (by omega)).trans ((congrFun (hFR.at (by omega) (by omega)) _).trans (congrFun (am_up_o (by omega)) _)))))), (fun k h1 => ((congrFun (am_up_o (by omega)) _).trans ((congrFun (am_up_o (by omega)) _).trans ((congrFun (am_up_o (by omega)) _).trans ((congrFun (hFR.at (by omega) (by omega)) _).trans (am_up_nk (by omega))))))), (fun k h1 => ((am_up_nk (by omega)).trans ((congrFun (am_up_o (by omega)) _).trans ((congrFun (am_up_o (by omega)) _).trans ((congrFun (hFR.at (by omega) (by omega)) _).trans (congrFun (am_up_o (by omega)) _)))))), fun _ => (((congrFun (am_up_o (by first | decide | omega)) _).trans ((congrFun (am_up_o (by first | decide | omega)) _).trans (congrFun (am_up_o (by first | decide | omega)) _))).trans (by exact h427_R))⟩
      · skip
        have hB := hz_R.resolve_left (fun q9 => by omega)
        refine w_iconst dX7_text_41 ?_
        exact w_iretI dX7_text_42 rfl ⟨((hFR.wd (by omega) (by omega)).tr (Fr.rf.up (by omega))), ⟨fun q9 => absurd q9 (by omega), fun q9 => ⟨(((congrFun (hFR.at (by omega) (by omega)) _).trans am_up_at).trans (by rfl)), Or.inl ⟨rfl, hB.2.1, (((congrFun (hFR.at (by omega) (by omega)) _).trans ((congrFun (am_up_o (by first | decide | omega)) _).trans h7)).trans (by rfl)), (((congrFun (hFR.at (by omega) (by omega)) _).trans ((congrFun (am_up_o (by first | decide | omega)) _).trans h8)).trans (by rfl)), hB.2.2.1, hB.2.2.2, (((congrFun (hFR.at (by omega) (by omega)) _).trans (congrFun (am_up_o (by first | decide | omega)) _)).trans (by rfl))⟩⟩⟩, (fun o h1 => ((hFR.at (by omega) (by omega)).trans (am_up_o (by omega)))), (fun o h1 => ((hFR.at (by omega) (by omega)).trans (am_up_o (by omega)))), (fun o h1 => ((hFR.at (by omega) (by omega)).trans (am_up_o (by omega)))), (fun k h1 => ((congrFun (hFR.at (by omega) (by omega)) _).trans (congrFun (am_up_o (by omega)) _))), (fun k h1 => ((congrFun (hFR.at (by omega) (by omega)) _).trans (am_up_nk (by omega)))), (fun k h1 => ((congrFun (hFR.at (by omega) (by omega)) _).trans (congrFun (am_up_o (by omega)) _))), fun _ => ((rfl : μR 42 7 = μR 42 7).trans (by exact h427_R))⟩
    · skip
      refine w_bipush dX7_text_15 (by decide) ?_
      exact w_iretI dX7_text_17 rfl ⟨Fr.rf, (by exact ⟨fun _ => ⟨rfl, rfl⟩, fun q9 => absurd q9 (by omega)⟩), (fun o h1 => rfl), (fun o h1 => rfl), (fun o h1 => rfl), (fun k h1 => rfl), (fun k h1 => rfl), (fun k h1 => rfl), (by exact fun q9 => absurd q9 (by omega))⟩
